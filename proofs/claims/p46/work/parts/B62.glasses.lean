theorem dX11_findDeeps_0 : decode cX11_findDeeps 0 = .ok (.iconst 0, 1) := by decide +kernel
theorem dX11_findDeeps_1 : decode cX11_findDeeps 1 = .ok (.istore_n 2, 1) := by decide +kernel
theorem dX11_findDeeps_2 : decode cX11_findDeeps 2 = .ok (.iload_n 2, 1) := by decide +kernel
theorem dX11_findDeeps_3 : decode cX11_findDeeps 3 = .ok (.aload_n 0, 1) := by decide +kernel
theorem dX11_findDeeps_4 : decode cX11_findDeeps 4 = .ok (.getfield 10, 3) := by decide +kernel
theorem dX11_findDeeps_7 : decode cX11_findDeeps 7 = .ok (.getfield 109, 3) := by decide +kernel
theorem dX11_findDeeps_10 : decode cX11_findDeeps 10 = .ok (.getfield 339, 3) := by decide +kernel
theorem dX11_findDeeps_13 : decode cX11_findDeeps 13 = .ok (.if_icmp .ge 37, 3) := by decide +kernel
theorem dX11_findDeeps_16 : decode cX11_findDeeps 16 = .ok (.aload_n 0, 1) := by decide +kernel
theorem dX11_findDeeps_17 : decode cX11_findDeeps 17 = .ok (.getfield 77, 3) := by decide +kernel
theorem dX11_findDeeps_20 : decode cX11_findDeeps 20 = .ok (.iload_n 2, 1) := by decide +kernel
theorem dX11_findDeeps_21 : decode cX11_findDeeps 21 = .ok (.aload_n 0, 1) := by decide +kernel
theorem dX11_findDeeps_22 : decode cX11_findDeeps 22 = .ok (.iload_n 1, 1) := by decide +kernel
theorem dX11_findDeeps_23 : decode cX11_findDeeps 23 = .ok (.iload_n 2, 1) := by decide +kernel
theorem dX11_findDeeps_24 : decode cX11_findDeeps 24 = .ok (.iconst (-1), 1) := by decide +kernel
theorem dX11_findDeeps_25 : decode cX11_findDeeps 25 = .ok (.invokevirtual 246, 3) := by decide +kernel
theorem dX11_findDeeps_28 : decode cX11_findDeeps 28 = .ok (.ifCond .eq 13, 3) := by decide +kernel
theorem dX11_findDeeps_31 : decode cX11_findDeeps 31 = .ok (.aload_n 0, 1) := by decide +kernel
theorem dX11_findDeeps_32 : decode cX11_findDeeps 32 = .ok (.getfield 66, 3) := by decide +kernel
theorem dX11_findDeeps_35 : decode cX11_findDeeps 35 = .ok (.invokevirtual 264, 3) := by decide +kernel
theorem dX11_findDeeps_38 : decode cX11_findDeeps 38 = .ok (.goto 5, 3) := by decide +kernel
theorem dX11_findDeeps_41 : decode cX11_findDeeps 41 = .ok (.ldc 119, 2) := by decide +kernel
theorem dX11_findDeeps_43 : decode cX11_findDeeps 43 = .ok (.iastore, 1) := by decide +kernel
theorem dX11_findDeeps_44 : decode cX11_findDeeps 44 = .ok (.iinc 2 1, 3) := by decide +kernel
theorem dX11_findDeeps_47 : decode cX11_findDeeps 47 = .ok (.goto (-45), 3) := by decide +kernel
theorem dX11_findDeeps_50 : decode cX11_findDeeps 50 = .ok (.return_, 1) := by decide +kernel
theorem wk_48 : Cond.fieldLink RX11 77 "ThinLine" "rowDeeps" "[I" ∈ tl_L := List.mem_filter.mpr ⟨lw_m2 (i := 150) rfl, rfl⟩
theorem dX11_isKnown_0 : decode cX11_isKnown 0 = .ok (.aload_n 0, 1) := by decide +kernel
theorem dX11_isKnown_1 : decode cX11_isKnown 1 = .ok (.getfield 10, 3) := by decide +kernel
theorem dX11_isKnown_4 : decode cX11_isKnown 4 = .ok (.getfield 109, 3) := by decide +kernel
theorem dX11_isKnown_7 : decode cX11_isKnown 7 = .ok (.getfield 365, 3) := by decide +kernel
theorem dX11_isKnown_10 : decode cX11_isKnown 10 = .ok (.iload_n 1, 1) := by decide +kernel
theorem dX11_isKnown_11 : decode cX11_isKnown 11 = .ok (.iaload, 1) := by decide +kernel
theorem dX11_isKnown_12 : decode cX11_isKnown 12 = .ok (.iload_n 2, 1) := by decide +kernel
theorem dX11_isKnown_13 : decode cX11_isKnown 13 = .ok (.if_icmp .gt 7, 3) := by decide +kernel
theorem dX11_isKnown_16 : decode cX11_isKnown 16 = .ok (.iconst 1, 1) := by decide +kernel
theorem dX11_isKnown_17 : decode cX11_isKnown 17 = .ok (.goto 4, 3) := by decide +kernel
theorem dX11_isKnown_20 : decode cX11_isKnown 20 = .ok (.iconst 0, 1) := by decide +kernel
theorem dX11_isKnown_21 : decode cX11_isKnown 21 = .ok (.ireturn, 1) := by decide +kernel
theorem nk_9 : tl_N[9]? = some (Cond.fieldLinkNest "ThinLine" 365 "ThinLine$Rows" "known" "[I" "ThinLine") := by decide +kernel
theorem dX11_commonDivisor_0 : decode cX11_commonDivisor 0 = .ok (.iload_n 0, 1) := by decide +kernel
theorem dX11_commonDivisor_1 : decode cX11_commonDivisor 1 = .ok (.invokestatic 295, 3) := by decide +kernel
theorem dX11_commonDivisor_4 : decode cX11_commonDivisor 4 = .ok (.istore_n 2, 1) := by decide +kernel
theorem dX11_commonDivisor_5 : decode cX11_commonDivisor 5 = .ok (.iload_n 1, 1) := by decide +kernel
theorem dX11_commonDivisor_6 : decode cX11_commonDivisor 6 = .ok (.invokestatic 295, 3) := by decide +kernel
theorem dX11_commonDivisor_9 : decode cX11_commonDivisor 9 = .ok (.istore_n 3, 1) := by decide +kernel
theorem dX11_commonDivisor_10 : decode cX11_commonDivisor 10 = .ok (.iconst 0, 1) := by decide +kernel
theorem dX11_commonDivisor_11 : decode cX11_commonDivisor 11 = .ok (.istore 4, 2) := by decide +kernel
theorem dX11_commonDivisor_13 : decode cX11_commonDivisor 13 = .ok (.iload_n 3, 1) := by decide +kernel
theorem dX11_commonDivisor_14 : decode cX11_commonDivisor 14 = .ok (.ifCond .eq 26, 3) := by decide +kernel
theorem dX11_commonDivisor_17 : decode cX11_commonDivisor 17 = .ok (.iload 4, 2) := by decide +kernel
theorem dX11_commonDivisor_19 : decode cX11_commonDivisor 19 = .ok (.bipush 100, 2) := by decide +kernel
theorem dX11_commonDivisor_21 : decode cX11_commonDivisor 21 = .ok (.if_icmp .ge 19, 3) := by decide +kernel
theorem dX11_commonDivisor_24 : decode cX11_commonDivisor 24 = .ok (.iload_n 2, 1) := by decide +kernel
theorem dX11_commonDivisor_25 : decode cX11_commonDivisor 25 = .ok (.iload_n 3, 1) := by decide +kernel
theorem dX11_commonDivisor_26 : decode cX11_commonDivisor 26 = .ok (.irem, 1) := by decide +kernel
theorem dX11_commonDivisor_27 : decode cX11_commonDivisor 27 = .ok (.istore 5, 2) := by decide +kernel
theorem dX11_commonDivisor_29 : decode cX11_commonDivisor 29 = .ok (.iload_n 3, 1) := by decide +kernel
theorem dX11_commonDivisor_30 : decode cX11_commonDivisor 30 = .ok (.istore_n 2, 1) := by decide +kernel
theorem dX11_commonDivisor_31 : decode cX11_commonDivisor 31 = .ok (.iload 5, 2) := by decide +kernel
theorem dX11_commonDivisor_33 : decode cX11_commonDivisor 33 = .ok (.istore_n 3, 1) := by decide +kernel
theorem dX11_commonDivisor_34 : decode cX11_commonDivisor 34 = .ok (.iinc 4 1, 3) := by decide +kernel
theorem dX11_commonDivisor_37 : decode cX11_commonDivisor 37 = .ok (.goto (-24), 3) := by decide +kernel
theorem dX11_commonDivisor_40 : decode cX11_commonDivisor 40 = .ok (.iload_n 2, 1) := by decide +kernel
theorem dX11_commonDivisor_41 : decode cX11_commonDivisor 41 = .ok (.ireturn, 1) := by decide +kernel
theorem dX11_together_0 : decode cX11_together 0 = .ok (.aload_n 0, 1) := by decide +kernel
theorem dX11_together_1 : decode cX11_together 1 = .ok (.getfield 29, 3) := by decide +kernel
theorem dX11_together_4 : decode cX11_together 4 = .ok (.iload_n 1, 1) := by decide +kernel
theorem dX11_together_5 : decode cX11_together 5 = .ok (.invokevirtual 201, 3) := by decide +kernel
theorem dX11_together_8 : decode cX11_together 8 = .ok (.ifnull 30, 3) := by decide +kernel
theorem dX11_together_11 : decode cX11_together 11 = .ok (.iload_n 2, 1) := by decide +kernel
theorem dX11_together_12 : decode cX11_together 12 = .ok (.iconst 1, 1) := by decide +kernel
theorem dX11_together_13 : decode cX11_together 13 = .ok (.bipush 15, 2) := by decide +kernel
theorem dX11_together_15 : decode cX11_together 15 = .ok (.invokestatic 105, 3) := by decide +kernel
theorem dX11_together_18 : decode cX11_together 18 = .ok (.ifCond .eq 20, 3) := by decide +kernel
theorem dX11_together_21 : decode cX11_together 21 = .ok (.iload_n 3, 1) := by decide +kernel
theorem dX11_together_22 : decode cX11_together 22 = .ok (.invokestatic 94, 3) := by decide +kernel
theorem dX11_together_25 : decode cX11_together 25 = .ok (.ifCond .eq 13, 3) := by decide +kernel
theorem dX11_together_28 : decode cX11_together 28 = .ok (.iload 4, 2) := by decide +kernel
theorem dX11_together_30 : decode cX11_together 30 = .ok (.iconst 0, 1) := by decide +kernel
theorem dX11_together_31 : decode cX11_together 31 = .ok (.iconst 2, 1) := by decide +kernel
theorem dX11_together_32 : decode cX11_together 32 = .ok (.invokestatic 105, 3) := by decide +kernel
theorem dX11_together_35 : decode cX11_together 35 = .ok (.ifCond .ne 7, 3) := by decide +kernel
theorem dX11_together_38 : decode cX11_together 38 = .ok (.ldc_w 368, 3) := by decide +kernel
theorem dX11_together_41 : decode cX11_together 41 = .ok (.ireturn, 1) := by decide +kernel
theorem dX11_together_42 : decode cX11_together 42 = .ok (.aload_n 0, 1) := by decide +kernel
theorem dX11_together_43 : decode cX11_together 43 = .ok (.iload_n 1, 1) := by decide +kernel
theorem dX11_together_44 : decode cX11_together 44 = .ok (.invokevirtual 369, 3) := by decide +kernel
theorem dX11_together_47 : decode cX11_together 47 = .ok (.iconst 0, 1) := by decide +kernel
theorem dX11_together_48 : decode cX11_together 48 = .ok (.istore 5, 2) := by decide +kernel
theorem dX11_together_50 : decode cX11_together 50 = .ok (.iconst 0, 1) := by decide +kernel
theorem dX11_together_51 : decode cX11_together 51 = .ok (.istore 6, 2) := by decide +kernel
theorem dX11_together_53 : decode cX11_together 53 = .ok (.iconst 0, 1) := by decide +kernel
theorem dX11_together_54 : decode cX11_together 54 = .ok (.istore 7, 2) := by decide +kernel
theorem dX11_together_56 : decode cX11_together 56 = .ok (.iload 7, 2) := by decide +kernel
theorem dX11_together_58 : decode cX11_together 58 = .ok (.aload_n 0, 1) := by decide +kernel
theorem dX11_together_59 : decode cX11_together 59 = .ok (.getfield 10, 3) := by decide +kernel
theorem dX11_together_62 : decode cX11_together 62 = .ok (.getfield 109, 3) := by decide +kernel
theorem dX11_together_65 : decode cX11_together 65 = .ok (.getfield 339, 3) := by decide +kernel
theorem dX11_together_68 : decode cX11_together 68 = .ok (.if_icmp .ge 79, 3) := by decide +kernel
theorem dX11_together_71 : decode cX11_together 71 = .ok (.iload_n 2, 1) := by decide +kernel
theorem dX11_together_72 : decode cX11_together 72 = .ok (.aload_n 0, 1) := by decide +kernel
theorem dX11_together_73 : decode cX11_together 73 = .ok (.getfield 10, 3) := by decide +kernel
theorem dX11_together_76 : decode cX11_together 76 = .ok (.getfield 109, 3) := by decide +kernel
theorem dX11_together_79 : decode cX11_together 79 = .ok (.getfield 136, 3) := by decide +kernel
theorem dX11_together_82 : decode cX11_together 82 = .ok (.iload 7, 2) := by decide +kernel
theorem dX11_together_84 : decode cX11_together 84 = .ok (.iaload, 1) := by decide +kernel
theorem dX11_together_85 : decode cX11_together 85 = .ok (.ishr, 1) := by decide +kernel
theorem dX11_together_86 : decode cX11_together 86 = .ok (.iconst 1, 1) := by decide +kernel
theorem dX11_together_87 : decode cX11_together 87 = .ok (.iand, 1) := by decide +kernel
theorem dX11_together_88 : decode cX11_together 88 = .ok (.iconst 1, 1) := by decide +kernel
theorem dX11_together_89 : decode cX11_together 89 = .ok (.if_icmp .ne 7, 3) := by decide +kernel
theorem dX11_together_92 : decode cX11_together 92 = .ok (.iconst 1, 1) := by decide +kernel
theorem dX11_together_93 : decode cX11_together 93 = .ok (.goto 4, 3) := by decide +kernel
theorem dX11_together_96 : decode cX11_together 96 = .ok (.iconst 0, 1) := by decide +kernel
theorem dX11_together_97 : decode cX11_together 97 = .ok (.istore 8, 2) := by decide +kernel
theorem dX11_together_99 : decode cX11_together 99 = .ok (.iload 8, 2) := by decide +kernel
theorem dX11_together_101 : decode cX11_together 101 = .ok (.ifCond .eq 40, 3) := by decide +kernel
theorem dX11_together_104 : decode cX11_together 104 = .ok (.aload_n 0, 1) := by decide +kernel
theorem dX11_together_105 : decode cX11_together 105 = .ok (.iload 7, 2) := by decide +kernel
theorem dX11_together_107 : decode cX11_together 107 = .ok (.iload_n 3, 1) := by decide +kernel
theorem dX11_together_108 : decode cX11_together 108 = .ok (.invokevirtual 372, 3) := by decide +kernel
theorem dX11_together_111 : decode cX11_together 111 = .ok (.ifCond .eq 30, 3) := by decide +kernel
theorem dX11_together_114 : decode cX11_together 114 = .ok (.aload_n 0, 1) := by decide +kernel
theorem dX11_together_115 : decode cX11_together 115 = .ok (.getfield 77, 3) := by decide +kernel
theorem dX11_together_118 : decode cX11_together 118 = .ok (.iload 7, 2) := by decide +kernel
theorem dX11_together_120 : decode cX11_together 120 = .ok (.iaload, 1) := by decide +kernel
theorem dX11_together_121 : decode cX11_together 121 = .ok (.ldc 119, 2) := by decide +kernel
theorem dX11_together_123 : decode cX11_together 123 = .ok (.if_icmp .eq 18, 3) := by decide +kernel
theorem dX11_together_126 : decode cX11_together 126 = .ok (.iload 5, 2) := by decide +kernel
theorem dX11_together_128 : decode cX11_together 128 = .ok (.aload_n 0, 1) := by decide +kernel
theorem dX11_together_129 : decode cX11_together 129 = .ok (.getfield 77, 3) := by decide +kernel
theorem dX11_together_132 : decode cX11_together 132 = .ok (.iload 7, 2) := by decide +kernel
theorem dX11_together_134 : decode cX11_together 134 = .ok (.iaload, 1) := by decide +kernel
theorem dX11_together_135 : decode cX11_together 135 = .ok (.iadd, 1) := by decide +kernel
theorem dX11_together_136 : decode cX11_together 136 = .ok (.istore 5, 2) := by decide +kernel
theorem dX11_together_138 : decode cX11_together 138 = .ok (.iinc 6 1, 3) := by decide +kernel
theorem dX11_together_141 : decode cX11_together 141 = .ok (.iinc 7 1, 3) := by decide +kernel
theorem dX11_together_144 : decode cX11_together 144 = .ok (.goto (-88), 3) := by decide +kernel
theorem dX11_together_147 : decode cX11_together 147 = .ok (.iconst 1, 1) := by decide +kernel
theorem dX11_together_148 : decode cX11_together 148 = .ok (.iload 5, 2) := by decide +kernel
theorem dX11_together_150 : decode cX11_together 150 = .ok (.iload 6, 2) := by decide +kernel
theorem dX11_together_152 : decode cX11_together 152 = .ok (.invokestatic 375, 3) := by decide +kernel
theorem dX11_together_155 : decode cX11_together 155 = .ok (.invokestatic 333, 3) := by decide +kernel
theorem dX11_together_158 : decode cX11_together 158 = .ok (.istore 7, 2) := by decide +kernel
theorem dX11_together_160 : decode cX11_together 160 = .ok (.iload 4, 2) := by decide +kernel
theorem dX11_together_162 : decode cX11_together 162 = .ok (.lookupswitch 38 #[(0, 26), (1, 32)], 26) := by decide +kernel
theorem dX11_together_188 : decode cX11_together 188 = .ok (.iload 5, 2) := by decide +kernel
theorem dX11_together_190 : decode cX11_together 190 = .ok (.iload 7, 2) := by decide +kernel
theorem dX11_together_192 : decode cX11_together 192 = .ok (.idiv, 1) := by decide +kernel
theorem dX11_together_193 : decode cX11_together 193 = .ok (.ireturn, 1) := by decide +kernel
theorem dX11_together_194 : decode cX11_together 194 = .ok (.iload 6, 2) := by decide +kernel
theorem dX11_together_196 : decode cX11_together 196 = .ok (.iload 7, 2) := by decide +kernel
theorem dX11_together_198 : decode cX11_together 198 = .ok (.idiv, 1) := by decide +kernel
theorem dX11_together_199 : decode cX11_together 199 = .ok (.ireturn, 1) := by decide +kernel
theorem dX11_together_200 : decode cX11_together 200 = .ok (.iload 6, 2) := by decide +kernel
theorem dX11_together_202 : decode cX11_together 202 = .ok (.ireturn, 1) := by decide +kernel
theorem wk_187 : Cond.methodLink RX11 94 yX11_isWeek ∈ tl_L := List.mem_filter.mpr ⟨lw_m2 (i := 192) rfl, rfl⟩
theorem wk_188 : Cond.static yX11_isWeek ∈ tl_L := List.mem_filter.mpr ⟨lw_m2 (i := 193) rfl, rfl⟩
theorem wk_189 : Cond.code yX11_isWeek cX11_isWeek 1 (some .boolean) ∈ tl_L := List.mem_filter.mpr ⟨lw_m2 (i := 194) rfl, rfl⟩
theorem wk_1157 : Cond.constant RX11 368 (-2000000000) ∈ tl_L := List.mem_filter.mpr ⟨lw_m5 (i := 84) rfl, rfl⟩
theorem wk_1158 : Cond.methodLink RX11 369 yX11_findDeeps ∈ tl_L := List.mem_filter.mpr ⟨lw_m5 (i := 85) rfl, rfl⟩
theorem wk_1159 : Cond.instanceMethod yX11_findDeeps ∈ tl_L := List.mem_filter.mpr ⟨lw_m5 (i := 87) rfl, rfl⟩
theorem wk_1160 : Cond.selects RX11 yX11_findDeeps yX11_findDeeps ∈ tl_L := List.mem_filter.mpr ⟨lw_s6 (i := 0) (q := (yX11_findDeeps, 16)) rfl, rfl⟩
theorem wk_1161 : Cond.code yX11_findDeeps cX11_findDeeps 3 none ∈ tl_L := List.mem_filter.mpr ⟨lw_m5 (i := 88) rfl, rfl⟩
theorem wk_1162 : Cond.methodLink RX11 372 yX11_isKnown ∈ tl_L := List.mem_filter.mpr ⟨lw_m5 (i := 89) rfl, rfl⟩
theorem wk_1163 : Cond.instanceMethod yX11_isKnown ∈ tl_L := List.mem_filter.mpr ⟨lw_m5 (i := 91) rfl, rfl⟩
theorem wk_1164 : Cond.selects RX11 yX11_isKnown yX11_isKnown ∈ tl_L := List.mem_filter.mpr ⟨lw_s6 (i := 1) (q := (yX11_isKnown, 16)) rfl, rfl⟩
theorem wk_1165 : Cond.code yX11_isKnown cX11_isKnown 3 (some .boolean) ∈ tl_L := List.mem_filter.mpr ⟨lw_m5 (i := 92) rfl, rfl⟩
theorem wk_1166 : Cond.methodLink RX11 375 yX11_commonDivisor ∈ tl_L := List.mem_filter.mpr ⟨lw_m5 (i := 93) rfl, rfl⟩
theorem wk_1167 : Cond.static yX11_commonDivisor ∈ tl_L := List.mem_filter.mpr ⟨lw_m5 (i := 94) rfl, rfl⟩
theorem wk_1168 : Cond.code yX11_commonDivisor cX11_commonDivisor 6 (some .int) ∈ tl_L := List.mem_filter.mpr ⟨lw_m5 (i := 95) rfl, rfl⟩
theorem nk_5 : tl_N[5]? = some (Cond.fieldLinkNest "ThinLine" 136 "ThinLine$Rows" "glass" "[I" "ThinLine") := by decide +kernel
theorem lk_X11_369 : tl_kV RX11 369 RX11 yX11_findDeeps cX11_findDeeps 3 none 1 := ⟨wk_1161, wk_1158, wk_1159, wk_1160, wk_2, ⟨by decide +kernel, by decide +kernel, by decide +kernel⟩⟩
theorem lk_X11_372 : tl_kV RX11 372 RX11 yX11_isKnown cX11_isKnown 3 (some .boolean) 2 := ⟨wk_1165, wk_1162, wk_1163, wk_1164, wk_2, ⟨by decide +kernel, by decide +kernel, by decide +kernel⟩⟩
theorem lk_X11_375 : tl_kS RX11 375 yX11_commonDivisor cX11_commonDivisor 6 (some .int) 2 := ⟨wk_1168, wk_1166, wk_1167, wk_2, ⟨by decide +kernel, by decide +kernel, by decide +kernel⟩⟩
theorem lk_X11_94 : tl_kS RX11 94 yX11_isWeek cX11_isWeek 1 (some .boolean) 1 := ⟨wk_189, wk_187, wk_188, wk_2, ⟨by decide +kernel, by decide +kernel, by decide +kernel⟩⟩
theorem dX11_isPair_0 : decode cX11_isPair 0 = .ok (.aload_n 0, 1) := by decide +kernel
theorem dX11_isPair_1 : decode cX11_isPair 1 = .ok (.getfield 10, 3) := by decide +kernel
theorem dX11_isPair_4 : decode cX11_isPair 4 = .ok (.getfield 109, 3) := by decide +kernel
theorem dX11_isPair_7 : decode cX11_isPair 7 = .ok (.astore_n 3, 1) := by decide +kernel
theorem dX11_isPair_8 : decode cX11_isPair 8 = .ok (.aload_n 3, 1) := by decide +kernel
theorem dX11_isPair_9 : decode cX11_isPair 9 = .ok (.getfield 136, 3) := by decide +kernel
theorem dX11_isPair_12 : decode cX11_isPair 12 = .ok (.iload_n 1, 1) := by decide +kernel
theorem dX11_isPair_13 : decode cX11_isPair 13 = .ok (.iaload, 1) := by decide +kernel
theorem dX11_isPair_14 : decode cX11_isPair 14 = .ok (.aload_n 3, 1) := by decide +kernel
theorem dX11_isPair_15 : decode cX11_isPair 15 = .ok (.getfield 136, 3) := by decide +kernel
theorem dX11_isPair_18 : decode cX11_isPair 18 = .ok (.iload_n 2, 1) := by decide +kernel
theorem dX11_isPair_19 : decode cX11_isPair 19 = .ok (.iaload, 1) := by decide +kernel
theorem dX11_isPair_20 : decode cX11_isPair 20 = .ok (.if_icmp .eq 22, 3) := by decide +kernel
theorem dX11_isPair_23 : decode cX11_isPair 23 = .ok (.aload_n 3, 1) := by decide +kernel
theorem dX11_isPair_24 : decode cX11_isPair 24 = .ok (.getfield 381, 3) := by decide +kernel
theorem dX11_isPair_27 : decode cX11_isPair 27 = .ok (.iload_n 1, 1) := by decide +kernel
theorem dX11_isPair_28 : decode cX11_isPair 28 = .ok (.iaload, 1) := by decide +kernel
theorem dX11_isPair_29 : decode cX11_isPair 29 = .ok (.aload_n 3, 1) := by decide +kernel
theorem dX11_isPair_30 : decode cX11_isPair 30 = .ok (.getfield 381, 3) := by decide +kernel
theorem dX11_isPair_33 : decode cX11_isPair 33 = .ok (.iload_n 2, 1) := by decide +kernel
theorem dX11_isPair_34 : decode cX11_isPair 34 = .ok (.iaload, 1) := by decide +kernel
theorem dX11_isPair_35 : decode cX11_isPair 35 = .ok (.if_icmp .ne 7, 3) := by decide +kernel
theorem dX11_isPair_38 : decode cX11_isPair 38 = .ok (.iconst 1, 1) := by decide +kernel
theorem dX11_isPair_39 : decode cX11_isPair 39 = .ok (.goto 4, 3) := by decide +kernel
theorem dX11_isPair_42 : decode cX11_isPair 42 = .ok (.iconst 0, 1) := by decide +kernel
theorem dX11_isPair_43 : decode cX11_isPair 43 = .ok (.istore 4, 2) := by decide +kernel
theorem dX11_isPair_45 : decode cX11_isPair 45 = .ok (.iload 4, 2) := by decide +kernel
theorem dX11_isPair_47 : decode cX11_isPair 47 = .ok (.ifCond .eq 29, 3) := by decide +kernel
theorem dX11_isPair_50 : decode cX11_isPair 50 = .ok (.aload_n 0, 1) := by decide +kernel
theorem dX11_isPair_51 : decode cX11_isPair 51 = .ok (.getfield 77, 3) := by decide +kernel
theorem dX11_isPair_54 : decode cX11_isPair 54 = .ok (.iload_n 1, 1) := by decide +kernel
theorem dX11_isPair_55 : decode cX11_isPair 55 = .ok (.iaload, 1) := by decide +kernel
theorem dX11_isPair_56 : decode cX11_isPair 56 = .ok (.ldc 119, 2) := by decide +kernel
theorem dX11_isPair_58 : decode cX11_isPair 58 = .ok (.if_icmp .eq 18, 3) := by decide +kernel
theorem dX11_isPair_61 : decode cX11_isPair 61 = .ok (.aload_n 0, 1) := by decide +kernel
theorem dX11_isPair_62 : decode cX11_isPair 62 = .ok (.getfield 77, 3) := by decide +kernel
theorem dX11_isPair_65 : decode cX11_isPair 65 = .ok (.iload_n 2, 1) := by decide +kernel
theorem dX11_isPair_66 : decode cX11_isPair 66 = .ok (.iaload, 1) := by decide +kernel
theorem dX11_isPair_67 : decode cX11_isPair 67 = .ok (.ldc 119, 2) := by decide +kernel
theorem dX11_isPair_69 : decode cX11_isPair 69 = .ok (.if_icmp .eq 7, 3) := by decide +kernel
theorem dX11_isPair_72 : decode cX11_isPair 72 = .ok (.iconst 1, 1) := by decide +kernel
theorem dX11_isPair_73 : decode cX11_isPair 73 = .ok (.goto 4, 3) := by decide +kernel
theorem dX11_isPair_76 : decode cX11_isPair 76 = .ok (.iconst 0, 1) := by decide +kernel
theorem dX11_isPair_77 : decode cX11_isPair 77 = .ok (.ireturn, 1) := by decide +kernel
theorem nk_8 : tl_N[8]? = some (Cond.fieldLinkNest "ThinLine" 381 "ThinLine$Rows" "hour" "[I" "ThinLine") := by decide +kernel
theorem dX11_hour_0 : decode cX11_hour 0 = .ok (.aload_n 0, 1) := by decide +kernel
theorem dX11_hour_1 : decode cX11_hour 1 = .ok (.getfield 29, 3) := by decide +kernel
theorem dX11_hour_4 : decode cX11_hour 4 = .ok (.iload_n 1, 1) := by decide +kernel
theorem dX11_hour_5 : decode cX11_hour 5 = .ok (.invokevirtual 201, 3) := by decide +kernel
theorem dX11_hour_8 : decode cX11_hour 8 = .ok (.ifnull 19, 3) := by decide +kernel
theorem dX11_hour_11 : decode cX11_hour 11 = .ok (.iload_n 2, 1) := by decide +kernel
theorem dX11_hour_12 : decode cX11_hour 12 = .ok (.invokestatic 94, 3) := by decide +kernel
theorem dX11_hour_15 : decode cX11_hour 15 = .ok (.ifCond .eq 12, 3) := by decide +kernel
theorem dX11_hour_18 : decode cX11_hour 18 = .ok (.iload_n 3, 1) := by decide +kernel
theorem dX11_hour_19 : decode cX11_hour 19 = .ok (.iconst 0, 1) := by decide +kernel
theorem dX11_hour_20 : decode cX11_hour 20 = .ok (.iconst 1, 1) := by decide +kernel
theorem dX11_hour_21 : decode cX11_hour 21 = .ok (.invokestatic 105, 3) := by decide +kernel
theorem dX11_hour_24 : decode cX11_hour 24 = .ok (.ifCond .ne 5, 3) := by decide +kernel
theorem dX11_hour_27 : decode cX11_hour 27 = .ok (.iconst (-1), 1) := by decide +kernel
theorem dX11_hour_28 : decode cX11_hour 28 = .ok (.ireturn, 1) := by decide +kernel
theorem dX11_hour_29 : decode cX11_hour 29 = .ok (.aload_n 0, 1) := by decide +kernel
theorem dX11_hour_30 : decode cX11_hour 30 = .ok (.iload_n 1, 1) := by decide +kernel
theorem dX11_hour_31 : decode cX11_hour 31 = .ok (.invokevirtual 369, 3) := by decide +kernel
theorem dX11_hour_34 : decode cX11_hour 34 = .ok (.iconst 0, 1) := by decide +kernel
theorem dX11_hour_35 : decode cX11_hour 35 = .ok (.istore 4, 2) := by decide +kernel
theorem dX11_hour_37 : decode cX11_hour 37 = .ok (.iconst 0, 1) := by decide +kernel
theorem dX11_hour_38 : decode cX11_hour 38 = .ok (.istore 5, 2) := by decide +kernel
theorem dX11_hour_40 : decode cX11_hour 40 = .ok (.iconst 0, 1) := by decide +kernel
theorem dX11_hour_41 : decode cX11_hour 41 = .ok (.istore 6, 2) := by decide +kernel
theorem dX11_hour_43 : decode cX11_hour 43 = .ok (.iload 6, 2) := by decide +kernel
theorem dX11_hour_45 : decode cX11_hour 45 = .ok (.aload_n 0, 1) := by decide +kernel
theorem dX11_hour_46 : decode cX11_hour 46 = .ok (.getfield 10, 3) := by decide +kernel
theorem dX11_hour_49 : decode cX11_hour 49 = .ok (.getfield 109, 3) := by decide +kernel
theorem dX11_hour_52 : decode cX11_hour 52 = .ok (.getfield 339, 3) := by decide +kernel
theorem dX11_hour_55 : decode cX11_hour 55 = .ok (.if_icmp .ge 93, 3) := by decide +kernel
theorem dX11_hour_58 : decode cX11_hour 58 = .ok (.iload 6, 2) := by decide +kernel
theorem dX11_hour_60 : decode cX11_hour 60 = .ok (.iconst 1, 1) := by decide +kernel
theorem dX11_hour_61 : decode cX11_hour 61 = .ok (.iadd, 1) := by decide +kernel
theorem dX11_hour_62 : decode cX11_hour 62 = .ok (.istore 7, 2) := by decide +kernel
theorem dX11_hour_64 : decode cX11_hour 64 = .ok (.iload 7, 2) := by decide +kernel
theorem dX11_hour_66 : decode cX11_hour 66 = .ok (.aload_n 0, 1) := by decide +kernel
theorem dX11_hour_67 : decode cX11_hour 67 = .ok (.getfield 10, 3) := by decide +kernel
theorem dX11_hour_70 : decode cX11_hour 70 = .ok (.getfield 109, 3) := by decide +kernel
theorem dX11_hour_73 : decode cX11_hour 73 = .ok (.getfield 339, 3) := by decide +kernel
theorem dX11_hour_76 : decode cX11_hour 76 = .ok (.if_icmp .ge 66, 3) := by decide +kernel
theorem dX11_hour_79 : decode cX11_hour 79 = .ok (.aload_n 0, 1) := by decide +kernel
theorem dX11_hour_80 : decode cX11_hour 80 = .ok (.iload 6, 2) := by decide +kernel
theorem dX11_hour_82 : decode cX11_hour 82 = .ok (.iload 7, 2) := by decide +kernel
theorem dX11_hour_84 : decode cX11_hour 84 = .ok (.invokevirtual 378, 3) := by decide +kernel
theorem dX11_hour_87 : decode cX11_hour 87 = .ok (.ifCond .eq 49, 3) := by decide +kernel
theorem dX11_hour_90 : decode cX11_hour 90 = .ok (.aload_n 0, 1) := by decide +kernel
theorem dX11_hour_91 : decode cX11_hour 91 = .ok (.iload 6, 2) := by decide +kernel
theorem dX11_hour_93 : decode cX11_hour 93 = .ok (.iload_n 2, 1) := by decide +kernel
theorem dX11_hour_94 : decode cX11_hour 94 = .ok (.invokevirtual 372, 3) := by decide +kernel
theorem dX11_hour_97 : decode cX11_hour 97 = .ok (.ifCond .eq 39, 3) := by decide +kernel
theorem dX11_hour_100 : decode cX11_hour 100 = .ok (.aload_n 0, 1) := by decide +kernel
theorem dX11_hour_101 : decode cX11_hour 101 = .ok (.iload 7, 2) := by decide +kernel
theorem dX11_hour_103 : decode cX11_hour 103 = .ok (.iload_n 2, 1) := by decide +kernel
theorem dX11_hour_104 : decode cX11_hour 104 = .ok (.invokevirtual 372, 3) := by decide +kernel
theorem dX11_hour_107 : decode cX11_hour 107 = .ok (.ifCond .eq 29, 3) := by decide +kernel
theorem dX11_hour_110 : decode cX11_hour 110 = .ok (.iinc 4 1, 3) := by decide +kernel
theorem dX11_hour_113 : decode cX11_hour 113 = .ok (.iload 5, 2) := by decide +kernel
theorem dX11_hour_115 : decode cX11_hour 115 = .ok (.aload_n 0, 1) := by decide +kernel
theorem dX11_hour_116 : decode cX11_hour 116 = .ok (.getfield 77, 3) := by decide +kernel
theorem dX11_hour_119 : decode cX11_hour 119 = .ok (.iload 6, 2) := by decide +kernel
theorem dX11_hour_121 : decode cX11_hour 121 = .ok (.iaload, 1) := by decide +kernel
theorem dX11_hour_122 : decode cX11_hour 122 = .ok (.aload_n 0, 1) := by decide +kernel
theorem dX11_hour_123 : decode cX11_hour 123 = .ok (.getfield 77, 3) := by decide +kernel
theorem dX11_hour_126 : decode cX11_hour 126 = .ok (.iload 7, 2) := by decide +kernel
theorem dX11_hour_128 : decode cX11_hour 128 = .ok (.iaload, 1) := by decide +kernel
theorem dX11_hour_129 : decode cX11_hour 129 = .ok (.isub, 1) := by decide +kernel
theorem dX11_hour_130 : decode cX11_hour 130 = .ok (.invokestatic 295, 3) := by decide +kernel
theorem dX11_hour_133 : decode cX11_hour 133 = .ok (.iadd, 1) := by decide +kernel
theorem dX11_hour_134 : decode cX11_hour 134 = .ok (.istore 5, 2) := by decide +kernel
theorem dX11_hour_136 : decode cX11_hour 136 = .ok (.iinc 7 1, 3) := by decide +kernel
theorem dX11_hour_139 : decode cX11_hour 139 = .ok (.goto (-75), 3) := by decide +kernel
theorem dX11_hour_142 : decode cX11_hour 142 = .ok (.iinc 6 1, 3) := by decide +kernel
theorem dX11_hour_145 : decode cX11_hour 145 = .ok (.goto (-102), 3) := by decide +kernel
theorem dX11_hour_148 : decode cX11_hour 148 = .ok (.iload_n 3, 1) := by decide +kernel
theorem dX11_hour_149 : decode cX11_hour 149 = .ok (.ifCond .ne 8, 3) := by decide +kernel
theorem dX11_hour_152 : decode cX11_hour 152 = .ok (.iload 4, 2) := by decide +kernel
theorem dX11_hour_154 : decode cX11_hour 154 = .ok (.goto 5, 3) := by decide +kernel
theorem dX11_hour_157 : decode cX11_hour 157 = .ok (.iload 5, 2) := by decide +kernel
theorem dX11_hour_159 : decode cX11_hour 159 = .ok (.ireturn, 1) := by decide +kernel
theorem wk_1193 : Cond.methodLink RX11 378 yX11_isPair ∈ tl_L := List.mem_filter.mpr ⟨lw_m5 (i := 100) rfl, rfl⟩
theorem wk_1194 : Cond.instanceMethod yX11_isPair ∈ tl_L := List.mem_filter.mpr ⟨lw_m5 (i := 102) rfl, rfl⟩
theorem wk_1195 : Cond.selects RX11 yX11_isPair yX11_isPair ∈ tl_L := List.mem_filter.mpr ⟨lw_s6 (i := 2) (q := (yX11_isPair, 16)) rfl, rfl⟩
theorem wk_1196 : Cond.code yX11_isPair cX11_isPair 5 (some .boolean) ∈ tl_L := List.mem_filter.mpr ⟨lw_m5 (i := 103) rfl, rfl⟩
theorem lk_X11_378 : tl_kV RX11 378 RX11 yX11_isPair cX11_isPair 5 (some .boolean) 2 := ⟨wk_1196, wk_1193, wk_1194, wk_1195, wk_2, ⟨by decide +kernel, by decide +kernel, by decide +kernel⟩⟩
theorem dX11_findSaid_0 : decode cX11_findSaid 0 = .ok (.aload_n 0, 1) := by decide +kernel
theorem dX11_findSaid_1 : decode cX11_findSaid 1 = .ok (.getfield 84, 3) := by decide +kernel
theorem dX11_findSaid_4 : decode cX11_findSaid 4 = .ok (.sipush 400, 3) := by decide +kernel
theorem dX11_findSaid_7 : decode cX11_findSaid 7 = .ok (.invokestatic 384, 3) := by decide +kernel
theorem dX11_findSaid_10 : decode cX11_findSaid 10 = .ok (.iconst 0, 1) := by decide +kernel
theorem dX11_findSaid_11 : decode cX11_findSaid 11 = .ok (.istore_n 3, 1) := by decide +kernel
theorem dX11_findSaid_12 : decode cX11_findSaid 12 = .ok (.iload_n 3, 1) := by decide +kernel
theorem dX11_findSaid_13 : decode cX11_findSaid 13 = .ok (.aload_n 0, 1) := by decide +kernel
theorem dX11_findSaid_14 : decode cX11_findSaid 14 = .ok (.getfield 10, 3) := by decide +kernel
theorem dX11_findSaid_17 : decode cX11_findSaid 17 = .ok (.getfield 109, 3) := by decide +kernel
theorem dX11_findSaid_20 : decode cX11_findSaid 20 = .ok (.getfield 339, 3) := by decide +kernel
theorem dX11_findSaid_23 : decode cX11_findSaid 23 = .ok (.if_icmp .ge 82, 3) := by decide +kernel
theorem dX11_findSaid_26 : decode cX11_findSaid 26 = .ok (.aload_n 0, 1) := by decide +kernel
theorem dX11_findSaid_27 : decode cX11_findSaid 27 = .ok (.getfield 10, 3) := by decide +kernel
theorem dX11_findSaid_30 : decode cX11_findSaid 30 = .ok (.getfield 109, 3) := by decide +kernel
theorem dX11_findSaid_33 : decode cX11_findSaid 33 = .ok (.getfield 136, 3) := by decide +kernel
theorem dX11_findSaid_36 : decode cX11_findSaid 36 = .ok (.iload_n 3, 1) := by decide +kernel
theorem dX11_findSaid_37 : decode cX11_findSaid 37 = .ok (.iaload, 1) := by decide +kernel
theorem dX11_findSaid_38 : decode cX11_findSaid 38 = .ok (.istore 4, 2) := by decide +kernel
theorem dX11_findSaid_40 : decode cX11_findSaid 40 = .ok (.iload 4, 2) := by decide +kernel
theorem dX11_findSaid_42 : decode cX11_findSaid 42 = .ok (.invokestatic 102, 3) := by decide +kernel
theorem dX11_findSaid_45 : decode cX11_findSaid 45 = .ok (.ifCond .eq 54, 3) := by decide +kernel
theorem dX11_findSaid_48 : decode cX11_findSaid 48 = .ok (.aload_n 0, 1) := by decide +kernel
theorem dX11_findSaid_49 : decode cX11_findSaid 49 = .ok (.iload_n 1, 1) := by decide +kernel
theorem dX11_findSaid_50 : decode cX11_findSaid 50 = .ok (.iload_n 3, 1) := by decide +kernel
theorem dX11_findSaid_51 : decode cX11_findSaid 51 = .ok (.iconst (-1), 1) := by decide +kernel
theorem dX11_findSaid_52 : decode cX11_findSaid 52 = .ok (.invokevirtual 246, 3) := by decide +kernel
theorem dX11_findSaid_55 : decode cX11_findSaid 55 = .ok (.ifCond .eq 44, 3) := by decide +kernel
theorem dX11_findSaid_58 : decode cX11_findSaid 58 = .ok (.aload_n 0, 1) := by decide +kernel
theorem dX11_findSaid_59 : decode cX11_findSaid 59 = .ok (.getfield 66, 3) := by decide +kernel
theorem dX11_findSaid_62 : decode cX11_findSaid 62 = .ok (.iload_n 2, 1) := by decide +kernel
theorem dX11_findSaid_63 : decode cX11_findSaid 63 = .ok (.i2l, 1) := by decide +kernel
theorem dX11_findSaid_64 : decode cX11_findSaid 64 = .ok (.invokevirtual 300, 3) := by decide +kernel
theorem dX11_findSaid_67 : decode cX11_findSaid 67 = .ok (.ifCond .eq 32, 3) := by decide +kernel
theorem dX11_findSaid_70 : decode cX11_findSaid 70 = .ok (.aload_n 0, 1) := by decide +kernel
theorem dX11_findSaid_71 : decode cX11_findSaid 71 = .ok (.getfield 84, 3) := by decide +kernel
theorem dX11_findSaid_74 : decode cX11_findSaid 74 = .ok (.iload 4, 2) := by decide +kernel
theorem dX11_findSaid_76 : decode cX11_findSaid 76 = .ok (.aload_n 0, 1) := by decide +kernel
theorem dX11_findSaid_77 : decode cX11_findSaid 77 = .ok (.getfield 84, 3) := by decide +kernel
theorem dX11_findSaid_80 : decode cX11_findSaid 80 = .ok (.iload 4, 2) := by decide +kernel
theorem dX11_findSaid_82 : decode cX11_findSaid 82 = .ok (.iaload, 1) := by decide +kernel
theorem dX11_findSaid_83 : decode cX11_findSaid 83 = .ok (.aload_n 0, 1) := by decide +kernel
theorem dX11_findSaid_84 : decode cX11_findSaid 84 = .ok (.getfield 10, 3) := by decide +kernel
theorem dX11_findSaid_87 : decode cX11_findSaid 87 = .ok (.getfield 109, 3) := by decide +kernel
theorem dX11_findSaid_90 : decode cX11_findSaid 90 = .ok (.getfield 365, 3) := by decide +kernel
theorem dX11_findSaid_93 : decode cX11_findSaid 93 = .ok (.iload_n 3, 1) := by decide +kernel
theorem dX11_findSaid_94 : decode cX11_findSaid 94 = .ok (.iaload, 1) := by decide +kernel
theorem dX11_findSaid_95 : decode cX11_findSaid 95 = .ok (.invokestatic 390, 3) := by decide +kernel
theorem dX11_findSaid_98 : decode cX11_findSaid 98 = .ok (.iastore, 1) := by decide +kernel
theorem dX11_findSaid_99 : decode cX11_findSaid 99 = .ok (.iinc 3 1, 3) := by decide +kernel
theorem dX11_findSaid_102 : decode cX11_findSaid 102 = .ok (.goto (-90), 3) := by decide +kernel
theorem dX11_findSaid_105 : decode cX11_findSaid 105 = .ok (.return_, 1) := by decide +kernel
theorem wk_50 : Cond.fieldLink RX11 84 "ThinLine" "firstWeeks" "[I" ∈ tl_L := List.mem_filter.mpr ⟨lw_m2 (i := 152) rfl, rfl⟩
theorem wk_205 : Cond.methodLink RX11 102 yX11_isGlass ∈ tl_L := List.mem_filter.mpr ⟨lw_m2 (i := 202) rfl, rfl⟩
theorem wk_206 : Cond.static yX11_isGlass ∈ tl_L := List.mem_filter.mpr ⟨lw_m2 (i := 203) rfl, rfl⟩
theorem wk_207 : Cond.code yX11_isGlass cX11_isGlass 1 (some .boolean) ∈ tl_L := List.mem_filter.mpr ⟨lw_m2 (i := 204) rfl, rfl⟩
theorem wk_1209 : Cond.methodLink RX11 390 Lib.Math.min.name ∈ tl_L := List.mem_filter.mpr ⟨by decide +kernel, rfl⟩
theorem wk_1210 : Cond.methodLink RX11 384 yJ7_fill_53178 ∈ tl_L := List.mem_filter.mpr ⟨lw_m5 (i := 112) rfl, rfl⟩
theorem lk_X11_102 : tl_kS RX11 102 yX11_isGlass cX11_isGlass 1 (some .boolean) 1 := ⟨wk_207, wk_205, wk_206, wk_2, ⟨by decide +kernel, by decide +kernel, by decide +kernel⟩⟩
theorem lk_X11_384 : tl_kS RX11 384 yJ7_fill_53178 cJ7_fill_53178 4 none 2 := ⟨wk_216, wk_1210, wk_214, wk_215, ⟨by decide +kernel, by decide +kernel, by decide +kernel⟩⟩
theorem dX11_begunUpTo_0 : decode cX11_begunUpTo 0 = .ok (.iconst 0, 1) := by decide +kernel
theorem dX11_begunUpTo_1 : decode cX11_begunUpTo 1 = .ok (.istore_n 2, 1) := by decide +kernel
theorem dX11_begunUpTo_2 : decode cX11_begunUpTo 2 = .ok (.iconst 0, 1) := by decide +kernel
theorem dX11_begunUpTo_3 : decode cX11_begunUpTo 3 = .ok (.istore_n 3, 1) := by decide +kernel
theorem dX11_begunUpTo_4 : decode cX11_begunUpTo 4 = .ok (.iload_n 3, 1) := by decide +kernel
theorem dX11_begunUpTo_5 : decode cX11_begunUpTo 5 = .ok (.aload_n 0, 1) := by decide +kernel
theorem dX11_begunUpTo_6 : decode cX11_begunUpTo 6 = .ok (.getfield 84, 3) := by decide +kernel
theorem dX11_begunUpTo_9 : decode cX11_begunUpTo 9 = .ok (.arraylength, 1) := by decide +kernel
theorem dX11_begunUpTo_10 : decode cX11_begunUpTo 10 = .ok (.if_icmp .ge 27, 3) := by decide +kernel
theorem dX11_begunUpTo_13 : decode cX11_begunUpTo 13 = .ok (.iload_n 2, 1) := by decide +kernel
theorem dX11_begunUpTo_14 : decode cX11_begunUpTo 14 = .ok (.aload_n 0, 1) := by decide +kernel
theorem dX11_begunUpTo_15 : decode cX11_begunUpTo 15 = .ok (.getfield 84, 3) := by decide +kernel
theorem dX11_begunUpTo_18 : decode cX11_begunUpTo 18 = .ok (.iload_n 3, 1) := by decide +kernel
theorem dX11_begunUpTo_19 : decode cX11_begunUpTo 19 = .ok (.iaload, 1) := by decide +kernel
theorem dX11_begunUpTo_20 : decode cX11_begunUpTo 20 = .ok (.iload_n 1, 1) := by decide +kernel
theorem dX11_begunUpTo_21 : decode cX11_begunUpTo 21 = .ok (.if_icmp .gt 7, 3) := by decide +kernel
theorem dX11_begunUpTo_24 : decode cX11_begunUpTo 24 = .ok (.iconst 1, 1) := by decide +kernel
theorem dX11_begunUpTo_25 : decode cX11_begunUpTo 25 = .ok (.goto 4, 3) := by decide +kernel
theorem dX11_begunUpTo_28 : decode cX11_begunUpTo 28 = .ok (.iconst 0, 1) := by decide +kernel
theorem dX11_begunUpTo_29 : decode cX11_begunUpTo 29 = .ok (.iadd, 1) := by decide +kernel
theorem dX11_begunUpTo_30 : decode cX11_begunUpTo 30 = .ok (.istore_n 2, 1) := by decide +kernel
theorem dX11_begunUpTo_31 : decode cX11_begunUpTo 31 = .ok (.iinc 3 1, 3) := by decide +kernel
theorem dX11_begunUpTo_34 : decode cX11_begunUpTo 34 = .ok (.goto (-30), 3) := by decide +kernel
theorem dX11_begunUpTo_37 : decode cX11_begunUpTo 37 = .ok (.iload_n 2, 1) := by decide +kernel
theorem dX11_begunUpTo_38 : decode cX11_begunUpTo 38 = .ok (.ireturn, 1) := by decide +kernel
theorem dX11_said_0 : decode cX11_said 0 = .ok (.aload_n 0, 1) := by decide +kernel
theorem dX11_said_1 : decode cX11_said 1 = .ok (.getfield 29, 3) := by decide +kernel
theorem dX11_said_4 : decode cX11_said 4 = .ok (.iload_n 1, 1) := by decide +kernel
theorem dX11_said_5 : decode cX11_said 5 = .ok (.invokevirtual 201, 3) := by decide +kernel
theorem dX11_said_8 : decode cX11_said 8 = .ok (.ifnull 17, 3) := by decide +kernel
theorem dX11_said_11 : decode cX11_said 11 = .ok (.iload_n 2, 1) := by decide +kernel
theorem dX11_said_12 : decode cX11_said 12 = .ok (.invokestatic 94, 3) := by decide +kernel
theorem dX11_said_15 : decode cX11_said 15 = .ok (.ifCond .eq 10, 3) := by decide +kernel
theorem dX11_said_18 : decode cX11_said 18 = .ok (.iload_n 3, 1) := by decide +kernel
theorem dX11_said_19 : decode cX11_said 19 = .ok (.invokestatic 336, 3) := by decide +kernel
theorem dX11_said_22 : decode cX11_said 22 = .ok (.ifCond .ne 5, 3) := by decide +kernel
theorem dX11_said_25 : decode cX11_said 25 = .ok (.iconst (-1), 1) := by decide +kernel
theorem dX11_said_26 : decode cX11_said 26 = .ok (.ireturn, 1) := by decide +kernel
theorem dX11_said_27 : decode cX11_said 27 = .ok (.aload_n 0, 1) := by decide +kernel
theorem dX11_said_28 : decode cX11_said 28 = .ok (.iload_n 1, 1) := by decide +kernel
theorem dX11_said_29 : decode cX11_said 29 = .ok (.iload_n 3, 1) := by decide +kernel
theorem dX11_said_30 : decode cX11_said 30 = .ok (.invokevirtual 392, 3) := by decide +kernel
theorem dX11_said_33 : decode cX11_said 33 = .ok (.aload_n 0, 1) := by decide +kernel
theorem dX11_said_34 : decode cX11_said 34 = .ok (.iload_n 2, 1) := by decide +kernel
theorem dX11_said_35 : decode cX11_said 35 = .ok (.invokevirtual 396, 3) := by decide +kernel
theorem dX11_said_38 : decode cX11_said 38 = .ok (.ireturn, 1) := by decide +kernel
theorem wk_1205 : Cond.methodLink RX11 392 yX11_findSaid ∈ tl_L := List.mem_filter.mpr ⟨lw_m5 (i := 108) rfl, rfl⟩
theorem wk_1206 : Cond.instanceMethod yX11_findSaid ∈ tl_L := List.mem_filter.mpr ⟨lw_m5 (i := 110) rfl, rfl⟩
theorem wk_1207 : Cond.selects RX11 yX11_findSaid yX11_findSaid ∈ tl_L := List.mem_filter.mpr ⟨lw_s6 (i := 3) (q := (yX11_findSaid, 16)) rfl, rfl⟩
theorem wk_1208 : Cond.code yX11_findSaid cX11_findSaid 5 none ∈ tl_L := List.mem_filter.mpr ⟨lw_m5 (i := 111) rfl, rfl⟩
theorem wk_1211 : Cond.methodLink RX11 396 yX11_begunUpTo ∈ tl_L := List.mem_filter.mpr ⟨lw_m5 (i := 114) rfl, rfl⟩
theorem wk_1212 : Cond.instanceMethod yX11_begunUpTo ∈ tl_L := List.mem_filter.mpr ⟨lw_m5 (i := 116) rfl, rfl⟩
theorem wk_1213 : Cond.selects RX11 yX11_begunUpTo yX11_begunUpTo ∈ tl_L := List.mem_filter.mpr ⟨lw_s6 (i := 4) (q := (yX11_begunUpTo, 16)) rfl, rfl⟩
theorem wk_1214 : Cond.code yX11_begunUpTo cX11_begunUpTo 4 (some .int) ∈ tl_L := List.mem_filter.mpr ⟨lw_m5 (i := 117) rfl, rfl⟩
theorem lk_X11_392 : tl_kV RX11 392 RX11 yX11_findSaid cX11_findSaid 5 none 2 := ⟨wk_1208, wk_1205, wk_1206, wk_1207, wk_2, ⟨by decide +kernel, by decide +kernel, by decide +kernel⟩⟩
theorem lk_X11_396 : tl_kV RX11 396 RX11 yX11_begunUpTo cX11_begunUpTo 4 (some .int) 1 := ⟨wk_1214, wk_1211, wk_1212, wk_1213, wk_2, ⟨by decide +kernel, by decide +kernel, by decide +kernel⟩⟩
theorem dX11_weeks_0 : decode cX11_weeks 0 = .ok (.iload_n 2, 1) := by decide +kernel
theorem dX11_weeks_1 : decode cX11_weeks 1 = .ok (.invokestatic 94, 3) := by decide +kernel
theorem dX11_weeks_4 : decode cX11_weeks 4 = .ok (.ifCond .eq 27, 3) := by decide +kernel
theorem dX11_weeks_7 : decode cX11_weeks 7 = .ok (.iload_n 3, 1) := by decide +kernel
theorem dX11_weeks_8 : decode cX11_weeks 8 = .ok (.invokestatic 94, 3) := by decide +kernel
theorem dX11_weeks_11 : decode cX11_weeks 11 = .ok (.ifCond .eq 20, 3) := by decide +kernel
theorem dX11_weeks_14 : decode cX11_weeks 14 = .ok (.iload_n 2, 1) := by decide +kernel
theorem dX11_weeks_15 : decode cX11_weeks 15 = .ok (.iload_n 3, 1) := by decide +kernel
theorem dX11_weeks_16 : decode cX11_weeks 16 = .ok (.if_icmp .gt 15, 3) := by decide +kernel
theorem dX11_weeks_19 : decode cX11_weeks 19 = .ok (.iload_n 3, 1) := by decide +kernel
theorem dX11_weeks_20 : decode cX11_weeks 20 = .ok (.iload_n 2, 1) := by decide +kernel
theorem dX11_weeks_21 : decode cX11_weeks 21 = .ok (.isub, 1) := by decide +kernel
theorem dX11_weeks_22 : decode cX11_weeks 22 = .ok (.bipush 100, 2) := by decide +kernel
theorem dX11_weeks_24 : decode cX11_weeks 24 = .ok (.if_icmp .ge 7, 3) := by decide +kernel
theorem dX11_weeks_27 : decode cX11_weeks 27 = .ok (.iconst 1, 1) := by decide +kernel
theorem dX11_weeks_28 : decode cX11_weeks 28 = .ok (.goto 4, 3) := by decide +kernel
theorem dX11_weeks_31 : decode cX11_weeks 31 = .ok (.iconst 0, 1) := by decide +kernel
theorem dX11_weeks_32 : decode cX11_weeks 32 = .ok (.istore 7, 2) := by decide +kernel
theorem dX11_weeks_34 : decode cX11_weeks 34 = .ok (.aload_n 0, 1) := by decide +kernel
theorem dX11_weeks_35 : decode cX11_weeks 35 = .ok (.getfield 29, 3) := by decide +kernel
theorem dX11_weeks_38 : decode cX11_weeks 38 = .ok (.iload_n 1, 1) := by decide +kernel
theorem dX11_weeks_39 : decode cX11_weeks 39 = .ok (.invokevirtual 201, 3) := by decide +kernel
theorem dX11_weeks_42 : decode cX11_weeks 42 = .ok (.ifnull 36, 3) := by decide +kernel
theorem dX11_weeks_45 : decode cX11_weeks 45 = .ok (.iload 7, 2) := by decide +kernel
theorem dX11_weeks_47 : decode cX11_weeks 47 = .ok (.ifCond .eq 31, 3) := by decide +kernel
theorem dX11_weeks_50 : decode cX11_weeks 50 = .ok (.iload 4, 2) := by decide +kernel
theorem dX11_weeks_52 : decode cX11_weeks 52 = .ok (.invokestatic 336, 3) := by decide +kernel
theorem dX11_weeks_55 : decode cX11_weeks 55 = .ok (.ifCond .eq 23, 3) := by decide +kernel
theorem dX11_weeks_58 : decode cX11_weeks 58 = .ok (.iload 5, 2) := by decide +kernel
theorem dX11_weeks_60 : decode cX11_weeks 60 = .ok (.iconst 1, 1) := by decide +kernel
theorem dX11_weeks_61 : decode cX11_weeks 61 = .ok (.iconst 4, 1) := by decide +kernel
theorem dX11_weeks_62 : decode cX11_weeks 62 = .ok (.invokestatic 105, 3) := by decide +kernel
theorem dX11_weeks_65 : decode cX11_weeks 65 = .ok (.ifCond .eq 13, 3) := by decide +kernel
theorem dX11_weeks_68 : decode cX11_weeks 68 = .ok (.iload 6, 2) := by decide +kernel
theorem dX11_weeks_70 : decode cX11_weeks 70 = .ok (.iconst 0, 1) := by decide +kernel
theorem dX11_weeks_71 : decode cX11_weeks 71 = .ok (.iconst 1, 1) := by decide +kernel
theorem dX11_weeks_72 : decode cX11_weeks 72 = .ok (.invokestatic 105, 3) := by decide +kernel
theorem dX11_weeks_75 : decode cX11_weeks 75 = .ok (.ifCond .ne 5, 3) := by decide +kernel
theorem dX11_weeks_78 : decode cX11_weeks 78 = .ok (.iconst (-1), 1) := by decide +kernel
theorem dX11_weeks_79 : decode cX11_weeks 79 = .ok (.ireturn, 1) := by decide +kernel
theorem dX11_weeks_80 : decode cX11_weeks 80 = .ok (.aload_n 0, 1) := by decide +kernel
theorem dX11_weeks_81 : decode cX11_weeks 81 = .ok (.iload_n 1, 1) := by decide +kernel
theorem dX11_weeks_82 : decode cX11_weeks 82 = .ok (.iload 4, 2) := by decide +kernel
theorem dX11_weeks_84 : decode cX11_weeks 84 = .ok (.invokevirtual 392, 3) := by decide +kernel
theorem dX11_weeks_87 : decode cX11_weeks 87 = .ok (.bipush (-2), 2) := by decide +kernel
theorem dX11_weeks_89 : decode cX11_weeks 89 = .ok (.istore 8, 2) := by decide +kernel
theorem dX11_weeks_91 : decode cX11_weeks 91 = .ok (.iconst 0, 1) := by decide +kernel
theorem dX11_weeks_92 : decode cX11_weeks 92 = .ok (.istore 9, 2) := by decide +kernel
theorem dX11_weeks_94 : decode cX11_weeks 94 = .ok (.iload_n 2, 1) := by decide +kernel
theorem dX11_weeks_95 : decode cX11_weeks 95 = .ok (.istore 10, 2) := by decide +kernel
theorem dX11_weeks_97 : decode cX11_weeks 97 = .ok (.iload 10, 2) := by decide +kernel
theorem dX11_weeks_99 : decode cX11_weeks 99 = .ok (.iload_n 3, 1) := by decide +kernel
theorem dX11_weeks_100 : decode cX11_weeks 100 = .ok (.if_icmp .gt 64, 3) := by decide +kernel
theorem dX11_weeks_103 : decode cX11_weeks 103 = .ok (.aload_n 0, 1) := by decide +kernel
theorem dX11_weeks_104 : decode cX11_weeks 104 = .ok (.iload 10, 2) := by decide +kernel
theorem dX11_weeks_106 : decode cX11_weeks 106 = .ok (.invokevirtual 396, 3) := by decide +kernel
theorem dX11_weeks_109 : decode cX11_weeks 109 = .ok (.istore 11, 2) := by decide +kernel
theorem dX11_weeks_111 : decode cX11_weeks 111 = .ok (.iload 8, 2) := by decide +kernel
theorem dX11_weeks_113 : decode cX11_weeks 113 = .ok (.bipush (-2), 2) := by decide +kernel
theorem dX11_weeks_115 : decode cX11_weeks 115 = .ok (.if_icmp .ne 14, 3) := by decide +kernel
theorem dX11_weeks_118 : decode cX11_weeks 118 = .ok (.iload 11, 2) := by decide +kernel
theorem dX11_weeks_120 : decode cX11_weeks 120 = .ok (.iload 5, 2) := by decide +kernel
theorem dX11_weeks_122 : decode cX11_weeks 122 = .ok (.if_icmp .lt 7, 3) := by decide +kernel
theorem dX11_weeks_125 : decode cX11_weeks 125 = .ok (.iload 10, 2) := by decide +kernel
theorem dX11_weeks_127 : decode cX11_weeks 127 = .ok (.istore 8, 2) := by decide +kernel
theorem dX11_weeks_129 : decode cX11_weeks 129 = .ok (.iload 9, 2) := by decide +kernel
theorem dX11_weeks_131 : decode cX11_weeks 131 = .ok (.iload 10, 2) := by decide +kernel
theorem dX11_weeks_133 : decode cX11_weeks 133 = .ok (.iload_n 2, 1) := by decide +kernel
theorem dX11_weeks_134 : decode cX11_weeks 134 = .ok (.if_icmp .le 20, 3) := by decide +kernel
theorem dX11_weeks_137 : decode cX11_weeks 137 = .ok (.iload 11, 2) := by decide +kernel
theorem dX11_weeks_139 : decode cX11_weeks 139 = .ok (.aload_n 0, 1) := by decide +kernel
theorem dX11_weeks_140 : decode cX11_weeks 140 = .ok (.iload 10, 2) := by decide +kernel
theorem dX11_weeks_142 : decode cX11_weeks 142 = .ok (.iconst 1, 1) := by decide +kernel
theorem dX11_weeks_143 : decode cX11_weeks 143 = .ok (.isub, 1) := by decide +kernel
theorem dX11_weeks_144 : decode cX11_weeks 144 = .ok (.invokevirtual 396, 3) := by decide +kernel
theorem dX11_weeks_147 : decode cX11_weeks 147 = .ok (.if_icmp .eq 7, 3) := by decide +kernel
theorem dX11_weeks_150 : decode cX11_weeks 150 = .ok (.iconst 1, 1) := by decide +kernel
theorem dX11_weeks_151 : decode cX11_weeks 151 = .ok (.goto 4, 3) := by decide +kernel
theorem dX11_weeks_154 : decode cX11_weeks 154 = .ok (.iconst 0, 1) := by decide +kernel
theorem dX11_weeks_155 : decode cX11_weeks 155 = .ok (.iadd, 1) := by decide +kernel
theorem dX11_weeks_156 : decode cX11_weeks 156 = .ok (.istore 9, 2) := by decide +kernel
theorem dX11_weeks_158 : decode cX11_weeks 158 = .ok (.iinc 10 1, 3) := by decide +kernel
theorem dX11_weeks_161 : decode cX11_weeks 161 = .ok (.goto (-64), 3) := by decide +kernel
theorem dX11_weeks_164 : decode cX11_weeks 164 = .ok (.iload 6, 2) := by decide +kernel
theorem dX11_weeks_166 : decode cX11_weeks 166 = .ok (.ifCond .ne 8, 3) := by decide +kernel
theorem dX11_weeks_169 : decode cX11_weeks 169 = .ok (.iload 8, 2) := by decide +kernel
theorem dX11_weeks_171 : decode cX11_weeks 171 = .ok (.goto 5, 3) := by decide +kernel
theorem dX11_weeks_174 : decode cX11_weeks 174 = .ok (.iload 9, 2) := by decide +kernel
theorem dX11_weeks_176 : decode cX11_weeks 176 = .ok (.ireturn, 1) := by decide +kernel
theorem dX11_sortIn_0 : decode cX11_sortIn 0 = .ok (.iload_n 1, 1) := by decide +kernel
theorem dX11_sortIn_1 : decode cX11_sortIn 1 = .ok (.aload_n 0, 1) := by decide +kernel
theorem dX11_sortIn_2 : decode cX11_sortIn 2 = .ok (.getfield 81, 3) := by decide +kernel
theorem dX11_sortIn_5 : decode cX11_sortIn 5 = .ok (.arraylength, 1) := by decide +kernel
theorem dX11_sortIn_6 : decode cX11_sortIn 6 = .ok (.iconst 1, 1) := by decide +kernel
theorem dX11_sortIn_7 : decode cX11_sortIn 7 = .ok (.isub, 1) := by decide +kernel
theorem dX11_sortIn_8 : decode cX11_sortIn 8 = .ok (.invokestatic 390, 3) := by decide +kernel
theorem dX11_sortIn_11 : decode cX11_sortIn 11 = .ok (.istore_n 3, 1) := by decide +kernel
theorem dX11_sortIn_12 : decode cX11_sortIn 12 = .ok (.iload_n 3, 1) := by decide +kernel
theorem dX11_sortIn_13 : decode cX11_sortIn 13 = .ok (.ifCond .le 35, 3) := by decide +kernel
theorem dX11_sortIn_16 : decode cX11_sortIn 16 = .ok (.aload_n 0, 1) := by decide +kernel
theorem dX11_sortIn_17 : decode cX11_sortIn 17 = .ok (.getfield 81, 3) := by decide +kernel
theorem dX11_sortIn_20 : decode cX11_sortIn 20 = .ok (.iload_n 3, 1) := by decide +kernel
theorem dX11_sortIn_21 : decode cX11_sortIn 21 = .ok (.iconst 1, 1) := by decide +kernel
theorem dX11_sortIn_22 : decode cX11_sortIn 22 = .ok (.isub, 1) := by decide +kernel
theorem dX11_sortIn_23 : decode cX11_sortIn 23 = .ok (.iaload, 1) := by decide +kernel
theorem dX11_sortIn_24 : decode cX11_sortIn 24 = .ok (.iload_n 2, 1) := by decide +kernel
theorem dX11_sortIn_25 : decode cX11_sortIn 25 = .ok (.if_icmp .le 23, 3) := by decide +kernel
theorem dX11_sortIn_28 : decode cX11_sortIn 28 = .ok (.aload_n 0, 1) := by decide +kernel
theorem dX11_sortIn_29 : decode cX11_sortIn 29 = .ok (.getfield 81, 3) := by decide +kernel
theorem dX11_sortIn_32 : decode cX11_sortIn 32 = .ok (.iload_n 3, 1) := by decide +kernel
theorem dX11_sortIn_33 : decode cX11_sortIn 33 = .ok (.aload_n 0, 1) := by decide +kernel
theorem dX11_sortIn_34 : decode cX11_sortIn 34 = .ok (.getfield 81, 3) := by decide +kernel
theorem dX11_sortIn_37 : decode cX11_sortIn 37 = .ok (.iload_n 3, 1) := by decide +kernel
theorem dX11_sortIn_38 : decode cX11_sortIn 38 = .ok (.iconst 1, 1) := by decide +kernel
theorem dX11_sortIn_39 : decode cX11_sortIn 39 = .ok (.isub, 1) := by decide +kernel
theorem dX11_sortIn_40 : decode cX11_sortIn 40 = .ok (.iaload, 1) := by decide +kernel
theorem dX11_sortIn_41 : decode cX11_sortIn 41 = .ok (.iastore, 1) := by decide +kernel
theorem dX11_sortIn_42 : decode cX11_sortIn 42 = .ok (.iinc 3 (-1), 3) := by decide +kernel
theorem dX11_sortIn_45 : decode cX11_sortIn 45 = .ok (.goto (-33), 3) := by decide +kernel
theorem dX11_sortIn_48 : decode cX11_sortIn 48 = .ok (.aload_n 0, 1) := by decide +kernel
theorem dX11_sortIn_49 : decode cX11_sortIn 49 = .ok (.getfield 81, 3) := by decide +kernel
theorem dX11_sortIn_52 : decode cX11_sortIn 52 = .ok (.iload_n 3, 1) := by decide +kernel
theorem dX11_sortIn_53 : decode cX11_sortIn 53 = .ok (.iload_n 2, 1) := by decide +kernel
theorem dX11_sortIn_54 : decode cX11_sortIn 54 = .ok (.iastore, 1) := by decide +kernel
theorem dX11_sortIn_55 : decode cX11_sortIn 55 = .ok (.return_, 1) := by decide +kernel
theorem wk_49 : Cond.fieldLink RX11 81 "ThinLine" "sorted" "[I" ∈ tl_L := List.mem_filter.mpr ⟨lw_m2 (i := 151) rfl, rfl⟩
theorem dX11_farthestFrom_0 : decode cX11_farthestFrom 0 = .ok (.iconst (-1), 1) := by decide +kernel
theorem dX11_farthestFrom_1 : decode cX11_farthestFrom 1 = .ok (.istore_n 3, 1) := by decide +kernel
theorem dX11_farthestFrom_2 : decode cX11_farthestFrom 2 = .ok (.iconst (-1), 1) := by decide +kernel
theorem dX11_farthestFrom_3 : decode cX11_farthestFrom 3 = .ok (.istore 4, 2) := by decide +kernel
theorem dX11_farthestFrom_5 : decode cX11_farthestFrom 5 = .ok (.iconst 0, 1) := by decide +kernel
theorem dX11_farthestFrom_6 : decode cX11_farthestFrom 6 = .ok (.istore 5, 2) := by decide +kernel
theorem dX11_farthestFrom_8 : decode cX11_farthestFrom 8 = .ok (.iload 5, 2) := by decide +kernel
theorem dX11_farthestFrom_10 : decode cX11_farthestFrom 10 = .ok (.aload_n 0, 1) := by decide +kernel
theorem dX11_farthestFrom_11 : decode cX11_farthestFrom 11 = .ok (.getfield 10, 3) := by decide +kernel
theorem dX11_farthestFrom_14 : decode cX11_farthestFrom 14 = .ok (.getfield 109, 3) := by decide +kernel
theorem dX11_farthestFrom_17 : decode cX11_farthestFrom 17 = .ok (.getfield 339, 3) := by decide +kernel
theorem dX11_farthestFrom_20 : decode cX11_farthestFrom 20 = .ok (.if_icmp .ge 66, 3) := by decide +kernel
theorem dX11_farthestFrom_23 : decode cX11_farthestFrom 23 = .ok (.aload_n 0, 1) := by decide +kernel
theorem dX11_farthestFrom_24 : decode cX11_farthestFrom 24 = .ok (.getfield 77, 3) := by decide +kernel
theorem dX11_farthestFrom_27 : decode cX11_farthestFrom 27 = .ok (.iload 5, 2) := by decide +kernel
theorem dX11_farthestFrom_29 : decode cX11_farthestFrom 29 = .ok (.iaload, 1) := by decide +kernel
theorem dX11_farthestFrom_30 : decode cX11_farthestFrom 30 = .ok (.iload_n 1, 1) := by decide +kernel
theorem dX11_farthestFrom_31 : decode cX11_farthestFrom 31 = .ok (.isub, 1) := by decide +kernel
theorem dX11_farthestFrom_32 : decode cX11_farthestFrom 32 = .ok (.invokestatic 295, 3) := by decide +kernel
theorem dX11_farthestFrom_35 : decode cX11_farthestFrom 35 = .ok (.istore 6, 2) := by decide +kernel
theorem dX11_farthestFrom_37 : decode cX11_farthestFrom 37 = .ok (.aload_n 0, 1) := by decide +kernel
theorem dX11_farthestFrom_38 : decode cX11_farthestFrom 38 = .ok (.getfield 10, 3) := by decide +kernel
theorem dX11_farthestFrom_41 : decode cX11_farthestFrom 41 = .ok (.getfield 109, 3) := by decide +kernel
theorem dX11_farthestFrom_44 : decode cX11_farthestFrom 44 = .ok (.getfield 136, 3) := by decide +kernel
theorem dX11_farthestFrom_47 : decode cX11_farthestFrom 47 = .ok (.iload 5, 2) := by decide +kernel
theorem dX11_farthestFrom_49 : decode cX11_farthestFrom 49 = .ok (.iaload, 1) := by decide +kernel
theorem dX11_farthestFrom_50 : decode cX11_farthestFrom 50 = .ok (.iload_n 2, 1) := by decide +kernel
theorem dX11_farthestFrom_51 : decode cX11_farthestFrom 51 = .ok (.if_icmp .ne 29, 3) := by decide +kernel
theorem dX11_farthestFrom_54 : decode cX11_farthestFrom 54 = .ok (.aload_n 0, 1) := by decide +kernel
theorem dX11_farthestFrom_55 : decode cX11_farthestFrom 55 = .ok (.getfield 77, 3) := by decide +kernel
theorem dX11_farthestFrom_58 : decode cX11_farthestFrom 58 = .ok (.iload 5, 2) := by decide +kernel
theorem dX11_farthestFrom_60 : decode cX11_farthestFrom 60 = .ok (.iaload, 1) := by decide +kernel
theorem dX11_farthestFrom_61 : decode cX11_farthestFrom 61 = .ok (.ldc 119, 2) := by decide +kernel
theorem dX11_farthestFrom_63 : decode cX11_farthestFrom 63 = .ok (.if_icmp .eq 17, 3) := by decide +kernel
theorem dX11_farthestFrom_66 : decode cX11_farthestFrom 66 = .ok (.iload 6, 2) := by decide +kernel
theorem dX11_farthestFrom_68 : decode cX11_farthestFrom 68 = .ok (.iload 4, 2) := by decide +kernel
theorem dX11_farthestFrom_70 : decode cX11_farthestFrom 70 = .ok (.if_icmp .le 10, 3) := by decide +kernel
theorem dX11_farthestFrom_73 : decode cX11_farthestFrom 73 = .ok (.iload 5, 2) := by decide +kernel
theorem dX11_farthestFrom_75 : decode cX11_farthestFrom 75 = .ok (.istore_n 3, 1) := by decide +kernel
theorem dX11_farthestFrom_76 : decode cX11_farthestFrom 76 = .ok (.iload 6, 2) := by decide +kernel
theorem dX11_farthestFrom_78 : decode cX11_farthestFrom 78 = .ok (.istore 4, 2) := by decide +kernel
theorem dX11_farthestFrom_80 : decode cX11_farthestFrom 80 = .ok (.iinc 5 1, 3) := by decide +kernel
theorem dX11_farthestFrom_83 : decode cX11_farthestFrom 83 = .ok (.goto (-75), 3) := by decide +kernel
theorem dX11_farthestFrom_86 : decode cX11_farthestFrom 86 = .ok (.iload_n 3, 1) := by decide +kernel
theorem dX11_farthestFrom_87 : decode cX11_farthestFrom 87 = .ok (.ireturn, 1) := by decide +kernel
theorem dX11_odd_0 : decode cX11_odd 0 = .ok (.aload_n 0, 1) := by decide +kernel
theorem dX11_odd_1 : decode cX11_odd 1 = .ok (.getfield 29, 3) := by decide +kernel
theorem dX11_odd_4 : decode cX11_odd 4 = .ok (.iload_n 1, 1) := by decide +kernel
theorem dX11_odd_5 : decode cX11_odd 5 = .ok (.invokevirtual 201, 3) := by decide +kernel
theorem dX11_odd_8 : decode cX11_odd 8 = .ok (.ifnull 10, 3) := by decide +kernel
theorem dX11_odd_11 : decode cX11_odd 11 = .ok (.iload_n 2, 1) := by decide +kernel
theorem dX11_odd_12 : decode cX11_odd 12 = .ok (.invokestatic 102, 3) := by decide +kernel
theorem dX11_odd_15 : decode cX11_odd 15 = .ok (.ifCond .ne 5, 3) := by decide +kernel
theorem dX11_odd_18 : decode cX11_odd 18 = .ok (.iconst (-1), 1) := by decide +kernel
theorem dX11_odd_19 : decode cX11_odd 19 = .ok (.ireturn, 1) := by decide +kernel
theorem dX11_odd_20 : decode cX11_odd 20 = .ok (.aload_n 0, 1) := by decide +kernel
theorem dX11_odd_21 : decode cX11_odd 21 = .ok (.iload_n 1, 1) := by decide +kernel
theorem dX11_odd_22 : decode cX11_odd 22 = .ok (.invokevirtual 369, 3) := by decide +kernel
theorem dX11_odd_25 : decode cX11_odd 25 = .ok (.iconst 0, 1) := by decide +kernel
theorem dX11_odd_26 : decode cX11_odd 26 = .ok (.istore_n 3, 1) := by decide +kernel
theorem dX11_odd_27 : decode cX11_odd 27 = .ok (.iconst 0, 1) := by decide +kernel
theorem dX11_odd_28 : decode cX11_odd 28 = .ok (.istore 4, 2) := by decide +kernel
theorem dX11_odd_30 : decode cX11_odd 30 = .ok (.iload 4, 2) := by decide +kernel
theorem dX11_odd_32 : decode cX11_odd 32 = .ok (.aload_n 0, 1) := by decide +kernel
theorem dX11_odd_33 : decode cX11_odd 33 = .ok (.getfield 10, 3) := by decide +kernel
theorem dX11_odd_36 : decode cX11_odd 36 = .ok (.getfield 109, 3) := by decide +kernel
theorem dX11_odd_39 : decode cX11_odd 39 = .ok (.getfield 339, 3) := by decide +kernel
theorem dX11_odd_42 : decode cX11_odd 42 = .ok (.if_icmp .ge 53, 3) := by decide +kernel
theorem dX11_odd_45 : decode cX11_odd 45 = .ok (.aload_n 0, 1) := by decide +kernel
theorem dX11_odd_46 : decode cX11_odd 46 = .ok (.getfield 10, 3) := by decide +kernel
theorem dX11_odd_49 : decode cX11_odd 49 = .ok (.getfield 109, 3) := by decide +kernel
theorem dX11_odd_52 : decode cX11_odd 52 = .ok (.getfield 136, 3) := by decide +kernel
theorem dX11_odd_55 : decode cX11_odd 55 = .ok (.iload 4, 2) := by decide +kernel
theorem dX11_odd_57 : decode cX11_odd 57 = .ok (.iaload, 1) := by decide +kernel
theorem dX11_odd_58 : decode cX11_odd 58 = .ok (.iload_n 2, 1) := by decide +kernel
theorem dX11_odd_59 : decode cX11_odd 59 = .ok (.if_icmp .ne 30, 3) := by decide +kernel
theorem dX11_odd_62 : decode cX11_odd 62 = .ok (.aload_n 0, 1) := by decide +kernel
theorem dX11_odd_63 : decode cX11_odd 63 = .ok (.getfield 77, 3) := by decide +kernel
theorem dX11_odd_66 : decode cX11_odd 66 = .ok (.iload 4, 2) := by decide +kernel
theorem dX11_odd_68 : decode cX11_odd 68 = .ok (.iaload, 1) := by decide +kernel
theorem dX11_odd_69 : decode cX11_odd 69 = .ok (.ldc 119, 2) := by decide +kernel
theorem dX11_odd_71 : decode cX11_odd 71 = .ok (.if_icmp .eq 18, 3) := by decide +kernel
theorem dX11_odd_74 : decode cX11_odd 74 = .ok (.aload_n 0, 1) := by decide +kernel
theorem dX11_odd_75 : decode cX11_odd 75 = .ok (.iload_n 3, 1) := by decide +kernel
theorem dX11_odd_76 : decode cX11_odd 76 = .ok (.aload_n 0, 1) := by decide +kernel
theorem dX11_odd_77 : decode cX11_odd 77 = .ok (.getfield 77, 3) := by decide +kernel
theorem dX11_odd_80 : decode cX11_odd 80 = .ok (.iload 4, 2) := by decide +kernel
theorem dX11_odd_82 : decode cX11_odd 82 = .ok (.iaload, 1) := by decide +kernel
theorem dX11_odd_83 : decode cX11_odd 83 = .ok (.invokevirtual 399, 3) := by decide +kernel
theorem dX11_odd_86 : decode cX11_odd 86 = .ok (.iinc 3 1, 3) := by decide +kernel
theorem dX11_odd_89 : decode cX11_odd 89 = .ok (.iinc 4 1, 3) := by decide +kernel
theorem dX11_odd_92 : decode cX11_odd 92 = .ok (.goto (-62), 3) := by decide +kernel
theorem dX11_odd_95 : decode cX11_odd 95 = .ok (.iload_n 3, 1) := by decide +kernel
theorem dX11_odd_96 : decode cX11_odd 96 = .ok (.iconst 3, 1) := by decide +kernel
theorem dX11_odd_97 : decode cX11_odd 97 = .ok (.if_icmp .ge 8, 3) := by decide +kernel
theorem dX11_odd_100 : decode cX11_odd 100 = .ok (.bipush (-2), 2) := by decide +kernel
theorem dX11_odd_102 : decode cX11_odd 102 = .ok (.goto 18, 3) := by decide +kernel
theorem dX11_odd_105 : decode cX11_odd 105 = .ok (.aload_n 0, 1) := by decide +kernel
theorem dX11_odd_106 : decode cX11_odd 106 = .ok (.aload_n 0, 1) := by decide +kernel
theorem dX11_odd_107 : decode cX11_odd 107 = .ok (.getfield 81, 3) := by decide +kernel
theorem dX11_odd_110 : decode cX11_odd 110 = .ok (.iload_n 3, 1) := by decide +kernel
theorem dX11_odd_111 : decode cX11_odd 111 = .ok (.iconst 1, 1) := by decide +kernel
theorem dX11_odd_112 : decode cX11_odd 112 = .ok (.isub, 1) := by decide +kernel
theorem dX11_odd_113 : decode cX11_odd 113 = .ok (.iconst 2, 1) := by decide +kernel
theorem dX11_odd_114 : decode cX11_odd 114 = .ok (.idiv, 1) := by decide +kernel
theorem dX11_odd_115 : decode cX11_odd 115 = .ok (.iaload, 1) := by decide +kernel
theorem dX11_odd_116 : decode cX11_odd 116 = .ok (.iload_n 2, 1) := by decide +kernel
theorem dX11_odd_117 : decode cX11_odd 117 = .ok (.invokevirtual 402, 3) := by decide +kernel
theorem dX11_odd_120 : decode cX11_odd 120 = .ok (.ireturn, 1) := by decide +kernel
theorem wk_1360 : Cond.methodLink RX11 399 yX11_sortIn ∈ tl_L := List.mem_filter.mpr ⟨lw_m5 (i := 126) rfl, rfl⟩
theorem wk_1361 : Cond.instanceMethod yX11_sortIn ∈ tl_L := List.mem_filter.mpr ⟨lw_m5 (i := 128) rfl, rfl⟩
theorem wk_1362 : Cond.selects RX11 yX11_sortIn yX11_sortIn ∈ tl_L := List.mem_filter.mpr ⟨lw_s6 (i := 5) (q := (yX11_sortIn, 16)) rfl, rfl⟩
theorem wk_1363 : Cond.code yX11_sortIn cX11_sortIn 4 none ∈ tl_L := List.mem_filter.mpr ⟨lw_m5 (i := 129) rfl, rfl⟩
theorem wk_1364 : Cond.methodLink RX11 402 yX11_farthestFrom ∈ tl_L := List.mem_filter.mpr ⟨lw_m5 (i := 130) rfl, rfl⟩
theorem wk_1365 : Cond.instanceMethod yX11_farthestFrom ∈ tl_L := List.mem_filter.mpr ⟨lw_m5 (i := 132) rfl, rfl⟩
theorem wk_1366 : Cond.selects RX11 yX11_farthestFrom yX11_farthestFrom ∈ tl_L := List.mem_filter.mpr ⟨lw_s6 (i := 6) (q := (yX11_farthestFrom, 16)) rfl, rfl⟩
theorem wk_1367 : Cond.code yX11_farthestFrom cX11_farthestFrom 7 (some .int) ∈ tl_L := List.mem_filter.mpr ⟨lw_m5 (i := 133) rfl, rfl⟩
theorem lk_X11_399 : tl_kV RX11 399 RX11 yX11_sortIn cX11_sortIn 4 none 2 := ⟨wk_1363, wk_1360, wk_1361, wk_1362, wk_2, ⟨by decide +kernel, by decide +kernel, by decide +kernel⟩⟩
theorem lk_X11_402 : tl_kV RX11 402 RX11 yX11_farthestFrom cX11_farthestFrom 7 (some .int) 2 := ⟨wk_1367, wk_1364, wk_1365, wk_1366, wk_2, ⟨by decide +kernel, by decide +kernel, by decide +kernel⟩⟩
theorem dX11_ripple_0 : decode cX11_ripple 0 = .ok (.iload_n 3, 1) := by decide +kernel
theorem dX11_ripple_1 : decode cX11_ripple 1 = .ok (.iconst 0, 1) := by decide +kernel
theorem dX11_ripple_2 : decode cX11_ripple 2 = .ok (.iconst 1, 1) := by decide +kernel
theorem dX11_ripple_3 : decode cX11_ripple 3 = .ok (.invokestatic 105, 3) := by decide +kernel
theorem dX11_ripple_6 : decode cX11_ripple 6 = .ok (.ifCond .eq 13, 3) := by decide +kernel
theorem dX11_ripple_9 : decode cX11_ripple 9 = .ok (.aload_n 0, 1) := by decide +kernel
theorem dX11_ripple_10 : decode cX11_ripple 10 = .ok (.iload_n 1, 1) := by decide +kernel
theorem dX11_ripple_11 : decode cX11_ripple 11 = .ok (.iload_n 2, 1) := by decide +kernel
theorem dX11_ripple_12 : decode cX11_ripple 12 = .ok (.iconst (-1), 1) := by decide +kernel
theorem dX11_ripple_13 : decode cX11_ripple 13 = .ok (.invokevirtual 246, 3) := by decide +kernel
theorem dX11_ripple_16 : decode cX11_ripple 16 = .ok (.ifCond .ne 7, 3) := by decide +kernel
theorem dX11_ripple_19 : decode cX11_ripple 19 = .ok (.ldc2_w 322, 3) := by decide +kernel
theorem dX11_ripple_22 : decode cX11_ripple 22 = .ok (.lreturn, 1) := by decide +kernel
theorem dX11_ripple_23 : decode cX11_ripple 23 = .ok (.aload_n 0, 1) := by decide +kernel
theorem dX11_ripple_24 : decode cX11_ripple 24 = .ok (.getfield 66, 3) := by decide +kernel
theorem dX11_ripple_27 : decode cX11_ripple 27 = .ok (.invokevirtual 252, 3) := by decide +kernel
theorem dX11_ripple_30 : decode cX11_ripple 30 = .ok (.ifCond .ne 7, 3) := by decide +kernel
theorem dX11_ripple_33 : decode cX11_ripple 33 = .ok (.ldc2_w 272, 3) := by decide +kernel
theorem dX11_ripple_36 : decode cX11_ripple 36 = .ok (.lreturn, 1) := by decide +kernel
theorem dX11_ripple_37 : decode cX11_ripple 37 = .ok (.aload_n 0, 1) := by decide +kernel
theorem dX11_ripple_38 : decode cX11_ripple 38 = .ok (.getfield 73, 3) := by decide +kernel
theorem dX11_ripple_41 : decode cX11_ripple 41 = .ok (.aload_n 0, 1) := by decide +kernel
theorem dX11_ripple_42 : decode cX11_ripple 42 = .ok (.getfield 66, 3) := by decide +kernel
theorem dX11_ripple_45 : decode cX11_ripple 45 = .ok (.invokevirtual 405, 3) := by decide +kernel
theorem dX11_ripple_48 : decode cX11_ripple 48 = .ok (.istore 4, 2) := by decide +kernel
theorem dX11_ripple_50 : decode cX11_ripple 50 = .ok (.iload_n 3, 1) := by decide +kernel
theorem dX11_ripple_51 : decode cX11_ripple 51 = .ok (.ifCond .ne 9, 3) := by decide +kernel
theorem dX11_ripple_54 : decode cX11_ripple 54 = .ok (.iload 4, 2) := by decide +kernel
theorem dX11_ripple_56 : decode cX11_ripple 56 = .ok (.i2l, 1) := by decide +kernel
theorem dX11_ripple_57 : decode cX11_ripple 57 = .ok (.goto 16, 3) := by decide +kernel
theorem dX11_ripple_60 : decode cX11_ripple 60 = .ok (.aload_n 0, 1) := by decide +kernel
theorem dX11_ripple_61 : decode cX11_ripple 61 = .ok (.getfield 73, 3) := by decide +kernel
theorem dX11_ripple_64 : decode cX11_ripple 64 = .ok (.aload_n 0, 1) := by decide +kernel
theorem dX11_ripple_65 : decode cX11_ripple 65 = .ok (.getfield 66, 3) := by decide +kernel
theorem dX11_ripple_68 : decode cX11_ripple 68 = .ok (.iload 4, 2) := by decide +kernel
theorem dX11_ripple_70 : decode cX11_ripple 70 = .ok (.invokevirtual 409, 3) := by decide +kernel
theorem dX11_ripple_73 : decode cX11_ripple 73 = .ok (.lreturn, 1) := by decide +kernel
theorem wk_46 : Cond.fieldLink RX11 73 "ThinLine" "rests" "LThinLine$Rests;" ∈ tl_L := List.mem_filter.mpr ⟨lw_m2 (i := 149) rfl, rfl⟩
theorem wk_1235 : Cond.instanceMethod yX3_found ∈ tl_L := List.mem_filter.mpr ⟨lw_m5 (i := 140) rfl, rfl⟩
theorem wk_1236 : Cond.selects RX3 yX3_found yX3_found ∈ tl_L := List.mem_filter.mpr ⟨lw_s6 (i := 7) (q := (yX3_found, 2)) rfl, rfl⟩
theorem wk_1237 : Cond.code yX3_found cX3_found 8 (some .int) ∈ tl_L := List.mem_filter.mpr ⟨lw_m5 (i := 141) rfl, rfl⟩
theorem lk_X11_405 : tl_kVN RX11 405 RX3 yX3_found "ThinLine" cX3_found 8 (some .int) 1 133 := ⟨wk_1237, by decide +kernel, wk_1235, wk_1236, wk_45, ⟨by decide +kernel, by decide +kernel, by decide +kernel⟩⟩
theorem lk_X11_409 : tl_kVN RX11 409 RX3 yX3_power "ThinLine" cX3_power 6 (some .long) 2 134 := ⟨wk_1241, by decide +kernel, wk_1239, wk_1240, wk_45, ⟨by decide +kernel, by decide +kernel, by decide +kernel⟩⟩
theorem dX11_smooth_0 : decode cX11_smooth 0 = .ok (.aload_n 0, 1) := by decide +kernel
theorem dX11_smooth_1 : decode cX11_smooth 1 = .ok (.iload_n 1, 1) := by decide +kernel
theorem dX11_smooth_2 : decode cX11_smooth 2 = .ok (.iload_n 2, 1) := by decide +kernel
theorem dX11_smooth_3 : decode cX11_smooth 3 = .ok (.iconst (-1), 1) := by decide +kernel
theorem dX11_smooth_4 : decode cX11_smooth 4 = .ok (.invokevirtual 246, 3) := by decide +kernel
theorem dX11_smooth_7 : decode cX11_smooth 7 = .ok (.ifCond .ne 6, 3) := by decide +kernel
theorem dX11_smooth_10 : decode cX11_smooth 10 = .ok (.ldc 128, 2) := by decide +kernel
theorem dX11_smooth_12 : decode cX11_smooth 12 = .ok (.ireturn, 1) := by decide +kernel
theorem dX11_smooth_13 : decode cX11_smooth 13 = .ok (.aload_n 0, 1) := by decide +kernel
theorem dX11_smooth_14 : decode cX11_smooth 14 = .ok (.getfield 66, 3) := by decide +kernel
theorem dX11_smooth_17 : decode cX11_smooth 17 = .ok (.invokevirtual 289, 3) := by decide +kernel
theorem dX11_smooth_20 : decode cX11_smooth 20 = .ok (.ifCond .ne 6, 3) := by decide +kernel
theorem dX11_smooth_23 : decode cX11_smooth 23 = .ok (.ldc 119, 2) := by decide +kernel
theorem dX11_smooth_25 : decode cX11_smooth 25 = .ok (.ireturn, 1) := by decide +kernel
theorem dX11_smooth_26 : decode cX11_smooth 26 = .ok (.aload_n 0, 1) := by decide +kernel
theorem dX11_smooth_27 : decode cX11_smooth 27 = .ok (.getfield 73, 3) := by decide +kernel
theorem dX11_smooth_30 : decode cX11_smooth 30 = .ok (.aload_n 0, 1) := by decide +kernel
theorem dX11_smooth_31 : decode cX11_smooth 31 = .ok (.getfield 66, 3) := by decide +kernel
theorem dX11_smooth_34 : decode cX11_smooth 34 = .ok (.invokevirtual 405, 3) := by decide +kernel
theorem dX11_smooth_37 : decode cX11_smooth 37 = .ok (.istore_n 3, 1) := by decide +kernel
theorem dX11_smooth_38 : decode cX11_smooth 38 = .ok (.aload_n 0, 1) := by decide +kernel
theorem dX11_smooth_39 : decode cX11_smooth 39 = .ok (.getfield 73, 3) := by decide +kernel
theorem dX11_smooth_42 : decode cX11_smooth 42 = .ok (.aload_n 0, 1) := by decide +kernel
theorem dX11_smooth_43 : decode cX11_smooth 43 = .ok (.getfield 66, 3) := by decide +kernel
theorem dX11_smooth_46 : decode cX11_smooth 46 = .ok (.iload_n 3, 1) := by decide +kernel
theorem dX11_smooth_47 : decode cX11_smooth 47 = .ok (.invokevirtual 413, 3) := by decide +kernel
theorem dX11_smooth_50 : decode cX11_smooth 50 = .ok (.lconst 0, 1) := by decide +kernel
theorem dX11_smooth_51 : decode cX11_smooth 51 = .ok (.lstore 4, 2) := by decide +kernel
theorem dX11_smooth_53 : decode cX11_smooth 53 = .ok (.iconst 0, 1) := by decide +kernel
theorem dX11_smooth_54 : decode cX11_smooth 54 = .ok (.aload_n 0, 1) := by decide +kernel
theorem dX11_smooth_55 : decode cX11_smooth 55 = .ok (.getfield 66, 3) := by decide +kernel
theorem dX11_smooth_58 : decode cX11_smooth 58 = .ok (.getfield 292, 3) := by decide +kernel
theorem dX11_smooth_61 : decode cX11_smooth 61 = .ok (.invokestatic 333, 3) := by decide +kernel
theorem dX11_smooth_64 : decode cX11_smooth 64 = .ok (.istore 6, 2) := by decide +kernel
theorem dX11_smooth_66 : decode cX11_smooth 66 = .ok (.iload 6, 2) := by decide +kernel
theorem dX11_smooth_68 : decode cX11_smooth 68 = .ok (.aload_n 0, 1) := by decide +kernel
theorem dX11_smooth_69 : decode cX11_smooth 69 = .ok (.getfield 66, 3) := by decide +kernel
theorem dX11_smooth_72 : decode cX11_smooth 72 = .ok (.getfield 324, 3) := by decide +kernel
theorem dX11_smooth_75 : decode cX11_smooth 75 = .ok (.if_icmp .gt 61, 3) := by decide +kernel
theorem dX11_smooth_78 : decode cX11_smooth 78 = .ok (.iload 6, 2) := by decide +kernel
theorem dX11_smooth_80 : decode cX11_smooth 80 = .ok (.sipush 300, 3) := by decide +kernel
theorem dX11_smooth_83 : decode cX11_smooth 83 = .ok (.if_icmp .ge 53, 3) := by decide +kernel
theorem dX11_smooth_86 : decode cX11_smooth 86 = .ok (.aload_n 0, 1) := by decide +kernel
theorem dX11_smooth_87 : decode cX11_smooth 87 = .ok (.getfield 66, 3) := by decide +kernel
theorem dX11_smooth_90 : decode cX11_smooth 90 = .ok (.getfield 221, 3) := by decide +kernel
theorem dX11_smooth_93 : decode cX11_smooth 93 = .ok (.iload 6, 2) := by decide +kernel
theorem dX11_smooth_95 : decode cX11_smooth 95 = .ok (.baload, 1) := by decide +kernel
theorem dX11_smooth_96 : decode cX11_smooth 96 = .ok (.ifCond .eq 34, 3) := by decide +kernel
theorem dX11_smooth_99 : decode cX11_smooth 99 = .ok (.lload 4, 2) := by decide +kernel
theorem dX11_smooth_101 : decode cX11_smooth 101 = .ok (.aload_n 0, 1) := by decide +kernel
theorem dX11_smooth_102 : decode cX11_smooth 102 = .ok (.getfield 66, 3) := by decide +kernel
theorem dX11_smooth_105 : decode cX11_smooth 105 = .ok (.iload 6, 2) := by decide +kernel
theorem dX11_smooth_107 : decode cX11_smooth 107 = .ok (.invokevirtual 258, 3) := by decide +kernel
theorem dX11_smooth_110 : decode cX11_smooth 110 = .ok (.i2l, 1) := by decide +kernel
theorem dX11_smooth_111 : decode cX11_smooth 111 = .ok (.aload_n 0, 1) := by decide +kernel
theorem dX11_smooth_112 : decode cX11_smooth 112 = .ok (.getfield 73, 3) := by decide +kernel
theorem dX11_smooth_115 : decode cX11_smooth 115 = .ok (.iload 6, 2) := by decide +kernel
theorem dX11_smooth_117 : decode cX11_smooth 117 = .ok (.iconst 1, 1) := by decide +kernel
theorem dX11_smooth_118 : decode cX11_smooth 118 = .ok (.iload_n 3, 1) := by decide +kernel
theorem dX11_smooth_119 : decode cX11_smooth 119 = .ok (.invokestatic 333, 3) := by decide +kernel
theorem dX11_smooth_122 : decode cX11_smooth 122 = .ok (.irem, 1) := by decide +kernel
theorem dX11_smooth_123 : decode cX11_smooth 123 = .ok (.invokevirtual 417, 3) := by decide +kernel
theorem dX11_smooth_126 : decode cX11_smooth 126 = .ok (.lsub, 1) := by decide +kernel
theorem dX11_smooth_127 : decode cX11_smooth 127 = .ok (.ladd, 1) := by decide +kernel
theorem dX11_smooth_128 : decode cX11_smooth 128 = .ok (.lstore 4, 2) := by decide +kernel
theorem dX11_smooth_130 : decode cX11_smooth 130 = .ok (.iinc 6 1, 3) := by decide +kernel
theorem dX11_smooth_133 : decode cX11_smooth 133 = .ok (.goto (-67), 3) := by decide +kernel
theorem dX11_smooth_136 : decode cX11_smooth 136 = .ok (.lload 4, 2) := by decide +kernel
theorem dX11_smooth_138 : decode cX11_smooth 138 = .ok (.lneg, 1) := by decide +kernel
theorem dX11_smooth_139 : decode cX11_smooth 139 = .ok (.iconst 1, 1) := by decide +kernel
theorem dX11_smooth_140 : decode cX11_smooth 140 = .ok (.aload_n 0, 1) := by decide +kernel
theorem dX11_smooth_141 : decode cX11_smooth 141 = .ok (.getfield 66, 3) := by decide +kernel
theorem dX11_smooth_144 : decode cX11_smooth 144 = .ok (.getfield 330, 3) := by decide +kernel
theorem dX11_smooth_147 : decode cX11_smooth 147 = .ok (.invokestatic 333, 3) := by decide +kernel
theorem dX11_smooth_150 : decode cX11_smooth 150 = .ok (.i2l, 1) := by decide +kernel
theorem dX11_smooth_151 : decode cX11_smooth 151 = .ok (.invokestatic 318, 3) := by decide +kernel
theorem dX11_smooth_154 : decode cX11_smooth 154 = .ok (.l2i, 1) := by decide +kernel
theorem dX11_smooth_155 : decode cX11_smooth 155 = .ok (.ireturn, 1) := by decide +kernel
theorem wk_1266 : Cond.instanceMethod yX3_meanAt ∈ tl_L := List.mem_filter.mpr ⟨lw_m5 (i := 162) rfl, rfl⟩
theorem wk_1267 : Cond.selects RX3 yX3_meanAt yX3_meanAt ∈ tl_L := List.mem_filter.mpr ⟨lw_s6 (i := 10) (q := (yX3_meanAt, 2)) rfl, rfl⟩
theorem wk_1268 : Cond.code yX3_meanAt cX3_meanAt 3 (some .long) ∈ tl_L := List.mem_filter.mpr ⟨lw_m5 (i := 163) rfl, rfl⟩
theorem lk_X11_413 : tl_kVN RX11 413 RX3 yX3_gather "ThinLine" cX3_gather 5 none 2 135 := ⟨wk_1245, by decide +kernel, wk_1243, wk_1244, wk_45, ⟨by decide +kernel, by decide +kernel, by decide +kernel⟩⟩
theorem lk_X11_417 : tl_kVN RX11 417 RX3 yX3_meanAt "ThinLine" cX3_meanAt 3 (some .long) 1 136 := ⟨wk_1268, by decide +kernel, wk_1266, wk_1267, wk_45, ⟨by decide +kernel, by decide +kernel, by decide +kernel⟩⟩
theorem dX11_without_0 : decode cX11_without 0 = .ok (.aload_n 0, 1) := by decide +kernel
theorem dX11_without_1 : decode cX11_without 1 = .ok (.getfield 10, 3) := by decide +kernel
theorem dX11_without_4 : decode cX11_without 4 = .ok (.getfield 147, 3) := by decide +kernel
theorem dX11_without_7 : decode cX11_without 7 = .ok (.iload_n 3, 1) := by decide +kernel
theorem dX11_without_8 : decode cX11_without 8 = .ok (.invokevirtual 156, 3) := by decide +kernel
theorem dX11_without_11 : decode cX11_without 11 = .ok (.ifCond .eq 13, 3) := by decide +kernel
theorem dX11_without_14 : decode cX11_without 14 = .ok (.aload_n 0, 1) := by decide +kernel
theorem dX11_without_15 : decode cX11_without 15 = .ok (.iload_n 1, 1) := by decide +kernel
theorem dX11_without_16 : decode cX11_without 16 = .ok (.iload_n 2, 1) := by decide +kernel
theorem dX11_without_17 : decode cX11_without 17 = .ok (.iload_n 3, 1) := by decide +kernel
theorem dX11_without_18 : decode cX11_without 18 = .ok (.invokevirtual 246, 3) := by decide +kernel
theorem dX11_without_21 : decode cX11_without 21 = .ok (.ifCond .ne 6, 3) := by decide +kernel
theorem dX11_without_24 : decode cX11_without 24 = .ok (.ldc 128, 2) := by decide +kernel
theorem dX11_without_26 : decode cX11_without 26 = .ok (.ireturn, 1) := by decide +kernel
theorem dX11_without_27 : decode cX11_without 27 = .ok (.aload_n 0, 1) := by decide +kernel
theorem dX11_without_28 : decode cX11_without 28 = .ok (.getfield 66, 3) := by decide +kernel
theorem dX11_without_31 : decode cX11_without 31 = .ok (.invokevirtual 264, 3) := by decide +kernel
theorem dX11_without_34 : decode cX11_without 34 = .ok (.ireturn, 1) := by decide +kernel
theorem nk_21 : tl_N[21]? = some (Cond.fieldLinkNest "ThinLine" 147 "ThinLine$Book" "slips" "LThinLine$Table;" "ThinLine") := by decide +kernel
theorem lk_X11_156 : tl_kVN RX11 156 RX6 yX6_has "ThinLine" cX6_has 2 (some .boolean) 1 79 := ⟨wk_296, by decide +kernel, wk_294, wk_295, wk_64, ⟨by decide +kernel, by decide +kernel, by decide +kernel⟩⟩
theorem dX11_weightiest_0 : decode cX11_weightiest 0 = .ok (.aload_n 0, 1) := by decide +kernel
theorem dX11_weightiest_1 : decode cX11_weightiest 1 = .ok (.iload_n 1, 1) := by decide +kernel
theorem dX11_weightiest_2 : decode cX11_weightiest 2 = .ok (.iload_n 2, 1) := by decide +kernel
theorem dX11_weightiest_3 : decode cX11_weightiest 3 = .ok (.iconst (-1), 1) := by decide +kernel
theorem dX11_weightiest_4 : decode cX11_weightiest 4 = .ok (.invokevirtual 246, 3) := by decide +kernel
theorem dX11_weightiest_7 : decode cX11_weightiest 7 = .ok (.ifCond .ne 5, 3) := by decide +kernel
theorem dX11_weightiest_10 : decode cX11_weightiest 10 = .ok (.iconst (-1), 1) := by decide +kernel
theorem dX11_weightiest_11 : decode cX11_weightiest 11 = .ok (.ireturn, 1) := by decide +kernel
theorem dX11_weightiest_12 : decode cX11_weightiest 12 = .ok (.aload_n 0, 1) := by decide +kernel
theorem dX11_weightiest_13 : decode cX11_weightiest 13 = .ok (.getfield 66, 3) := by decide +kernel
theorem dX11_weightiest_16 : decode cX11_weightiest 16 = .ok (.invokevirtual 289, 3) := by decide +kernel
theorem dX11_weightiest_19 : decode cX11_weightiest 19 = .ok (.ifCond .ne 6, 3) := by decide +kernel
theorem dX11_weightiest_22 : decode cX11_weightiest 22 = .ok (.bipush (-2), 2) := by decide +kernel
theorem dX11_weightiest_24 : decode cX11_weightiest 24 = .ok (.ireturn, 1) := by decide +kernel
theorem dX11_weightiest_25 : decode cX11_weightiest 25 = .ok (.aload_n 0, 1) := by decide +kernel
theorem dX11_weightiest_26 : decode cX11_weightiest 26 = .ok (.getfield 66, 3) := by decide +kernel
theorem dX11_weightiest_29 : decode cX11_weightiest 29 = .ok (.invokevirtual 264, 3) := by decide +kernel
theorem dX11_weightiest_32 : decode cX11_weightiest 32 = .ok (.istore_n 3, 1) := by decide +kernel
theorem dX11_weightiest_33 : decode cX11_weightiest 33 = .ok (.bipush (-2), 2) := by decide +kernel
theorem dX11_weightiest_35 : decode cX11_weightiest 35 = .ok (.istore 4, 2) := by decide +kernel
theorem dX11_weightiest_37 : decode cX11_weightiest 37 = .ok (.iconst (-1), 1) := by decide +kernel
theorem dX11_weightiest_38 : decode cX11_weightiest 38 = .ok (.istore 5, 2) := by decide +kernel
theorem dX11_weightiest_40 : decode cX11_weightiest 40 = .ok (.iconst 0, 1) := by decide +kernel
theorem dX11_weightiest_41 : decode cX11_weightiest 41 = .ok (.istore 6, 2) := by decide +kernel
theorem dX11_weightiest_43 : decode cX11_weightiest 43 = .ok (.iload 6, 2) := by decide +kernel
theorem dX11_weightiest_45 : decode cX11_weightiest 45 = .ok (.aload_n 0, 1) := by decide +kernel
theorem dX11_weightiest_46 : decode cX11_weightiest 46 = .ok (.getfield 10, 3) := by decide +kernel
theorem dX11_weightiest_49 : decode cX11_weightiest 49 = .ok (.getfield 147, 3) := by decide +kernel
theorem dX11_weightiest_52 : decode cX11_weightiest 52 = .ok (.getfield 173, 3) := by decide +kernel
theorem dX11_weightiest_55 : decode cX11_weightiest 55 = .ok (.if_icmp .ge 86, 3) := by decide +kernel
theorem dX11_weightiest_58 : decode cX11_weightiest 58 = .ok (.aload_n 0, 1) := by decide +kernel
theorem dX11_weightiest_59 : decode cX11_weightiest 59 = .ok (.getfield 10, 3) := by decide +kernel
theorem dX11_weightiest_62 : decode cX11_weightiest 62 = .ok (.iload_n 2, 1) := by decide +kernel
theorem dX11_weightiest_63 : decode cX11_weightiest 63 = .ok (.iload 6, 2) := by decide +kernel
theorem dX11_weightiest_65 : decode cX11_weightiest 65 = .ok (.aload_n 0, 1) := by decide +kernel
theorem dX11_weightiest_66 : decode cX11_weightiest 66 = .ok (.getfield 66, 3) := by decide +kernel
theorem dX11_weightiest_69 : decode cX11_weightiest 69 = .ok (.getfield 221, 3) := by decide +kernel
theorem dX11_weightiest_72 : decode cX11_weightiest 72 = .ok (.aload_n 0, 1) := by decide +kernel
theorem dX11_weightiest_73 : decode cX11_weightiest 73 = .ok (.getfield 66, 3) := by decide +kernel
theorem dX11_weightiest_76 : decode cX11_weightiest 76 = .ok (.getfield 225, 3) := by decide +kernel
theorem dX11_weightiest_79 : decode cX11_weightiest 79 = .ok (.invokevirtual 228, 3) := by decide +kernel
theorem dX11_weightiest_82 : decode cX11_weightiest 82 = .ok (.aload_n 0, 1) := by decide +kernel
theorem dX11_weightiest_83 : decode cX11_weightiest 83 = .ok (.getfield 66, 3) := by decide +kernel
theorem dX11_weightiest_86 : decode cX11_weightiest 86 = .ok (.invokevirtual 240, 3) := by decide +kernel
theorem dX11_weightiest_89 : decode cX11_weightiest 89 = .ok (.aload_n 0, 1) := by decide +kernel
theorem dX11_weightiest_90 : decode cX11_weightiest 90 = .ok (.getfield 66, 3) := by decide +kernel
theorem dX11_weightiest_93 : decode cX11_weightiest 93 = .ok (.invokevirtual 243, 3) := by decide +kernel
theorem dX11_weightiest_96 : decode cX11_weightiest 96 = .ok (.aload_n 0, 1) := by decide +kernel
theorem dX11_weightiest_97 : decode cX11_weightiest 97 = .ok (.getfield 66, 3) := by decide +kernel
theorem dX11_weightiest_100 : decode cX11_weightiest 100 = .ok (.invokevirtual 264, 3) := by decide +kernel
theorem dX11_weightiest_103 : decode cX11_weightiest 103 = .ok (.iload_n 3, 1) := by decide +kernel
theorem dX11_weightiest_104 : decode cX11_weightiest 104 = .ok (.isub, 1) := by decide +kernel
theorem dX11_weightiest_105 : decode cX11_weightiest 105 = .ok (.invokestatic 295, 3) := by decide +kernel
theorem dX11_weightiest_108 : decode cX11_weightiest 108 = .ok (.istore 7, 2) := by decide +kernel
theorem dX11_weightiest_110 : decode cX11_weightiest 110 = .ok (.aload_n 0, 1) := by decide +kernel
theorem dX11_weightiest_111 : decode cX11_weightiest 111 = .ok (.getfield 66, 3) := by decide +kernel
theorem dX11_weightiest_114 : decode cX11_weightiest 114 = .ok (.invokevirtual 289, 3) := by decide +kernel
theorem dX11_weightiest_117 : decode cX11_weightiest 117 = .ok (.ifCond .eq 18, 3) := by decide +kernel
theorem dX11_weightiest_120 : decode cX11_weightiest 120 = .ok (.iload 7, 2) := by decide +kernel
theorem dX11_weightiest_122 : decode cX11_weightiest 122 = .ok (.iload 5, 2) := by decide +kernel
theorem dX11_weightiest_124 : decode cX11_weightiest 124 = .ok (.if_icmp .le 11, 3) := by decide +kernel
theorem dX11_weightiest_127 : decode cX11_weightiest 127 = .ok (.iload 6, 2) := by decide +kernel
theorem dX11_weightiest_129 : decode cX11_weightiest 129 = .ok (.istore 4, 2) := by decide +kernel
theorem dX11_weightiest_131 : decode cX11_weightiest 131 = .ok (.iload 7, 2) := by decide +kernel
theorem dX11_weightiest_133 : decode cX11_weightiest 133 = .ok (.istore 5, 2) := by decide +kernel
theorem dX11_weightiest_135 : decode cX11_weightiest 135 = .ok (.iinc 6 1, 3) := by decide +kernel
theorem dX11_weightiest_138 : decode cX11_weightiest 138 = .ok (.goto (-95), 3) := by decide +kernel
theorem dX11_weightiest_141 : decode cX11_weightiest 141 = .ok (.iload 4, 2) := by decide +kernel
theorem dX11_weightiest_143 : decode cX11_weightiest 143 = .ok (.ireturn, 1) := by decide +kernel
set_option maxHeartbeats 4000000 in
set_option maxRecDepth 100000 in
theorem t_X11_findDeeps (l : Launch) (D : va_G) (cy : Nat → ClassId) (sz : Nat) (L : List Nat) (K : Nat → tk_K) (Γ : tk_G) (f : Nat → va_E) (o : Nat) (p0 : Int32) (ho : tp_r L K 0 (0) 0 o) : Met l yX11_findDeeps (tl_w yX11_findDeeps cX11_findDeeps 3 none) ({ frames := 5, cells := 0, slots := 0, locals := 113 }) (va_Pc [.ref o, .int p0] (tp_P D cy L K Γ f sz)) (va_Qv (fun (u : Nat → va_E) => True) (tp_B D cy L K Γ f [28, 29, 23, 24, 27, 30, 31, 32, 36]) (tp_A L sz)) 0 0 (tp_A L sz) := by
  refine Met.ofW (cc := cX11_findDeeps) (maxL := 3) (ret := none) (by decide) rfl ?_
  intro p e s m args below meth c s₁ B hml hv
  obtain ⟨rfl, hsz, hP, hK, hL, hI, hN, hU⟩ := hv
  have hx := B.exec
  have hb := B.bytes
  have hr := B.returns
  have hta := tl_hta (atoms_spec (ws := tl_w yX11_findDeeps cX11_findDeeps 3 none) B.pre)
  have hown : s.vm.findClass RX11 = some m.cls := findClass_of_methodNamed B.named
  have hlocks := B.notSynchronized
  subst hsz
  have hI0 := hI
  generalize hAe : tp_A L s.heap.size = A
  have hA : ∀ q : Nat, s.heap.size ≤ q → A q := fun q h => by rw [← hAe]; exact Or.inr h
  have hAL : ∀ q ∈ L, A q := fun q h => by rw [← hAe]; exact Or.inl h
  have hAf : ∀ (H : Heap), s.heap.size ≤ H.size → ∀ q, tp_A L H.size q → A q := fun H h q hq => hq.elim (hAL q) (fun h2 => hA q (Nat.le_trans h h2))
  have hS : va_S A s.heap s.heap [] := va_S.rf
  have hD : va_D A (va_pl L f) := tp_D hL hAL
  have hfr : ∀ b, (K b).1 ∉ ([28, 29, 23, 24, 27, 30, 31, 32, 36] : List Nat) → f b = f b := fun _ _ => rfl
  have hl := lv_entry ([.ref o, .int p0]) (n := 3) (Nat.le_of_ble_eq_true rfl)
  rw [lg_entry_eq]
  generalize (lg_sl ([.ref o, .int p0]) ++ List.replicate (3 - (lg_sl ([.ref o, .int p0])).length) Slot.unset).toArray = ls at hl ⊢
  have hl : lv_has ls 3 [(0, .ref o), (1, .int p0)] := hl
  refine lv_iconst (v := 0) hx hb dX11_findDeeps_0 (by decide) ?_
  refine lv_istore_n (lv' := [(2, .int 0), (0, .ref o), (1, .int p0)]) hx hb dX11_findDeeps_1 rfl hl (by decide) rfl (fun ls hl => ?_)
  refine tq_start hP hS (fun H locs hP hS => ?_)
  refine tl_ind (G := fun H locs ls => W p l e ((headSpec (tl_w yX11_findDeeps cX11_findDeeps 3 none) ({ frames := 5, cells := 0, slots := 0, locals := 113 })).room) s m #[.ref o, .int p0] below meth c H locs 0 0 (MQ below (va_Qv (fun (u : Nat → va_E) => True) (tp_B D cy L K Γ f [28, 29, 23, 24, 27, 30, 31, 32, 36]) A) #[.ref o, .int p0] s 0 0 A) (F0 m 2 ls [])) (α := (Nat → va_E) × Int32) (fun aq => (24 - aq.2.toInt).toNat) (fun aq H locs ls => (0 ≤ aq.2.toInt) ∧ (aq.2.toInt ≤ 24) ∧ va_P D vwCl (va_pl L aq.1) H ∧ tp_I cy L K Γ aq.1 ∧ (∀ b, (K b).1 ∉ ([28, 29, 23, 24, 27, 30, 31, 32, 36] : List Nat) → aq.1 b = f b) ∧ va_S A s.heap H locs ∧ lv_has ls 3 [(2, .int aq.2), (0, .ref o), (1, .int p0)]) ?_ (f, (0 : Int32)) H locs ls ⟨(show 0 ≤ (0 : Int) from (by omega)), (show (0 : Int) ≤ 24 from (by omega)), hP, hI, hfr, hS, lv_sub hl [0, 1, 2] rfl⟩
  rintro ⟨f_1, v2⟩ H locs ls ⟨h0, h1, hP, hI, hfr, hS, hl⟩ ih2
  have hP : va_P D vwCl (va_pl L f_1) H := hP
  have hI : tp_I cy L K Γ f_1 := hI
  have hfr : ∀ b, (K b).1 ∉ ([28, 29, 23, 24, 27, 30, 31, 32, 36] : List Nat) → f_1 b = f b := hfr
  have hD : va_D A (va_pl L f_1) := tp_D hL hAL
  have h0 : 0 ≤ v2.toInt := h0
  have h1 : v2.toInt ≤ 24 := h1
  have hl : lv_has ls 3 [(2, .int v2), (0, .ref o), (1, .int p0)] := hl
  refine lv_iload_n hx hb dX11_findDeeps_2 rfl (lv_at hl 0 rfl) ?_
  refine lv_aload_n hx hb dX11_findDeeps_3 rfl (lv_at hl 1 rfl) ?_
  obtain ⟨x_3, x_4, x_5, x_6, x_7, x_8, x_9, x_10, x_11, x_12, x_13, x_14, x_15, x_16, x_17, x_18, hf_2, hx_3, hx_4, hx_5, hx_6, hx_7, hx_8, hx_9, hx_10, hx_11, hx_12, hx_13, hx_14, hx_15, hx_16, hx_17, hx_18⟩ := (show tp_o_X L K (0) 0 (Γ (0, 0, 0)) (f o) from hI0.at ho)
  refine tp_get (cy := cy) (ci := 11) (v := .ref x_3) (C := RX11) (T := TX11) (N := 16) hx hb hta inlX11 hown hK hP ho.1 ((tp_un hfr ho (by decide)).trans hf_2) rfl 0 (by decide) (hta _ wk_15) (fun _ h9 => h9) rfl dX11_findDeeps_4 ?_
  obtain ⟨x_20, x_21, x_22, x_23, x_24, x_25, x_26, x_27, x_28, hf_19, hx_20, hx_21, hx_22, hx_23, hx_24, hx_25, hx_26, hx_27, hx_28⟩ := (show tp_o_BOOK L K (0) 0 (Γ (1, 0, 0)) (f x_3) from hI0.at hx_3)
  refine tp_getN (cy := cy) (ci := 0) (v := .ref x_22) (C := RX0) (T := TX0) (N := 9) hx hb hta inlX0 hown hK hP hx_3.1 ((tp_un hfr hx_3 (by decide)).trans hf_19) rfl 2 (by decide) (va_Nw.use rfl (hN.1 20 _ nk_20)) (fun _ h9 => h9) rfl dX11_findDeeps_7 ?_
  obtain ⟨x_30, x_31, x_32, x_33, x_34, x_35, hf_29, hx_30, hx_32, hx_33, hx_34, hx_35⟩ := (show tp_o_ROWS L K (0) 0 (Γ (3, 0, 0)) (f x_22) from hI0.at hx_22)
  refine tp_getN (cy := cy) (ci := 4) (v := .int x_30) (C := RX4) (T := TX4) (N := 6) hx hb hta inlX4 hown hK hP hx_22.1 ((tp_un hfr hx_22 (by decide)).trans hf_29) rfl 0 (by decide) (va_Nw.use rfl (hN.1 2 _ nk_2)) (fun _ h9 => h9) rfl dX11_findDeeps_10 ?_
  refine lv_icmp_ge (tgt := 50) hx hb dX11_findDeeps_13 (by decide) (fun c_36 => ?_) (fun c_36 => ?_)
  · have c_36 : x_30.toInt ≤ v2.toInt := tl_le c_36
    exact W.vret hx hb hr (fun t ht hW => ⟨⟨f_1, rfl, trivial, by rw [ht]; exact hP, hI, hfr⟩, hS.F ht⟩) hS.2.2 dX11_findDeeps_50
  · have c_36 : v2.toInt < x_30.toInt := tl_nle c_36
    refine lv_aload_n hx hb dX11_findDeeps_16 rfl (lv_at hl 1 rfl) ?_
    refine tp_get (cy := cy) (ci := 11) (v := .ref x_14) (C := RX11) (T := TX11) (N := 16) hx hb hta inlX11 hown hK hP ho.1 ((tp_un hfr ho (by decide)).trans hf_2) rfl 11 (by decide) (hta _ wk_48) (fun _ h9 => h9) rfl dX11_findDeeps_17 ?_
    refine lv_iload_n hx hb dX11_findDeeps_20 rfl (lv_at hl 0 rfl) ?_
    refine lv_aload_n hx hb dX11_findDeeps_21 rfl (lv_at hl 1 rfl) ?_
    refine lv_iload_n hx hb dX11_findDeeps_22 rfl (lv_at hl 2 rfl) ?_
    refine lv_iload_n hx hb dX11_findDeeps_23 rfl (lv_at hl 0 rfl) ?_
    refine lv_iconst (v := (-1)) hx hb dX11_findDeeps_24 (by decide) ?_
    refine tq_ci hS (hAf _ hS.1) (tq_rV (As := [.int p0, .int v2, .int (-1)]) (rest := [.int v2, .ref x_14]) ⟨hx, hb, hml, hown, hta⟩ (tp_P.pre hK hN hL hU hI hP) (tp_recv hK hP ho.1 ((tp_un hfr ho (by decide)).trans hf_2) rfl) lk_X11_246 (t_X11_look l D cy H.size L K Γ f_1 o p0 v2 (-1) ho) rfl rfl ⟨Nat.le_of_ble_eq_true rfl, Nat.le_of_ble_eq_true rfl⟩ rfl hl.1 rfl (Nat.le_of_ble_eq_true rfl) dX11_findDeeps_25 ⟨Nat.le_of_ble_eq_true rfl, Nat.le_of_ble_eq_true rfl⟩) (fun r_38 f_39 H locs hw_37 hP hI hc_40 hS => ?_)
    have hD : va_D A (va_pl L f_39) := tp_D hL hAL
    have hfr := tp_fr2 hfr hc_40 (by decide)
    have hw_37 : tl_J r_38 (tv_gx f_1 f_39 o) := hw_37
    refine lv_if_eq (tgt := 41) hx hb dX11_findDeeps_28 (by decide) (fun c_41 => ?_) (fun c_41 => ?_)
    · have c_41 := c_41
      refine lv_ldc (v := (-1000000)) hx hb hown (hta _ wk_227) dX11_findDeeps_41 ?_
      obtain ⟨g_43, hf_42, hg_44⟩ := (show tp_ai cy 36 (24) (f_39 x_14) from hI.at hx_14)
      have hn_45 : vp_in v2 (24) := tl_in (by omega) (by omega)
      have hI9 : tp_I cy L K Γ (va_up f_39 x_14 (.inl (cy 0, 24, .inl (upd g_43 v2.toNatClampNeg (-1000000))))) := hI.set hx_14 (show tp_ai cy 36 (24) _ from ⟨_, rfl, tp_pi_upd hg_44 trivial⟩)
      have hfr9 : ∀ b, (K b).1 ∉ ([28, 29, 23, 24, 27, 30, 31, 32, 36] : List Nat) → va_up f_39 x_14 (.inl (cy 0, 24, .inl (upd g_43 v2.toNatClampNeg (-1000000)))) b = f b := tp_fr hfr hx_14 (by decide)
      refine tp_iast (cy := cy) hx hb hK hP hD hS hx_14.1 hf_42 hn_45 dX11_findDeeps_43 (fun H locs hP hD hS => ?_)
      have hP : va_P D vwCl (va_pl L (va_up f_39 x_14 (.inl (cy 0, 24, .inl (upd g_43 v2.toNatClampNeg (-1000000)))))) H := hP
      generalize hfe : va_up f_39 x_14 (.inl (cy 0, 24, .inl (upd g_43 v2.toNatClampNeg (-1000000)))) = f_46 at hP hI9 hfr9
      have hD : va_D A (va_pl L f_46) := tp_D hL hAL
      have hf_47 : f_46 x_14 = .inl (cy 0, 24, .inl (upd g_43 v2.toNatClampNeg (-1000000))) := by rw [← hfe]; exact va_up_self _ _ _
      clear hfe
      have hI := hI9
      have hfr := hfr9
      clear hI9 hfr9
      obtain ⟨z_48, ez_48⟩ : ∃ y : Int32, y = v2 + 1 := ⟨_, rfl⟩
      refine lv_iinc (v := z_48) (lv' := [(2, .int z_48), (0, .ref o), (1, .int p0)]) hx hb dX11_findDeeps_44 hl (k := 0) rfl (by rw [ez_48]; rfl) (by decide) rfl (fun ls hl => ?_)
      try have iz_48 : z_48.toInt = v2.toInt + 1 := by rw [ez_48]; exact tl_addL v2 1 (by decide) (by omega) (by omega)
      refine lv_goto (tgt := 2) hx hb dX11_findDeeps_47 (by decide) ?_
      exact ih2 (f_46, z_48) H locs ls (by show (24 - z_48.toInt).toNat < (24 - v2.toInt).toNat; omega) ⟨(show 0 ≤ z_48.toInt from (by omega)), (show z_48.toInt ≤ 24 from (by omega)), hP, hI, hfr, hS, lv_sub hl [0, 1, 2] rfl⟩
    · have c_41 := hw_37.t c_41
      refine lv_aload_n hx hb dX11_findDeeps_31 rfl (lv_at hl 1 rfl) ?_
      refine tp_get (cy := cy) (ci := 11) (v := .ref x_12) (C := RX11) (T := TX11) (N := 16) hx hb hta inlX11 hown hK hP ho.1 ((tp_un hfr ho (by decide)).trans hf_2) rfl 9 (by decide) (hta _ wk_42) (fun _ h9 => h9) rfl dX11_findDeeps_32 ?_
      obtain ⟨x_50, x_51, x_52, x_53, x_54, x_55, x_56, x_57, x_58, x_59, x_60, x_61, x_62, x_63, x_64, x_65, x_66, x_67, hf_49, hx_50, hx_51, hx_52, hx_53, hx_54, hx_55, hx_56, hx_57, hx_58, hx_60, hx_63⟩ := (show tp_o_VIEW L K (0) 0 (Γ (27, 0, 0)) (f_39 x_12) from hI.at hx_12)
      refine tl_si (tq_rVN hN (As := []) (rest := [.int v2, .ref x_14]) ⟨hx, hb, hml, hown, hta⟩ (tp_P.pre hK hN hL hU hI hP) (tp_recv hK hP hx_12.1 hf_49 rfl) lk_X11_264 (t_X10_deepness l D cy H.size L K Γ f_39 x_12 hx_12) rfl rfl ⟨Nat.le_of_ble_eq_true rfl, Nat.le_of_ble_eq_true rfl⟩ rfl hl.1 rfl (Nat.le_of_ble_eq_true rfl) dX11_findDeeps_35 ⟨Nat.le_of_ble_eq_true rfl, Nat.le_of_ble_eq_true rfl⟩) (fun r_69 hw_68 => ?_)
      refine lv_goto (tgt := 43) hx hb dX11_findDeeps_38 (by decide) ?_
      obtain ⟨g_71, hf_70, hg_72⟩ := (show tp_ai cy 36 (24) (f_39 x_14) from hI.at hx_14)
      have hn_73 : vp_in v2 (24) := tl_in (by omega) (by omega)
      have hI9 : tp_I cy L K Γ (va_up f_39 x_14 (.inl (cy 0, 24, .inl (upd g_71 v2.toNatClampNeg r_69)))) := hI.set hx_14 (show tp_ai cy 36 (24) _ from ⟨_, rfl, tp_pi_upd hg_72 trivial⟩)
      have hfr9 : ∀ b, (K b).1 ∉ ([28, 29, 23, 24, 27, 30, 31, 32, 36] : List Nat) → va_up f_39 x_14 (.inl (cy 0, 24, .inl (upd g_71 v2.toNatClampNeg r_69))) b = f b := tp_fr hfr hx_14 (by decide)
      refine tp_iast (cy := cy) hx hb hK hP hD hS hx_14.1 hf_70 hn_73 dX11_findDeeps_43 (fun H locs hP hD hS => ?_)
      have hP : va_P D vwCl (va_pl L (va_up f_39 x_14 (.inl (cy 0, 24, .inl (upd g_71 v2.toNatClampNeg r_69))))) H := hP
      generalize hfe : va_up f_39 x_14 (.inl (cy 0, 24, .inl (upd g_71 v2.toNatClampNeg r_69))) = f_74 at hP hI9 hfr9
      have hD : va_D A (va_pl L f_74) := tp_D hL hAL
      have hf_75 := (show f_74 x_12 = _ from by rw [← hfe, va_up_ne _ _ (tp_ne hx_12 hx_14 (by decide))]).trans hf_49
      have hf_76 : f_74 x_14 = .inl (cy 0, 24, .inl (upd g_71 v2.toNatClampNeg r_69)) := by rw [← hfe]; exact va_up_self _ _ _
      clear hfe
      have hI := hI9
      have hfr := hfr9
      clear hI9 hfr9
      obtain ⟨z_77, ez_77⟩ : ∃ y : Int32, y = v2 + 1 := ⟨_, rfl⟩
      refine lv_iinc (v := z_77) (lv' := [(2, .int z_77), (0, .ref o), (1, .int p0)]) hx hb dX11_findDeeps_44 hl (k := 0) rfl (by rw [ez_77]; rfl) (by decide) rfl (fun ls hl => ?_)
      try have iz_77 : z_77.toInt = v2.toInt + 1 := by rw [ez_77]; exact tl_addL v2 1 (by decide) (by omega) (by omega)
      refine lv_goto (tgt := 2) hx hb dX11_findDeeps_47 (by decide) ?_
      exact ih2 (f_74, z_77) H locs ls (by show (24 - z_77.toInt).toNat < (24 - v2.toInt).toNat; omega) ⟨(show 0 ≤ z_77.toInt from (by omega)), (show z_77.toInt ≤ 24 from (by omega)), hP, hI, hfr, hS, lv_sub hl [0, 1, 2] rfl⟩
set_option maxHeartbeats 4000000 in
set_option maxRecDepth 100000 in
theorem t_X11_isKnown (l : Launch) (D : va_G) (cy : Nat → ClassId) (sz : Nat) (L : List Nat) (K : Nat → tk_K) (Γ : tk_G) (f : Nat → va_E) (o : Nat) (p0 : Int32) (p1 : Int32) (ho : tp_r L K 0 (0) 0 o) (h0 : 0 ≤ p0.toInt ∧ p0.toInt < 24) : Met l yX11_isKnown (tl_w yX11_isKnown cX11_isKnown 3 (some .boolean)) ({ frames := 0, cells := 0, slots := 0, locals := 0 }) (va_Pc [.ref o, .int p0, .int p1] (tp_P D cy L K Γ f sz)) (vp_Si (fun r : Int32 => tl_J r (True))) 0 0 (fun _ => False) := by
  refine Met.ofW (cc := cX11_isKnown) (maxL := 3) (ret := (some .boolean)) (by decide) rfl ?_
  intro p e s m args below meth c s₁ B hml hv
  obtain ⟨rfl, hsz, hP, hK, hL, hI, hN, hU⟩ := hv
  have hx := B.exec
  have hb := B.bytes
  have hr := B.returns
  have hta := tl_hta (atoms_spec (ws := tl_w yX11_isKnown cX11_isKnown 3 (some .boolean)) B.pre)
  have hown : s.vm.findClass RX11 = some m.cls := findClass_of_methodNamed B.named
  have hlocks := B.notSynchronized
  subst hsz
  have hI0 := hI
  have hl := lv_entry ([.ref o, .int p0, .int p1]) (n := 3) (Nat.le_of_ble_eq_true rfl)
  rw [lg_entry_eq]
  generalize (lg_sl ([.ref o, .int p0, .int p1]) ++ List.replicate (3 - (lg_sl ([.ref o, .int p0, .int p1])).length) Slot.unset).toArray = ls at hl ⊢
  have hl : lv_has ls 3 [(0, .ref o), (1, .int p0), (2, .int p1)] := hl
  refine lv_aload_n hx hb dX11_isKnown_0 rfl (lv_at hl 0 rfl) ?_
  obtain ⟨x_2, x_3, x_4, x_5, x_6, x_7, x_8, x_9, x_10, x_11, x_12, x_13, x_14, x_15, x_16, x_17, hf_1, hx_2, hx_3, hx_4, hx_5, hx_6, hx_7, hx_8, hx_9, hx_10, hx_11, hx_12, hx_13, hx_14, hx_15, hx_16, hx_17⟩ := (show tp_o_X L K (0) 0 (Γ (0, 0, 0)) (f o) from hI0.at ho)
  refine tp_get (cy := cy) (ci := 11) (v := .ref x_2) (C := RX11) (T := TX11) (N := 16) hx hb hta inlX11 hown hK hP ho.1 hf_1 rfl 0 (by decide) (hta _ wk_15) (fun _ h9 => h9) rfl dX11_isKnown_1 ?_
  obtain ⟨x_19, x_20, x_21, x_22, x_23, x_24, x_25, x_26, x_27, hf_18, hx_19, hx_20, hx_21, hx_22, hx_23, hx_24, hx_25, hx_26, hx_27⟩ := (show tp_o_BOOK L K (0) 0 (Γ (1, 0, 0)) (f x_2) from hI0.at hx_2)
  refine tp_getN (cy := cy) (ci := 0) (v := .ref x_21) (C := RX0) (T := TX0) (N := 9) hx hb hta inlX0 hown hK hP hx_2.1 hf_18 rfl 2 (by decide) (va_Nw.use rfl (hN.1 20 _ nk_20)) (fun _ h9 => h9) rfl dX11_isKnown_4 ?_
  obtain ⟨x_29, x_30, x_31, x_32, x_33, x_34, hf_28, hx_29, hx_31, hx_32, hx_33, hx_34⟩ := (show tp_o_ROWS L K (0) 0 (Γ (3, 0, 0)) (f x_21) from hI0.at hx_21)
  refine tp_getN (cy := cy) (ci := 4) (v := .ref x_33) (C := RX4) (T := TX4) (N := 6) hx hb hta inlX4 hown hK hP hx_21.1 hf_28 rfl 4 (by decide) (va_Nw.use rfl (hN.1 9 _ nk_9)) (fun _ h9 => h9) rfl dX11_isKnown_7 ?_
  refine lv_iload_n hx hb dX11_isKnown_10 rfl (lv_at hl 1 rfl) ?_
  obtain ⟨g_36, hf_35, hg_37⟩ := (show tp_ai cy 4 (24) (f x_33) from hI0.at hx_33)
  have hn_38 : vp_in p0 (24) := tl_in (by omega) (by omega)
  refine tp_iald (cy := cy) hx hb hK hP hx_33.1 hf_35 hn_38 dX11_isKnown_11 ?_
  refine lv_topi (fun z_39 ez_39 => ?_)
  refine lv_iload_n hx hb dX11_isKnown_12 rfl (lv_at hl 2 rfl) ?_
  refine lv_icmp_gt (tgt := 20) hx hb dX11_isKnown_13 (by decide) (fun c_40 => ?_) (fun c_40 => ?_)
  · have c_40 : p1.toInt < z_39.toInt := tl_lt c_40
    refine lv_iconst (v := 0) hx hb dX11_isKnown_20 (by decide) ?_
    exact W.zret (ty := .boolean) (v := 0) hx hb hr rfl (fun t ht hW => ⟨_, rfl, (Or.inr rfl), ht⟩) (fun q h => by cases h) dX11_isKnown_21
  · have c_40 : z_39.toInt ≤ p1.toInt := tl_nlt c_40
    refine lv_iconst (v := 1) hx hb dX11_isKnown_16 (by decide) ?_
    refine lv_goto (tgt := 21) hx hb dX11_isKnown_17 (by decide) ?_
    exact W.zret (ty := .boolean) (v := 1) hx hb hr rfl (fun t ht hW => ⟨_, rfl, (Or.inl ⟨rfl, trivial⟩), ht⟩) (fun q h => by cases h) dX11_isKnown_21
set_option maxHeartbeats 4000000 in
set_option maxRecDepth 100000 in
theorem t_X11_commonDivisor (l : Launch) (D : va_G) (cy : Nat → ClassId) (sz : Nat) (L : List Nat) (K : Nat → tk_K) (Γ : tk_G) (f : Nat → va_E) (p0 : Int32) (p1 : Int32)  : Met l yX11_commonDivisor (tl_w yX11_commonDivisor cX11_commonDivisor 6 (some .int)) ({ frames := 1, cells := 0, slots := 0, locals := 13 }) (va_Pc [.int p0, .int p1] (tp_P D cy L K Γ f sz)) (vp_Si (fun r : Int32 => True)) 0 0 (fun _ => False) := by
  refine Met.ofW (cc := cX11_commonDivisor) (maxL := 6) (ret := (some .int)) (by decide) rfl ?_
  intro p e s m args below meth c s₁ B hml hv
  obtain ⟨rfl, hsz, hP, hK, hL, hI, hN, hU⟩ := hv
  have hx := B.exec
  have hb := B.bytes
  have hr := B.returns
  have hta := tl_hta (atoms_spec (ws := tl_w yX11_commonDivisor cX11_commonDivisor 6 (some .int)) B.pre)
  have hown : s.vm.findClass RX11 = some m.cls := findClass_of_methodNamed B.named
  have hlocks := B.notSynchronized
  subst hsz
  have hI0 := hI
  have hl := lv_entry ([.int p0, .int p1]) (n := 6) (Nat.le_of_ble_eq_true rfl)
  rw [lg_entry_eq]
  generalize (lg_sl ([.int p0, .int p1]) ++ List.replicate (6 - (lg_sl ([.int p0, .int p1])).length) Slot.unset).toArray = ls at hl ⊢
  have hl : lv_has ls 6 [(0, .int p0), (1, .int p1)] := hl
  refine lv_iload_n hx hb dX11_commonDivisor_0 rfl (lv_at hl 0 rfl) ?_
  refine va_mabs hx hb (by rw [hml]; exact hl.1.symm) hown (hta _ wk_1019) (hta _ wk_888) (hta _ wk_83) (hta _ wk_889) (Nat.le_of_ble_eq_true rfl) (Nat.le_of_ble_eq_true rfl) (Nat.le_of_ble_eq_true rfl) (Nat.le_of_ble_eq_true rfl) dX11_commonDivisor_1 ?_
  refine lv_topi (fun z_1 ez_1 => ?_)
  have iz_1 : (z_1.toInt = p0.toInt ∧ 0 ≤ p0.toInt) ∨ (p0.toInt < 0 ∧ (z_1.toInt = -p0.toInt ∨ p0.toInt = -2147483648)) := by rw [ez_1]; exact tl_absF
  refine lv_istore_n (lv' := [(2, .int z_1), (0, .int p0), (1, .int p1)]) hx hb dX11_commonDivisor_4 rfl hl (by decide) rfl (fun ls hl => ?_)
  refine lv_iload_n hx hb dX11_commonDivisor_5 rfl (lv_at hl 2 rfl) ?_
  refine va_mabs hx hb (by rw [hml]; exact hl.1.symm) hown (hta _ wk_1019) (hta _ wk_888) (hta _ wk_83) (hta _ wk_889) (Nat.le_of_ble_eq_true rfl) (Nat.le_of_ble_eq_true rfl) (Nat.le_of_ble_eq_true rfl) (Nat.le_of_ble_eq_true rfl) dX11_commonDivisor_6 ?_
  refine lv_topi (fun z_2 ez_2 => ?_)
  have iz_2 : (z_2.toInt = p1.toInt ∧ 0 ≤ p1.toInt) ∨ (p1.toInt < 0 ∧ (z_2.toInt = -p1.toInt ∨ p1.toInt = -2147483648)) := by rw [ez_2]; exact tl_absF
  refine lv_istore_n (lv' := [(3, .int z_2), (2, .int z_1), (0, .int p0), (1, .int p1)]) hx hb dX11_commonDivisor_9 rfl hl (by decide) rfl (fun ls hl => ?_)
  refine lv_iconst (v := 0) hx hb dX11_commonDivisor_10 (by decide) ?_
  refine lv_istore (lv' := [(4, .int 0), (3, .int z_2), (2, .int z_1), (0, .int p0), (1, .int p1)]) hx hb dX11_commonDivisor_11 hl (by decide) rfl (fun ls hl => ?_)
  refine tl_indR (G := fun ls => W p l e ((headSpec (tl_w yX11_commonDivisor cX11_commonDivisor 6 (some .int)) ({ frames := 1, cells := 0, slots := 0, locals := 13 })).room) s m #[.int p0, .int p1] below meth c s.heap [] 0 0 (MQ below (vp_Si (fun r : Int32 => True)) #[.int p0, .int p1] s 0 0 (fun _ => False)) (F0 m 13 ls [])) (α := Int32 × Int32 × Int32) (fun aq => (100 - aq.1.toInt).toNat) (fun aq ls => (0 ≤ aq.1.toInt) ∧ (aq.1.toInt ≤ 100) ∧ lv_has ls 6 [(4, .int aq.1), (3, .int aq.2.1), (2, .int aq.2.2), (0, .int p0), (1, .int p1)]) ?_ ((0 : Int32), z_2, z_1) ls ⟨(show 0 ≤ (0 : Int) from (by omega)), (show (0 : Int) ≤ 100 from (by omega)), lv_sub hl [0, 1, 2, 3, 4] rfl⟩
  rintro ⟨v4, v3, v2⟩ ls ⟨h0, h1, hl⟩ ih13
  have h0 : 0 ≤ v4.toInt := h0
  have h1 : v4.toInt ≤ 100 := h1
  have hl : lv_has ls 6 [(4, .int v4), (3, .int v3), (2, .int v2), (0, .int p0), (1, .int p1)] := hl
  refine lv_iload_n hx hb dX11_commonDivisor_13 rfl (lv_at hl 1 rfl) ?_
  refine lv_if_eq (tgt := 40) hx hb dX11_commonDivisor_14 (by decide) (fun c_3 => ?_) (fun c_3 => ?_)
  · have c_3 : v3.toInt = (0 : Int) := tl_eq c_3
    refine lv_iload_n hx hb dX11_commonDivisor_40 rfl (lv_at hl 2 rfl) ?_
    exact W.iret (v := v2) hx hb hr (fun t ht hW => ⟨_, rfl, trivial, ht⟩) (fun q h => by cases h) dX11_commonDivisor_41
  · have c_3 : ¬ v3.toInt = (0 : Int) := tl_neq c_3
    refine lv_iload hx hb dX11_commonDivisor_17 (lv_at hl 0 rfl) ?_
    refine lv_bipush (v := 100) hx hb dX11_commonDivisor_19 (by decide) ?_
    refine lv_icmp_ge (tgt := 40) hx hb dX11_commonDivisor_21 (by decide) (fun c_4 => ?_) (fun c_4 => ?_)
    · have c_4 : (100 : Int) ≤ v4.toInt := tl_le c_4
      refine lv_iload_n hx hb dX11_commonDivisor_40 rfl (lv_at hl 2 rfl) ?_
      exact W.iret (v := v2) hx hb hr (fun t ht hW => ⟨_, rfl, trivial, ht⟩) (fun q h => by cases h) dX11_commonDivisor_41
    · have c_4 : v4.toInt < (100 : Int) := tl_nle c_4
      refine lv_iload_n hx hb dX11_commonDivisor_24 rfl (lv_at hl 2 rfl) ?_
      refine lv_iload_n hx hb dX11_commonDivisor_25 rfl (lv_at hl 1 rfl) ?_
      refine lv_irem hx hb dX11_commonDivisor_26 (tl_ne0 (by omega)) ?_
      refine lv_topi (fun z_5 ez_5 => ?_)
      try have iz_5 := tl_iremB ez_5 (by omega) (by omega)
      refine lv_istore (lv' := [(5, .int z_5), (4, .int v4), (3, .int v3), (2, .int v2), (0, .int p0), (1, .int p1)]) hx hb dX11_commonDivisor_27 hl (by decide) rfl (fun ls hl => ?_)
      refine lv_iload_n hx hb dX11_commonDivisor_29 rfl (lv_at hl 2 rfl) ?_
      refine lv_istore_n (lv' := [(2, .int v3), (5, .int z_5), (4, .int v4), (3, .int v3), (0, .int p0), (1, .int p1)]) hx hb dX11_commonDivisor_30 rfl hl (by decide) rfl (fun ls hl => ?_)
      refine lv_iload hx hb dX11_commonDivisor_31 (lv_at hl 1 rfl) ?_
      refine lv_istore_n (lv' := [(3, .int z_5), (2, .int v3), (5, .int z_5), (4, .int v4), (0, .int p0), (1, .int p1)]) hx hb dX11_commonDivisor_33 rfl hl (by decide) rfl (fun ls hl => ?_)
      obtain ⟨z_6, ez_6⟩ : ∃ y : Int32, y = v4 + 1 := ⟨_, rfl⟩
      refine lv_iinc (v := z_6) (lv' := [(4, .int z_6), (3, .int z_5), (2, .int v3), (5, .int z_5), (0, .int p0), (1, .int p1)]) hx hb dX11_commonDivisor_34 hl (k := 3) rfl (by rw [ez_6]; rfl) (by decide) rfl (fun ls hl => ?_)
      try have iz_6 : z_6.toInt = v4.toInt + 1 := by rw [ez_6]; exact tl_addL v4 1 (by decide) (by omega) (by omega)
      refine lv_goto (tgt := 13) hx hb dX11_commonDivisor_37 (by decide) ?_
      exact ih13 (z_6, z_5, v3) ls (by show (100 - z_6.toInt).toNat < (100 - v4.toInt).toNat; omega) ⟨(show 0 ≤ z_6.toInt from (by omega)), (show z_6.toInt ≤ 100 from (by omega)), lv_sub hl [0, 1, 2, 4, 5] rfl⟩
set_option maxHeartbeats 4000000 in
set_option maxRecDepth 100000 in
theorem t_X11_together (l : Launch) (D : va_G) (cy : Nat → ClassId) (sz : Nat) (L : List Nat) (K : Nat → tk_K) (Γ : tk_G) (f : Nat → va_E) (o : Nat) (p0 : Int32) (p1 : Int32) (p2 : Int32) (p3 : Int32) (ho : tp_r L K 0 (0) 0 o) : Met l yX11_together (tl_w yX11_together cX11_together 9 (some .int)) ({ frames := 6, cells := 0, slots := 0, locals := 135 }) (va_Pc [.ref o, .int p0, .int p1, .int p2, .int p3] (tp_P D cy L K Γ f sz)) (va_Qi (fun (r : Int32) (u : Nat → va_E) => True) (tp_B D cy L K Γ f [28, 29, 23, 24, 27, 30, 31, 32, 36]) (tp_A L sz)) 0 0 (tp_A L sz) := by
  refine Met.ofW (cc := cX11_together) (maxL := 9) (ret := (some .int)) (by decide) rfl ?_
  intro p e s m args below meth c s₁ B hml hv
  obtain ⟨rfl, hsz, hP, hK, hL, hI, hN, hU⟩ := hv
  have hx := B.exec
  have hb := B.bytes
  have hr := B.returns
  have hta := tl_hta (atoms_spec (ws := tl_w yX11_together cX11_together 9 (some .int)) B.pre)
  have hown : s.vm.findClass RX11 = some m.cls := findClass_of_methodNamed B.named
  have hlocks := B.notSynchronized
  subst hsz
  have hI0 := hI
  generalize hAe : tp_A L s.heap.size = A
  have hA : ∀ q : Nat, s.heap.size ≤ q → A q := fun q h => by rw [← hAe]; exact Or.inr h
  have hAL : ∀ q ∈ L, A q := fun q h => by rw [← hAe]; exact Or.inl h
  have hAf : ∀ (H : Heap), s.heap.size ≤ H.size → ∀ q, tp_A L H.size q → A q := fun H h q hq => hq.elim (hAL q) (fun h2 => hA q (Nat.le_trans h h2))
  have hS : va_S A s.heap s.heap [] := va_S.rf
  have hD : va_D A (va_pl L f) := tp_D hL hAL
  have hfr : ∀ b, (K b).1 ∉ ([28, 29, 23, 24, 27, 30, 31, 32, 36] : List Nat) → f b = f b := fun _ _ => rfl
  have hl := lv_entry ([.ref o, .int p0, .int p1, .int p2, .int p3]) (n := 9) (Nat.le_of_ble_eq_true rfl)
  rw [lg_entry_eq]
  generalize (lg_sl ([.ref o, .int p0, .int p1, .int p2, .int p3]) ++ List.replicate (9 - (lg_sl ([.ref o, .int p0, .int p1, .int p2, .int p3])).length) Slot.unset).toArray = ls at hl ⊢
  have hl : lv_has ls 9 [(0, .ref o), (1, .int p0), (2, .int p1), (3, .int p2), (4, .int p3)] := hl
  refine lv_aload_n hx hb dX11_together_0 rfl (lv_at hl 0 rfl) ?_
  obtain ⟨x_2, x_3, x_4, x_5, x_6, x_7, x_8, x_9, x_10, x_11, x_12, x_13, x_14, x_15, x_16, x_17, hf_1, hx_2, hx_3, hx_4, hx_5, hx_6, hx_7, hx_8, hx_9, hx_10, hx_11, hx_12, hx_13, hx_14, hx_15, hx_16, hx_17⟩ := (show tp_o_X L K (0) 0 (Γ (0, 0, 0)) (f o) from hI0.at ho)
  refine tp_get (cy := cy) (ci := 11) (v := .ref x_5) (C := RX11) (T := TX11) (N := 16) hx hb hta inlX11 hown hK hP ho.1 hf_1 rfl 3 (by decide) (hta _ wk_21) (fun _ h9 => h9) rfl dX11_together_1 ?_
  refine lv_iload_n hx hb dX11_together_4 rfl (lv_at hl 1 rfl) ?_
  obtain ⟨x_19, x_20, hf_18, hx_19, hx_20⟩ := (show tp_o_TEXTS L K (8) 0 (Γ (13, 8, 0)) (f x_5) from hI0.at hx_5)
  refine tl_sq (tq_rVN hN (As := [.int p0]) (rest := []) ⟨hx, hb, hml, hown, hta⟩ (tp_P.pre hK hN hL hU hI hP) (tp_recv hK hP hx_5.1 hf_18 rfl) lk_X11_201 (t_X8_at l D cy s.heap.size L K Γ f 8 x_5 p0 hx_5 (by first | omega | (simp only [Int32.toInt_toInt64]; omega) | decide | assumption)) rfl rfl ⟨Nat.le_of_ble_eq_true rfl, Nat.le_of_ble_eq_true rfl⟩ rfl hl.1 rfl (Nat.le_of_ble_eq_true rfl) dX11_together_5 ⟨Nat.le_of_ble_eq_true rfl, Nat.le_of_ble_eq_true rfl⟩) (fun r_22 hw_21 => ?_)
  rcases r_22 with _ | b_23
  · refine W.eq (g2 := F0 m 8 ls ([.null])) (by rfl) ?_
    refine lv_ifnullN (tgt := 38) hx hb dX11_together_8 (by decide) ?_
    refine lv_ldcw (v := (-2000000000)) hx hb hown (hta _ wk_1157) dX11_together_38 ?_
    exact W.iret (v := (-2000000000)) hx hb hr (fun t ht hW => ⟨⟨_, f, rfl, trivial, by rw [ht]; exact hP, hI, hfr⟩, hS.F ht⟩) hS.2.2 dX11_together_41
  · have hb_23 := hw_21 _ rfl
    have hb_23 : tp_r L K 18 (0) 0 b_23 := hb_23
    refine W.eq (g2 := F0 m 8 ls ([.ref b_23])) (by rfl) ?_
    refine lv_ifnull hx hb dX11_together_8 ?_
    refine lv_iload_n hx hb dX11_together_11 rfl (lv_at hl 2 rfl) ?_
    refine lv_iconst (v := 1) hx hb dX11_together_12 (by decide) ?_
    refine lv_bipush (v := 15) hx hb dX11_together_13 (by decide) ?_
    refine tl_si (tq_rS (As := [.int p1, .int 1, .int 15]) (rest := []) ⟨hx, hb, hml, hown, hta⟩ (tp_P.pre hK hN hL hU hI hP) lk_X11_105 (t_X11_isIn l D cy s.heap.size L K Γ f p1 1 15 ) rfl rfl ⟨Nat.le_of_ble_eq_true rfl, Nat.le_of_ble_eq_true rfl⟩ rfl hl.1 rfl (Nat.le_of_ble_eq_true rfl) dX11_together_15 ⟨Nat.le_of_ble_eq_true rfl, Nat.le_of_ble_eq_true rfl⟩) (fun r_25 hw_24 => ?_)
    have hw_24 : tl_E r_25 ((1 : Int) ≤ p1.toInt ∧ p1.toInt ≤ (15 : Int)) 1 0 := hw_24
    refine lv_if_eq (tgt := 38) hx hb dX11_together_18 (by decide) (fun c_26 => ?_) (fun c_26 => ?_)
    · have c_26 := hw_24.f c_26
      refine lv_ldcw (v := (-2000000000)) hx hb hown (hta _ wk_1157) dX11_together_38 ?_
      exact W.iret (v := (-2000000000)) hx hb hr (fun t ht hW => ⟨⟨_, f, rfl, trivial, by rw [ht]; exact hP, hI, hfr⟩, hS.F ht⟩) hS.2.2 dX11_together_41
    · have c_26 := hw_24.t c_26
      refine lv_iload_n hx hb dX11_together_21 rfl (lv_at hl 3 rfl) ?_
      refine tl_si (tq_rS (As := [.int p2]) (rest := []) ⟨hx, hb, hml, hown, hta⟩ (tp_P.pre hK hN hL hU hI hP) lk_X11_94 (t_X11_isWeek l D cy s.heap.size L K Γ f p2 ) rfl rfl ⟨Nat.le_of_ble_eq_true rfl, Nat.le_of_ble_eq_true rfl⟩ rfl hl.1 rfl (Nat.le_of_ble_eq_true rfl) dX11_together_22 ⟨Nat.le_of_ble_eq_true rfl, Nat.le_of_ble_eq_true rfl⟩) (fun r_28 hw_27 => ?_)
      have hw_27 : tl_E r_28 (0 ≤ p2.toInt ∧ p2.toInt ≤ 399) 1 0 := hw_27
      refine lv_if_eq (tgt := 38) hx hb dX11_together_25 (by decide) (fun c_29 => ?_) (fun c_29 => ?_)
      · have c_29 := hw_27.f c_29
        refine lv_ldcw (v := (-2000000000)) hx hb hown (hta _ wk_1157) dX11_together_38 ?_
        exact W.iret (v := (-2000000000)) hx hb hr (fun t ht hW => ⟨⟨_, f, rfl, trivial, by rw [ht]; exact hP, hI, hfr⟩, hS.F ht⟩) hS.2.2 dX11_together_41
      · have c_29 := hw_27.t c_29
        refine lv_iload hx hb dX11_together_28 (lv_at hl 4 rfl) ?_
        refine lv_iconst (v := 0) hx hb dX11_together_30 (by decide) ?_
        refine lv_iconst (v := 2) hx hb dX11_together_31 (by decide) ?_
        refine tl_si (tq_rS (As := [.int p3, .int 0, .int 2]) (rest := []) ⟨hx, hb, hml, hown, hta⟩ (tp_P.pre hK hN hL hU hI hP) lk_X11_105 (t_X11_isIn l D cy s.heap.size L K Γ f p3 0 2 ) rfl rfl ⟨Nat.le_of_ble_eq_true rfl, Nat.le_of_ble_eq_true rfl⟩ rfl hl.1 rfl (Nat.le_of_ble_eq_true rfl) dX11_together_32 ⟨Nat.le_of_ble_eq_true rfl, Nat.le_of_ble_eq_true rfl⟩) (fun r_31 hw_30 => ?_)
        have hw_30 : tl_E r_31 ((0 : Int) ≤ p3.toInt ∧ p3.toInt ≤ (2 : Int)) 1 0 := hw_30
        refine lv_if_ne (tgt := 42) hx hb dX11_together_35 (by decide) (fun c_32 => ?_) (fun c_32 => ?_)
        · have c_32 := hw_30.t c_32
          refine lv_aload_n hx hb dX11_together_42 rfl (lv_at hl 0 rfl) ?_
          refine lv_iload_n hx hb dX11_together_43 rfl (lv_at hl 1 rfl) ?_
          refine tq_cv hS (hAf _ hS.1) (tq_rV (As := [.int p0]) (rest := []) ⟨hx, hb, hml, hown, hta⟩ (tp_P.pre hK hN hL hU hI hP) (tp_recv hK hP ho.1 hf_1 rfl) lk_X11_369 (t_X11_findDeeps l D cy s.heap.size L K Γ f o p0 ho) rfl rfl ⟨Nat.le_of_ble_eq_true rfl, Nat.le_of_ble_eq_true rfl⟩ rfl hl.1 rfl (Nat.le_of_ble_eq_true rfl) dX11_together_44 ⟨Nat.le_of_ble_eq_true rfl, Nat.le_of_ble_eq_true rfl⟩) (fun f_35 H locs hw_33 hP hI hc_36 hS => ?_)
          have hD : va_D A (va_pl L f_35) := tp_D hL hAL
          have hfr := tp_fr2 hfr hc_36 (by decide)
          refine lv_iconst (v := 0) hx hb dX11_together_47 (by decide) ?_
          refine lv_istore (lv' := [(5, .int 0), (0, .ref o), (1, .int p0), (2, .int p1), (3, .int p2), (4, .int p3)]) hx hb dX11_together_48 hl (by decide) rfl (fun ls hl => ?_)
          refine lv_iconst (v := 0) hx hb dX11_together_50 (by decide) ?_
          refine lv_istore (lv' := [(6, .int 0), (5, .int 0), (0, .ref o), (1, .int p0), (2, .int p1), (3, .int p2), (4, .int p3)]) hx hb dX11_together_51 hl (by decide) rfl (fun ls hl => ?_)
          refine lv_iconst (v := 0) hx hb dX11_together_53 (by decide) ?_
          refine lv_istore (lv' := [(7, .int 0), (6, .int 0), (5, .int 0), (0, .ref o), (1, .int p0), (2, .int p1), (3, .int p2), (4, .int p3)]) hx hb dX11_together_54 hl (by decide) rfl (fun ls hl => ?_)
          refine tl_ind (G := fun H locs ls => W p l e ((headSpec (tl_w yX11_together cX11_together 9 (some .int)) ({ frames := 6, cells := 0, slots := 0, locals := 135 })).room) s m #[.ref o, .int p0, .int p1, .int p2, .int p3] below meth c H locs 0 0 (MQ below (va_Qi (fun (r : Int32) (u : Nat → va_E) => True) (tp_B D cy L K Γ f [28, 29, 23, 24, 27, 30, 31, 32, 36]) A) #[.ref o, .int p0, .int p1, .int p2, .int p3] s 0 0 A) (F0 m 56 ls [])) (α := (Nat → va_E) × Int32 × Int32 × Int32) (fun aq => (24 - aq.2.1.toInt).toNat) (fun aq H locs ls => (0 ≤ aq.2.1.toInt) ∧ (aq.2.1.toInt ≤ 24) ∧ va_P D vwCl (va_pl L aq.1) H ∧ tp_I cy L K Γ aq.1 ∧ (∀ b, (K b).1 ∉ ([28, 29, 23, 24, 27, 30, 31, 32, 36] : List Nat) → aq.1 b = f b) ∧ va_S A s.heap H locs ∧ lv_has ls 9 [(7, .int aq.2.1), (6, .int aq.2.2.1), (5, .int aq.2.2.2), (0, .ref o), (1, .int p0), (2, .int p1), (3, .int p2), (4, .int p3)]) ?_ (f_35, (0 : Int32), (0 : Int32), (0 : Int32)) H locs ls ⟨(show 0 ≤ (0 : Int) from (by omega)), (show (0 : Int) ≤ 24 from (by omega)), hP, hI, hfr, hS, lv_sub hl [0, 1, 2, 3, 4, 5, 6, 7] rfl⟩
          rintro ⟨f_37, v7, v6, v5⟩ H locs ls ⟨h0, h1, hP, hI, hfr, hS, hl⟩ ih56
          have hP : va_P D vwCl (va_pl L f_37) H := hP
          have hI : tp_I cy L K Γ f_37 := hI
          have hfr : ∀ b, (K b).1 ∉ ([28, 29, 23, 24, 27, 30, 31, 32, 36] : List Nat) → f_37 b = f b := hfr
          have hD : va_D A (va_pl L f_37) := tp_D hL hAL
          have h0 : 0 ≤ v7.toInt := h0
          have h1 : v7.toInt ≤ 24 := h1
          have hl : lv_has ls 9 [(7, .int v7), (6, .int v6), (5, .int v5), (0, .ref o), (1, .int p0), (2, .int p1), (3, .int p2), (4, .int p3)] := hl
          refine lv_iload hx hb dX11_together_56 (lv_at hl 0 rfl) ?_
          refine lv_aload_n hx hb dX11_together_58 rfl (lv_at hl 3 rfl) ?_
          refine tp_get (cy := cy) (ci := 11) (v := .ref x_2) (C := RX11) (T := TX11) (N := 16) hx hb hta inlX11 hown hK hP ho.1 ((tp_un hfr ho (by decide)).trans hf_1) rfl 0 (by decide) (hta _ wk_15) (fun _ h9 => h9) rfl dX11_together_59 ?_
          obtain ⟨x_39, x_40, x_41, x_42, x_43, x_44, x_45, x_46, x_47, hf_38, hx_39, hx_40, hx_41, hx_42, hx_43, hx_44, hx_45, hx_46, hx_47⟩ := (show tp_o_BOOK L K (0) 0 (Γ (1, 0, 0)) (f x_2) from hI0.at hx_2)
          refine tp_getN (cy := cy) (ci := 0) (v := .ref x_41) (C := RX0) (T := TX0) (N := 9) hx hb hta inlX0 hown hK hP hx_2.1 ((tp_un hfr hx_2 (by decide)).trans hf_38) rfl 2 (by decide) (va_Nw.use rfl (hN.1 20 _ nk_20)) (fun _ h9 => h9) rfl dX11_together_62 ?_
          obtain ⟨x_49, x_50, x_51, x_52, x_53, x_54, hf_48, hx_49, hx_51, hx_52, hx_53, hx_54⟩ := (show tp_o_ROWS L K (0) 0 (Γ (3, 0, 0)) (f x_41) from hI0.at hx_41)
          refine tp_getN (cy := cy) (ci := 4) (v := .int x_49) (C := RX4) (T := TX4) (N := 6) hx hb hta inlX4 hown hK hP hx_41.1 ((tp_un hfr hx_41 (by decide)).trans hf_48) rfl 0 (by decide) (va_Nw.use rfl (hN.1 2 _ nk_2)) (fun _ h9 => h9) rfl dX11_together_65 ?_
          refine lv_icmp_ge (tgt := 147) hx hb dX11_together_68 (by decide) (fun c_55 => ?_) (fun c_55 => ?_)
          · have c_55 : x_49.toInt ≤ v7.toInt := tl_le c_55
            refine lv_iconst (v := 1) hx hb dX11_together_147 (by decide) ?_
            refine lv_iload hx hb dX11_together_148 (lv_at hl 2 rfl) ?_
            refine lv_iload hx hb dX11_together_150 (lv_at hl 1 rfl) ?_
            refine tl_si (tq_rS (As := [.int v5, .int v6]) (rest := [.int 1]) ⟨hx, hb, hml, hown, hta⟩ (tp_P.pre hK hN hL hU hI hP) lk_X11_375 (t_X11_commonDivisor l D cy H.size L K Γ f_37 v5 v6 ) rfl rfl ⟨Nat.le_of_ble_eq_true rfl, Nat.le_of_ble_eq_true rfl⟩ rfl hl.1 rfl (Nat.le_of_ble_eq_true rfl) dX11_together_152 ⟨Nat.le_of_ble_eq_true rfl, Nat.le_of_ble_eq_true rfl⟩) (fun r_57 hw_56 => ?_)
            refine va_mmax hx hb (by rw [hml]; exact hl.1.symm) hown (hta _ wk_1069) (hta _ wk_82) (hta _ wk_83) (hta _ wk_84) (Nat.le_of_ble_eq_true rfl) (Nat.le_of_ble_eq_true rfl) (Nat.le_of_ble_eq_true rfl) (Nat.le_of_ble_eq_true rfl) dX11_together_155 ?_
            refine lv_topi (fun z_58 ez_58 => ?_)
            have iz_58 : (z_58.toInt = r_57.toInt ∧ (1 : Int) ≤ r_57.toInt) ∨ (z_58.toInt = (1 : Int) ∧ r_57.toInt ≤ (1 : Int)) := by rw [ez_58]; exact tl_maxF
            refine lv_istore (lv' := [(7, .int z_58), (6, .int v6), (5, .int v5), (0, .ref o), (1, .int p0), (2, .int p1), (3, .int p2), (4, .int p3)]) hx hb dX11_together_158 hl (by decide) rfl (fun ls hl => ?_)
            refine lv_iload hx hb dX11_together_160 (lv_at hl 7 rfl) ?_
            rcases (show p3.toInt = 0 ∨ p3.toInt = 1 ∨ (¬ p3.toInt = 0 ∧ ¬ p3.toInt = 1) by omega) with c_59 | c_59 | c_59
            · refine lv_lookup (tgt := 188) (off := 26) hx hb dX11_together_162 (by decide) (by rw [c_59] <;> rfl) (by decide) ?_
              refine lv_iload hx hb dX11_together_188 (lv_at hl 2 rfl) ?_
              refine lv_iload hx hb dX11_together_190 (lv_at hl 0 rfl) ?_
              refine lv_idiv hx hb dX11_together_192 (tl_ne0 (by omega)) ?_
              refine lv_topi (fun z_60 ez_60 => ?_)
              exact W.iret (v := z_60) hx hb hr (fun t ht hW => ⟨⟨_, f_37, rfl, trivial, by rw [ht]; exact hP, hI, hfr⟩, hS.F ht⟩) hS.2.2 dX11_together_193
            · refine lv_lookup (tgt := 194) (off := 32) hx hb dX11_together_162 (by decide) (by rw [c_59] <;> rfl) (by decide) ?_
              refine lv_iload hx hb dX11_together_194 (lv_at hl 1 rfl) ?_
              refine lv_iload hx hb dX11_together_196 (lv_at hl 0 rfl) ?_
              refine lv_idiv hx hb dX11_together_198 (tl_ne0 (by omega)) ?_
              refine lv_topi (fun z_61 ez_61 => ?_)
              exact W.iret (v := z_61) hx hb hr (fun t ht hW => ⟨⟨_, f_37, rfl, trivial, by rw [ht]; exact hP, hI, hfr⟩, hS.F ht⟩) hS.2.2 dX11_together_199
            · refine lv_lookup (tgt := 200) (off := 38) hx hb dX11_together_162 (by decide) (by show Op.lookupswitch.offset [(0, 26), (1, 32)] (38) _ = _; simp only [Op.lookupswitch.offset]; repeat rw [if_neg (by omega)]) (by decide) ?_
              refine lv_iload hx hb dX11_together_200 (lv_at hl 1 rfl) ?_
              exact W.iret (v := v6) hx hb hr (fun t ht hW => ⟨⟨_, f_37, rfl, trivial, by rw [ht]; exact hP, hI, hfr⟩, hS.F ht⟩) hS.2.2 dX11_together_202
          · have c_55 : v7.toInt < x_49.toInt := tl_nle c_55
            refine lv_iload_n hx hb dX11_together_71 rfl (lv_at hl 5 rfl) ?_
            refine lv_aload_n hx hb dX11_together_72 rfl (lv_at hl 3 rfl) ?_
            refine tp_get (cy := cy) (ci := 11) (v := .ref x_2) (C := RX11) (T := TX11) (N := 16) hx hb hta inlX11 hown hK hP ho.1 ((tp_un hfr ho (by decide)).trans hf_1) rfl 0 (by decide) (hta _ wk_15) (fun _ h9 => h9) rfl dX11_together_73 ?_
            refine tp_getN (cy := cy) (ci := 0) (v := .ref x_41) (C := RX0) (T := TX0) (N := 9) hx hb hta inlX0 hown hK hP hx_2.1 ((tp_un hfr hx_2 (by decide)).trans hf_38) rfl 2 (by decide) (va_Nw.use rfl (hN.1 20 _ nk_20)) (fun _ h9 => h9) rfl dX11_together_76 ?_
            refine tp_getN (cy := cy) (ci := 4) (v := .ref x_51) (C := RX4) (T := TX4) (N := 6) hx hb hta inlX4 hown hK hP hx_41.1 ((tp_un hfr hx_41 (by decide)).trans hf_48) rfl 2 (by decide) (va_Nw.use rfl (hN.1 5 _ nk_5)) (fun _ h9 => h9) rfl dX11_together_79 ?_
            refine lv_iload hx hb dX11_together_82 (lv_at hl 0 rfl) ?_
            obtain ⟨g_63, hf_62, hg_64⟩ := (show tp_ai cy 4 (24) (f x_51) from hI0.at hx_51)
            have hn_65 : vp_in v7 (24) := tl_in (by omega) (by omega)
            refine tp_iald (cy := cy) hx hb hK hP hx_51.1 ((tp_un hfr hx_51 (by decide)).trans hf_62) hn_65 dX11_together_84 ?_
            refine lv_topi (fun z_66 ez_66 => ?_)
            refine lv_ishr hx hb dX11_together_85 ?_
            refine lv_topi (fun z_67 ez_67 => ?_)
            refine lv_iconst (v := 1) hx hb dX11_together_86 (by decide) ?_
            refine lv_iand hx hb dX11_together_87 ?_
            refine lv_topi (fun z_68 ez_68 => ?_)
            refine lv_iconst (v := 1) hx hb dX11_together_88 (by decide) ?_
            refine lv_icmp_ne (tgt := 96) hx hb dX11_together_89 (by decide) (fun c_69 => ?_) (fun c_69 => ?_)
            · have c_69 : ¬ z_68.toInt = (1 : Int) := tl_neq c_69
              refine lv_iconst (v := 0) hx hb dX11_together_96 (by decide) ?_
              refine lv_istore (lv' := [(8, .int 0), (7, .int v7), (6, .int v6), (5, .int v5), (0, .ref o), (1, .int p0), (2, .int p1), (3, .int p2), (4, .int p3)]) hx hb dX11_together_97 hl (by decide) rfl (fun ls hl => ?_)
              refine lv_iload hx hb dX11_together_99 (lv_at hl 0 rfl) ?_
              refine lv_if_eq (tgt := 141) hx hb dX11_together_101 (by decide) (fun _ => ?_) (fun c => absurd c (by decide))
              obtain ⟨z_70, ez_70⟩ : ∃ y : Int32, y = v7 + 1 := ⟨_, rfl⟩
              refine lv_iinc (v := z_70) (lv' := [(7, .int z_70), (8, .int 0), (6, .int v6), (5, .int v5), (0, .ref o), (1, .int p0), (2, .int p1), (3, .int p2), (4, .int p3)]) hx hb dX11_together_141 hl (k := 1) rfl (by rw [ez_70]; rfl) (by decide) rfl (fun ls hl => ?_)
              try have iz_70 : z_70.toInt = v7.toInt + 1 := by rw [ez_70]; exact tl_addL v7 1 (by decide) (by omega) (by omega)
              refine lv_goto (tgt := 56) hx hb dX11_together_144 (by decide) ?_
              exact ih56 (f_37, z_70, v6, v5) H locs ls (by show (24 - z_70.toInt).toNat < (24 - v7.toInt).toNat; omega) ⟨(show 0 ≤ z_70.toInt from (by omega)), (show z_70.toInt ≤ 24 from (by omega)), hP, hI, hfr, hS, lv_sub hl [0, 2, 3, 4, 5, 6, 7, 8] rfl⟩
            · have c_69 : z_68.toInt = (1 : Int) := tl_eq c_69
              refine lv_iconst (v := 1) hx hb dX11_together_92 (by decide) ?_
              refine lv_goto (tgt := 97) hx hb dX11_together_93 (by decide) ?_
              refine lv_istore (lv' := [(8, .int 1), (7, .int v7), (6, .int v6), (5, .int v5), (0, .ref o), (1, .int p0), (2, .int p1), (3, .int p2), (4, .int p3)]) hx hb dX11_together_97 hl (by decide) rfl (fun ls hl => ?_)
              refine lv_iload hx hb dX11_together_99 (lv_at hl 0 rfl) ?_
              refine lv_if_eq (tgt := 141) hx hb dX11_together_101 (by decide) (fun c => absurd c (by decide)) (fun _ => ?_)
              refine lv_aload_n hx hb dX11_together_104 rfl (lv_at hl 4 rfl) ?_
              refine lv_iload hx hb dX11_together_105 (lv_at hl 1 rfl) ?_
              refine lv_iload_n hx hb dX11_together_107 rfl (lv_at hl 7 rfl) ?_
              refine tl_si (tq_rV (As := [.int v7, .int p2]) (rest := []) ⟨hx, hb, hml, hown, hta⟩ (tp_P.pre hK hN hL hU hI hP) (tp_recv hK hP ho.1 ((tp_un hfr ho (by decide)).trans hf_1) rfl) lk_X11_372 (t_X11_isKnown l D cy H.size L K Γ f_37 o v7 p2 ho (by first | omega | (simp only [Int32.toInt_toInt64]; omega) | decide | assumption)) rfl rfl ⟨Nat.le_of_ble_eq_true rfl, Nat.le_of_ble_eq_true rfl⟩ rfl hl.1 rfl (Nat.le_of_ble_eq_true rfl) dX11_together_108 ⟨Nat.le_of_ble_eq_true rfl, Nat.le_of_ble_eq_true rfl⟩) (fun r_72 hw_71 => ?_)
              have hw_71 : tl_J r_72 (True) := hw_71
              refine lv_if_eq (tgt := 141) hx hb dX11_together_111 (by decide) (fun c_73 => ?_) (fun c_73 => ?_)
              · have c_73 := c_73
                obtain ⟨z_74, ez_74⟩ : ∃ y : Int32, y = v7 + 1 := ⟨_, rfl⟩
                refine lv_iinc (v := z_74) (lv' := [(7, .int z_74), (8, .int 1), (6, .int v6), (5, .int v5), (0, .ref o), (1, .int p0), (2, .int p1), (3, .int p2), (4, .int p3)]) hx hb dX11_together_141 hl (k := 1) rfl (by rw [ez_74]; rfl) (by decide) rfl (fun ls hl => ?_)
                try have iz_74 : z_74.toInt = v7.toInt + 1 := by rw [ez_74]; exact tl_addL v7 1 (by decide) (by omega) (by omega)
                refine lv_goto (tgt := 56) hx hb dX11_together_144 (by decide) ?_
                exact ih56 (f_37, z_74, v6, v5) H locs ls (by show (24 - z_74.toInt).toNat < (24 - v7.toInt).toNat; omega) ⟨(show 0 ≤ z_74.toInt from (by omega)), (show z_74.toInt ≤ 24 from (by omega)), hP, hI, hfr, hS, lv_sub hl [0, 2, 3, 4, 5, 6, 7, 8] rfl⟩
              · have c_73 := hw_71.t c_73
                refine lv_aload_n hx hb dX11_together_114 rfl (lv_at hl 4 rfl) ?_
                refine tp_get (cy := cy) (ci := 11) (v := .ref x_13) (C := RX11) (T := TX11) (N := 16) hx hb hta inlX11 hown hK hP ho.1 ((tp_un hfr ho (by decide)).trans hf_1) rfl 11 (by decide) (hta _ wk_48) (fun _ h9 => h9) rfl dX11_together_115 ?_
                refine lv_iload hx hb dX11_together_118 (lv_at hl 1 rfl) ?_
                obtain ⟨g_76, hf_75, hg_77⟩ := (show tp_ai cy 36 (24) (f_37 x_13) from hI.at hx_13)
                have hn_78 : vp_in v7 (24) := tl_in (by omega) (by omega)
                refine tp_iald (cy := cy) hx hb hK hP hx_13.1 hf_75 hn_78 dX11_together_120 ?_
                refine lv_topi (fun z_79 ez_79 => ?_)
                refine lv_ldc (v := (-1000000)) hx hb hown (hta _ wk_227) dX11_together_121 ?_
                refine lv_icmp_eq (tgt := 141) hx hb dX11_together_123 (by decide) (fun c_80 => ?_) (fun c_80 => ?_)
                · have c_80 : z_79.toInt = (-1000000 : Int) := tl_eq c_80
                  obtain ⟨z_81, ez_81⟩ : ∃ y : Int32, y = v7 + 1 := ⟨_, rfl⟩
                  refine lv_iinc (v := z_81) (lv' := [(7, .int z_81), (8, .int 1), (6, .int v6), (5, .int v5), (0, .ref o), (1, .int p0), (2, .int p1), (3, .int p2), (4, .int p3)]) hx hb dX11_together_141 hl (k := 1) rfl (by rw [ez_81]; rfl) (by decide) rfl (fun ls hl => ?_)
                  try have iz_81 : z_81.toInt = v7.toInt + 1 := by rw [ez_81]; exact tl_addL v7 1 (by decide) (by omega) (by omega)
                  refine lv_goto (tgt := 56) hx hb dX11_together_144 (by decide) ?_
                  exact ih56 (f_37, z_81, v6, v5) H locs ls (by show (24 - z_81.toInt).toNat < (24 - v7.toInt).toNat; omega) ⟨(show 0 ≤ z_81.toInt from (by omega)), (show z_81.toInt ≤ 24 from (by omega)), hP, hI, hfr, hS, lv_sub hl [0, 2, 3, 4, 5, 6, 7, 8] rfl⟩
                · have c_80 : ¬ z_79.toInt = (-1000000 : Int) := tl_neq c_80
                  refine lv_iload hx hb dX11_together_126 (lv_at hl 3 rfl) ?_
                  refine lv_aload_n hx hb dX11_together_128 rfl (lv_at hl 4 rfl) ?_
                  refine tp_get (cy := cy) (ci := 11) (v := .ref x_13) (C := RX11) (T := TX11) (N := 16) hx hb hta inlX11 hown hK hP ho.1 ((tp_un hfr ho (by decide)).trans hf_1) rfl 11 (by decide) (hta _ wk_48) (fun _ h9 => h9) rfl dX11_together_129 ?_
                  refine lv_iload hx hb dX11_together_132 (lv_at hl 1 rfl) ?_
                  have hn_82 : vp_in v7 (24) := tl_in (by omega) (by omega)
                  refine tp_iald (cy := cy) hx hb hK hP hx_13.1 hf_75 hn_82 dX11_together_134 ?_
                  refine lv_topi (fun z_83 ez_83 => ?_)
                  obtain rfl : z_79 = z_83 := ez_79.trans ez_83.symm
                  refine lv_iadd hx hb dX11_together_135 ?_
                  refine lv_topi (fun z_84 ez_84 => ?_)
                  try have iz_84 : z_84.toInt = v5.toInt + z_79.toInt := by rw [ez_84]; exact tl_addN v5 z_79 rfl rfl (by omega) (by omega)
                  refine lv_istore (lv' := [(5, .int z_84), (8, .int 1), (7, .int v7), (6, .int v6), (0, .ref o), (1, .int p0), (2, .int p1), (3, .int p2), (4, .int p3)]) hx hb dX11_together_136 hl (by decide) rfl (fun ls hl => ?_)
                  obtain ⟨z_85, ez_85⟩ : ∃ y : Int32, y = v6 + 1 := ⟨_, rfl⟩
                  refine lv_iinc (v := z_85) (lv' := [(6, .int z_85), (5, .int z_84), (8, .int 1), (7, .int v7), (0, .ref o), (1, .int p0), (2, .int p1), (3, .int p2), (4, .int p3)]) hx hb dX11_together_138 hl (k := 3) rfl (by rw [ez_85]; rfl) (by decide) rfl (fun ls hl => ?_)
                  try have iz_85 : z_85.toInt = v6.toInt + 1 := by rw [ez_85]; exact tl_addL v6 1 (by decide) (by omega) (by omega)
                  obtain ⟨z_86, ez_86⟩ : ∃ y : Int32, y = v7 + 1 := ⟨_, rfl⟩
                  refine lv_iinc (v := z_86) (lv' := [(7, .int z_86), (6, .int z_85), (5, .int z_84), (8, .int 1), (0, .ref o), (1, .int p0), (2, .int p1), (3, .int p2), (4, .int p3)]) hx hb dX11_together_141 hl (k := 3) rfl (by rw [ez_86]; rfl) (by decide) rfl (fun ls hl => ?_)
                  try have iz_86 : z_86.toInt = v7.toInt + 1 := by rw [ez_86]; exact tl_addL v7 1 (by decide) (by omega) (by omega)
                  refine lv_goto (tgt := 56) hx hb dX11_together_144 (by decide) ?_
                  exact ih56 (f_37, z_86, z_85, z_84) H locs ls (by show (24 - z_86.toInt).toNat < (24 - v7.toInt).toNat; omega) ⟨(show 0 ≤ z_86.toInt from (by omega)), (show z_86.toInt ≤ 24 from (by omega)), hP, hI, hfr, hS, lv_sub hl [0, 1, 2, 4, 5, 6, 7, 8] rfl⟩
        · have c_32 := hw_30.f c_32
          refine lv_ldcw (v := (-2000000000)) hx hb hown (hta _ wk_1157) dX11_together_38 ?_
          exact W.iret (v := (-2000000000)) hx hb hr (fun t ht hW => ⟨⟨_, f, rfl, trivial, by rw [ht]; exact hP, hI, hfr⟩, hS.F ht⟩) hS.2.2 dX11_together_41
set_option maxHeartbeats 4000000 in
set_option maxRecDepth 100000 in
theorem t_X11_isPair (l : Launch) (D : va_G) (cy : Nat → ClassId) (sz : Nat) (L : List Nat) (K : Nat → tk_K) (Γ : tk_G) (f : Nat → va_E) (o : Nat) (p0 : Int32) (p1 : Int32) (ho : tp_r L K 0 (0) 0 o) (h0 : 0 ≤ p0.toInt ∧ p0.toInt < 24) (h1 : 0 ≤ p1.toInt ∧ p1.toInt < 24) : Met l yX11_isPair (tl_w yX11_isPair cX11_isPair 5 (some .boolean)) ({ frames := 0, cells := 0, slots := 0, locals := 0 }) (va_Pc [.ref o, .int p0, .int p1] (tp_P D cy L K Γ f sz)) (vp_Si (fun r : Int32 => tl_J r (True))) 0 0 (fun _ => False) := by
  refine Met.ofW (cc := cX11_isPair) (maxL := 5) (ret := (some .boolean)) (by decide) rfl ?_
  intro p e s m args below meth c s₁ B hml hv
  obtain ⟨rfl, hsz, hP, hK, hL, hI, hN, hU⟩ := hv
  have hx := B.exec
  have hb := B.bytes
  have hr := B.returns
  have hta := tl_hta (atoms_spec (ws := tl_w yX11_isPair cX11_isPair 5 (some .boolean)) B.pre)
  have hown : s.vm.findClass RX11 = some m.cls := findClass_of_methodNamed B.named
  have hlocks := B.notSynchronized
  subst hsz
  have hI0 := hI
  have hl := lv_entry ([.ref o, .int p0, .int p1]) (n := 5) (Nat.le_of_ble_eq_true rfl)
  rw [lg_entry_eq]
  generalize (lg_sl ([.ref o, .int p0, .int p1]) ++ List.replicate (5 - (lg_sl ([.ref o, .int p0, .int p1])).length) Slot.unset).toArray = ls at hl ⊢
  have hl : lv_has ls 5 [(0, .ref o), (1, .int p0), (2, .int p1)] := hl
  refine lv_aload_n hx hb dX11_isPair_0 rfl (lv_at hl 0 rfl) ?_
  obtain ⟨x_2, x_3, x_4, x_5, x_6, x_7, x_8, x_9, x_10, x_11, x_12, x_13, x_14, x_15, x_16, x_17, hf_1, hx_2, hx_3, hx_4, hx_5, hx_6, hx_7, hx_8, hx_9, hx_10, hx_11, hx_12, hx_13, hx_14, hx_15, hx_16, hx_17⟩ := (show tp_o_X L K (0) 0 (Γ (0, 0, 0)) (f o) from hI0.at ho)
  refine tp_get (cy := cy) (ci := 11) (v := .ref x_2) (C := RX11) (T := TX11) (N := 16) hx hb hta inlX11 hown hK hP ho.1 hf_1 rfl 0 (by decide) (hta _ wk_15) (fun _ h9 => h9) rfl dX11_isPair_1 ?_
  obtain ⟨x_19, x_20, x_21, x_22, x_23, x_24, x_25, x_26, x_27, hf_18, hx_19, hx_20, hx_21, hx_22, hx_23, hx_24, hx_25, hx_26, hx_27⟩ := (show tp_o_BOOK L K (0) 0 (Γ (1, 0, 0)) (f x_2) from hI0.at hx_2)
  refine tp_getN (cy := cy) (ci := 0) (v := .ref x_21) (C := RX0) (T := TX0) (N := 9) hx hb hta inlX0 hown hK hP hx_2.1 hf_18 rfl 2 (by decide) (va_Nw.use rfl (hN.1 20 _ nk_20)) (fun _ h9 => h9) rfl dX11_isPair_4 ?_
  refine lv_astore_n (lv' := [(3, .ref x_21), (0, .ref o), (1, .int p0), (2, .int p1)]) hx hb dX11_isPair_7 rfl hl (by decide) rfl (fun ls hl => ?_)
  refine lv_aload_n hx hb dX11_isPair_8 rfl (lv_at hl 0 rfl) ?_
  obtain ⟨x_29, x_30, x_31, x_32, x_33, x_34, hf_28, hx_29, hx_31, hx_32, hx_33, hx_34⟩ := (show tp_o_ROWS L K (0) 0 (Γ (3, 0, 0)) (f x_21) from hI0.at hx_21)
  refine tp_getN (cy := cy) (ci := 4) (v := .ref x_31) (C := RX4) (T := TX4) (N := 6) hx hb hta inlX4 hown hK hP hx_21.1 hf_28 rfl 2 (by decide) (va_Nw.use rfl (hN.1 5 _ nk_5)) (fun _ h9 => h9) rfl dX11_isPair_9 ?_
  refine lv_iload_n hx hb dX11_isPair_12 rfl (lv_at hl 2 rfl) ?_
  obtain ⟨g_36, hf_35, hg_37⟩ := (show tp_ai cy 4 (24) (f x_31) from hI0.at hx_31)
  have hn_38 : vp_in p0 (24) := tl_in (by omega) (by omega)
  refine tp_iald (cy := cy) hx hb hK hP hx_31.1 hf_35 hn_38 dX11_isPair_13 ?_
  refine lv_topi (fun z_39 ez_39 => ?_)
  refine lv_aload_n hx hb dX11_isPair_14 rfl (lv_at hl 0 rfl) ?_
  refine tp_getN (cy := cy) (ci := 4) (v := .ref x_31) (C := RX4) (T := TX4) (N := 6) hx hb hta inlX4 hown hK hP hx_21.1 hf_28 rfl 2 (by decide) (va_Nw.use rfl (hN.1 5 _ nk_5)) (fun _ h9 => h9) rfl dX11_isPair_15 ?_
  refine lv_iload_n hx hb dX11_isPair_18 rfl (lv_at hl 3 rfl) ?_
  have hn_40 : vp_in p1 (24) := tl_in (by omega) (by omega)
  refine tp_iald (cy := cy) hx hb hK hP hx_31.1 hf_35 hn_40 dX11_isPair_19 ?_
  refine lv_topi (fun z_41 ez_41 => ?_)
  refine lv_icmp_eq (tgt := 42) hx hb dX11_isPair_20 (by decide) (fun c_42 => ?_) (fun c_42 => ?_)
  · have c_42 : z_39.toInt = z_41.toInt := tl_eq c_42
    refine lv_iconst (v := 0) hx hb dX11_isPair_42 (by decide) ?_
    refine lv_istore (lv' := [(4, .int 0), (3, .ref x_21), (0, .ref o), (1, .int p0), (2, .int p1)]) hx hb dX11_isPair_43 hl (by decide) rfl (fun ls hl => ?_)
    refine lv_iload hx hb dX11_isPair_45 (lv_at hl 0 rfl) ?_
    refine lv_if_eq (tgt := 76) hx hb dX11_isPair_47 (by decide) (fun _ => ?_) (fun c => absurd c (by decide))
    refine lv_iconst (v := 0) hx hb dX11_isPair_76 (by decide) ?_
    exact W.zret (ty := .boolean) (v := 0) hx hb hr rfl (fun t ht hW => ⟨_, rfl, (Or.inr rfl), ht⟩) (fun q h => by cases h) dX11_isPair_77
  · have c_42 : ¬ z_39.toInt = z_41.toInt := tl_neq c_42
    refine lv_aload_n hx hb dX11_isPair_23 rfl (lv_at hl 0 rfl) ?_
    refine tp_getN (cy := cy) (ci := 4) (v := .ref x_32) (C := RX4) (T := TX4) (N := 6) hx hb hta inlX4 hown hK hP hx_21.1 hf_28 rfl 3 (by decide) (va_Nw.use rfl (hN.1 8 _ nk_8)) (fun _ h9 => h9) rfl dX11_isPair_24 ?_
    refine lv_iload_n hx hb dX11_isPair_27 rfl (lv_at hl 2 rfl) ?_
    obtain ⟨g_44, hf_43, hg_45⟩ := (show tp_ai cy 4 (24) (f x_32) from hI0.at hx_32)
    have hn_46 : vp_in p0 (24) := tl_in (by omega) (by omega)
    refine tp_iald (cy := cy) hx hb hK hP hx_32.1 hf_43 hn_46 dX11_isPair_28 ?_
    refine lv_topi (fun z_47 ez_47 => ?_)
    refine lv_aload_n hx hb dX11_isPair_29 rfl (lv_at hl 0 rfl) ?_
    refine tp_getN (cy := cy) (ci := 4) (v := .ref x_32) (C := RX4) (T := TX4) (N := 6) hx hb hta inlX4 hown hK hP hx_21.1 hf_28 rfl 3 (by decide) (va_Nw.use rfl (hN.1 8 _ nk_8)) (fun _ h9 => h9) rfl dX11_isPair_30 ?_
    refine lv_iload_n hx hb dX11_isPair_33 rfl (lv_at hl 3 rfl) ?_
    have hn_48 : vp_in p1 (24) := tl_in (by omega) (by omega)
    refine tp_iald (cy := cy) hx hb hK hP hx_32.1 hf_43 hn_48 dX11_isPair_34 ?_
    refine lv_topi (fun z_49 ez_49 => ?_)
    refine lv_icmp_ne (tgt := 42) hx hb dX11_isPair_35 (by decide) (fun c_50 => ?_) (fun c_50 => ?_)
    · have c_50 : ¬ z_47.toInt = z_49.toInt := tl_neq c_50
      refine lv_iconst (v := 0) hx hb dX11_isPair_42 (by decide) ?_
      refine lv_istore (lv' := [(4, .int 0), (3, .ref x_21), (0, .ref o), (1, .int p0), (2, .int p1)]) hx hb dX11_isPair_43 hl (by decide) rfl (fun ls hl => ?_)
      refine lv_iload hx hb dX11_isPair_45 (lv_at hl 0 rfl) ?_
      refine lv_if_eq (tgt := 76) hx hb dX11_isPair_47 (by decide) (fun _ => ?_) (fun c => absurd c (by decide))
      refine lv_iconst (v := 0) hx hb dX11_isPair_76 (by decide) ?_
      exact W.zret (ty := .boolean) (v := 0) hx hb hr rfl (fun t ht hW => ⟨_, rfl, (Or.inr rfl), ht⟩) (fun q h => by cases h) dX11_isPair_77
    · have c_50 : z_47.toInt = z_49.toInt := tl_eq c_50
      refine lv_iconst (v := 1) hx hb dX11_isPair_38 (by decide) ?_
      refine lv_goto (tgt := 43) hx hb dX11_isPair_39 (by decide) ?_
      refine lv_istore (lv' := [(4, .int 1), (3, .ref x_21), (0, .ref o), (1, .int p0), (2, .int p1)]) hx hb dX11_isPair_43 hl (by decide) rfl (fun ls hl => ?_)
      refine lv_iload hx hb dX11_isPair_45 (lv_at hl 0 rfl) ?_
      refine lv_if_eq (tgt := 76) hx hb dX11_isPair_47 (by decide) (fun c => absurd c (by decide)) (fun _ => ?_)
      refine lv_aload_n hx hb dX11_isPair_50 rfl (lv_at hl 2 rfl) ?_
      refine tp_get (cy := cy) (ci := 11) (v := .ref x_13) (C := RX11) (T := TX11) (N := 16) hx hb hta inlX11 hown hK hP ho.1 hf_1 rfl 11 (by decide) (hta _ wk_48) (fun _ h9 => h9) rfl dX11_isPair_51 ?_
      refine lv_iload_n hx hb dX11_isPair_54 rfl (lv_at hl 3 rfl) ?_
      obtain ⟨g_52, hf_51, hg_53⟩ := (show tp_ai cy 36 (24) (f x_13) from hI0.at hx_13)
      have hn_54 : vp_in p0 (24) := tl_in (by omega) (by omega)
      refine tp_iald (cy := cy) hx hb hK hP hx_13.1 hf_51 hn_54 dX11_isPair_55 ?_
      refine lv_topi (fun z_55 ez_55 => ?_)
      refine lv_ldc (v := (-1000000)) hx hb hown (hta _ wk_227) dX11_isPair_56 ?_
      refine lv_icmp_eq (tgt := 76) hx hb dX11_isPair_58 (by decide) (fun c_56 => ?_) (fun c_56 => ?_)
      · have c_56 : z_55.toInt = (-1000000 : Int) := tl_eq c_56
        refine lv_iconst (v := 0) hx hb dX11_isPair_76 (by decide) ?_
        exact W.zret (ty := .boolean) (v := 0) hx hb hr rfl (fun t ht hW => ⟨_, rfl, (Or.inr rfl), ht⟩) (fun q h => by cases h) dX11_isPair_77
      · have c_56 : ¬ z_55.toInt = (-1000000 : Int) := tl_neq c_56
        refine lv_aload_n hx hb dX11_isPair_61 rfl (lv_at hl 2 rfl) ?_
        refine tp_get (cy := cy) (ci := 11) (v := .ref x_13) (C := RX11) (T := TX11) (N := 16) hx hb hta inlX11 hown hK hP ho.1 hf_1 rfl 11 (by decide) (hta _ wk_48) (fun _ h9 => h9) rfl dX11_isPair_62 ?_
        refine lv_iload_n hx hb dX11_isPair_65 rfl (lv_at hl 4 rfl) ?_
        have hn_57 : vp_in p1 (24) := tl_in (by omega) (by omega)
        refine tp_iald (cy := cy) hx hb hK hP hx_13.1 hf_51 hn_57 dX11_isPair_66 ?_
        refine lv_topi (fun z_58 ez_58 => ?_)
        refine lv_ldc (v := (-1000000)) hx hb hown (hta _ wk_227) dX11_isPair_67 ?_
        refine lv_icmp_eq (tgt := 76) hx hb dX11_isPair_69 (by decide) (fun c_59 => ?_) (fun c_59 => ?_)
        · have c_59 : z_58.toInt = (-1000000 : Int) := tl_eq c_59
          refine lv_iconst (v := 0) hx hb dX11_isPair_76 (by decide) ?_
          exact W.zret (ty := .boolean) (v := 0) hx hb hr rfl (fun t ht hW => ⟨_, rfl, (Or.inr rfl), ht⟩) (fun q h => by cases h) dX11_isPair_77
        · have c_59 : ¬ z_58.toInt = (-1000000 : Int) := tl_neq c_59
          refine lv_iconst (v := 1) hx hb dX11_isPair_72 (by decide) ?_
          refine lv_goto (tgt := 77) hx hb dX11_isPair_73 (by decide) ?_
          exact W.zret (ty := .boolean) (v := 1) hx hb hr rfl (fun t ht hW => ⟨_, rfl, (Or.inl ⟨rfl, trivial⟩), ht⟩) (fun q h => by cases h) dX11_isPair_77
set_option maxHeartbeats 4000000 in
set_option maxRecDepth 100000 in
theorem t_X11_hour (l : Launch) (D : va_G) (cy : Nat → ClassId) (sz : Nat) (L : List Nat) (K : Nat → tk_K) (Γ : tk_G) (f : Nat → va_E) (o : Nat) (p0 : Int32) (p1 : Int32) (p2 : Int32) (ho : tp_r L K 0 (0) 0 o) : Met l yX11_hour (tl_w yX11_hour cX11_hour 8 (some .int)) ({ frames := 6, cells := 0, slots := 0, locals := 135 }) (va_Pc [.ref o, .int p0, .int p1, .int p2] (tp_P D cy L K Γ f sz)) (va_Qi (fun (r : Int32) (u : Nat → va_E) => True) (tp_B D cy L K Γ f [28, 29, 23, 24, 27, 30, 31, 32, 36]) (tp_A L sz)) 0 0 (tp_A L sz) := by
  refine Met.ofW (cc := cX11_hour) (maxL := 8) (ret := (some .int)) (by decide) rfl ?_
  intro p e s m args below meth c s₁ B hml hv
  obtain ⟨rfl, hsz, hP, hK, hL, hI, hN, hU⟩ := hv
  have hx := B.exec
  have hb := B.bytes
  have hr := B.returns
  have hta := tl_hta (atoms_spec (ws := tl_w yX11_hour cX11_hour 8 (some .int)) B.pre)
  have hown : s.vm.findClass RX11 = some m.cls := findClass_of_methodNamed B.named
  have hlocks := B.notSynchronized
  subst hsz
  have hI0 := hI
  generalize hAe : tp_A L s.heap.size = A
  have hA : ∀ q : Nat, s.heap.size ≤ q → A q := fun q h => by rw [← hAe]; exact Or.inr h
  have hAL : ∀ q ∈ L, A q := fun q h => by rw [← hAe]; exact Or.inl h
  have hAf : ∀ (H : Heap), s.heap.size ≤ H.size → ∀ q, tp_A L H.size q → A q := fun H h q hq => hq.elim (hAL q) (fun h2 => hA q (Nat.le_trans h h2))
  have hS : va_S A s.heap s.heap [] := va_S.rf
  have hD : va_D A (va_pl L f) := tp_D hL hAL
  have hfr : ∀ b, (K b).1 ∉ ([28, 29, 23, 24, 27, 30, 31, 32, 36] : List Nat) → f b = f b := fun _ _ => rfl
  have hl := lv_entry ([.ref o, .int p0, .int p1, .int p2]) (n := 8) (Nat.le_of_ble_eq_true rfl)
  rw [lg_entry_eq]
  generalize (lg_sl ([.ref o, .int p0, .int p1, .int p2]) ++ List.replicate (8 - (lg_sl ([.ref o, .int p0, .int p1, .int p2])).length) Slot.unset).toArray = ls at hl ⊢
  have hl : lv_has ls 8 [(0, .ref o), (1, .int p0), (2, .int p1), (3, .int p2)] := hl
  refine lv_aload_n hx hb dX11_hour_0 rfl (lv_at hl 0 rfl) ?_
  obtain ⟨x_2, x_3, x_4, x_5, x_6, x_7, x_8, x_9, x_10, x_11, x_12, x_13, x_14, x_15, x_16, x_17, hf_1, hx_2, hx_3, hx_4, hx_5, hx_6, hx_7, hx_8, hx_9, hx_10, hx_11, hx_12, hx_13, hx_14, hx_15, hx_16, hx_17⟩ := (show tp_o_X L K (0) 0 (Γ (0, 0, 0)) (f o) from hI0.at ho)
  refine tp_get (cy := cy) (ci := 11) (v := .ref x_5) (C := RX11) (T := TX11) (N := 16) hx hb hta inlX11 hown hK hP ho.1 hf_1 rfl 3 (by decide) (hta _ wk_21) (fun _ h9 => h9) rfl dX11_hour_1 ?_
  refine lv_iload_n hx hb dX11_hour_4 rfl (lv_at hl 1 rfl) ?_
  obtain ⟨x_19, x_20, hf_18, hx_19, hx_20⟩ := (show tp_o_TEXTS L K (8) 0 (Γ (13, 8, 0)) (f x_5) from hI0.at hx_5)
  refine tl_sq (tq_rVN hN (As := [.int p0]) (rest := []) ⟨hx, hb, hml, hown, hta⟩ (tp_P.pre hK hN hL hU hI hP) (tp_recv hK hP hx_5.1 hf_18 rfl) lk_X11_201 (t_X8_at l D cy s.heap.size L K Γ f 8 x_5 p0 hx_5 (by first | omega | (simp only [Int32.toInt_toInt64]; omega) | decide | assumption)) rfl rfl ⟨Nat.le_of_ble_eq_true rfl, Nat.le_of_ble_eq_true rfl⟩ rfl hl.1 rfl (Nat.le_of_ble_eq_true rfl) dX11_hour_5 ⟨Nat.le_of_ble_eq_true rfl, Nat.le_of_ble_eq_true rfl⟩) (fun r_22 hw_21 => ?_)
  rcases r_22 with _ | b_23
  · refine W.eq (g2 := F0 m 8 ls ([.null])) (by rfl) ?_
    refine lv_ifnullN (tgt := 27) hx hb dX11_hour_8 (by decide) ?_
    refine lv_iconst (v := (-1)) hx hb dX11_hour_27 (by decide) ?_
    exact W.iret (v := (-1)) hx hb hr (fun t ht hW => ⟨⟨_, f, rfl, trivial, by rw [ht]; exact hP, hI, hfr⟩, hS.F ht⟩) hS.2.2 dX11_hour_28
  · have hb_23 := hw_21 _ rfl
    have hb_23 : tp_r L K 18 (0) 0 b_23 := hb_23
    refine W.eq (g2 := F0 m 8 ls ([.ref b_23])) (by rfl) ?_
    refine lv_ifnull hx hb dX11_hour_8 ?_
    refine lv_iload_n hx hb dX11_hour_11 rfl (lv_at hl 2 rfl) ?_
    refine tl_si (tq_rS (As := [.int p1]) (rest := []) ⟨hx, hb, hml, hown, hta⟩ (tp_P.pre hK hN hL hU hI hP) lk_X11_94 (t_X11_isWeek l D cy s.heap.size L K Γ f p1 ) rfl rfl ⟨Nat.le_of_ble_eq_true rfl, Nat.le_of_ble_eq_true rfl⟩ rfl hl.1 rfl (Nat.le_of_ble_eq_true rfl) dX11_hour_12 ⟨Nat.le_of_ble_eq_true rfl, Nat.le_of_ble_eq_true rfl⟩) (fun r_25 hw_24 => ?_)
    have hw_24 : tl_E r_25 (0 ≤ p1.toInt ∧ p1.toInt ≤ 399) 1 0 := hw_24
    refine lv_if_eq (tgt := 27) hx hb dX11_hour_15 (by decide) (fun c_26 => ?_) (fun c_26 => ?_)
    · have c_26 := hw_24.f c_26
      refine lv_iconst (v := (-1)) hx hb dX11_hour_27 (by decide) ?_
      exact W.iret (v := (-1)) hx hb hr (fun t ht hW => ⟨⟨_, f, rfl, trivial, by rw [ht]; exact hP, hI, hfr⟩, hS.F ht⟩) hS.2.2 dX11_hour_28
    · have c_26 := hw_24.t c_26
      refine lv_iload_n hx hb dX11_hour_18 rfl (lv_at hl 3 rfl) ?_
      refine lv_iconst (v := 0) hx hb dX11_hour_19 (by decide) ?_
      refine lv_iconst (v := 1) hx hb dX11_hour_20 (by decide) ?_
      refine tl_si (tq_rS (As := [.int p2, .int 0, .int 1]) (rest := []) ⟨hx, hb, hml, hown, hta⟩ (tp_P.pre hK hN hL hU hI hP) lk_X11_105 (t_X11_isIn l D cy s.heap.size L K Γ f p2 0 1 ) rfl rfl ⟨Nat.le_of_ble_eq_true rfl, Nat.le_of_ble_eq_true rfl⟩ rfl hl.1 rfl (Nat.le_of_ble_eq_true rfl) dX11_hour_21 ⟨Nat.le_of_ble_eq_true rfl, Nat.le_of_ble_eq_true rfl⟩) (fun r_28 hw_27 => ?_)
      have hw_27 : tl_E r_28 ((0 : Int) ≤ p2.toInt ∧ p2.toInt ≤ (1 : Int)) 1 0 := hw_27
      refine lv_if_ne (tgt := 29) hx hb dX11_hour_24 (by decide) (fun c_29 => ?_) (fun c_29 => ?_)
      · have c_29 := hw_27.t c_29
        refine lv_aload_n hx hb dX11_hour_29 rfl (lv_at hl 0 rfl) ?_
        refine lv_iload_n hx hb dX11_hour_30 rfl (lv_at hl 1 rfl) ?_
        refine tq_cv hS (hAf _ hS.1) (tq_rV (As := [.int p0]) (rest := []) ⟨hx, hb, hml, hown, hta⟩ (tp_P.pre hK hN hL hU hI hP) (tp_recv hK hP ho.1 hf_1 rfl) lk_X11_369 (t_X11_findDeeps l D cy s.heap.size L K Γ f o p0 ho) rfl rfl ⟨Nat.le_of_ble_eq_true rfl, Nat.le_of_ble_eq_true rfl⟩ rfl hl.1 rfl (Nat.le_of_ble_eq_true rfl) dX11_hour_31 ⟨Nat.le_of_ble_eq_true rfl, Nat.le_of_ble_eq_true rfl⟩) (fun f_32 H locs hw_30 hP hI hc_33 hS => ?_)
        have hD : va_D A (va_pl L f_32) := tp_D hL hAL
        have hfr := tp_fr2 hfr hc_33 (by decide)
        refine lv_iconst (v := 0) hx hb dX11_hour_34 (by decide) ?_
        refine lv_istore (lv' := [(4, .int 0), (0, .ref o), (1, .int p0), (2, .int p1), (3, .int p2)]) hx hb dX11_hour_35 hl (by decide) rfl (fun ls hl => ?_)
        refine lv_iconst (v := 0) hx hb dX11_hour_37 (by decide) ?_
        refine lv_istore (lv' := [(5, .int 0), (4, .int 0), (0, .ref o), (1, .int p0), (2, .int p1), (3, .int p2)]) hx hb dX11_hour_38 hl (by decide) rfl (fun ls hl => ?_)
        refine lv_iconst (v := 0) hx hb dX11_hour_40 (by decide) ?_
        refine lv_istore (lv' := [(6, .int 0), (5, .int 0), (4, .int 0), (0, .ref o), (1, .int p0), (2, .int p1), (3, .int p2)]) hx hb dX11_hour_41 hl (by decide) rfl (fun ls hl => ?_)
        refine tl_ind (G := fun H locs ls => W p l e ((headSpec (tl_w yX11_hour cX11_hour 8 (some .int)) ({ frames := 6, cells := 0, slots := 0, locals := 135 })).room) s m #[.ref o, .int p0, .int p1, .int p2] below meth c H locs 0 0 (MQ below (va_Qi (fun (r : Int32) (u : Nat → va_E) => True) (tp_B D cy L K Γ f [28, 29, 23, 24, 27, 30, 31, 32, 36]) A) #[.ref o, .int p0, .int p1, .int p2] s 0 0 A) (F0 m 43 ls [])) (α := (Nat → va_E) × Int32 × Int32 × Int32) (fun aq => (24 - aq.2.1.toInt).toNat) (fun aq H locs ls => (0 ≤ aq.2.1.toInt) ∧ (aq.2.1.toInt ≤ 24) ∧ va_P D vwCl (va_pl L aq.1) H ∧ tp_I cy L K Γ aq.1 ∧ (∀ b, (K b).1 ∉ ([28, 29, 23, 24, 27, 30, 31, 32, 36] : List Nat) → aq.1 b = f b) ∧ va_S A s.heap H locs ∧ lv_has ls 8 [(6, .int aq.2.1), (5, .int aq.2.2.1), (4, .int aq.2.2.2), (0, .ref o), (1, .int p0), (2, .int p1), (3, .int p2)]) ?_ (f_32, (0 : Int32), (0 : Int32), (0 : Int32)) H locs ls ⟨(show 0 ≤ (0 : Int) from (by omega)), (show (0 : Int) ≤ 24 from (by omega)), hP, hI, hfr, hS, lv_sub hl [0, 1, 2, 3, 4, 5, 6] rfl⟩
        rintro ⟨f_34, v6, v5, v4⟩ H locs ls ⟨h0, h1, hP, hI, hfr, hS, hl⟩ ih43
        have hP : va_P D vwCl (va_pl L f_34) H := hP
        have hI : tp_I cy L K Γ f_34 := hI
        have hfr : ∀ b, (K b).1 ∉ ([28, 29, 23, 24, 27, 30, 31, 32, 36] : List Nat) → f_34 b = f b := hfr
        have hD : va_D A (va_pl L f_34) := tp_D hL hAL
        have h0 : 0 ≤ v6.toInt := h0
        have h1 : v6.toInt ≤ 24 := h1
        have hl : lv_has ls 8 [(6, .int v6), (5, .int v5), (4, .int v4), (0, .ref o), (1, .int p0), (2, .int p1), (3, .int p2)] := hl
        refine lv_iload hx hb dX11_hour_43 (lv_at hl 0 rfl) ?_
        refine lv_aload_n hx hb dX11_hour_45 rfl (lv_at hl 3 rfl) ?_
        refine tp_get (cy := cy) (ci := 11) (v := .ref x_2) (C := RX11) (T := TX11) (N := 16) hx hb hta inlX11 hown hK hP ho.1 ((tp_un hfr ho (by decide)).trans hf_1) rfl 0 (by decide) (hta _ wk_15) (fun _ h9 => h9) rfl dX11_hour_46 ?_
        obtain ⟨x_36, x_37, x_38, x_39, x_40, x_41, x_42, x_43, x_44, hf_35, hx_36, hx_37, hx_38, hx_39, hx_40, hx_41, hx_42, hx_43, hx_44⟩ := (show tp_o_BOOK L K (0) 0 (Γ (1, 0, 0)) (f x_2) from hI0.at hx_2)
        refine tp_getN (cy := cy) (ci := 0) (v := .ref x_38) (C := RX0) (T := TX0) (N := 9) hx hb hta inlX0 hown hK hP hx_2.1 ((tp_un hfr hx_2 (by decide)).trans hf_35) rfl 2 (by decide) (va_Nw.use rfl (hN.1 20 _ nk_20)) (fun _ h9 => h9) rfl dX11_hour_49 ?_
        obtain ⟨x_46, x_47, x_48, x_49, x_50, x_51, hf_45, hx_46, hx_48, hx_49, hx_50, hx_51⟩ := (show tp_o_ROWS L K (0) 0 (Γ (3, 0, 0)) (f x_38) from hI0.at hx_38)
        refine tp_getN (cy := cy) (ci := 4) (v := .int x_46) (C := RX4) (T := TX4) (N := 6) hx hb hta inlX4 hown hK hP hx_38.1 ((tp_un hfr hx_38 (by decide)).trans hf_45) rfl 0 (by decide) (va_Nw.use rfl (hN.1 2 _ nk_2)) (fun _ h9 => h9) rfl dX11_hour_52 ?_
        refine lv_icmp_ge (tgt := 148) hx hb dX11_hour_55 (by decide) (fun c_52 => ?_) (fun c_52 => ?_)
        · have c_52 : x_46.toInt ≤ v6.toInt := tl_le c_52
          refine lv_iload_n hx hb dX11_hour_148 rfl (lv_at hl 6 rfl) ?_
          refine lv_if_ne (tgt := 157) hx hb dX11_hour_149 (by decide) (fun c_53 => ?_) (fun c_53 => ?_)
          · have c_53 : ¬ p2.toInt = (0 : Int) := tl_neq c_53
            refine lv_iload hx hb dX11_hour_157 (lv_at hl 1 rfl) ?_
            exact W.iret (v := v5) hx hb hr (fun t ht hW => ⟨⟨_, f_34, rfl, trivial, by rw [ht]; exact hP, hI, hfr⟩, hS.F ht⟩) hS.2.2 dX11_hour_159
          · have c_53 : p2.toInt = (0 : Int) := tl_eq c_53
            refine lv_iload hx hb dX11_hour_152 (lv_at hl 2 rfl) ?_
            refine lv_goto (tgt := 159) hx hb dX11_hour_154 (by decide) ?_
            exact W.iret (v := v4) hx hb hr (fun t ht hW => ⟨⟨_, f_34, rfl, trivial, by rw [ht]; exact hP, hI, hfr⟩, hS.F ht⟩) hS.2.2 dX11_hour_159
        · have c_52 : v6.toInt < x_46.toInt := tl_nle c_52
          refine lv_iload hx hb dX11_hour_58 (lv_at hl 0 rfl) ?_
          refine lv_iconst (v := 1) hx hb dX11_hour_60 (by decide) ?_
          refine lv_iadd hx hb dX11_hour_61 ?_
          refine lv_topi (fun z_54 ez_54 => ?_)
          try have iz_54 : z_54.toInt = v6.toInt + (1 : Int) := by rw [ez_54]; exact tl_addN v6 1 rfl rfl (by omega) (by omega)
          refine lv_istore (lv' := [(7, .int z_54), (6, .int v6), (5, .int v5), (4, .int v4), (0, .ref o), (1, .int p0), (2, .int p1), (3, .int p2)]) hx hb dX11_hour_62 hl (by decide) rfl (fun ls hl => ?_)
          refine tl_ind (G := fun H locs ls => W p l e ((headSpec (tl_w yX11_hour cX11_hour 8 (some .int)) ({ frames := 6, cells := 0, slots := 0, locals := 135 })).room) s m #[.ref o, .int p0, .int p1, .int p2] below meth c H locs 0 0 (MQ below (va_Qi (fun (r : Int32) (u : Nat → va_E) => True) (tp_B D cy L K Γ f [28, 29, 23, 24, 27, 30, 31, 32, 36]) A) #[.ref o, .int p0, .int p1, .int p2] s 0 0 A) (F0 m 64 ls [])) (α := (Nat → va_E) × Int32 × Int32 × Int32) (fun aq => (24 - aq.2.1.toInt).toNat) (fun aq H locs ls => (0 ≤ aq.2.1.toInt) ∧ (aq.2.1.toInt ≤ 24) ∧ va_P D vwCl (va_pl L aq.1) H ∧ tp_I cy L K Γ aq.1 ∧ (∀ b, (K b).1 ∉ ([28, 29, 23, 24, 27, 30, 31, 32, 36] : List Nat) → aq.1 b = f b) ∧ va_S A s.heap H locs ∧ lv_has ls 8 [(7, .int aq.2.1), (6, .int v6), (5, .int aq.2.2.1), (4, .int aq.2.2.2), (0, .ref o), (1, .int p0), (2, .int p1), (3, .int p2)]) ?_ (f_34, z_54, v5, v4) H locs ls ⟨(show 0 ≤ z_54.toInt from (by omega)), (show z_54.toInt ≤ 24 from (by omega)), hP, hI, hfr, hS, lv_sub hl [0, 1, 2, 3, 4, 5, 6, 7] rfl⟩
          rintro ⟨f_57, v7, v5_55, v4_56⟩ H locs ls ⟨h0, h1, hP, hI, hfr, hS, hl⟩ ih64
          have hP : va_P D vwCl (va_pl L f_57) H := hP
          have hI : tp_I cy L K Γ f_57 := hI
          have hfr : ∀ b, (K b).1 ∉ ([28, 29, 23, 24, 27, 30, 31, 32, 36] : List Nat) → f_57 b = f b := hfr
          have hD : va_D A (va_pl L f_57) := tp_D hL hAL
          have h0 : 0 ≤ v7.toInt := h0
          have h1 : v7.toInt ≤ 24 := h1
          have hl : lv_has ls 8 [(7, .int v7), (6, .int v6), (5, .int v5_55), (4, .int v4_56), (0, .ref o), (1, .int p0), (2, .int p1), (3, .int p2)] := hl
          refine lv_iload hx hb dX11_hour_64 (lv_at hl 0 rfl) ?_
          refine lv_aload_n hx hb dX11_hour_66 rfl (lv_at hl 4 rfl) ?_
          refine tp_get (cy := cy) (ci := 11) (v := .ref x_2) (C := RX11) (T := TX11) (N := 16) hx hb hta inlX11 hown hK hP ho.1 ((tp_un hfr ho (by decide)).trans hf_1) rfl 0 (by decide) (hta _ wk_15) (fun _ h9 => h9) rfl dX11_hour_67 ?_
          refine tp_getN (cy := cy) (ci := 0) (v := .ref x_38) (C := RX0) (T := TX0) (N := 9) hx hb hta inlX0 hown hK hP hx_2.1 ((tp_un hfr hx_2 (by decide)).trans hf_35) rfl 2 (by decide) (va_Nw.use rfl (hN.1 20 _ nk_20)) (fun _ h9 => h9) rfl dX11_hour_70 ?_
          refine tp_getN (cy := cy) (ci := 4) (v := .int x_46) (C := RX4) (T := TX4) (N := 6) hx hb hta inlX4 hown hK hP hx_38.1 ((tp_un hfr hx_38 (by decide)).trans hf_45) rfl 0 (by decide) (va_Nw.use rfl (hN.1 2 _ nk_2)) (fun _ h9 => h9) rfl dX11_hour_73 ?_
          refine lv_icmp_ge (tgt := 142) hx hb dX11_hour_76 (by decide) (fun c_58 => ?_) (fun c_58 => ?_)
          · have c_58 : x_46.toInt ≤ v7.toInt := tl_le c_58
            obtain ⟨z_59, ez_59⟩ : ∃ y : Int32, y = v6 + 1 := ⟨_, rfl⟩
            refine lv_iinc (v := z_59) (lv' := [(6, .int z_59), (7, .int v7), (5, .int v5_55), (4, .int v4_56), (0, .ref o), (1, .int p0), (2, .int p1), (3, .int p2)]) hx hb dX11_hour_142 hl (k := 1) rfl (by rw [ez_59]; rfl) (by decide) rfl (fun ls hl => ?_)
            try have iz_59 : z_59.toInt = v6.toInt + 1 := by rw [ez_59]; exact tl_addL v6 1 (by decide) (by omega) (by omega)
            refine lv_goto (tgt := 43) hx hb dX11_hour_145 (by decide) ?_
            exact ih43 (f_57, z_59, v5_55, v4_56) H locs ls (by show (24 - z_59.toInt).toNat < (24 - v6.toInt).toNat; omega) ⟨(show 0 ≤ z_59.toInt from (by omega)), (show z_59.toInt ≤ 24 from (by omega)), hP, hI, hfr, hS, lv_sub hl [0, 2, 3, 4, 5, 6, 7] rfl⟩
          · have c_58 : v7.toInt < x_46.toInt := tl_nle c_58
            refine lv_aload_n hx hb dX11_hour_79 rfl (lv_at hl 4 rfl) ?_
            refine lv_iload hx hb dX11_hour_80 (lv_at hl 1 rfl) ?_
            refine lv_iload hx hb dX11_hour_82 (lv_at hl 0 rfl) ?_
            refine tl_si (tq_rV (As := [.int v6, .int v7]) (rest := []) ⟨hx, hb, hml, hown, hta⟩ (tp_P.pre hK hN hL hU hI hP) (tp_recv hK hP ho.1 ((tp_un hfr ho (by decide)).trans hf_1) rfl) lk_X11_378 (t_X11_isPair l D cy H.size L K Γ f_57 o v6 v7 ho (by first | omega | (simp only [Int32.toInt_toInt64]; omega) | decide | assumption) (by first | omega | (simp only [Int32.toInt_toInt64]; omega) | decide | assumption)) rfl rfl ⟨Nat.le_of_ble_eq_true rfl, Nat.le_of_ble_eq_true rfl⟩ rfl hl.1 rfl (Nat.le_of_ble_eq_true rfl) dX11_hour_84 ⟨Nat.le_of_ble_eq_true rfl, Nat.le_of_ble_eq_true rfl⟩) (fun r_61 hw_60 => ?_)
            have hw_60 : tl_J r_61 (True) := hw_60
            refine lv_if_eq (tgt := 136) hx hb dX11_hour_87 (by decide) (fun c_62 => ?_) (fun c_62 => ?_)
            · have c_62 := c_62
              obtain ⟨z_63, ez_63⟩ : ∃ y : Int32, y = v7 + 1 := ⟨_, rfl⟩
              refine lv_iinc (v := z_63) (lv' := [(7, .int z_63), (6, .int v6), (5, .int v5_55), (4, .int v4_56), (0, .ref o), (1, .int p0), (2, .int p1), (3, .int p2)]) hx hb dX11_hour_136 hl (k := 0) rfl (by rw [ez_63]; rfl) (by decide) rfl (fun ls hl => ?_)
              try have iz_63 : z_63.toInt = v7.toInt + 1 := by rw [ez_63]; exact tl_addL v7 1 (by decide) (by omega) (by omega)
              refine lv_goto (tgt := 64) hx hb dX11_hour_139 (by decide) ?_
              exact ih64 (f_57, z_63, v5_55, v4_56) H locs ls (by show (24 - z_63.toInt).toNat < (24 - v7.toInt).toNat; omega) ⟨(show 0 ≤ z_63.toInt from (by omega)), (show z_63.toInt ≤ 24 from (by omega)), hP, hI, hfr, hS, lv_sub hl [0, 1, 2, 3, 4, 5, 6, 7] rfl⟩
            · have c_62 := hw_60.t c_62
              refine lv_aload_n hx hb dX11_hour_90 rfl (lv_at hl 4 rfl) ?_
              refine lv_iload hx hb dX11_hour_91 (lv_at hl 1 rfl) ?_
              refine lv_iload_n hx hb dX11_hour_93 rfl (lv_at hl 6 rfl) ?_
              refine tl_si (tq_rV (As := [.int v6, .int p1]) (rest := []) ⟨hx, hb, hml, hown, hta⟩ (tp_P.pre hK hN hL hU hI hP) (tp_recv hK hP ho.1 ((tp_un hfr ho (by decide)).trans hf_1) rfl) lk_X11_372 (t_X11_isKnown l D cy H.size L K Γ f_57 o v6 p1 ho (by first | omega | (simp only [Int32.toInt_toInt64]; omega) | decide | assumption)) rfl rfl ⟨Nat.le_of_ble_eq_true rfl, Nat.le_of_ble_eq_true rfl⟩ rfl hl.1 rfl (Nat.le_of_ble_eq_true rfl) dX11_hour_94 ⟨Nat.le_of_ble_eq_true rfl, Nat.le_of_ble_eq_true rfl⟩) (fun r_65 hw_64 => ?_)
              have hw_64 : tl_J r_65 (True) := hw_64
              refine lv_if_eq (tgt := 136) hx hb dX11_hour_97 (by decide) (fun c_66 => ?_) (fun c_66 => ?_)
              · have c_66 := c_66
                obtain ⟨z_67, ez_67⟩ : ∃ y : Int32, y = v7 + 1 := ⟨_, rfl⟩
                refine lv_iinc (v := z_67) (lv' := [(7, .int z_67), (6, .int v6), (5, .int v5_55), (4, .int v4_56), (0, .ref o), (1, .int p0), (2, .int p1), (3, .int p2)]) hx hb dX11_hour_136 hl (k := 0) rfl (by rw [ez_67]; rfl) (by decide) rfl (fun ls hl => ?_)
                try have iz_67 : z_67.toInt = v7.toInt + 1 := by rw [ez_67]; exact tl_addL v7 1 (by decide) (by omega) (by omega)
                refine lv_goto (tgt := 64) hx hb dX11_hour_139 (by decide) ?_
                exact ih64 (f_57, z_67, v5_55, v4_56) H locs ls (by show (24 - z_67.toInt).toNat < (24 - v7.toInt).toNat; omega) ⟨(show 0 ≤ z_67.toInt from (by omega)), (show z_67.toInt ≤ 24 from (by omega)), hP, hI, hfr, hS, lv_sub hl [0, 1, 2, 3, 4, 5, 6, 7] rfl⟩
              · have c_66 := hw_64.t c_66
                refine lv_aload_n hx hb dX11_hour_100 rfl (lv_at hl 4 rfl) ?_
                refine lv_iload hx hb dX11_hour_101 (lv_at hl 0 rfl) ?_
                refine lv_iload_n hx hb dX11_hour_103 rfl (lv_at hl 6 rfl) ?_
                refine tl_si (tq_rV (As := [.int v7, .int p1]) (rest := []) ⟨hx, hb, hml, hown, hta⟩ (tp_P.pre hK hN hL hU hI hP) (tp_recv hK hP ho.1 ((tp_un hfr ho (by decide)).trans hf_1) rfl) lk_X11_372 (t_X11_isKnown l D cy H.size L K Γ f_57 o v7 p1 ho (by first | omega | (simp only [Int32.toInt_toInt64]; omega) | decide | assumption)) rfl rfl ⟨Nat.le_of_ble_eq_true rfl, Nat.le_of_ble_eq_true rfl⟩ rfl hl.1 rfl (Nat.le_of_ble_eq_true rfl) dX11_hour_104 ⟨Nat.le_of_ble_eq_true rfl, Nat.le_of_ble_eq_true rfl⟩) (fun r_69 hw_68 => ?_)
                have hw_68 : tl_J r_69 (True) := hw_68
                refine lv_if_eq (tgt := 136) hx hb dX11_hour_107 (by decide) (fun c_70 => ?_) (fun c_70 => ?_)
                · have c_70 := c_70
                  obtain ⟨z_71, ez_71⟩ : ∃ y : Int32, y = v7 + 1 := ⟨_, rfl⟩
                  refine lv_iinc (v := z_71) (lv' := [(7, .int z_71), (6, .int v6), (5, .int v5_55), (4, .int v4_56), (0, .ref o), (1, .int p0), (2, .int p1), (3, .int p2)]) hx hb dX11_hour_136 hl (k := 0) rfl (by rw [ez_71]; rfl) (by decide) rfl (fun ls hl => ?_)
                  try have iz_71 : z_71.toInt = v7.toInt + 1 := by rw [ez_71]; exact tl_addL v7 1 (by decide) (by omega) (by omega)
                  refine lv_goto (tgt := 64) hx hb dX11_hour_139 (by decide) ?_
                  exact ih64 (f_57, z_71, v5_55, v4_56) H locs ls (by show (24 - z_71.toInt).toNat < (24 - v7.toInt).toNat; omega) ⟨(show 0 ≤ z_71.toInt from (by omega)), (show z_71.toInt ≤ 24 from (by omega)), hP, hI, hfr, hS, lv_sub hl [0, 1, 2, 3, 4, 5, 6, 7] rfl⟩
                · have c_70 := hw_68.t c_70
                  obtain ⟨z_72, ez_72⟩ : ∃ y : Int32, y = v4_56 + 1 := ⟨_, rfl⟩
                  refine lv_iinc (v := z_72) (lv' := [(4, .int z_72), (7, .int v7), (6, .int v6), (5, .int v5_55), (0, .ref o), (1, .int p0), (2, .int p1), (3, .int p2)]) hx hb dX11_hour_110 hl (k := 3) rfl (by rw [ez_72]; rfl) (by decide) rfl (fun ls hl => ?_)
                  try have iz_72 : z_72.toInt = v4_56.toInt + 1 := by rw [ez_72]; exact tl_addL v4_56 1 (by decide) (by omega) (by omega)
                  refine lv_iload hx hb dX11_hour_113 (lv_at hl 3 rfl) ?_
                  refine lv_aload_n hx hb dX11_hour_115 rfl (lv_at hl 4 rfl) ?_
                  refine tp_get (cy := cy) (ci := 11) (v := .ref x_13) (C := RX11) (T := TX11) (N := 16) hx hb hta inlX11 hown hK hP ho.1 ((tp_un hfr ho (by decide)).trans hf_1) rfl 11 (by decide) (hta _ wk_48) (fun _ h9 => h9) rfl dX11_hour_116 ?_
                  refine lv_iload hx hb dX11_hour_119 (lv_at hl 2 rfl) ?_
                  obtain ⟨g_74, hf_73, hg_75⟩ := (show tp_ai cy 36 (24) (f_57 x_13) from hI.at hx_13)
                  have hn_76 : vp_in v6 (24) := tl_in (by omega) (by omega)
                  refine tp_iald (cy := cy) hx hb hK hP hx_13.1 hf_73 hn_76 dX11_hour_121 ?_
                  refine lv_topi (fun z_77 ez_77 => ?_)
                  refine lv_aload_n hx hb dX11_hour_122 rfl (lv_at hl 4 rfl) ?_
                  refine tp_get (cy := cy) (ci := 11) (v := .ref x_13) (C := RX11) (T := TX11) (N := 16) hx hb hta inlX11 hown hK hP ho.1 ((tp_un hfr ho (by decide)).trans hf_1) rfl 11 (by decide) (hta _ wk_48) (fun _ h9 => h9) rfl dX11_hour_123 ?_
                  refine lv_iload hx hb dX11_hour_126 (lv_at hl 1 rfl) ?_
                  have hn_78 : vp_in v7 (24) := tl_in (by omega) (by omega)
                  refine tp_iald (cy := cy) hx hb hK hP hx_13.1 hf_73 hn_78 dX11_hour_128 ?_
                  refine lv_topi (fun z_79 ez_79 => ?_)
                  refine lv_isub hx hb dX11_hour_129 ?_
                  refine lv_topi (fun z_80 ez_80 => ?_)
                  try have iz_80 : z_80.toInt = z_77.toInt - z_79.toInt := by rw [ez_80]; exact tl_subN z_77 z_79 rfl rfl (by omega) (by omega)
                  refine va_mabs hx hb (by rw [hml]; exact hl.1.symm) hown (hta _ wk_1019) (hta _ wk_888) (hta _ wk_83) (hta _ wk_889) (Nat.le_of_ble_eq_true rfl) (Nat.le_of_ble_eq_true rfl) (Nat.le_of_ble_eq_true rfl) (Nat.le_of_ble_eq_true rfl) dX11_hour_130 ?_
                  refine lv_topi (fun z_81 ez_81 => ?_)
                  have iz_81 : (z_81.toInt = z_80.toInt ∧ 0 ≤ z_80.toInt) ∨ (z_80.toInt < 0 ∧ (z_81.toInt = -z_80.toInt ∨ z_80.toInt = -2147483648)) := by rw [ez_81]; exact tl_absF
                  refine lv_iadd hx hb dX11_hour_133 ?_
                  refine lv_topi (fun z_82 ez_82 => ?_)
                  try have iz_82 : z_82.toInt = v5_55.toInt + z_81.toInt := by rw [ez_82]; exact tl_addN v5_55 z_81 rfl rfl (by omega) (by omega)
                  refine lv_istore (lv' := [(5, .int z_82), (4, .int z_72), (7, .int v7), (6, .int v6), (0, .ref o), (1, .int p0), (2, .int p1), (3, .int p2)]) hx hb dX11_hour_134 hl (by decide) rfl (fun ls hl => ?_)
                  obtain ⟨z_83, ez_83⟩ : ∃ y : Int32, y = v7 + 1 := ⟨_, rfl⟩
                  refine lv_iinc (v := z_83) (lv' := [(7, .int z_83), (5, .int z_82), (4, .int z_72), (6, .int v6), (0, .ref o), (1, .int p0), (2, .int p1), (3, .int p2)]) hx hb dX11_hour_136 hl (k := 2) rfl (by rw [ez_83]; rfl) (by decide) rfl (fun ls hl => ?_)
                  try have iz_83 : z_83.toInt = v7.toInt + 1 := by rw [ez_83]; exact tl_addL v7 1 (by decide) (by omega) (by omega)
                  refine lv_goto (tgt := 64) hx hb dX11_hour_139 (by decide) ?_
                  exact ih64 (f_57, z_83, z_82, z_72) H locs ls (by show (24 - z_83.toInt).toNat < (24 - v7.toInt).toNat; omega) ⟨(show 0 ≤ z_83.toInt from (by omega)), (show z_83.toInt ≤ 24 from (by omega)), hP, hI, hfr, hS, lv_sub hl [0, 3, 1, 2, 4, 5, 6, 7] rfl⟩
      · have c_29 := hw_27.f c_29
        refine lv_iconst (v := (-1)) hx hb dX11_hour_27 (by decide) ?_
        exact W.iret (v := (-1)) hx hb hr (fun t ht hW => ⟨⟨_, f, rfl, trivial, by rw [ht]; exact hP, hI, hfr⟩, hS.F ht⟩) hS.2.2 dX11_hour_28
set_option maxHeartbeats 4000000 in
set_option maxRecDepth 100000 in
theorem t_X11_findSaid (l : Launch) (D : va_G) (cy : Nat → ClassId) (sz : Nat) (L : List Nat) (K : Nat → tk_K) (Γ : tk_G) (f : Nat → va_E) (o : Nat) (p0 : Int32) (p1 : Int32) (ho : tp_r L K 0 (0) 0 o) : Met l yX11_findSaid (tl_w yX11_findSaid cX11_findSaid 5 none) ({ frames := 5, cells := 0, slots := 0, locals := 113 }) (va_Pc [.ref o, .int p0, .int p1] (tp_P D cy L K Γ f sz)) (va_Qv (fun (u : Nat → va_E) => True) (tp_B D cy L K Γ f [28, 29, 23, 24, 27, 30, 31, 32, 37]) (tp_A L sz)) 0 0 (tp_A L sz) := by
  refine Met.ofW (cc := cX11_findSaid) (maxL := 5) (ret := none) (by decide) rfl ?_
  intro p e s m args below meth c s₁ B hml hv
  obtain ⟨rfl, hsz, hP, hK, hL, hI, hN, hU⟩ := hv
  have hx := B.exec
  have hb := B.bytes
  have hr := B.returns
  have hta := tl_hta (atoms_spec (ws := tl_w yX11_findSaid cX11_findSaid 5 none) B.pre)
  have hown : s.vm.findClass RX11 = some m.cls := findClass_of_methodNamed B.named
  have hlocks := B.notSynchronized
  subst hsz
  have hI0 := hI
  generalize hAe : tp_A L s.heap.size = A
  have hA : ∀ q : Nat, s.heap.size ≤ q → A q := fun q h => by rw [← hAe]; exact Or.inr h
  have hAL : ∀ q ∈ L, A q := fun q h => by rw [← hAe]; exact Or.inl h
  have hAf : ∀ (H : Heap), s.heap.size ≤ H.size → ∀ q, tp_A L H.size q → A q := fun H h q hq => hq.elim (hAL q) (fun h2 => hA q (Nat.le_trans h h2))
  have hS : va_S A s.heap s.heap [] := va_S.rf
  have hD : va_D A (va_pl L f) := tp_D hL hAL
  have hfr : ∀ b, (K b).1 ∉ ([28, 29, 23, 24, 27, 30, 31, 32, 37] : List Nat) → f b = f b := fun _ _ => rfl
  have hl := lv_entry ([.ref o, .int p0, .int p1]) (n := 5) (Nat.le_of_ble_eq_true rfl)
  rw [lg_entry_eq]
  generalize (lg_sl ([.ref o, .int p0, .int p1]) ++ List.replicate (5 - (lg_sl ([.ref o, .int p0, .int p1])).length) Slot.unset).toArray = ls at hl ⊢
  have hl : lv_has ls 5 [(0, .ref o), (1, .int p0), (2, .int p1)] := hl
  refine lv_aload_n hx hb dX11_findSaid_0 rfl (lv_at hl 0 rfl) ?_
  obtain ⟨x_2, x_3, x_4, x_5, x_6, x_7, x_8, x_9, x_10, x_11, x_12, x_13, x_14, x_15, x_16, x_17, hf_1, hx_2, hx_3, hx_4, hx_5, hx_6, hx_7, hx_8, hx_9, hx_10, hx_11, hx_12, hx_13, hx_14, hx_15, hx_16, hx_17⟩ := (show tp_o_X L K (0) 0 (Γ (0, 0, 0)) (f o) from hI0.at ho)
  refine tp_get (cy := cy) (ci := 11) (v := .ref x_15) (C := RX11) (T := TX11) (N := 16) hx hb hta inlX11 hown hK hP ho.1 hf_1 rfl 13 (by decide) (hta _ wk_50) (fun _ h9 => h9) rfl dX11_findSaid_1 ?_
  refine lv_sipush (v := 400) hx hb dX11_findSaid_4 (by decide) ?_
  refine tq_cv hS (hAf _ hS.1) (tq_rS (As := [.ref x_15, .int 400]) (rest := []) ⟨hx, hb, hml, hown, hta⟩ (tp_P.pre hK hN hL hU hI hP) lk_X11_384 (t_fill_XI8 l D cy s.heap.size L K Γ f x_15 400 hx_15) rfl rfl ⟨Nat.le_of_ble_eq_true rfl, Nat.le_of_ble_eq_true rfl⟩ rfl hl.1 rfl (Nat.le_of_ble_eq_true rfl) dX11_findSaid_7 ⟨Nat.le_of_ble_eq_true rfl, Nat.le_of_ble_eq_true rfl⟩) (fun f_20 H locs hw_18 hP hI hc_21 hS => ?_)
  have hD : va_D A (va_pl L f_20) := tp_D hL hAL
  have hfr := tp_fr2 hfr hc_21 (by decide)
  refine lv_iconst (v := 0) hx hb dX11_findSaid_10 (by decide) ?_
  refine lv_istore_n (lv' := [(3, .int 0), (0, .ref o), (1, .int p0), (2, .int p1)]) hx hb dX11_findSaid_11 rfl hl (by decide) rfl (fun ls hl => ?_)
  refine tl_ind (G := fun H locs ls => W p l e ((headSpec (tl_w yX11_findSaid cX11_findSaid 5 none) ({ frames := 5, cells := 0, slots := 0, locals := 113 })).room) s m #[.ref o, .int p0, .int p1] below meth c H locs 0 0 (MQ below (va_Qv (fun (u : Nat → va_E) => True) (tp_B D cy L K Γ f [28, 29, 23, 24, 27, 30, 31, 32, 37]) A) #[.ref o, .int p0, .int p1] s 0 0 A) (F0 m 12 ls [])) (α := (Nat → va_E) × Int32) (fun aq => (24 - aq.2.toInt).toNat) (fun aq H locs ls => (0 ≤ aq.2.toInt) ∧ (aq.2.toInt ≤ 24) ∧ va_P D vwCl (va_pl L aq.1) H ∧ tp_I cy L K Γ aq.1 ∧ (∀ b, (K b).1 ∉ ([28, 29, 23, 24, 27, 30, 31, 32, 37] : List Nat) → aq.1 b = f b) ∧ va_S A s.heap H locs ∧ lv_has ls 5 [(3, .int aq.2), (0, .ref o), (1, .int p0), (2, .int p1)]) ?_ (f_20, (0 : Int32)) H locs ls ⟨(show 0 ≤ (0 : Int) from (by omega)), (show (0 : Int) ≤ 24 from (by omega)), hP, hI, hfr, hS, lv_sub hl [0, 1, 2, 3] rfl⟩
  rintro ⟨f_22, v3⟩ H locs ls ⟨h0, h1, hP, hI, hfr, hS, hl⟩ ih12
  have hP : va_P D vwCl (va_pl L f_22) H := hP
  have hI : tp_I cy L K Γ f_22 := hI
  have hfr : ∀ b, (K b).1 ∉ ([28, 29, 23, 24, 27, 30, 31, 32, 37] : List Nat) → f_22 b = f b := hfr
  have hD : va_D A (va_pl L f_22) := tp_D hL hAL
  have h0 : 0 ≤ v3.toInt := h0
  have h1 : v3.toInt ≤ 24 := h1
  have hl : lv_has ls 5 [(3, .int v3), (0, .ref o), (1, .int p0), (2, .int p1)] := hl
  refine lv_iload_n hx hb dX11_findSaid_12 rfl (lv_at hl 0 rfl) ?_
  refine lv_aload_n hx hb dX11_findSaid_13 rfl (lv_at hl 1 rfl) ?_
  refine tp_get (cy := cy) (ci := 11) (v := .ref x_2) (C := RX11) (T := TX11) (N := 16) hx hb hta inlX11 hown hK hP ho.1 ((tp_un hfr ho (by decide)).trans hf_1) rfl 0 (by decide) (hta _ wk_15) (fun _ h9 => h9) rfl dX11_findSaid_14 ?_
  obtain ⟨x_24, x_25, x_26, x_27, x_28, x_29, x_30, x_31, x_32, hf_23, hx_24, hx_25, hx_26, hx_27, hx_28, hx_29, hx_30, hx_31, hx_32⟩ := (show tp_o_BOOK L K (0) 0 (Γ (1, 0, 0)) (f x_2) from hI0.at hx_2)
  refine tp_getN (cy := cy) (ci := 0) (v := .ref x_26) (C := RX0) (T := TX0) (N := 9) hx hb hta inlX0 hown hK hP hx_2.1 ((tp_un hfr hx_2 (by decide)).trans hf_23) rfl 2 (by decide) (va_Nw.use rfl (hN.1 20 _ nk_20)) (fun _ h9 => h9) rfl dX11_findSaid_17 ?_
  obtain ⟨x_34, x_35, x_36, x_37, x_38, x_39, hf_33, hx_34, hx_36, hx_37, hx_38, hx_39⟩ := (show tp_o_ROWS L K (0) 0 (Γ (3, 0, 0)) (f x_26) from hI0.at hx_26)
  refine tp_getN (cy := cy) (ci := 4) (v := .int x_34) (C := RX4) (T := TX4) (N := 6) hx hb hta inlX4 hown hK hP hx_26.1 ((tp_un hfr hx_26 (by decide)).trans hf_33) rfl 0 (by decide) (va_Nw.use rfl (hN.1 2 _ nk_2)) (fun _ h9 => h9) rfl dX11_findSaid_20 ?_
  refine lv_icmp_ge (tgt := 105) hx hb dX11_findSaid_23 (by decide) (fun c_40 => ?_) (fun c_40 => ?_)
  · have c_40 : x_34.toInt ≤ v3.toInt := tl_le c_40
    exact W.vret hx hb hr (fun t ht hW => ⟨⟨f_22, rfl, trivial, by rw [ht]; exact hP, hI, hfr⟩, hS.F ht⟩) hS.2.2 dX11_findSaid_105
  · have c_40 : v3.toInt < x_34.toInt := tl_nle c_40
    refine lv_aload_n hx hb dX11_findSaid_26 rfl (lv_at hl 1 rfl) ?_
    refine tp_get (cy := cy) (ci := 11) (v := .ref x_2) (C := RX11) (T := TX11) (N := 16) hx hb hta inlX11 hown hK hP ho.1 ((tp_un hfr ho (by decide)).trans hf_1) rfl 0 (by decide) (hta _ wk_15) (fun _ h9 => h9) rfl dX11_findSaid_27 ?_
    refine tp_getN (cy := cy) (ci := 0) (v := .ref x_26) (C := RX0) (T := TX0) (N := 9) hx hb hta inlX0 hown hK hP hx_2.1 ((tp_un hfr hx_2 (by decide)).trans hf_23) rfl 2 (by decide) (va_Nw.use rfl (hN.1 20 _ nk_20)) (fun _ h9 => h9) rfl dX11_findSaid_30 ?_
    refine tp_getN (cy := cy) (ci := 4) (v := .ref x_36) (C := RX4) (T := TX4) (N := 6) hx hb hta inlX4 hown hK hP hx_26.1 ((tp_un hfr hx_26 (by decide)).trans hf_33) rfl 2 (by decide) (va_Nw.use rfl (hN.1 5 _ nk_5)) (fun _ h9 => h9) rfl dX11_findSaid_33 ?_
    refine lv_iload_n hx hb dX11_findSaid_36 rfl (lv_at hl 0 rfl) ?_
    obtain ⟨g_42, hf_41, hg_43⟩ := (show tp_ai cy 4 (24) (f x_36) from hI0.at hx_36)
    have hn_44 : vp_in v3 (24) := tl_in (by omega) (by omega)
    refine tp_iald (cy := cy) hx hb hK hP hx_36.1 ((tp_un hfr hx_36 (by decide)).trans hf_41) hn_44 dX11_findSaid_37 ?_
    refine lv_topi (fun z_45 ez_45 => ?_)
    refine lv_istore (lv' := [(4, .int z_45), (3, .int v3), (0, .ref o), (1, .int p0), (2, .int p1)]) hx hb dX11_findSaid_38 hl (by decide) rfl (fun ls hl => ?_)
    refine lv_iload hx hb dX11_findSaid_40 (lv_at hl 0 rfl) ?_
    refine tl_si (tq_rS (As := [.int z_45]) (rest := []) ⟨hx, hb, hml, hown, hta⟩ (tp_P.pre hK hN hL hU hI hP) lk_X11_102 (t_X11_isGlass l D cy H.size L K Γ f_22 z_45 ) rfl rfl ⟨Nat.le_of_ble_eq_true rfl, Nat.le_of_ble_eq_true rfl⟩ rfl hl.1 rfl (Nat.le_of_ble_eq_true rfl) dX11_findSaid_42 ⟨Nat.le_of_ble_eq_true rfl, Nat.le_of_ble_eq_true rfl⟩) (fun r_47 hw_46 => ?_)
    have hw_46 : tl_E r_47 (0 ≤ z_45.toInt ∧ z_45.toInt ≤ 3) 1 0 := hw_46
    refine lv_if_eq (tgt := 99) hx hb dX11_findSaid_45 (by decide) (fun c_48 => ?_) (fun c_48 => ?_)
    · have c_48 := hw_46.f c_48
      obtain ⟨z_49, ez_49⟩ : ∃ y : Int32, y = v3 + 1 := ⟨_, rfl⟩
      refine lv_iinc (v := z_49) (lv' := [(3, .int z_49), (4, .int z_45), (0, .ref o), (1, .int p0), (2, .int p1)]) hx hb dX11_findSaid_99 hl (k := 1) rfl (by rw [ez_49]; rfl) (by decide) rfl (fun ls hl => ?_)
      try have iz_49 : z_49.toInt = v3.toInt + 1 := by rw [ez_49]; exact tl_addL v3 1 (by decide) (by omega) (by omega)
      refine lv_goto (tgt := 12) hx hb dX11_findSaid_102 (by decide) ?_
      exact ih12 (f_22, z_49) H locs ls (by show (24 - z_49.toInt).toNat < (24 - v3.toInt).toNat; omega) ⟨(show 0 ≤ z_49.toInt from (by omega)), (show z_49.toInt ≤ 24 from (by omega)), hP, hI, hfr, hS, lv_sub hl [0, 2, 3, 4] rfl⟩
    · have c_48 := hw_46.t c_48
      refine lv_aload_n hx hb dX11_findSaid_48 rfl (lv_at hl 2 rfl) ?_
      refine lv_iload_n hx hb dX11_findSaid_49 rfl (lv_at hl 3 rfl) ?_
      refine lv_iload_n hx hb dX11_findSaid_50 rfl (lv_at hl 1 rfl) ?_
      refine lv_iconst (v := (-1)) hx hb dX11_findSaid_51 (by decide) ?_
      refine tq_ci hS (hAf _ hS.1) (tq_rV (As := [.int p0, .int v3, .int (-1)]) (rest := []) ⟨hx, hb, hml, hown, hta⟩ (tp_P.pre hK hN hL hU hI hP) (tp_recv hK hP ho.1 ((tp_un hfr ho (by decide)).trans hf_1) rfl) lk_X11_246 (t_X11_look l D cy H.size L K Γ f_22 o p0 v3 (-1) ho) rfl rfl ⟨Nat.le_of_ble_eq_true rfl, Nat.le_of_ble_eq_true rfl⟩ rfl hl.1 rfl (Nat.le_of_ble_eq_true rfl) dX11_findSaid_52 ⟨Nat.le_of_ble_eq_true rfl, Nat.le_of_ble_eq_true rfl⟩) (fun r_51 f_52 H locs hw_50 hP hI hc_53 hS => ?_)
      have hD : va_D A (va_pl L f_52) := tp_D hL hAL
      have hfr := tp_fr2 hfr hc_53 (by decide)
      have hw_50 : tl_J r_51 (tv_gx f_22 f_52 o) := hw_50
      refine lv_if_eq (tgt := 99) hx hb dX11_findSaid_55 (by decide) (fun c_54 => ?_) (fun c_54 => ?_)
      · have c_54 := c_54
        obtain ⟨z_55, ez_55⟩ : ∃ y : Int32, y = v3 + 1 := ⟨_, rfl⟩
        refine lv_iinc (v := z_55) (lv' := [(3, .int z_55), (4, .int z_45), (0, .ref o), (1, .int p0), (2, .int p1)]) hx hb dX11_findSaid_99 hl (k := 1) rfl (by rw [ez_55]; rfl) (by decide) rfl (fun ls hl => ?_)
        try have iz_55 : z_55.toInt = v3.toInt + 1 := by rw [ez_55]; exact tl_addL v3 1 (by decide) (by omega) (by omega)
        refine lv_goto (tgt := 12) hx hb dX11_findSaid_102 (by decide) ?_
        exact ih12 (f_52, z_55) H locs ls (by show (24 - z_55.toInt).toNat < (24 - v3.toInt).toNat; omega) ⟨(show 0 ≤ z_55.toInt from (by omega)), (show z_55.toInt ≤ 24 from (by omega)), hP, hI, hfr, hS, lv_sub hl [0, 2, 3, 4] rfl⟩
      · have c_54 := hw_50.t c_54
        refine lv_aload_n hx hb dX11_findSaid_58 rfl (lv_at hl 2 rfl) ?_
        refine tp_get (cy := cy) (ci := 11) (v := .ref x_11) (C := RX11) (T := TX11) (N := 16) hx hb hta inlX11 hown hK hP ho.1 ((tp_un hfr ho (by decide)).trans hf_1) rfl 9 (by decide) (hta _ wk_42) (fun _ h9 => h9) rfl dX11_findSaid_59 ?_
        refine lv_iload_n hx hb dX11_findSaid_62 rfl (lv_at hl 4 rfl) ?_
        refine lv_i2l (v := p1.toInt64) hx hb dX11_findSaid_63 (by first | rfl | decide) ?_
        obtain ⟨x_57, x_58, x_59, x_60, x_61, x_62, x_63, x_64, x_65, x_66, x_67, x_68, x_69, x_70, x_71, x_72, x_73, x_74, hf_56, hx_57, hx_58, hx_59, hx_60, hx_61, hx_62, hx_63, hx_64, hx_65, hx_67, hx_70⟩ := (show tp_o_VIEW L K (0) 0 (Γ (27, 0, 0)) (f_52 x_11) from hI.at hx_11)
        refine tl_si (tq_rVN hN (As := [.long p1.toInt64]) (rest := []) ⟨hx, hb, hml, hown, hta⟩ (tp_P.pre hK hN hL hU hI hP) (tp_recv hK hP hx_11.1 hf_56 rfl) lk_X11_300 (t_X10_isNotBelow l D cy H.size L K Γ f_52 x_11 p1.toInt64 hx_11) rfl rfl ⟨Nat.le_of_ble_eq_true rfl, Nat.le_of_ble_eq_true rfl⟩ rfl hl.1 rfl (Nat.le_of_ble_eq_true rfl) dX11_findSaid_64 ⟨Nat.le_of_ble_eq_true rfl, Nat.le_of_ble_eq_true rfl⟩) (fun r_76 hw_75 => ?_)
        have hw_75 : tl_J r_76 (True) := hw_75
        refine lv_if_eq (tgt := 99) hx hb dX11_findSaid_67 (by decide) (fun c_77 => ?_) (fun c_77 => ?_)
        · have c_77 := c_77
          obtain ⟨z_78, ez_78⟩ : ∃ y : Int32, y = v3 + 1 := ⟨_, rfl⟩
          refine lv_iinc (v := z_78) (lv' := [(3, .int z_78), (4, .int z_45), (0, .ref o), (1, .int p0), (2, .int p1)]) hx hb dX11_findSaid_99 hl (k := 1) rfl (by rw [ez_78]; rfl) (by decide) rfl (fun ls hl => ?_)
          try have iz_78 : z_78.toInt = v3.toInt + 1 := by rw [ez_78]; exact tl_addL v3 1 (by decide) (by omega) (by omega)
          refine lv_goto (tgt := 12) hx hb dX11_findSaid_102 (by decide) ?_
          exact ih12 (f_52, z_78) H locs ls (by show (24 - z_78.toInt).toNat < (24 - v3.toInt).toNat; omega) ⟨(show 0 ≤ z_78.toInt from (by omega)), (show z_78.toInt ≤ 24 from (by omega)), hP, hI, hfr, hS, lv_sub hl [0, 2, 3, 4] rfl⟩
        · have c_77 := hw_75.t c_77
          refine lv_aload_n hx hb dX11_findSaid_70 rfl (lv_at hl 2 rfl) ?_
          refine tp_get (cy := cy) (ci := 11) (v := .ref x_15) (C := RX11) (T := TX11) (N := 16) hx hb hta inlX11 hown hK hP ho.1 ((tp_un hfr ho (by decide)).trans hf_1) rfl 13 (by decide) (hta _ wk_50) (fun _ h9 => h9) rfl dX11_findSaid_71 ?_
          refine lv_iload hx hb dX11_findSaid_74 (lv_at hl 0 rfl) ?_
          refine lv_aload_n hx hb dX11_findSaid_76 rfl (lv_at hl 2 rfl) ?_
          refine tp_get (cy := cy) (ci := 11) (v := .ref x_15) (C := RX11) (T := TX11) (N := 16) hx hb hta inlX11 hown hK hP ho.1 ((tp_un hfr ho (by decide)).trans hf_1) rfl 13 (by decide) (hta _ wk_50) (fun _ h9 => h9) rfl dX11_findSaid_77 ?_
          refine lv_iload hx hb dX11_findSaid_80 (lv_at hl 0 rfl) ?_
          obtain ⟨g_80, hf_79, hg_81⟩ := (show tp_ai cy 37 (8) (f_52 x_15) from hI.at hx_15)
          have hn_82 : vp_in z_45 (8) := tl_in (by omega) (by omega)
          refine tp_iald (cy := cy) hx hb hK hP hx_15.1 hf_79 hn_82 dX11_findSaid_82 ?_
          refine lv_topi (fun z_83 ez_83 => ?_)
          refine lv_aload_n hx hb dX11_findSaid_83 rfl (lv_at hl 2 rfl) ?_
          refine tp_get (cy := cy) (ci := 11) (v := .ref x_2) (C := RX11) (T := TX11) (N := 16) hx hb hta inlX11 hown hK hP ho.1 ((tp_un hfr ho (by decide)).trans hf_1) rfl 0 (by decide) (hta _ wk_15) (fun _ h9 => h9) rfl dX11_findSaid_84 ?_
          refine tp_getN (cy := cy) (ci := 0) (v := .ref x_26) (C := RX0) (T := TX0) (N := 9) hx hb hta inlX0 hown hK hP hx_2.1 ((tp_un hfr hx_2 (by decide)).trans hf_23) rfl 2 (by decide) (va_Nw.use rfl (hN.1 20 _ nk_20)) (fun _ h9 => h9) rfl dX11_findSaid_87 ?_
          refine tp_getN (cy := cy) (ci := 4) (v := .ref x_38) (C := RX4) (T := TX4) (N := 6) hx hb hta inlX4 hown hK hP hx_26.1 ((tp_un hfr hx_26 (by decide)).trans hf_33) rfl 4 (by decide) (va_Nw.use rfl (hN.1 9 _ nk_9)) (fun _ h9 => h9) rfl dX11_findSaid_90 ?_
          refine lv_iload_n hx hb dX11_findSaid_93 rfl (lv_at hl 1 rfl) ?_
          obtain ⟨g_85, hf_84, hg_86⟩ := (show tp_ai cy 4 (24) (f x_38) from hI0.at hx_38)
          have hn_87 : vp_in v3 (24) := tl_in (by omega) (by omega)
          refine tp_iald (cy := cy) hx hb hK hP hx_38.1 ((tp_un hfr hx_38 (by decide)).trans hf_84) hn_87 dX11_findSaid_94 ?_
          refine lv_topi (fun z_88 ez_88 => ?_)
          refine va_mmin hx hb (by rw [hml]; exact hl.1.symm) hown (hta _ wk_1209) (hta _ wk_770) (hta _ wk_83) (hta _ wk_771) (Nat.le_of_ble_eq_true rfl) (Nat.le_of_ble_eq_true rfl) (Nat.le_of_ble_eq_true rfl) (Nat.le_of_ble_eq_true rfl) dX11_findSaid_95 ?_
          refine lv_topi (fun z_89 ez_89 => ?_)
          have iz_89 : (z_89.toInt = z_88.toInt ∧ z_88.toInt ≤ z_83.toInt) ∨ (z_89.toInt = z_83.toInt ∧ z_83.toInt ≤ z_88.toInt) := by rw [ez_89]; exact tl_minF
          have hn_90 : vp_in z_45 (8) := tl_in (by omega) (by omega)
          have hI9 : tp_I cy L K Γ (va_up f_52 x_15 (.inl (cy 0, 8, .inl (upd g_80 z_45.toNatClampNeg z_89)))) := hI.set hx_15 (show tp_ai cy 37 (8) _ from ⟨_, rfl, tp_pi_upd hg_81 trivial⟩)
          have hfr9 : ∀ b, (K b).1 ∉ ([28, 29, 23, 24, 27, 30, 31, 32, 37] : List Nat) → va_up f_52 x_15 (.inl (cy 0, 8, .inl (upd g_80 z_45.toNatClampNeg z_89))) b = f b := tp_fr hfr hx_15 (by decide)
          refine tp_iast (cy := cy) hx hb hK hP hD hS hx_15.1 hf_79 hn_90 dX11_findSaid_98 (fun H locs hP hD hS => ?_)
          have hP : va_P D vwCl (va_pl L (va_up f_52 x_15 (.inl (cy 0, 8, .inl (upd g_80 z_45.toNatClampNeg z_89))))) H := hP
          generalize hfe : va_up f_52 x_15 (.inl (cy 0, 8, .inl (upd g_80 z_45.toNatClampNeg z_89))) = f_91 at hP hI9 hfr9
          have hD : va_D A (va_pl L f_91) := tp_D hL hAL
          have hf_92 := (show f_91 x_11 = _ from by rw [← hfe, va_up_ne _ _ (tp_ne hx_11 hx_15 (by decide))]).trans hf_56
          have hf_93 : f_91 x_15 = .inl (cy 0, 8, .inl (upd g_80 z_45.toNatClampNeg z_89)) := by rw [← hfe]; exact va_up_self _ _ _
          clear hfe
          have hI := hI9
          have hfr := hfr9
          clear hI9 hfr9
          obtain ⟨z_94, ez_94⟩ : ∃ y : Int32, y = v3 + 1 := ⟨_, rfl⟩
          refine lv_iinc (v := z_94) (lv' := [(3, .int z_94), (4, .int z_45), (0, .ref o), (1, .int p0), (2, .int p1)]) hx hb dX11_findSaid_99 hl (k := 1) rfl (by rw [ez_94]; rfl) (by decide) rfl (fun ls hl => ?_)
          try have iz_94 : z_94.toInt = v3.toInt + 1 := by rw [ez_94]; exact tl_addL v3 1 (by decide) (by omega) (by omega)
          refine lv_goto (tgt := 12) hx hb dX11_findSaid_102 (by decide) ?_
          exact ih12 (f_91, z_94) H locs ls (by show (24 - z_94.toInt).toNat < (24 - v3.toInt).toNat; omega) ⟨(show 0 ≤ z_94.toInt from (by omega)), (show z_94.toInt ≤ 24 from (by omega)), hP, hI, hfr, hS, lv_sub hl [0, 2, 3, 4] rfl⟩
set_option maxHeartbeats 4000000 in
set_option maxRecDepth 100000 in
theorem t_X11_begunUpTo (l : Launch) (D : va_G) (cy : Nat → ClassId) (sz : Nat) (L : List Nat) (K : Nat → tk_K) (Γ : tk_G) (f : Nat → va_E) (o : Nat) (p0 : Int32) (ho : tp_r L K 0 (0) 0 o) : Met l yX11_begunUpTo (tl_w yX11_begunUpTo cX11_begunUpTo 4 (some .int)) ({ frames := 0, cells := 0, slots := 0, locals := 0 }) (va_Pc [.ref o, .int p0] (tp_P D cy L K Γ f sz)) (vp_Si (fun r : Int32 => True)) 0 0 (fun _ => False) := by
  refine Met.ofW (cc := cX11_begunUpTo) (maxL := 4) (ret := (some .int)) (by decide) rfl ?_
  intro p e s m args below meth c s₁ B hml hv
  obtain ⟨rfl, hsz, hP, hK, hL, hI, hN, hU⟩ := hv
  have hx := B.exec
  have hb := B.bytes
  have hr := B.returns
  have hta := tl_hta (atoms_spec (ws := tl_w yX11_begunUpTo cX11_begunUpTo 4 (some .int)) B.pre)
  have hown : s.vm.findClass RX11 = some m.cls := findClass_of_methodNamed B.named
  have hlocks := B.notSynchronized
  subst hsz
  have hI0 := hI
  have hl := lv_entry ([.ref o, .int p0]) (n := 4) (Nat.le_of_ble_eq_true rfl)
  rw [lg_entry_eq]
  generalize (lg_sl ([.ref o, .int p0]) ++ List.replicate (4 - (lg_sl ([.ref o, .int p0])).length) Slot.unset).toArray = ls at hl ⊢
  have hl : lv_has ls 4 [(0, .ref o), (1, .int p0)] := hl
  refine lv_iconst (v := 0) hx hb dX11_begunUpTo_0 (by decide) ?_
  refine lv_istore_n (lv' := [(2, .int 0), (0, .ref o), (1, .int p0)]) hx hb dX11_begunUpTo_1 rfl hl (by decide) rfl (fun ls hl => ?_)
  refine lv_iconst (v := 0) hx hb dX11_begunUpTo_2 (by decide) ?_
  refine lv_istore_n (lv' := [(3, .int 0), (2, .int 0), (0, .ref o), (1, .int p0)]) hx hb dX11_begunUpTo_3 rfl hl (by decide) rfl (fun ls hl => ?_)
  refine tl_indR (G := fun ls => W p l e ((headSpec (tl_w yX11_begunUpTo cX11_begunUpTo 4 (some .int)) ({ frames := 0, cells := 0, slots := 0, locals := 0 })).room) s m #[.ref o, .int p0] below meth c s.heap [] 0 0 (MQ below (vp_Si (fun r : Int32 => True)) #[.ref o, .int p0] s 0 0 (fun _ => False)) (F0 m 4 ls [])) (α := Int32 × Int32) (fun aq => (8 - aq.1.toInt).toNat) (fun aq ls => (0 ≤ aq.1.toInt) ∧ (aq.1.toInt ≤ 8) ∧ lv_has ls 4 [(3, .int aq.1), (2, .int aq.2), (0, .ref o), (1, .int p0)]) ?_ ((0 : Int32), (0 : Int32)) ls ⟨(show 0 ≤ (0 : Int) from (by omega)), (show (0 : Int) ≤ 8 from (by omega)), lv_sub hl [0, 1, 2, 3] rfl⟩
  rintro ⟨v3, v2⟩ ls ⟨h0, h1, hl⟩ ih4
  have h0 : 0 ≤ v3.toInt := h0
  have h1 : v3.toInt ≤ 8 := h1
  have hl : lv_has ls 4 [(3, .int v3), (2, .int v2), (0, .ref o), (1, .int p0)] := hl
  refine lv_iload_n hx hb dX11_begunUpTo_4 rfl (lv_at hl 0 rfl) ?_
  refine lv_aload_n hx hb dX11_begunUpTo_5 rfl (lv_at hl 2 rfl) ?_
  obtain ⟨x_2, x_3, x_4, x_5, x_6, x_7, x_8, x_9, x_10, x_11, x_12, x_13, x_14, x_15, x_16, x_17, hf_1, hx_2, hx_3, hx_4, hx_5, hx_6, hx_7, hx_8, hx_9, hx_10, hx_11, hx_12, hx_13, hx_14, hx_15, hx_16, hx_17⟩ := (show tp_o_X L K (0) 0 (Γ (0, 0, 0)) (f o) from hI0.at ho)
  refine tp_get (cy := cy) (ci := 11) (v := .ref x_15) (C := RX11) (T := TX11) (N := 16) hx hb hta inlX11 hown hK hP ho.1 hf_1 rfl 13 (by decide) (hta _ wk_50) (fun _ h9 => h9) rfl dX11_begunUpTo_6 ?_
  obtain ⟨g_19, hf_18, hg_20⟩ := (show tp_ai cy 37 (8) (f x_15) from hI0.at hx_15)
  refine tp_alen (cy := cy) (t0 := 0) (v := 8) hx hb hK hP hx_15.1 rfl hf_18 rfl dX11_begunUpTo_9 ?_
  refine lv_icmp_ge (tgt := 37) hx hb dX11_begunUpTo_10 (by decide) (fun c_21 => ?_) (fun c_21 => ?_)
  · have c_21 : (8 : Int) ≤ v3.toInt := tl_le c_21
    refine lv_iload_n hx hb dX11_begunUpTo_37 rfl (lv_at hl 1 rfl) ?_
    exact W.iret (v := v2) hx hb hr (fun t ht hW => ⟨_, rfl, trivial, ht⟩) (fun q h => by cases h) dX11_begunUpTo_38
  · have c_21 : v3.toInt < (8 : Int) := tl_nle c_21
    refine lv_iload_n hx hb dX11_begunUpTo_13 rfl (lv_at hl 1 rfl) ?_
    refine lv_aload_n hx hb dX11_begunUpTo_14 rfl (lv_at hl 2 rfl) ?_
    refine tp_get (cy := cy) (ci := 11) (v := .ref x_15) (C := RX11) (T := TX11) (N := 16) hx hb hta inlX11 hown hK hP ho.1 hf_1 rfl 13 (by decide) (hta _ wk_50) (fun _ h9 => h9) rfl dX11_begunUpTo_15 ?_
    refine lv_iload_n hx hb dX11_begunUpTo_18 rfl (lv_at hl 0 rfl) ?_
    have hn_22 : vp_in v3 (8) := tl_in (by omega) (by omega)
    refine tp_iald (cy := cy) hx hb hK hP hx_15.1 hf_18 hn_22 dX11_begunUpTo_19 ?_
    refine lv_topi (fun z_23 ez_23 => ?_)
    refine lv_iload_n hx hb dX11_begunUpTo_20 rfl (lv_at hl 3 rfl) ?_
    refine lv_icmp_gt (tgt := 28) hx hb dX11_begunUpTo_21 (by decide) (fun c_24 => ?_) (fun c_24 => ?_)
    · have c_24 : p0.toInt < z_23.toInt := tl_lt c_24
      refine lv_iconst (v := 0) hx hb dX11_begunUpTo_28 (by decide) ?_
      refine lv_iadd hx hb dX11_begunUpTo_29 ?_
      refine lv_topi (fun z_25 ez_25 => ?_)
      try have iz_25 : z_25.toInt = v2.toInt + (0 : Int) := by rw [ez_25]; exact tl_addN v2 0 rfl rfl (by omega) (by omega)
      refine lv_istore_n (lv' := [(2, .int z_25), (3, .int v3), (0, .ref o), (1, .int p0)]) hx hb dX11_begunUpTo_30 rfl hl (by decide) rfl (fun ls hl => ?_)
      obtain ⟨z_26, ez_26⟩ : ∃ y : Int32, y = v3 + 1 := ⟨_, rfl⟩
      refine lv_iinc (v := z_26) (lv' := [(3, .int z_26), (2, .int z_25), (0, .ref o), (1, .int p0)]) hx hb dX11_begunUpTo_31 hl (k := 1) rfl (by rw [ez_26]; rfl) (by decide) rfl (fun ls hl => ?_)
      try have iz_26 : z_26.toInt = v3.toInt + 1 := by rw [ez_26]; exact tl_addL v3 1 (by decide) (by omega) (by omega)
      refine lv_goto (tgt := 4) hx hb dX11_begunUpTo_34 (by decide) ?_
      exact ih4 (z_26, z_25) ls (by show (8 - z_26.toInt).toNat < (8 - v3.toInt).toNat; omega) ⟨(show 0 ≤ z_26.toInt from (by omega)), (show z_26.toInt ≤ 8 from (by omega)), lv_sub hl [0, 1, 2, 3] rfl⟩
    · have c_24 : z_23.toInt ≤ p0.toInt := tl_nlt c_24
      refine lv_iconst (v := 1) hx hb dX11_begunUpTo_24 (by decide) ?_
      refine lv_goto (tgt := 29) hx hb dX11_begunUpTo_25 (by decide) ?_
      refine lv_iadd hx hb dX11_begunUpTo_29 ?_
      refine lv_topi (fun z_27 ez_27 => ?_)
      try have iz_27 : z_27.toInt = v2.toInt + (1 : Int) := by rw [ez_27]; exact tl_addN v2 1 rfl rfl (by omega) (by omega)
      refine lv_istore_n (lv' := [(2, .int z_27), (3, .int v3), (0, .ref o), (1, .int p0)]) hx hb dX11_begunUpTo_30 rfl hl (by decide) rfl (fun ls hl => ?_)
      obtain ⟨z_28, ez_28⟩ : ∃ y : Int32, y = v3 + 1 := ⟨_, rfl⟩
      refine lv_iinc (v := z_28) (lv' := [(3, .int z_28), (2, .int z_27), (0, .ref o), (1, .int p0)]) hx hb dX11_begunUpTo_31 hl (k := 1) rfl (by rw [ez_28]; rfl) (by decide) rfl (fun ls hl => ?_)
      try have iz_28 : z_28.toInt = v3.toInt + 1 := by rw [ez_28]; exact tl_addL v3 1 (by decide) (by omega) (by omega)
      refine lv_goto (tgt := 4) hx hb dX11_begunUpTo_34 (by decide) ?_
      exact ih4 (z_28, z_27) ls (by show (8 - z_28.toInt).toNat < (8 - v3.toInt).toNat; omega) ⟨(show 0 ≤ z_28.toInt from (by omega)), (show z_28.toInt ≤ 8 from (by omega)), lv_sub hl [0, 1, 2, 3] rfl⟩
set_option maxHeartbeats 4000000 in
set_option maxRecDepth 100000 in
theorem t_X11_said (l : Launch) (D : va_G) (cy : Nat → ClassId) (sz : Nat) (L : List Nat) (K : Nat → tk_K) (Γ : tk_G) (f : Nat → va_E) (o : Nat) (p0 : Int32) (p1 : Int32) (p2 : Int32) (ho : tp_r L K 0 (0) 0 o) : Met l yX11_said (tl_w yX11_said cX11_said 4 (some .int)) ({ frames := 6, cells := 0, slots := 0, locals := 137 }) (va_Pc [.ref o, .int p0, .int p1, .int p2] (tp_P D cy L K Γ f sz)) (va_Qi (fun (r : Int32) (u : Nat → va_E) => True) (tp_B D cy L K Γ f [28, 29, 23, 24, 27, 30, 31, 32, 37]) (tp_A L sz)) 0 0 (tp_A L sz) := by
  refine Met.ofW (cc := cX11_said) (maxL := 4) (ret := (some .int)) (by decide) rfl ?_
  intro p e s m args below meth c s₁ B hml hv
  obtain ⟨rfl, hsz, hP, hK, hL, hI, hN, hU⟩ := hv
  have hx := B.exec
  have hb := B.bytes
  have hr := B.returns
  have hta := tl_hta (atoms_spec (ws := tl_w yX11_said cX11_said 4 (some .int)) B.pre)
  have hown : s.vm.findClass RX11 = some m.cls := findClass_of_methodNamed B.named
  have hlocks := B.notSynchronized
  subst hsz
  have hI0 := hI
  generalize hAe : tp_A L s.heap.size = A
  have hA : ∀ q : Nat, s.heap.size ≤ q → A q := fun q h => by rw [← hAe]; exact Or.inr h
  have hAL : ∀ q ∈ L, A q := fun q h => by rw [← hAe]; exact Or.inl h
  have hAf : ∀ (H : Heap), s.heap.size ≤ H.size → ∀ q, tp_A L H.size q → A q := fun H h q hq => hq.elim (hAL q) (fun h2 => hA q (Nat.le_trans h h2))
  have hS : va_S A s.heap s.heap [] := va_S.rf
  have hD : va_D A (va_pl L f) := tp_D hL hAL
  have hfr : ∀ b, (K b).1 ∉ ([28, 29, 23, 24, 27, 30, 31, 32, 37] : List Nat) → f b = f b := fun _ _ => rfl
  have hl := lv_entry ([.ref o, .int p0, .int p1, .int p2]) (n := 4) (Nat.le_of_ble_eq_true rfl)
  rw [lg_entry_eq]
  generalize (lg_sl ([.ref o, .int p0, .int p1, .int p2]) ++ List.replicate (4 - (lg_sl ([.ref o, .int p0, .int p1, .int p2])).length) Slot.unset).toArray = ls at hl ⊢
  have hl : lv_has ls 4 [(0, .ref o), (1, .int p0), (2, .int p1), (3, .int p2)] := hl
  refine lv_aload_n hx hb dX11_said_0 rfl (lv_at hl 0 rfl) ?_
  obtain ⟨x_2, x_3, x_4, x_5, x_6, x_7, x_8, x_9, x_10, x_11, x_12, x_13, x_14, x_15, x_16, x_17, hf_1, hx_2, hx_3, hx_4, hx_5, hx_6, hx_7, hx_8, hx_9, hx_10, hx_11, hx_12, hx_13, hx_14, hx_15, hx_16, hx_17⟩ := (show tp_o_X L K (0) 0 (Γ (0, 0, 0)) (f o) from hI0.at ho)
  refine tp_get (cy := cy) (ci := 11) (v := .ref x_5) (C := RX11) (T := TX11) (N := 16) hx hb hta inlX11 hown hK hP ho.1 hf_1 rfl 3 (by decide) (hta _ wk_21) (fun _ h9 => h9) rfl dX11_said_1 ?_
  refine lv_iload_n hx hb dX11_said_4 rfl (lv_at hl 1 rfl) ?_
  obtain ⟨x_19, x_20, hf_18, hx_19, hx_20⟩ := (show tp_o_TEXTS L K (8) 0 (Γ (13, 8, 0)) (f x_5) from hI0.at hx_5)
  refine tl_sq (tq_rVN hN (As := [.int p0]) (rest := []) ⟨hx, hb, hml, hown, hta⟩ (tp_P.pre hK hN hL hU hI hP) (tp_recv hK hP hx_5.1 hf_18 rfl) lk_X11_201 (t_X8_at l D cy s.heap.size L K Γ f 8 x_5 p0 hx_5 (by first | omega | (simp only [Int32.toInt_toInt64]; omega) | decide | assumption)) rfl rfl ⟨Nat.le_of_ble_eq_true rfl, Nat.le_of_ble_eq_true rfl⟩ rfl hl.1 rfl (Nat.le_of_ble_eq_true rfl) dX11_said_5 ⟨Nat.le_of_ble_eq_true rfl, Nat.le_of_ble_eq_true rfl⟩) (fun r_22 hw_21 => ?_)
  rcases r_22 with _ | b_23
  · refine W.eq (g2 := F0 m 8 ls ([.null])) (by rfl) ?_
    refine lv_ifnullN (tgt := 25) hx hb dX11_said_8 (by decide) ?_
    refine lv_iconst (v := (-1)) hx hb dX11_said_25 (by decide) ?_
    exact W.iret (v := (-1)) hx hb hr (fun t ht hW => ⟨⟨_, f, rfl, trivial, by rw [ht]; exact hP, hI, hfr⟩, hS.F ht⟩) hS.2.2 dX11_said_26
  · have hb_23 := hw_21 _ rfl
    have hb_23 : tp_r L K 18 (0) 0 b_23 := hb_23
    refine W.eq (g2 := F0 m 8 ls ([.ref b_23])) (by rfl) ?_
    refine lv_ifnull hx hb dX11_said_8 ?_
    refine lv_iload_n hx hb dX11_said_11 rfl (lv_at hl 2 rfl) ?_
    refine tl_si (tq_rS (As := [.int p1]) (rest := []) ⟨hx, hb, hml, hown, hta⟩ (tp_P.pre hK hN hL hU hI hP) lk_X11_94 (t_X11_isWeek l D cy s.heap.size L K Γ f p1 ) rfl rfl ⟨Nat.le_of_ble_eq_true rfl, Nat.le_of_ble_eq_true rfl⟩ rfl hl.1 rfl (Nat.le_of_ble_eq_true rfl) dX11_said_12 ⟨Nat.le_of_ble_eq_true rfl, Nat.le_of_ble_eq_true rfl⟩) (fun r_25 hw_24 => ?_)
    have hw_24 : tl_E r_25 (0 ≤ p1.toInt ∧ p1.toInt ≤ 399) 1 0 := hw_24
    refine lv_if_eq (tgt := 25) hx hb dX11_said_15 (by decide) (fun c_26 => ?_) (fun c_26 => ?_)
    · have c_26 := hw_24.f c_26
      refine lv_iconst (v := (-1)) hx hb dX11_said_25 (by decide) ?_
      exact W.iret (v := (-1)) hx hb hr (fun t ht hW => ⟨⟨_, f, rfl, trivial, by rw [ht]; exact hP, hI, hfr⟩, hS.F ht⟩) hS.2.2 dX11_said_26
    · have c_26 := hw_24.t c_26
      refine lv_iload_n hx hb dX11_said_18 rfl (lv_at hl 3 rfl) ?_
      refine tl_si (tq_rS (As := [.int p2]) (rest := []) ⟨hx, hb, hml, hown, hta⟩ (tp_P.pre hK hN hL hU hI hP) lk_X11_336 (t_X11_isBar l D cy s.heap.size L K Γ f p2 ) rfl rfl ⟨Nat.le_of_ble_eq_true rfl, Nat.le_of_ble_eq_true rfl⟩ rfl hl.1 rfl (Nat.le_of_ble_eq_true rfl) dX11_said_19 ⟨Nat.le_of_ble_eq_true rfl, Nat.le_of_ble_eq_true rfl⟩) (fun r_28 hw_27 => ?_)
      have hw_27 : tl_E r_28 (-999999 ≤ p2.toInt ∧ p2.toInt ≤ 999999) 1 0 := hw_27
      refine lv_if_ne (tgt := 27) hx hb dX11_said_22 (by decide) (fun c_29 => ?_) (fun c_29 => ?_)
      · have c_29 := hw_27.t c_29
        refine lv_aload_n hx hb dX11_said_27 rfl (lv_at hl 0 rfl) ?_
        refine lv_iload_n hx hb dX11_said_28 rfl (lv_at hl 1 rfl) ?_
        refine lv_iload_n hx hb dX11_said_29 rfl (lv_at hl 3 rfl) ?_
        refine tq_cv hS (hAf _ hS.1) (tq_rV (As := [.int p0, .int p2]) (rest := []) ⟨hx, hb, hml, hown, hta⟩ (tp_P.pre hK hN hL hU hI hP) (tp_recv hK hP ho.1 hf_1 rfl) lk_X11_392 (t_X11_findSaid l D cy s.heap.size L K Γ f o p0 p2 ho) rfl rfl ⟨Nat.le_of_ble_eq_true rfl, Nat.le_of_ble_eq_true rfl⟩ rfl hl.1 rfl (Nat.le_of_ble_eq_true rfl) dX11_said_30 ⟨Nat.le_of_ble_eq_true rfl, Nat.le_of_ble_eq_true rfl⟩) (fun f_32 H locs hw_30 hP hI hc_33 hS => ?_)
        have hD : va_D A (va_pl L f_32) := tp_D hL hAL
        have hfr := tp_fr2 hfr hc_33 (by decide)
        refine lv_aload_n hx hb dX11_said_33 rfl (lv_at hl 0 rfl) ?_
        refine lv_iload_n hx hb dX11_said_34 rfl (lv_at hl 2 rfl) ?_
        refine tl_si (tq_rV (As := [.int p1]) (rest := []) ⟨hx, hb, hml, hown, hta⟩ (tp_P.pre hK hN hL hU hI hP) (tp_recv hK hP ho.1 ((tp_un hfr ho (by decide)).trans hf_1) rfl) lk_X11_396 (t_X11_begunUpTo l D cy H.size L K Γ f_32 o p1 ho) rfl rfl ⟨Nat.le_of_ble_eq_true rfl, Nat.le_of_ble_eq_true rfl⟩ rfl hl.1 rfl (Nat.le_of_ble_eq_true rfl) dX11_said_35 ⟨Nat.le_of_ble_eq_true rfl, Nat.le_of_ble_eq_true rfl⟩) (fun r_35 hw_34 => ?_)
        exact W.iret (v := r_35) hx hb hr (fun t ht hW => ⟨⟨_, f_32, rfl, trivial, by rw [ht]; exact hP, hI, hfr⟩, hS.F ht⟩) hS.2.2 dX11_said_38
      · have c_29 := hw_27.f c_29
        refine lv_iconst (v := (-1)) hx hb dX11_said_25 (by decide) ?_
        exact W.iret (v := (-1)) hx hb hr (fun t ht hW => ⟨⟨_, f, rfl, trivial, by rw [ht]; exact hP, hI, hfr⟩, hS.F ht⟩) hS.2.2 dX11_said_26
set_option maxHeartbeats 4000000 in
set_option maxRecDepth 100000 in
theorem t_X11_weeks (l : Launch) (D : va_G) (cy : Nat → ClassId) (sz : Nat) (L : List Nat) (K : Nat → tk_K) (Γ : tk_G) (f : Nat → va_E) (o : Nat) (p0 : Int32) (p1 : Int32) (p2 : Int32) (p3 : Int32) (p4 : Int32) (p5 : Int32) (ho : tp_r L K 0 (0) 0 o) : Met l yX11_weeks (tl_w yX11_weeks cX11_weeks 12 (some .int)) ({ frames := 6, cells := 0, slots := 0, locals := 137 }) (va_Pc [.ref o, .int p0, .int p1, .int p2, .int p3, .int p4, .int p5] (tp_P D cy L K Γ f sz)) (va_Qi (fun (r : Int32) (u : Nat → va_E) => True) (tp_B D cy L K Γ f [28, 29, 23, 24, 27, 30, 31, 32, 37]) (tp_A L sz)) 0 0 (tp_A L sz) := by
  refine Met.ofW (cc := cX11_weeks) (maxL := 12) (ret := (some .int)) (by decide) rfl ?_
  intro p e s m args below meth c s₁ B hml hv
  obtain ⟨rfl, hsz, hP, hK, hL, hI, hN, hU⟩ := hv
  have hx := B.exec
  have hb := B.bytes
  have hr := B.returns
  have hta := tl_hta (atoms_spec (ws := tl_w yX11_weeks cX11_weeks 12 (some .int)) B.pre)
  have hown : s.vm.findClass RX11 = some m.cls := findClass_of_methodNamed B.named
  have hlocks := B.notSynchronized
  subst hsz
  have hI0 := hI
  generalize hAe : tp_A L s.heap.size = A
  have hA : ∀ q : Nat, s.heap.size ≤ q → A q := fun q h => by rw [← hAe]; exact Or.inr h
  have hAL : ∀ q ∈ L, A q := fun q h => by rw [← hAe]; exact Or.inl h
  have hAf : ∀ (H : Heap), s.heap.size ≤ H.size → ∀ q, tp_A L H.size q → A q := fun H h q hq => hq.elim (hAL q) (fun h2 => hA q (Nat.le_trans h h2))
  have hS : va_S A s.heap s.heap [] := va_S.rf
  have hD : va_D A (va_pl L f) := tp_D hL hAL
  have hfr : ∀ b, (K b).1 ∉ ([28, 29, 23, 24, 27, 30, 31, 32, 37] : List Nat) → f b = f b := fun _ _ => rfl
  have hl := lv_entry ([.ref o, .int p0, .int p1, .int p2, .int p3, .int p4, .int p5]) (n := 12) (Nat.le_of_ble_eq_true rfl)
  rw [lg_entry_eq]
  generalize (lg_sl ([.ref o, .int p0, .int p1, .int p2, .int p3, .int p4, .int p5]) ++ List.replicate (12 - (lg_sl ([.ref o, .int p0, .int p1, .int p2, .int p3, .int p4, .int p5])).length) Slot.unset).toArray = ls at hl ⊢
  have hl : lv_has ls 12 [(0, .ref o), (1, .int p0), (2, .int p1), (3, .int p2), (4, .int p3), (5, .int p4), (6, .int p5)] := hl
  refine lv_iload_n hx hb dX11_weeks_0 rfl (lv_at hl 2 rfl) ?_
  refine tl_si (tq_rS (As := [.int p1]) (rest := []) ⟨hx, hb, hml, hown, hta⟩ (tp_P.pre hK hN hL hU hI hP) lk_X11_94 (t_X11_isWeek l D cy s.heap.size L K Γ f p1 ) rfl rfl ⟨Nat.le_of_ble_eq_true rfl, Nat.le_of_ble_eq_true rfl⟩ rfl hl.1 rfl (Nat.le_of_ble_eq_true rfl) dX11_weeks_1 ⟨Nat.le_of_ble_eq_true rfl, Nat.le_of_ble_eq_true rfl⟩) (fun r_2 hw_1 => ?_)
  have hw_1 : tl_E r_2 (0 ≤ p1.toInt ∧ p1.toInt ≤ 399) 1 0 := hw_1
  refine lv_if_eq (tgt := 31) hx hb dX11_weeks_4 (by decide) (fun c_3 => ?_) (fun c_3 => ?_)
  · have c_3 := hw_1.f c_3
    refine lv_iconst (v := 0) hx hb dX11_weeks_31 (by decide) ?_
    refine lv_istore (lv' := [(7, .int 0), (0, .ref o), (1, .int p0), (2, .int p1), (3, .int p2), (4, .int p3), (5, .int p4), (6, .int p5)]) hx hb dX11_weeks_32 hl (by decide) rfl (fun ls hl => ?_)
    refine lv_aload_n hx hb dX11_weeks_34 rfl (lv_at hl 1 rfl) ?_
    obtain ⟨x_5, x_6, x_7, x_8, x_9, x_10, x_11, x_12, x_13, x_14, x_15, x_16, x_17, x_18, x_19, x_20, hf_4, hx_5, hx_6, hx_7, hx_8, hx_9, hx_10, hx_11, hx_12, hx_13, hx_14, hx_15, hx_16, hx_17, hx_18, hx_19, hx_20⟩ := (show tp_o_X L K (0) 0 (Γ (0, 0, 0)) (f o) from hI0.at ho)
    refine tp_get (cy := cy) (ci := 11) (v := .ref x_8) (C := RX11) (T := TX11) (N := 16) hx hb hta inlX11 hown hK hP ho.1 hf_4 rfl 3 (by decide) (hta _ wk_21) (fun _ h9 => h9) rfl dX11_weeks_35 ?_
    refine lv_iload_n hx hb dX11_weeks_38 rfl (lv_at hl 2 rfl) ?_
    obtain ⟨x_22, x_23, hf_21, hx_22, hx_23⟩ := (show tp_o_TEXTS L K (8) 0 (Γ (13, 8, 0)) (f x_8) from hI0.at hx_8)
    refine tl_sq (tq_rVN hN (As := [.int p0]) (rest := []) ⟨hx, hb, hml, hown, hta⟩ (tp_P.pre hK hN hL hU hI hP) (tp_recv hK hP hx_8.1 hf_21 rfl) lk_X11_201 (t_X8_at l D cy s.heap.size L K Γ f 8 x_8 p0 hx_8 (by first | omega | (simp only [Int32.toInt_toInt64]; omega) | decide | assumption)) rfl rfl ⟨Nat.le_of_ble_eq_true rfl, Nat.le_of_ble_eq_true rfl⟩ rfl hl.1 rfl (Nat.le_of_ble_eq_true rfl) dX11_weeks_39 ⟨Nat.le_of_ble_eq_true rfl, Nat.le_of_ble_eq_true rfl⟩) (fun r_25 hw_24 => ?_)
    rcases r_25 with _ | b_26
    · refine W.eq (g2 := F0 m 42 ls ([.null])) (by rfl) ?_
      refine lv_ifnullN (tgt := 78) hx hb dX11_weeks_42 (by decide) ?_
      refine lv_iconst (v := (-1)) hx hb dX11_weeks_78 (by decide) ?_
      exact W.iret (v := (-1)) hx hb hr (fun t ht hW => ⟨⟨_, f, rfl, trivial, by rw [ht]; exact hP, hI, hfr⟩, hS.F ht⟩) hS.2.2 dX11_weeks_79
    · have hb_26 := hw_24 _ rfl
      have hb_26 : tp_r L K 18 (0) 0 b_26 := hb_26
      refine W.eq (g2 := F0 m 42 ls ([.ref b_26])) (by rfl) ?_
      refine lv_ifnull hx hb dX11_weeks_42 ?_
      refine lv_iload hx hb dX11_weeks_45 (lv_at hl 0 rfl) ?_
      refine lv_if_eq (tgt := 78) hx hb dX11_weeks_47 (by decide) (fun _ => ?_) (fun c => absurd c (by decide))
      refine lv_iconst (v := (-1)) hx hb dX11_weeks_78 (by decide) ?_
      exact W.iret (v := (-1)) hx hb hr (fun t ht hW => ⟨⟨_, f, rfl, trivial, by rw [ht]; exact hP, hI, hfr⟩, hS.F ht⟩) hS.2.2 dX11_weeks_79
  · have c_3 := hw_1.t c_3
    refine lv_iload_n hx hb dX11_weeks_7 rfl (lv_at hl 3 rfl) ?_
    refine tl_si (tq_rS (As := [.int p2]) (rest := []) ⟨hx, hb, hml, hown, hta⟩ (tp_P.pre hK hN hL hU hI hP) lk_X11_94 (t_X11_isWeek l D cy s.heap.size L K Γ f p2 ) rfl rfl ⟨Nat.le_of_ble_eq_true rfl, Nat.le_of_ble_eq_true rfl⟩ rfl hl.1 rfl (Nat.le_of_ble_eq_true rfl) dX11_weeks_8 ⟨Nat.le_of_ble_eq_true rfl, Nat.le_of_ble_eq_true rfl⟩) (fun r_28 hw_27 => ?_)
    have hw_27 : tl_E r_28 (0 ≤ p2.toInt ∧ p2.toInt ≤ 399) 1 0 := hw_27
    refine lv_if_eq (tgt := 31) hx hb dX11_weeks_11 (by decide) (fun c_29 => ?_) (fun c_29 => ?_)
    · have c_29 := hw_27.f c_29
      refine lv_iconst (v := 0) hx hb dX11_weeks_31 (by decide) ?_
      refine lv_istore (lv' := [(7, .int 0), (0, .ref o), (1, .int p0), (2, .int p1), (3, .int p2), (4, .int p3), (5, .int p4), (6, .int p5)]) hx hb dX11_weeks_32 hl (by decide) rfl (fun ls hl => ?_)
      refine lv_aload_n hx hb dX11_weeks_34 rfl (lv_at hl 1 rfl) ?_
      obtain ⟨x_31, x_32, x_33, x_34, x_35, x_36, x_37, x_38, x_39, x_40, x_41, x_42, x_43, x_44, x_45, x_46, hf_30, hx_31, hx_32, hx_33, hx_34, hx_35, hx_36, hx_37, hx_38, hx_39, hx_40, hx_41, hx_42, hx_43, hx_44, hx_45, hx_46⟩ := (show tp_o_X L K (0) 0 (Γ (0, 0, 0)) (f o) from hI0.at ho)
      refine tp_get (cy := cy) (ci := 11) (v := .ref x_34) (C := RX11) (T := TX11) (N := 16) hx hb hta inlX11 hown hK hP ho.1 hf_30 rfl 3 (by decide) (hta _ wk_21) (fun _ h9 => h9) rfl dX11_weeks_35 ?_
      refine lv_iload_n hx hb dX11_weeks_38 rfl (lv_at hl 2 rfl) ?_
      obtain ⟨x_48, x_49, hf_47, hx_48, hx_49⟩ := (show tp_o_TEXTS L K (8) 0 (Γ (13, 8, 0)) (f x_34) from hI0.at hx_34)
      refine tl_sq (tq_rVN hN (As := [.int p0]) (rest := []) ⟨hx, hb, hml, hown, hta⟩ (tp_P.pre hK hN hL hU hI hP) (tp_recv hK hP hx_34.1 hf_47 rfl) lk_X11_201 (t_X8_at l D cy s.heap.size L K Γ f 8 x_34 p0 hx_34 (by first | omega | (simp only [Int32.toInt_toInt64]; omega) | decide | assumption)) rfl rfl ⟨Nat.le_of_ble_eq_true rfl, Nat.le_of_ble_eq_true rfl⟩ rfl hl.1 rfl (Nat.le_of_ble_eq_true rfl) dX11_weeks_39 ⟨Nat.le_of_ble_eq_true rfl, Nat.le_of_ble_eq_true rfl⟩) (fun r_51 hw_50 => ?_)
      rcases r_51 with _ | b_52
      · refine W.eq (g2 := F0 m 42 ls ([.null])) (by rfl) ?_
        refine lv_ifnullN (tgt := 78) hx hb dX11_weeks_42 (by decide) ?_
        refine lv_iconst (v := (-1)) hx hb dX11_weeks_78 (by decide) ?_
        exact W.iret (v := (-1)) hx hb hr (fun t ht hW => ⟨⟨_, f, rfl, trivial, by rw [ht]; exact hP, hI, hfr⟩, hS.F ht⟩) hS.2.2 dX11_weeks_79
      · have hb_52 := hw_50 _ rfl
        have hb_52 : tp_r L K 18 (0) 0 b_52 := hb_52
        refine W.eq (g2 := F0 m 42 ls ([.ref b_52])) (by rfl) ?_
        refine lv_ifnull hx hb dX11_weeks_42 ?_
        refine lv_iload hx hb dX11_weeks_45 (lv_at hl 0 rfl) ?_
        refine lv_if_eq (tgt := 78) hx hb dX11_weeks_47 (by decide) (fun _ => ?_) (fun c => absurd c (by decide))
        refine lv_iconst (v := (-1)) hx hb dX11_weeks_78 (by decide) ?_
        exact W.iret (v := (-1)) hx hb hr (fun t ht hW => ⟨⟨_, f, rfl, trivial, by rw [ht]; exact hP, hI, hfr⟩, hS.F ht⟩) hS.2.2 dX11_weeks_79
    · have c_29 := hw_27.t c_29
      refine lv_iload_n hx hb dX11_weeks_14 rfl (lv_at hl 2 rfl) ?_
      refine lv_iload_n hx hb dX11_weeks_15 rfl (lv_at hl 3 rfl) ?_
      refine lv_icmp_gt (tgt := 31) hx hb dX11_weeks_16 (by decide) (fun c_53 => ?_) (fun c_53 => ?_)
      · have c_53 : p2.toInt < p1.toInt := tl_lt c_53
        refine lv_iconst (v := 0) hx hb dX11_weeks_31 (by decide) ?_
        refine lv_istore (lv' := [(7, .int 0), (0, .ref o), (1, .int p0), (2, .int p1), (3, .int p2), (4, .int p3), (5, .int p4), (6, .int p5)]) hx hb dX11_weeks_32 hl (by decide) rfl (fun ls hl => ?_)
        refine lv_aload_n hx hb dX11_weeks_34 rfl (lv_at hl 1 rfl) ?_
        obtain ⟨x_55, x_56, x_57, x_58, x_59, x_60, x_61, x_62, x_63, x_64, x_65, x_66, x_67, x_68, x_69, x_70, hf_54, hx_55, hx_56, hx_57, hx_58, hx_59, hx_60, hx_61, hx_62, hx_63, hx_64, hx_65, hx_66, hx_67, hx_68, hx_69, hx_70⟩ := (show tp_o_X L K (0) 0 (Γ (0, 0, 0)) (f o) from hI0.at ho)
        refine tp_get (cy := cy) (ci := 11) (v := .ref x_58) (C := RX11) (T := TX11) (N := 16) hx hb hta inlX11 hown hK hP ho.1 hf_54 rfl 3 (by decide) (hta _ wk_21) (fun _ h9 => h9) rfl dX11_weeks_35 ?_
        refine lv_iload_n hx hb dX11_weeks_38 rfl (lv_at hl 2 rfl) ?_
        obtain ⟨x_72, x_73, hf_71, hx_72, hx_73⟩ := (show tp_o_TEXTS L K (8) 0 (Γ (13, 8, 0)) (f x_58) from hI0.at hx_58)
        refine tl_sq (tq_rVN hN (As := [.int p0]) (rest := []) ⟨hx, hb, hml, hown, hta⟩ (tp_P.pre hK hN hL hU hI hP) (tp_recv hK hP hx_58.1 hf_71 rfl) lk_X11_201 (t_X8_at l D cy s.heap.size L K Γ f 8 x_58 p0 hx_58 (by first | omega | (simp only [Int32.toInt_toInt64]; omega) | decide | assumption)) rfl rfl ⟨Nat.le_of_ble_eq_true rfl, Nat.le_of_ble_eq_true rfl⟩ rfl hl.1 rfl (Nat.le_of_ble_eq_true rfl) dX11_weeks_39 ⟨Nat.le_of_ble_eq_true rfl, Nat.le_of_ble_eq_true rfl⟩) (fun r_75 hw_74 => ?_)
        rcases r_75 with _ | b_76
        · refine W.eq (g2 := F0 m 42 ls ([.null])) (by rfl) ?_
          refine lv_ifnullN (tgt := 78) hx hb dX11_weeks_42 (by decide) ?_
          refine lv_iconst (v := (-1)) hx hb dX11_weeks_78 (by decide) ?_
          exact W.iret (v := (-1)) hx hb hr (fun t ht hW => ⟨⟨_, f, rfl, trivial, by rw [ht]; exact hP, hI, hfr⟩, hS.F ht⟩) hS.2.2 dX11_weeks_79
        · have hb_76 := hw_74 _ rfl
          have hb_76 : tp_r L K 18 (0) 0 b_76 := hb_76
          refine W.eq (g2 := F0 m 42 ls ([.ref b_76])) (by rfl) ?_
          refine lv_ifnull hx hb dX11_weeks_42 ?_
          refine lv_iload hx hb dX11_weeks_45 (lv_at hl 0 rfl) ?_
          refine lv_if_eq (tgt := 78) hx hb dX11_weeks_47 (by decide) (fun _ => ?_) (fun c => absurd c (by decide))
          refine lv_iconst (v := (-1)) hx hb dX11_weeks_78 (by decide) ?_
          exact W.iret (v := (-1)) hx hb hr (fun t ht hW => ⟨⟨_, f, rfl, trivial, by rw [ht]; exact hP, hI, hfr⟩, hS.F ht⟩) hS.2.2 dX11_weeks_79
      · have c_53 : p1.toInt ≤ p2.toInt := tl_nlt c_53
        refine lv_iload_n hx hb dX11_weeks_19 rfl (lv_at hl 3 rfl) ?_
        refine lv_iload_n hx hb dX11_weeks_20 rfl (lv_at hl 2 rfl) ?_
        refine lv_isub hx hb dX11_weeks_21 ?_
        refine lv_topi (fun z_77 ez_77 => ?_)
        try have iz_77 : z_77.toInt = p2.toInt - p1.toInt := by rw [ez_77]; exact tl_subN p2 p1 rfl rfl (by omega) (by omega)
        refine lv_bipush (v := 100) hx hb dX11_weeks_22 (by decide) ?_
        refine lv_icmp_ge (tgt := 31) hx hb dX11_weeks_24 (by decide) (fun c_78 => ?_) (fun c_78 => ?_)
        · have c_78 : (100 : Int) ≤ z_77.toInt := tl_le c_78
          refine lv_iconst (v := 0) hx hb dX11_weeks_31 (by decide) ?_
          refine lv_istore (lv' := [(7, .int 0), (0, .ref o), (1, .int p0), (2, .int p1), (3, .int p2), (4, .int p3), (5, .int p4), (6, .int p5)]) hx hb dX11_weeks_32 hl (by decide) rfl (fun ls hl => ?_)
          refine lv_aload_n hx hb dX11_weeks_34 rfl (lv_at hl 1 rfl) ?_
          obtain ⟨x_80, x_81, x_82, x_83, x_84, x_85, x_86, x_87, x_88, x_89, x_90, x_91, x_92, x_93, x_94, x_95, hf_79, hx_80, hx_81, hx_82, hx_83, hx_84, hx_85, hx_86, hx_87, hx_88, hx_89, hx_90, hx_91, hx_92, hx_93, hx_94, hx_95⟩ := (show tp_o_X L K (0) 0 (Γ (0, 0, 0)) (f o) from hI0.at ho)
          refine tp_get (cy := cy) (ci := 11) (v := .ref x_83) (C := RX11) (T := TX11) (N := 16) hx hb hta inlX11 hown hK hP ho.1 hf_79 rfl 3 (by decide) (hta _ wk_21) (fun _ h9 => h9) rfl dX11_weeks_35 ?_
          refine lv_iload_n hx hb dX11_weeks_38 rfl (lv_at hl 2 rfl) ?_
          obtain ⟨x_97, x_98, hf_96, hx_97, hx_98⟩ := (show tp_o_TEXTS L K (8) 0 (Γ (13, 8, 0)) (f x_83) from hI0.at hx_83)
          refine tl_sq (tq_rVN hN (As := [.int p0]) (rest := []) ⟨hx, hb, hml, hown, hta⟩ (tp_P.pre hK hN hL hU hI hP) (tp_recv hK hP hx_83.1 hf_96 rfl) lk_X11_201 (t_X8_at l D cy s.heap.size L K Γ f 8 x_83 p0 hx_83 (by first | omega | (simp only [Int32.toInt_toInt64]; omega) | decide | assumption)) rfl rfl ⟨Nat.le_of_ble_eq_true rfl, Nat.le_of_ble_eq_true rfl⟩ rfl hl.1 rfl (Nat.le_of_ble_eq_true rfl) dX11_weeks_39 ⟨Nat.le_of_ble_eq_true rfl, Nat.le_of_ble_eq_true rfl⟩) (fun r_100 hw_99 => ?_)
          rcases r_100 with _ | b_101
          · refine W.eq (g2 := F0 m 42 ls ([.null])) (by rfl) ?_
            refine lv_ifnullN (tgt := 78) hx hb dX11_weeks_42 (by decide) ?_
            refine lv_iconst (v := (-1)) hx hb dX11_weeks_78 (by decide) ?_
            exact W.iret (v := (-1)) hx hb hr (fun t ht hW => ⟨⟨_, f, rfl, trivial, by rw [ht]; exact hP, hI, hfr⟩, hS.F ht⟩) hS.2.2 dX11_weeks_79
          · have hb_101 := hw_99 _ rfl
            have hb_101 : tp_r L K 18 (0) 0 b_101 := hb_101
            refine W.eq (g2 := F0 m 42 ls ([.ref b_101])) (by rfl) ?_
            refine lv_ifnull hx hb dX11_weeks_42 ?_
            refine lv_iload hx hb dX11_weeks_45 (lv_at hl 0 rfl) ?_
            refine lv_if_eq (tgt := 78) hx hb dX11_weeks_47 (by decide) (fun _ => ?_) (fun c => absurd c (by decide))
            refine lv_iconst (v := (-1)) hx hb dX11_weeks_78 (by decide) ?_
            exact W.iret (v := (-1)) hx hb hr (fun t ht hW => ⟨⟨_, f, rfl, trivial, by rw [ht]; exact hP, hI, hfr⟩, hS.F ht⟩) hS.2.2 dX11_weeks_79
        · have c_78 : z_77.toInt < (100 : Int) := tl_nle c_78
          refine lv_iconst (v := 1) hx hb dX11_weeks_27 (by decide) ?_
          refine lv_goto (tgt := 32) hx hb dX11_weeks_28 (by decide) ?_
          refine lv_istore (lv' := [(7, .int 1), (0, .ref o), (1, .int p0), (2, .int p1), (3, .int p2), (4, .int p3), (5, .int p4), (6, .int p5)]) hx hb dX11_weeks_32 hl (by decide) rfl (fun ls hl => ?_)
          refine lv_aload_n hx hb dX11_weeks_34 rfl (lv_at hl 1 rfl) ?_
          obtain ⟨x_103, x_104, x_105, x_106, x_107, x_108, x_109, x_110, x_111, x_112, x_113, x_114, x_115, x_116, x_117, x_118, hf_102, hx_103, hx_104, hx_105, hx_106, hx_107, hx_108, hx_109, hx_110, hx_111, hx_112, hx_113, hx_114, hx_115, hx_116, hx_117, hx_118⟩ := (show tp_o_X L K (0) 0 (Γ (0, 0, 0)) (f o) from hI0.at ho)
          refine tp_get (cy := cy) (ci := 11) (v := .ref x_106) (C := RX11) (T := TX11) (N := 16) hx hb hta inlX11 hown hK hP ho.1 hf_102 rfl 3 (by decide) (hta _ wk_21) (fun _ h9 => h9) rfl dX11_weeks_35 ?_
          refine lv_iload_n hx hb dX11_weeks_38 rfl (lv_at hl 2 rfl) ?_
          obtain ⟨x_120, x_121, hf_119, hx_120, hx_121⟩ := (show tp_o_TEXTS L K (8) 0 (Γ (13, 8, 0)) (f x_106) from hI0.at hx_106)
          refine tl_sq (tq_rVN hN (As := [.int p0]) (rest := []) ⟨hx, hb, hml, hown, hta⟩ (tp_P.pre hK hN hL hU hI hP) (tp_recv hK hP hx_106.1 hf_119 rfl) lk_X11_201 (t_X8_at l D cy s.heap.size L K Γ f 8 x_106 p0 hx_106 (by first | omega | (simp only [Int32.toInt_toInt64]; omega) | decide | assumption)) rfl rfl ⟨Nat.le_of_ble_eq_true rfl, Nat.le_of_ble_eq_true rfl⟩ rfl hl.1 rfl (Nat.le_of_ble_eq_true rfl) dX11_weeks_39 ⟨Nat.le_of_ble_eq_true rfl, Nat.le_of_ble_eq_true rfl⟩) (fun r_123 hw_122 => ?_)
          rcases r_123 with _ | b_124
          · refine W.eq (g2 := F0 m 42 ls ([.null])) (by rfl) ?_
            refine lv_ifnullN (tgt := 78) hx hb dX11_weeks_42 (by decide) ?_
            refine lv_iconst (v := (-1)) hx hb dX11_weeks_78 (by decide) ?_
            exact W.iret (v := (-1)) hx hb hr (fun t ht hW => ⟨⟨_, f, rfl, trivial, by rw [ht]; exact hP, hI, hfr⟩, hS.F ht⟩) hS.2.2 dX11_weeks_79
          · have hb_124 := hw_122 _ rfl
            have hb_124 : tp_r L K 18 (0) 0 b_124 := hb_124
            refine W.eq (g2 := F0 m 42 ls ([.ref b_124])) (by rfl) ?_
            refine lv_ifnull hx hb dX11_weeks_42 ?_
            refine lv_iload hx hb dX11_weeks_45 (lv_at hl 0 rfl) ?_
            refine lv_if_eq (tgt := 78) hx hb dX11_weeks_47 (by decide) (fun c => absurd c (by decide)) (fun _ => ?_)
            refine lv_iload hx hb dX11_weeks_50 (lv_at hl 5 rfl) ?_
            refine tl_si (tq_rS (As := [.int p3]) (rest := []) ⟨hx, hb, hml, hown, hta⟩ (tp_P.pre hK hN hL hU hI hP) lk_X11_336 (t_X11_isBar l D cy s.heap.size L K Γ f p3 ) rfl rfl ⟨Nat.le_of_ble_eq_true rfl, Nat.le_of_ble_eq_true rfl⟩ rfl hl.1 rfl (Nat.le_of_ble_eq_true rfl) dX11_weeks_52 ⟨Nat.le_of_ble_eq_true rfl, Nat.le_of_ble_eq_true rfl⟩) (fun r_126 hw_125 => ?_)
            have hw_125 : tl_E r_126 (-999999 ≤ p3.toInt ∧ p3.toInt ≤ 999999) 1 0 := hw_125
            refine lv_if_eq (tgt := 78) hx hb dX11_weeks_55 (by decide) (fun c_127 => ?_) (fun c_127 => ?_)
            · have c_127 := hw_125.f c_127
              refine lv_iconst (v := (-1)) hx hb dX11_weeks_78 (by decide) ?_
              exact W.iret (v := (-1)) hx hb hr (fun t ht hW => ⟨⟨_, f, rfl, trivial, by rw [ht]; exact hP, hI, hfr⟩, hS.F ht⟩) hS.2.2 dX11_weeks_79
            · have c_127 := hw_125.t c_127
              refine lv_iload hx hb dX11_weeks_58 (lv_at hl 6 rfl) ?_
              refine lv_iconst (v := 1) hx hb dX11_weeks_60 (by decide) ?_
              refine lv_iconst (v := 4) hx hb dX11_weeks_61 (by decide) ?_
              refine tl_si (tq_rS (As := [.int p4, .int 1, .int 4]) (rest := []) ⟨hx, hb, hml, hown, hta⟩ (tp_P.pre hK hN hL hU hI hP) lk_X11_105 (t_X11_isIn l D cy s.heap.size L K Γ f p4 1 4 ) rfl rfl ⟨Nat.le_of_ble_eq_true rfl, Nat.le_of_ble_eq_true rfl⟩ rfl hl.1 rfl (Nat.le_of_ble_eq_true rfl) dX11_weeks_62 ⟨Nat.le_of_ble_eq_true rfl, Nat.le_of_ble_eq_true rfl⟩) (fun r_129 hw_128 => ?_)
              have hw_128 : tl_E r_129 ((1 : Int) ≤ p4.toInt ∧ p4.toInt ≤ (4 : Int)) 1 0 := hw_128
              refine lv_if_eq (tgt := 78) hx hb dX11_weeks_65 (by decide) (fun c_130 => ?_) (fun c_130 => ?_)
              · have c_130 := hw_128.f c_130
                refine lv_iconst (v := (-1)) hx hb dX11_weeks_78 (by decide) ?_
                exact W.iret (v := (-1)) hx hb hr (fun t ht hW => ⟨⟨_, f, rfl, trivial, by rw [ht]; exact hP, hI, hfr⟩, hS.F ht⟩) hS.2.2 dX11_weeks_79
              · have c_130 := hw_128.t c_130
                refine lv_iload hx hb dX11_weeks_68 (lv_at hl 7 rfl) ?_
                refine lv_iconst (v := 0) hx hb dX11_weeks_70 (by decide) ?_
                refine lv_iconst (v := 1) hx hb dX11_weeks_71 (by decide) ?_
                refine tl_si (tq_rS (As := [.int p5, .int 0, .int 1]) (rest := []) ⟨hx, hb, hml, hown, hta⟩ (tp_P.pre hK hN hL hU hI hP) lk_X11_105 (t_X11_isIn l D cy s.heap.size L K Γ f p5 0 1 ) rfl rfl ⟨Nat.le_of_ble_eq_true rfl, Nat.le_of_ble_eq_true rfl⟩ rfl hl.1 rfl (Nat.le_of_ble_eq_true rfl) dX11_weeks_72 ⟨Nat.le_of_ble_eq_true rfl, Nat.le_of_ble_eq_true rfl⟩) (fun r_132 hw_131 => ?_)
                have hw_131 : tl_E r_132 ((0 : Int) ≤ p5.toInt ∧ p5.toInt ≤ (1 : Int)) 1 0 := hw_131
                refine lv_if_ne (tgt := 80) hx hb dX11_weeks_75 (by decide) (fun c_133 => ?_) (fun c_133 => ?_)
                · have c_133 := hw_131.t c_133
                  refine lv_aload_n hx hb dX11_weeks_80 rfl (lv_at hl 1 rfl) ?_
                  refine lv_iload_n hx hb dX11_weeks_81 rfl (lv_at hl 2 rfl) ?_
                  refine lv_iload hx hb dX11_weeks_82 (lv_at hl 5 rfl) ?_
                  refine tq_cv hS (hAf _ hS.1) (tq_rV (As := [.int p0, .int p3]) (rest := []) ⟨hx, hb, hml, hown, hta⟩ (tp_P.pre hK hN hL hU hI hP) (tp_recv hK hP ho.1 hf_102 rfl) lk_X11_392 (t_X11_findSaid l D cy s.heap.size L K Γ f o p0 p3 ho) rfl rfl ⟨Nat.le_of_ble_eq_true rfl, Nat.le_of_ble_eq_true rfl⟩ rfl hl.1 rfl (Nat.le_of_ble_eq_true rfl) dX11_weeks_84 ⟨Nat.le_of_ble_eq_true rfl, Nat.le_of_ble_eq_true rfl⟩) (fun f_136 H locs hw_134 hP hI hc_137 hS => ?_)
                  have hD : va_D A (va_pl L f_136) := tp_D hL hAL
                  have hfr := tp_fr2 hfr hc_137 (by decide)
                  refine lv_bipush (v := (-2)) hx hb dX11_weeks_87 (by decide) ?_
                  refine lv_istore (lv' := [(8, .int (-2)), (7, .int 1), (0, .ref o), (1, .int p0), (2, .int p1), (3, .int p2), (4, .int p3), (5, .int p4), (6, .int p5)]) hx hb dX11_weeks_89 hl (by decide) rfl (fun ls hl => ?_)
                  refine lv_iconst (v := 0) hx hb dX11_weeks_91 (by decide) ?_
                  refine lv_istore (lv' := [(9, .int 0), (8, .int (-2)), (7, .int 1), (0, .ref o), (1, .int p0), (2, .int p1), (3, .int p2), (4, .int p3), (5, .int p4), (6, .int p5)]) hx hb dX11_weeks_92 hl (by decide) rfl (fun ls hl => ?_)
                  refine lv_iload_n hx hb dX11_weeks_94 rfl (lv_at hl 5 rfl) ?_
                  refine lv_istore (lv' := [(10, .int p1), (9, .int 0), (8, .int (-2)), (7, .int 1), (0, .ref o), (1, .int p0), (2, .int p1), (3, .int p2), (4, .int p3), (5, .int p4), (6, .int p5)]) hx hb dX11_weeks_95 hl (by decide) rfl (fun ls hl => ?_)
                  refine tl_ind (G := fun H locs ls => W p l e ((headSpec (tl_w yX11_weeks cX11_weeks 12 (some .int)) ({ frames := 6, cells := 0, slots := 0, locals := 137 })).room) s m #[.ref o, .int p0, .int p1, .int p2, .int p3, .int p4, .int p5] below meth c H locs 0 0 (MQ below (va_Qi (fun (r : Int32) (u : Nat → va_E) => True) (tp_B D cy L K Γ f [28, 29, 23, 24, 27, 30, 31, 32, 37]) A) #[.ref o, .int p0, .int p1, .int p2, .int p3, .int p4, .int p5] s 0 0 A) (F0 m 97 ls [])) (α := (Nat → va_E) × Int32 × Int32 × Int32) (fun aq => (400 - aq.2.1.toInt).toNat) (fun aq H locs ls => (0 ≤ aq.2.1.toInt) ∧ (aq.2.1.toInt ≤ 400) ∧ va_P D vwCl (va_pl L aq.1) H ∧ tp_I cy L K Γ aq.1 ∧ (∀ b, (K b).1 ∉ ([28, 29, 23, 24, 27, 30, 31, 32, 37] : List Nat) → aq.1 b = f b) ∧ va_S A s.heap H locs ∧ lv_has ls 12 [(10, .int aq.2.1), (9, .int aq.2.2.1), (8, .int aq.2.2.2), (7, .int 1), (0, .ref o), (1, .int p0), (2, .int p1), (3, .int p2), (4, .int p3), (5, .int p4), (6, .int p5)]) ?_ (f_136, p1, (0 : Int32), ((-2) : Int32)) H locs ls ⟨(show 0 ≤ p1.toInt from (by omega)), (show p1.toInt ≤ 400 from (by omega)), hP, hI, hfr, hS, lv_sub hl [0, 1, 2, 3, 4, 5, 6, 7, 8, 9, 10] rfl⟩
                  rintro ⟨f_138, v10, v9, v8⟩ H locs ls ⟨h0, h1, hP, hI, hfr, hS, hl⟩ ih97
                  have hP : va_P D vwCl (va_pl L f_138) H := hP
                  have hI : tp_I cy L K Γ f_138 := hI
                  have hfr : ∀ b, (K b).1 ∉ ([28, 29, 23, 24, 27, 30, 31, 32, 37] : List Nat) → f_138 b = f b := hfr
                  have hD : va_D A (va_pl L f_138) := tp_D hL hAL
                  have h0 : 0 ≤ v10.toInt := h0
                  have h1 : v10.toInt ≤ 400 := h1
                  have hl : lv_has ls 12 [(10, .int v10), (9, .int v9), (8, .int v8), (7, .int 1), (0, .ref o), (1, .int p0), (2, .int p1), (3, .int p2), (4, .int p3), (5, .int p4), (6, .int p5)] := hl
                  refine lv_iload hx hb dX11_weeks_97 (lv_at hl 0 rfl) ?_
                  refine lv_iload_n hx hb dX11_weeks_99 rfl (lv_at hl 7 rfl) ?_
                  refine lv_icmp_gt (tgt := 164) hx hb dX11_weeks_100 (by decide) (fun c_139 => ?_) (fun c_139 => ?_)
                  · have c_139 : p2.toInt < v10.toInt := tl_lt c_139
                    refine lv_iload hx hb dX11_weeks_164 (lv_at hl 10 rfl) ?_
                    refine lv_if_ne (tgt := 174) hx hb dX11_weeks_166 (by decide) (fun c_140 => ?_) (fun c_140 => ?_)
                    · have c_140 : ¬ p5.toInt = (0 : Int) := tl_neq c_140
                      refine lv_iload hx hb dX11_weeks_174 (lv_at hl 1 rfl) ?_
                      exact W.iret (v := v9) hx hb hr (fun t ht hW => ⟨⟨_, f_138, rfl, trivial, by rw [ht]; exact hP, hI, hfr⟩, hS.F ht⟩) hS.2.2 dX11_weeks_176
                    · have c_140 : p5.toInt = (0 : Int) := tl_eq c_140
                      refine lv_iload hx hb dX11_weeks_169 (lv_at hl 2 rfl) ?_
                      refine lv_goto (tgt := 176) hx hb dX11_weeks_171 (by decide) ?_
                      exact W.iret (v := v8) hx hb hr (fun t ht hW => ⟨⟨_, f_138, rfl, trivial, by rw [ht]; exact hP, hI, hfr⟩, hS.F ht⟩) hS.2.2 dX11_weeks_176
                  · have c_139 : v10.toInt ≤ p2.toInt := tl_nlt c_139
                    refine lv_aload_n hx hb dX11_weeks_103 rfl (lv_at hl 4 rfl) ?_
                    refine lv_iload hx hb dX11_weeks_104 (lv_at hl 0 rfl) ?_
                    refine tl_si (tq_rV (As := [.int v10]) (rest := []) ⟨hx, hb, hml, hown, hta⟩ (tp_P.pre hK hN hL hU hI hP) (tp_recv hK hP ho.1 ((tp_un hfr ho (by decide)).trans hf_102) rfl) lk_X11_396 (t_X11_begunUpTo l D cy H.size L K Γ f_138 o v10 ho) rfl rfl ⟨Nat.le_of_ble_eq_true rfl, Nat.le_of_ble_eq_true rfl⟩ rfl hl.1 rfl (Nat.le_of_ble_eq_true rfl) dX11_weeks_106 ⟨Nat.le_of_ble_eq_true rfl, Nat.le_of_ble_eq_true rfl⟩) (fun r_142 hw_141 => ?_)
                    refine lv_istore (lv' := [(11, .int r_142), (10, .int v10), (9, .int v9), (8, .int v8), (7, .int 1), (0, .ref o), (1, .int p0), (2, .int p1), (3, .int p2), (4, .int p3), (5, .int p4), (6, .int p5)]) hx hb dX11_weeks_109 hl (by decide) rfl (fun ls hl => ?_)
                    refine lv_iload hx hb dX11_weeks_111 (lv_at hl 3 rfl) ?_
                    refine lv_bipush (v := (-2)) hx hb dX11_weeks_113 (by decide) ?_
                    refine lv_icmp_ne (tgt := 129) hx hb dX11_weeks_115 (by decide) (fun c_143 => ?_) (fun c_143 => ?_)
                    · have c_143 : ¬ v8.toInt = (-2 : Int) := tl_neq c_143
                      refine lv_iload hx hb dX11_weeks_129 (lv_at hl 2 rfl) ?_
                      refine lv_iload hx hb dX11_weeks_131 (lv_at hl 1 rfl) ?_
                      refine lv_iload_n hx hb dX11_weeks_133 rfl (lv_at hl 7 rfl) ?_
                      refine lv_icmp_le (tgt := 154) hx hb dX11_weeks_134 (by decide) (fun c_144 => ?_) (fun c_144 => ?_)
                      · have c_144 : v10.toInt ≤ p1.toInt := tl_le c_144
                        refine lv_iconst (v := 0) hx hb dX11_weeks_154 (by decide) ?_
                        refine lv_iadd hx hb dX11_weeks_155 ?_
                        refine lv_topi (fun z_145 ez_145 => ?_)
                        try have iz_145 : z_145.toInt = v9.toInt + (0 : Int) := by rw [ez_145]; exact tl_addN v9 0 rfl rfl (by omega) (by omega)
                        refine lv_istore (lv' := [(9, .int z_145), (11, .int r_142), (10, .int v10), (8, .int v8), (7, .int 1), (0, .ref o), (1, .int p0), (2, .int p1), (3, .int p2), (4, .int p3), (5, .int p4), (6, .int p5)]) hx hb dX11_weeks_156 hl (by decide) rfl (fun ls hl => ?_)
                        obtain ⟨z_146, ez_146⟩ : ∃ y : Int32, y = v10 + 1 := ⟨_, rfl⟩
                        refine lv_iinc (v := z_146) (lv' := [(10, .int z_146), (9, .int z_145), (11, .int r_142), (8, .int v8), (7, .int 1), (0, .ref o), (1, .int p0), (2, .int p1), (3, .int p2), (4, .int p3), (5, .int p4), (6, .int p5)]) hx hb dX11_weeks_158 hl (k := 2) rfl (by rw [ez_146]; rfl) (by decide) rfl (fun ls hl => ?_)
                        try have iz_146 : z_146.toInt = v10.toInt + 1 := by rw [ez_146]; exact tl_addL v10 1 (by decide) (by omega) (by omega)
                        refine lv_goto (tgt := 97) hx hb dX11_weeks_161 (by decide) ?_
                        exact ih97 (f_138, z_146, z_145, v8) H locs ls (by show (400 - z_146.toInt).toNat < (400 - v10.toInt).toNat; omega) ⟨(show 0 ≤ z_146.toInt from (by omega)), (show z_146.toInt ≤ 400 from (by omega)), hP, hI, hfr, hS, lv_sub hl [0, 1, 3, 4, 5, 6, 7, 8, 9, 10, 11] rfl⟩
                      · have c_144 : p1.toInt < v10.toInt := tl_nle c_144
                        refine lv_iload hx hb dX11_weeks_137 (lv_at hl 0 rfl) ?_
                        refine lv_aload_n hx hb dX11_weeks_139 rfl (lv_at hl 5 rfl) ?_
                        refine lv_iload hx hb dX11_weeks_140 (lv_at hl 1 rfl) ?_
                        refine lv_iconst (v := 1) hx hb dX11_weeks_142 (by decide) ?_
                        refine lv_isub hx hb dX11_weeks_143 ?_
                        refine lv_topi (fun z_147 ez_147 => ?_)
                        try have iz_147 : z_147.toInt = v10.toInt - (1 : Int) := by rw [ez_147]; exact tl_subN v10 1 rfl rfl (by omega) (by omega)
                        refine tl_si (tq_rV (As := [.int z_147]) (rest := [.int r_142, .int v9]) ⟨hx, hb, hml, hown, hta⟩ (tp_P.pre hK hN hL hU hI hP) (tp_recv hK hP ho.1 ((tp_un hfr ho (by decide)).trans hf_102) rfl) lk_X11_396 (t_X11_begunUpTo l D cy H.size L K Γ f_138 o z_147 ho) rfl rfl ⟨Nat.le_of_ble_eq_true rfl, Nat.le_of_ble_eq_true rfl⟩ rfl hl.1 rfl (Nat.le_of_ble_eq_true rfl) dX11_weeks_144 ⟨Nat.le_of_ble_eq_true rfl, Nat.le_of_ble_eq_true rfl⟩) (fun r_149 hw_148 => ?_)
                        refine lv_icmp_eq (tgt := 154) hx hb dX11_weeks_147 (by decide) (fun c_150 => ?_) (fun c_150 => ?_)
                        · have c_150 : r_142.toInt = r_149.toInt := tl_eq c_150
                          refine lv_iconst (v := 0) hx hb dX11_weeks_154 (by decide) ?_
                          refine lv_iadd hx hb dX11_weeks_155 ?_
                          refine lv_topi (fun z_151 ez_151 => ?_)
                          try have iz_151 : z_151.toInt = v9.toInt + (0 : Int) := by rw [ez_151]; exact tl_addN v9 0 rfl rfl (by omega) (by omega)
                          refine lv_istore (lv' := [(9, .int z_151), (11, .int r_142), (10, .int v10), (8, .int v8), (7, .int 1), (0, .ref o), (1, .int p0), (2, .int p1), (3, .int p2), (4, .int p3), (5, .int p4), (6, .int p5)]) hx hb dX11_weeks_156 hl (by decide) rfl (fun ls hl => ?_)
                          obtain ⟨z_152, ez_152⟩ : ∃ y : Int32, y = v10 + 1 := ⟨_, rfl⟩
                          refine lv_iinc (v := z_152) (lv' := [(10, .int z_152), (9, .int z_151), (11, .int r_142), (8, .int v8), (7, .int 1), (0, .ref o), (1, .int p0), (2, .int p1), (3, .int p2), (4, .int p3), (5, .int p4), (6, .int p5)]) hx hb dX11_weeks_158 hl (k := 2) rfl (by rw [ez_152]; rfl) (by decide) rfl (fun ls hl => ?_)
                          try have iz_152 : z_152.toInt = v10.toInt + 1 := by rw [ez_152]; exact tl_addL v10 1 (by decide) (by omega) (by omega)
                          refine lv_goto (tgt := 97) hx hb dX11_weeks_161 (by decide) ?_
                          exact ih97 (f_138, z_152, z_151, v8) H locs ls (by show (400 - z_152.toInt).toNat < (400 - v10.toInt).toNat; omega) ⟨(show 0 ≤ z_152.toInt from (by omega)), (show z_152.toInt ≤ 400 from (by omega)), hP, hI, hfr, hS, lv_sub hl [0, 1, 3, 4, 5, 6, 7, 8, 9, 10, 11] rfl⟩
                        · have c_150 : ¬ r_142.toInt = r_149.toInt := tl_neq c_150
                          refine lv_iconst (v := 1) hx hb dX11_weeks_150 (by decide) ?_
                          refine lv_goto (tgt := 155) hx hb dX11_weeks_151 (by decide) ?_
                          refine lv_iadd hx hb dX11_weeks_155 ?_
                          refine lv_topi (fun z_153 ez_153 => ?_)
                          try have iz_153 : z_153.toInt = v9.toInt + (1 : Int) := by rw [ez_153]; exact tl_addN v9 1 rfl rfl (by omega) (by omega)
                          refine lv_istore (lv' := [(9, .int z_153), (11, .int r_142), (10, .int v10), (8, .int v8), (7, .int 1), (0, .ref o), (1, .int p0), (2, .int p1), (3, .int p2), (4, .int p3), (5, .int p4), (6, .int p5)]) hx hb dX11_weeks_156 hl (by decide) rfl (fun ls hl => ?_)
                          obtain ⟨z_154, ez_154⟩ : ∃ y : Int32, y = v10 + 1 := ⟨_, rfl⟩
                          refine lv_iinc (v := z_154) (lv' := [(10, .int z_154), (9, .int z_153), (11, .int r_142), (8, .int v8), (7, .int 1), (0, .ref o), (1, .int p0), (2, .int p1), (3, .int p2), (4, .int p3), (5, .int p4), (6, .int p5)]) hx hb dX11_weeks_158 hl (k := 2) rfl (by rw [ez_154]; rfl) (by decide) rfl (fun ls hl => ?_)
                          try have iz_154 : z_154.toInt = v10.toInt + 1 := by rw [ez_154]; exact tl_addL v10 1 (by decide) (by omega) (by omega)
                          refine lv_goto (tgt := 97) hx hb dX11_weeks_161 (by decide) ?_
                          exact ih97 (f_138, z_154, z_153, v8) H locs ls (by show (400 - z_154.toInt).toNat < (400 - v10.toInt).toNat; omega) ⟨(show 0 ≤ z_154.toInt from (by omega)), (show z_154.toInt ≤ 400 from (by omega)), hP, hI, hfr, hS, lv_sub hl [0, 1, 3, 4, 5, 6, 7, 8, 9, 10, 11] rfl⟩
                    · have c_143 : v8.toInt = (-2 : Int) := tl_eq c_143
                      refine lv_iload hx hb dX11_weeks_118 (lv_at hl 0 rfl) ?_
                      refine lv_iload hx hb dX11_weeks_120 (lv_at hl 10 rfl) ?_
                      refine lv_icmp_lt (tgt := 129) hx hb dX11_weeks_122 (by decide) (fun c_155 => ?_) (fun c_155 => ?_)
                      · have c_155 : r_142.toInt < p4.toInt := tl_lt c_155
                        refine lv_iload hx hb dX11_weeks_129 (lv_at hl 2 rfl) ?_
                        refine lv_iload hx hb dX11_weeks_131 (lv_at hl 1 rfl) ?_
                        refine lv_iload_n hx hb dX11_weeks_133 rfl (lv_at hl 7 rfl) ?_
                        refine lv_icmp_le (tgt := 154) hx hb dX11_weeks_134 (by decide) (fun c_156 => ?_) (fun c_156 => ?_)
                        · have c_156 : v10.toInt ≤ p1.toInt := tl_le c_156
                          refine lv_iconst (v := 0) hx hb dX11_weeks_154 (by decide) ?_
                          refine lv_iadd hx hb dX11_weeks_155 ?_
                          refine lv_topi (fun z_157 ez_157 => ?_)
                          try have iz_157 : z_157.toInt = v9.toInt + (0 : Int) := by rw [ez_157]; exact tl_addN v9 0 rfl rfl (by omega) (by omega)
                          refine lv_istore (lv' := [(9, .int z_157), (11, .int r_142), (10, .int v10), (8, .int v8), (7, .int 1), (0, .ref o), (1, .int p0), (2, .int p1), (3, .int p2), (4, .int p3), (5, .int p4), (6, .int p5)]) hx hb dX11_weeks_156 hl (by decide) rfl (fun ls hl => ?_)
                          obtain ⟨z_158, ez_158⟩ : ∃ y : Int32, y = v10 + 1 := ⟨_, rfl⟩
                          refine lv_iinc (v := z_158) (lv' := [(10, .int z_158), (9, .int z_157), (11, .int r_142), (8, .int v8), (7, .int 1), (0, .ref o), (1, .int p0), (2, .int p1), (3, .int p2), (4, .int p3), (5, .int p4), (6, .int p5)]) hx hb dX11_weeks_158 hl (k := 2) rfl (by rw [ez_158]; rfl) (by decide) rfl (fun ls hl => ?_)
                          try have iz_158 : z_158.toInt = v10.toInt + 1 := by rw [ez_158]; exact tl_addL v10 1 (by decide) (by omega) (by omega)
                          refine lv_goto (tgt := 97) hx hb dX11_weeks_161 (by decide) ?_
                          exact ih97 (f_138, z_158, z_157, v8) H locs ls (by show (400 - z_158.toInt).toNat < (400 - v10.toInt).toNat; omega) ⟨(show 0 ≤ z_158.toInt from (by omega)), (show z_158.toInt ≤ 400 from (by omega)), hP, hI, hfr, hS, lv_sub hl [0, 1, 3, 4, 5, 6, 7, 8, 9, 10, 11] rfl⟩
                        · have c_156 : p1.toInt < v10.toInt := tl_nle c_156
                          refine lv_iload hx hb dX11_weeks_137 (lv_at hl 0 rfl) ?_
                          refine lv_aload_n hx hb dX11_weeks_139 rfl (lv_at hl 5 rfl) ?_
                          refine lv_iload hx hb dX11_weeks_140 (lv_at hl 1 rfl) ?_
                          refine lv_iconst (v := 1) hx hb dX11_weeks_142 (by decide) ?_
                          refine lv_isub hx hb dX11_weeks_143 ?_
                          refine lv_topi (fun z_159 ez_159 => ?_)
                          try have iz_159 : z_159.toInt = v10.toInt - (1 : Int) := by rw [ez_159]; exact tl_subN v10 1 rfl rfl (by omega) (by omega)
                          refine tl_si (tq_rV (As := [.int z_159]) (rest := [.int r_142, .int v9]) ⟨hx, hb, hml, hown, hta⟩ (tp_P.pre hK hN hL hU hI hP) (tp_recv hK hP ho.1 ((tp_un hfr ho (by decide)).trans hf_102) rfl) lk_X11_396 (t_X11_begunUpTo l D cy H.size L K Γ f_138 o z_159 ho) rfl rfl ⟨Nat.le_of_ble_eq_true rfl, Nat.le_of_ble_eq_true rfl⟩ rfl hl.1 rfl (Nat.le_of_ble_eq_true rfl) dX11_weeks_144 ⟨Nat.le_of_ble_eq_true rfl, Nat.le_of_ble_eq_true rfl⟩) (fun r_161 hw_160 => ?_)
                          refine lv_icmp_eq (tgt := 154) hx hb dX11_weeks_147 (by decide) (fun c_162 => ?_) (fun c_162 => ?_)
                          · have c_162 : r_142.toInt = r_161.toInt := tl_eq c_162
                            refine lv_iconst (v := 0) hx hb dX11_weeks_154 (by decide) ?_
                            refine lv_iadd hx hb dX11_weeks_155 ?_
                            refine lv_topi (fun z_163 ez_163 => ?_)
                            try have iz_163 : z_163.toInt = v9.toInt + (0 : Int) := by rw [ez_163]; exact tl_addN v9 0 rfl rfl (by omega) (by omega)
                            refine lv_istore (lv' := [(9, .int z_163), (11, .int r_142), (10, .int v10), (8, .int v8), (7, .int 1), (0, .ref o), (1, .int p0), (2, .int p1), (3, .int p2), (4, .int p3), (5, .int p4), (6, .int p5)]) hx hb dX11_weeks_156 hl (by decide) rfl (fun ls hl => ?_)
                            obtain ⟨z_164, ez_164⟩ : ∃ y : Int32, y = v10 + 1 := ⟨_, rfl⟩
                            refine lv_iinc (v := z_164) (lv' := [(10, .int z_164), (9, .int z_163), (11, .int r_142), (8, .int v8), (7, .int 1), (0, .ref o), (1, .int p0), (2, .int p1), (3, .int p2), (4, .int p3), (5, .int p4), (6, .int p5)]) hx hb dX11_weeks_158 hl (k := 2) rfl (by rw [ez_164]; rfl) (by decide) rfl (fun ls hl => ?_)
                            try have iz_164 : z_164.toInt = v10.toInt + 1 := by rw [ez_164]; exact tl_addL v10 1 (by decide) (by omega) (by omega)
                            refine lv_goto (tgt := 97) hx hb dX11_weeks_161 (by decide) ?_
                            exact ih97 (f_138, z_164, z_163, v8) H locs ls (by show (400 - z_164.toInt).toNat < (400 - v10.toInt).toNat; omega) ⟨(show 0 ≤ z_164.toInt from (by omega)), (show z_164.toInt ≤ 400 from (by omega)), hP, hI, hfr, hS, lv_sub hl [0, 1, 3, 4, 5, 6, 7, 8, 9, 10, 11] rfl⟩
                          · have c_162 : ¬ r_142.toInt = r_161.toInt := tl_neq c_162
                            refine lv_iconst (v := 1) hx hb dX11_weeks_150 (by decide) ?_
                            refine lv_goto (tgt := 155) hx hb dX11_weeks_151 (by decide) ?_
                            refine lv_iadd hx hb dX11_weeks_155 ?_
                            refine lv_topi (fun z_165 ez_165 => ?_)
                            try have iz_165 : z_165.toInt = v9.toInt + (1 : Int) := by rw [ez_165]; exact tl_addN v9 1 rfl rfl (by omega) (by omega)
                            refine lv_istore (lv' := [(9, .int z_165), (11, .int r_142), (10, .int v10), (8, .int v8), (7, .int 1), (0, .ref o), (1, .int p0), (2, .int p1), (3, .int p2), (4, .int p3), (5, .int p4), (6, .int p5)]) hx hb dX11_weeks_156 hl (by decide) rfl (fun ls hl => ?_)
                            obtain ⟨z_166, ez_166⟩ : ∃ y : Int32, y = v10 + 1 := ⟨_, rfl⟩
                            refine lv_iinc (v := z_166) (lv' := [(10, .int z_166), (9, .int z_165), (11, .int r_142), (8, .int v8), (7, .int 1), (0, .ref o), (1, .int p0), (2, .int p1), (3, .int p2), (4, .int p3), (5, .int p4), (6, .int p5)]) hx hb dX11_weeks_158 hl (k := 2) rfl (by rw [ez_166]; rfl) (by decide) rfl (fun ls hl => ?_)
                            try have iz_166 : z_166.toInt = v10.toInt + 1 := by rw [ez_166]; exact tl_addL v10 1 (by decide) (by omega) (by omega)
                            refine lv_goto (tgt := 97) hx hb dX11_weeks_161 (by decide) ?_
                            exact ih97 (f_138, z_166, z_165, v8) H locs ls (by show (400 - z_166.toInt).toNat < (400 - v10.toInt).toNat; omega) ⟨(show 0 ≤ z_166.toInt from (by omega)), (show z_166.toInt ≤ 400 from (by omega)), hP, hI, hfr, hS, lv_sub hl [0, 1, 3, 4, 5, 6, 7, 8, 9, 10, 11] rfl⟩
                      · have c_155 : p4.toInt ≤ r_142.toInt := tl_nlt c_155
                        refine lv_iload hx hb dX11_weeks_125 (lv_at hl 1 rfl) ?_
                        refine lv_istore (lv' := [(8, .int v10), (11, .int r_142), (10, .int v10), (9, .int v9), (7, .int 1), (0, .ref o), (1, .int p0), (2, .int p1), (3, .int p2), (4, .int p3), (5, .int p4), (6, .int p5)]) hx hb dX11_weeks_127 hl (by decide) rfl (fun ls hl => ?_)
                        refine lv_iload hx hb dX11_weeks_129 (lv_at hl 3 rfl) ?_
                        refine lv_iload hx hb dX11_weeks_131 (lv_at hl 2 rfl) ?_
                        refine lv_iload_n hx hb dX11_weeks_133 rfl (lv_at hl 7 rfl) ?_
                        refine lv_icmp_le (tgt := 154) hx hb dX11_weeks_134 (by decide) (fun c_167 => ?_) (fun c_167 => ?_)
                        · have c_167 : v10.toInt ≤ p1.toInt := tl_le c_167
                          refine lv_iconst (v := 0) hx hb dX11_weeks_154 (by decide) ?_
                          refine lv_iadd hx hb dX11_weeks_155 ?_
                          refine lv_topi (fun z_168 ez_168 => ?_)
                          try have iz_168 : z_168.toInt = v9.toInt + (0 : Int) := by rw [ez_168]; exact tl_addN v9 0 rfl rfl (by omega) (by omega)
                          refine lv_istore (lv' := [(9, .int z_168), (8, .int v10), (11, .int r_142), (10, .int v10), (7, .int 1), (0, .ref o), (1, .int p0), (2, .int p1), (3, .int p2), (4, .int p3), (5, .int p4), (6, .int p5)]) hx hb dX11_weeks_156 hl (by decide) rfl (fun ls hl => ?_)
                          obtain ⟨z_169, ez_169⟩ : ∃ y : Int32, y = v10 + 1 := ⟨_, rfl⟩
                          refine lv_iinc (v := z_169) (lv' := [(10, .int z_169), (9, .int z_168), (8, .int v10), (11, .int r_142), (7, .int 1), (0, .ref o), (1, .int p0), (2, .int p1), (3, .int p2), (4, .int p3), (5, .int p4), (6, .int p5)]) hx hb dX11_weeks_158 hl (k := 3) rfl (by rw [ez_169]; rfl) (by decide) rfl (fun ls hl => ?_)
                          try have iz_169 : z_169.toInt = v10.toInt + 1 := by rw [ez_169]; exact tl_addL v10 1 (by decide) (by omega) (by omega)
                          refine lv_goto (tgt := 97) hx hb dX11_weeks_161 (by decide) ?_
                          exact ih97 (f_138, z_169, z_168, v10) H locs ls (by show (400 - z_169.toInt).toNat < (400 - v10.toInt).toNat; omega) ⟨(show 0 ≤ z_169.toInt from (by omega)), (show z_169.toInt ≤ 400 from (by omega)), hP, hI, hfr, hS, lv_sub hl [0, 1, 2, 4, 5, 6, 7, 8, 9, 10, 11] rfl⟩
                        · have c_167 : p1.toInt < v10.toInt := tl_nle c_167
                          refine lv_iload hx hb dX11_weeks_137 (lv_at hl 1 rfl) ?_
                          refine lv_aload_n hx hb dX11_weeks_139 rfl (lv_at hl 5 rfl) ?_
                          refine lv_iload hx hb dX11_weeks_140 (lv_at hl 2 rfl) ?_
                          refine lv_iconst (v := 1) hx hb dX11_weeks_142 (by decide) ?_
                          refine lv_isub hx hb dX11_weeks_143 ?_
                          refine lv_topi (fun z_170 ez_170 => ?_)
                          try have iz_170 : z_170.toInt = v10.toInt - (1 : Int) := by rw [ez_170]; exact tl_subN v10 1 rfl rfl (by omega) (by omega)
                          refine tl_si (tq_rV (As := [.int z_170]) (rest := [.int r_142, .int v9]) ⟨hx, hb, hml, hown, hta⟩ (tp_P.pre hK hN hL hU hI hP) (tp_recv hK hP ho.1 ((tp_un hfr ho (by decide)).trans hf_102) rfl) lk_X11_396 (t_X11_begunUpTo l D cy H.size L K Γ f_138 o z_170 ho) rfl rfl ⟨Nat.le_of_ble_eq_true rfl, Nat.le_of_ble_eq_true rfl⟩ rfl hl.1 rfl (Nat.le_of_ble_eq_true rfl) dX11_weeks_144 ⟨Nat.le_of_ble_eq_true rfl, Nat.le_of_ble_eq_true rfl⟩) (fun r_172 hw_171 => ?_)
                          refine lv_icmp_eq (tgt := 154) hx hb dX11_weeks_147 (by decide) (fun c_173 => ?_) (fun c_173 => ?_)
                          · have c_173 : r_142.toInt = r_172.toInt := tl_eq c_173
                            refine lv_iconst (v := 0) hx hb dX11_weeks_154 (by decide) ?_
                            refine lv_iadd hx hb dX11_weeks_155 ?_
                            refine lv_topi (fun z_174 ez_174 => ?_)
                            try have iz_174 : z_174.toInt = v9.toInt + (0 : Int) := by rw [ez_174]; exact tl_addN v9 0 rfl rfl (by omega) (by omega)
                            refine lv_istore (lv' := [(9, .int z_174), (8, .int v10), (11, .int r_142), (10, .int v10), (7, .int 1), (0, .ref o), (1, .int p0), (2, .int p1), (3, .int p2), (4, .int p3), (5, .int p4), (6, .int p5)]) hx hb dX11_weeks_156 hl (by decide) rfl (fun ls hl => ?_)
                            obtain ⟨z_175, ez_175⟩ : ∃ y : Int32, y = v10 + 1 := ⟨_, rfl⟩
                            refine lv_iinc (v := z_175) (lv' := [(10, .int z_175), (9, .int z_174), (8, .int v10), (11, .int r_142), (7, .int 1), (0, .ref o), (1, .int p0), (2, .int p1), (3, .int p2), (4, .int p3), (5, .int p4), (6, .int p5)]) hx hb dX11_weeks_158 hl (k := 3) rfl (by rw [ez_175]; rfl) (by decide) rfl (fun ls hl => ?_)
                            try have iz_175 : z_175.toInt = v10.toInt + 1 := by rw [ez_175]; exact tl_addL v10 1 (by decide) (by omega) (by omega)
                            refine lv_goto (tgt := 97) hx hb dX11_weeks_161 (by decide) ?_
                            exact ih97 (f_138, z_175, z_174, v10) H locs ls (by show (400 - z_175.toInt).toNat < (400 - v10.toInt).toNat; omega) ⟨(show 0 ≤ z_175.toInt from (by omega)), (show z_175.toInt ≤ 400 from (by omega)), hP, hI, hfr, hS, lv_sub hl [0, 1, 2, 4, 5, 6, 7, 8, 9, 10, 11] rfl⟩
                          · have c_173 : ¬ r_142.toInt = r_172.toInt := tl_neq c_173
                            refine lv_iconst (v := 1) hx hb dX11_weeks_150 (by decide) ?_
                            refine lv_goto (tgt := 155) hx hb dX11_weeks_151 (by decide) ?_
                            refine lv_iadd hx hb dX11_weeks_155 ?_
                            refine lv_topi (fun z_176 ez_176 => ?_)
                            try have iz_176 : z_176.toInt = v9.toInt + (1 : Int) := by rw [ez_176]; exact tl_addN v9 1 rfl rfl (by omega) (by omega)
                            refine lv_istore (lv' := [(9, .int z_176), (8, .int v10), (11, .int r_142), (10, .int v10), (7, .int 1), (0, .ref o), (1, .int p0), (2, .int p1), (3, .int p2), (4, .int p3), (5, .int p4), (6, .int p5)]) hx hb dX11_weeks_156 hl (by decide) rfl (fun ls hl => ?_)
                            obtain ⟨z_177, ez_177⟩ : ∃ y : Int32, y = v10 + 1 := ⟨_, rfl⟩
                            refine lv_iinc (v := z_177) (lv' := [(10, .int z_177), (9, .int z_176), (8, .int v10), (11, .int r_142), (7, .int 1), (0, .ref o), (1, .int p0), (2, .int p1), (3, .int p2), (4, .int p3), (5, .int p4), (6, .int p5)]) hx hb dX11_weeks_158 hl (k := 3) rfl (by rw [ez_177]; rfl) (by decide) rfl (fun ls hl => ?_)
                            try have iz_177 : z_177.toInt = v10.toInt + 1 := by rw [ez_177]; exact tl_addL v10 1 (by decide) (by omega) (by omega)
                            refine lv_goto (tgt := 97) hx hb dX11_weeks_161 (by decide) ?_
                            exact ih97 (f_138, z_177, z_176, v10) H locs ls (by show (400 - z_177.toInt).toNat < (400 - v10.toInt).toNat; omega) ⟨(show 0 ≤ z_177.toInt from (by omega)), (show z_177.toInt ≤ 400 from (by omega)), hP, hI, hfr, hS, lv_sub hl [0, 1, 2, 4, 5, 6, 7, 8, 9, 10, 11] rfl⟩
                · have c_133 := hw_131.f c_133
                  refine lv_iconst (v := (-1)) hx hb dX11_weeks_78 (by decide) ?_
                  exact W.iret (v := (-1)) hx hb hr (fun t ht hW => ⟨⟨_, f, rfl, trivial, by rw [ht]; exact hP, hI, hfr⟩, hS.F ht⟩) hS.2.2 dX11_weeks_79
set_option maxHeartbeats 4000000 in
set_option maxRecDepth 100000 in
theorem t_X11_sortIn (l : Launch) (D : va_G) (cy : Nat → ClassId) (sz : Nat) (L : List Nat) (K : Nat → tk_K) (Γ : tk_G) (f : Nat → va_E) (o : Nat) (p0 : Int32) (p1 : Int32) (ho : tp_r L K 0 (0) 0 o) (h0 : 0 ≤ p0.toInt ∧ p0.toInt ≤ 24) : Met l yX11_sortIn (tl_w yX11_sortIn cX11_sortIn 4 none) ({ frames := 1, cells := 0, slots := 0, locals := 13 }) (va_Pc [.ref o, .int p0, .int p1] (tp_P D cy L K Γ f sz)) (va_Qv (fun (u : Nat → va_E) => True) (tp_B D cy L K Γ f [36]) (tp_A L sz)) 0 0 (tp_A L sz) := by
  refine Met.ofW (cc := cX11_sortIn) (maxL := 4) (ret := none) (by decide) rfl ?_
  intro p e s m args below meth c s₁ B hml hv
  obtain ⟨rfl, hsz, hP, hK, hL, hI, hN, hU⟩ := hv
  have hx := B.exec
  have hb := B.bytes
  have hr := B.returns
  have hta := tl_hta (atoms_spec (ws := tl_w yX11_sortIn cX11_sortIn 4 none) B.pre)
  have hown : s.vm.findClass RX11 = some m.cls := findClass_of_methodNamed B.named
  have hlocks := B.notSynchronized
  subst hsz
  have hI0 := hI
  generalize hAe : tp_A L s.heap.size = A
  have hA : ∀ q : Nat, s.heap.size ≤ q → A q := fun q h => by rw [← hAe]; exact Or.inr h
  have hAL : ∀ q ∈ L, A q := fun q h => by rw [← hAe]; exact Or.inl h
  have hAf : ∀ (H : Heap), s.heap.size ≤ H.size → ∀ q, tp_A L H.size q → A q := fun H h q hq => hq.elim (hAL q) (fun h2 => hA q (Nat.le_trans h h2))
  have hS : va_S A s.heap s.heap [] := va_S.rf
  have hD : va_D A (va_pl L f) := tp_D hL hAL
  have hfr : ∀ b, (K b).1 ∉ ([36] : List Nat) → f b = f b := fun _ _ => rfl
  have hl := lv_entry ([.ref o, .int p0, .int p1]) (n := 4) (Nat.le_of_ble_eq_true rfl)
  rw [lg_entry_eq]
  generalize (lg_sl ([.ref o, .int p0, .int p1]) ++ List.replicate (4 - (lg_sl ([.ref o, .int p0, .int p1])).length) Slot.unset).toArray = ls at hl ⊢
  have hl : lv_has ls 4 [(0, .ref o), (1, .int p0), (2, .int p1)] := hl
  refine lv_iload_n hx hb dX11_sortIn_0 rfl (lv_at hl 1 rfl) ?_
  refine lv_aload_n hx hb dX11_sortIn_1 rfl (lv_at hl 0 rfl) ?_
  obtain ⟨x_2, x_3, x_4, x_5, x_6, x_7, x_8, x_9, x_10, x_11, x_12, x_13, x_14, x_15, x_16, x_17, hf_1, hx_2, hx_3, hx_4, hx_5, hx_6, hx_7, hx_8, hx_9, hx_10, hx_11, hx_12, hx_13, hx_14, hx_15, hx_16, hx_17⟩ := (show tp_o_X L K (0) 0 (Γ (0, 0, 0)) (f o) from hI0.at ho)
  refine tp_get (cy := cy) (ci := 11) (v := .ref x_14) (C := RX11) (T := TX11) (N := 16) hx hb hta inlX11 hown hK hP ho.1 hf_1 rfl 12 (by decide) (hta _ wk_49) (fun _ h9 => h9) rfl dX11_sortIn_2 ?_
  obtain ⟨g_19, hf_18, hg_20⟩ := (show tp_ai cy 36 (24) (f x_14) from hI.at hx_14)
  refine tp_alen (cy := cy) (t0 := 0) (v := 24) hx hb hK hP hx_14.1 rfl hf_18 rfl dX11_sortIn_5 ?_
  refine lv_iconst (v := 1) hx hb dX11_sortIn_6 (by decide) ?_
  refine lv_isub hx hb dX11_sortIn_7 ?_
  refine lv_topi (fun z_21 ez_21 => ?_)
  obtain rfl : z_21 = (23 : Int32) := ez_21.trans (by decide)
  refine va_mmin hx hb (by rw [hml]; exact hl.1.symm) hown (hta _ wk_1209) (hta _ wk_770) (hta _ wk_83) (hta _ wk_771) (Nat.le_of_ble_eq_true rfl) (Nat.le_of_ble_eq_true rfl) (Nat.le_of_ble_eq_true rfl) (Nat.le_of_ble_eq_true rfl) dX11_sortIn_8 ?_
  refine lv_topi (fun z_22 ez_22 => ?_)
  have iz_22 : (z_22.toInt = (23 : Int) ∧ (23 : Int) ≤ p0.toInt) ∨ (z_22.toInt = p0.toInt ∧ p0.toInt ≤ (23 : Int)) := by rw [ez_22]; exact tl_minF
  refine lv_istore_n (lv' := [(3, .int z_22), (0, .ref o), (1, .int p0), (2, .int p1)]) hx hb dX11_sortIn_11 rfl hl (by decide) rfl (fun ls hl => ?_)
  refine tq_start hP hS (fun H locs hP hS => ?_)
  refine tl_ind (G := fun H locs ls => W p l e ((headSpec (tl_w yX11_sortIn cX11_sortIn 4 none) ({ frames := 1, cells := 0, slots := 0, locals := 13 })).room) s m #[.ref o, .int p0, .int p1] below meth c H locs 0 0 (MQ below (va_Qv (fun (u : Nat → va_E) => True) (tp_B D cy L K Γ f [36]) A) #[.ref o, .int p0, .int p1] s 0 0 A) (F0 m 12 ls [])) (α := (Nat → va_E) × Int32) (fun aq => aq.2.toInt.toNat) (fun aq H locs ls => (0 ≤ aq.2.toInt ∧ aq.2.toInt ≤ 23) ∧ va_P D vwCl (va_pl L aq.1) H ∧ tp_I cy L K Γ aq.1 ∧ (∀ b, (K b).1 ∉ ([36] : List Nat) → aq.1 b = f b) ∧ va_S A s.heap H locs ∧ lv_has ls 4 [(3, .int aq.2), (0, .ref o), (1, .int p0), (2, .int p1)]) ?_ (f, z_22) H locs ls ⟨(show 0 ≤ z_22.toInt ∧ z_22.toInt ≤ 23 from (by omega)), hP, hI, hfr, hS, lv_sub hl [0, 1, 2, 3] rfl⟩
  rintro ⟨f_23, v3⟩ H locs ls ⟨h5, hP, hI, hfr, hS, hl⟩ ih12
  have hP : va_P D vwCl (va_pl L f_23) H := hP
  have hI : tp_I cy L K Γ f_23 := hI
  have hfr : ∀ b, (K b).1 ∉ ([36] : List Nat) → f_23 b = f b := hfr
  have hD : va_D A (va_pl L f_23) := tp_D hL hAL
  have h5 : 0 ≤ v3.toInt ∧ v3.toInt ≤ 23 := h5
  have hl : lv_has ls 4 [(3, .int v3), (0, .ref o), (1, .int p0), (2, .int p1)] := hl
  refine lv_iload_n hx hb dX11_sortIn_12 rfl (lv_at hl 0 rfl) ?_
  refine lv_if_le (tgt := 48) hx hb dX11_sortIn_13 (by decide) (fun c_24 => ?_) (fun c_24 => ?_)
  · have c_24 : v3.toInt ≤ (0 : Int) := tl_le c_24
    refine lv_aload_n hx hb dX11_sortIn_48 rfl (lv_at hl 1 rfl) ?_
    refine tp_get (cy := cy) (ci := 11) (v := .ref x_14) (C := RX11) (T := TX11) (N := 16) hx hb hta inlX11 hown hK hP ho.1 ((tp_un hfr ho (by decide)).trans hf_1) rfl 12 (by decide) (hta _ wk_49) (fun _ h9 => h9) rfl dX11_sortIn_49 ?_
    refine lv_iload_n hx hb dX11_sortIn_52 rfl (lv_at hl 0 rfl) ?_
    refine lv_iload_n hx hb dX11_sortIn_53 rfl (lv_at hl 3 rfl) ?_
    obtain ⟨g_26, hf_25, hg_27⟩ := (show tp_ai cy 36 (24) (f_23 x_14) from hI.at hx_14)
    have hn_28 : vp_in v3 (24) := tl_in (by omega) (by omega)
    have hI9 : tp_I cy L K Γ (va_up f_23 x_14 (.inl (cy 0, 24, .inl (upd g_26 v3.toNatClampNeg p1)))) := hI.set hx_14 (show tp_ai cy 36 (24) _ from ⟨_, rfl, tp_pi_upd hg_27 trivial⟩)
    have hfr9 : ∀ b, (K b).1 ∉ ([36] : List Nat) → va_up f_23 x_14 (.inl (cy 0, 24, .inl (upd g_26 v3.toNatClampNeg p1))) b = f b := tp_fr hfr hx_14 (by decide)
    refine tp_iast (cy := cy) hx hb hK hP hD hS hx_14.1 hf_25 hn_28 dX11_sortIn_54 (fun H locs hP hD hS => ?_)
    have hP : va_P D vwCl (va_pl L (va_up f_23 x_14 (.inl (cy 0, 24, .inl (upd g_26 v3.toNatClampNeg p1))))) H := hP
    generalize hfe : va_up f_23 x_14 (.inl (cy 0, 24, .inl (upd g_26 v3.toNatClampNeg p1))) = f_29 at hP hI9 hfr9
    have hD : va_D A (va_pl L f_29) := tp_D hL hAL
    have hf_30 : f_29 x_14 = .inl (cy 0, 24, .inl (upd g_26 v3.toNatClampNeg p1)) := by rw [← hfe]; exact va_up_self _ _ _
    clear hfe
    have hI := hI9
    have hfr := hfr9
    clear hI9 hfr9
    exact W.vret hx hb hr (fun t ht hW => ⟨⟨f_29, rfl, trivial, by rw [ht]; exact hP, hI, hfr⟩, hS.F ht⟩) hS.2.2 dX11_sortIn_55
  · have c_24 : (0 : Int) < v3.toInt := tl_nle c_24
    refine lv_aload_n hx hb dX11_sortIn_16 rfl (lv_at hl 1 rfl) ?_
    refine tp_get (cy := cy) (ci := 11) (v := .ref x_14) (C := RX11) (T := TX11) (N := 16) hx hb hta inlX11 hown hK hP ho.1 ((tp_un hfr ho (by decide)).trans hf_1) rfl 12 (by decide) (hta _ wk_49) (fun _ h9 => h9) rfl dX11_sortIn_17 ?_
    refine lv_iload_n hx hb dX11_sortIn_20 rfl (lv_at hl 0 rfl) ?_
    refine lv_iconst (v := 1) hx hb dX11_sortIn_21 (by decide) ?_
    refine lv_isub hx hb dX11_sortIn_22 ?_
    refine lv_topi (fun z_31 ez_31 => ?_)
    try have iz_31 : z_31.toInt = v3.toInt - (1 : Int) := by rw [ez_31]; exact tl_subN v3 1 rfl rfl (by omega) (by omega)
    obtain ⟨g_33, hf_32, hg_34⟩ := (show tp_ai cy 36 (24) (f_23 x_14) from hI.at hx_14)
    have hn_35 : vp_in z_31 (24) := tl_in (by omega) (by omega)
    refine tp_iald (cy := cy) hx hb hK hP hx_14.1 hf_32 hn_35 dX11_sortIn_23 ?_
    refine lv_topi (fun z_36 ez_36 => ?_)
    refine lv_iload_n hx hb dX11_sortIn_24 rfl (lv_at hl 3 rfl) ?_
    refine lv_icmp_le (tgt := 48) hx hb dX11_sortIn_25 (by decide) (fun c_37 => ?_) (fun c_37 => ?_)
    · have c_37 : z_36.toInt ≤ p1.toInt := tl_le c_37
      refine lv_aload_n hx hb dX11_sortIn_48 rfl (lv_at hl 1 rfl) ?_
      refine tp_get (cy := cy) (ci := 11) (v := .ref x_14) (C := RX11) (T := TX11) (N := 16) hx hb hta inlX11 hown hK hP ho.1 ((tp_un hfr ho (by decide)).trans hf_1) rfl 12 (by decide) (hta _ wk_49) (fun _ h9 => h9) rfl dX11_sortIn_49 ?_
      refine lv_iload_n hx hb dX11_sortIn_52 rfl (lv_at hl 0 rfl) ?_
      refine lv_iload_n hx hb dX11_sortIn_53 rfl (lv_at hl 3 rfl) ?_
      have hn_38 : vp_in v3 (24) := tl_in (by omega) (by omega)
      have hI9 : tp_I cy L K Γ (va_up f_23 x_14 (.inl (cy 0, 24, .inl (upd g_33 v3.toNatClampNeg p1)))) := hI.set hx_14 (show tp_ai cy 36 (24) _ from ⟨_, rfl, tp_pi_upd hg_34 trivial⟩)
      have hfr9 : ∀ b, (K b).1 ∉ ([36] : List Nat) → va_up f_23 x_14 (.inl (cy 0, 24, .inl (upd g_33 v3.toNatClampNeg p1))) b = f b := tp_fr hfr hx_14 (by decide)
      refine tp_iast (cy := cy) hx hb hK hP hD hS hx_14.1 hf_32 hn_38 dX11_sortIn_54 (fun H locs hP hD hS => ?_)
      have hP : va_P D vwCl (va_pl L (va_up f_23 x_14 (.inl (cy 0, 24, .inl (upd g_33 v3.toNatClampNeg p1))))) H := hP
      generalize hfe : va_up f_23 x_14 (.inl (cy 0, 24, .inl (upd g_33 v3.toNatClampNeg p1))) = f_39 at hP hI9 hfr9
      have hD : va_D A (va_pl L f_39) := tp_D hL hAL
      have hf_40 : f_39 x_14 = .inl (cy 0, 24, .inl (upd g_33 v3.toNatClampNeg p1)) := by rw [← hfe]; exact va_up_self _ _ _
      clear hfe
      have hI := hI9
      have hfr := hfr9
      clear hI9 hfr9
      exact W.vret hx hb hr (fun t ht hW => ⟨⟨f_39, rfl, trivial, by rw [ht]; exact hP, hI, hfr⟩, hS.F ht⟩) hS.2.2 dX11_sortIn_55
    · have c_37 : p1.toInt < z_36.toInt := tl_nle c_37
      refine lv_aload_n hx hb dX11_sortIn_28 rfl (lv_at hl 1 rfl) ?_
      refine tp_get (cy := cy) (ci := 11) (v := .ref x_14) (C := RX11) (T := TX11) (N := 16) hx hb hta inlX11 hown hK hP ho.1 ((tp_un hfr ho (by decide)).trans hf_1) rfl 12 (by decide) (hta _ wk_49) (fun _ h9 => h9) rfl dX11_sortIn_29 ?_
      refine lv_iload_n hx hb dX11_sortIn_32 rfl (lv_at hl 0 rfl) ?_
      refine lv_aload_n hx hb dX11_sortIn_33 rfl (lv_at hl 1 rfl) ?_
      refine tp_get (cy := cy) (ci := 11) (v := .ref x_14) (C := RX11) (T := TX11) (N := 16) hx hb hta inlX11 hown hK hP ho.1 ((tp_un hfr ho (by decide)).trans hf_1) rfl 12 (by decide) (hta _ wk_49) (fun _ h9 => h9) rfl dX11_sortIn_34 ?_
      refine lv_iload_n hx hb dX11_sortIn_37 rfl (lv_at hl 0 rfl) ?_
      refine lv_iconst (v := 1) hx hb dX11_sortIn_38 (by decide) ?_
      refine lv_isub hx hb dX11_sortIn_39 ?_
      refine lv_topi (fun z_41 ez_41 => ?_)
      try have iz_41 : z_41.toInt = v3.toInt - (1 : Int) := by rw [ez_41]; exact tl_subN v3 1 rfl rfl (by omega) (by omega)
      have hn_42 : vp_in z_41 (24) := tl_in (by omega) (by omega)
      refine tp_iald (cy := cy) hx hb hK hP hx_14.1 hf_32 hn_42 dX11_sortIn_40 ?_
      refine lv_topi (fun z_43 ez_43 => ?_)
      have hn_44 : vp_in v3 (24) := tl_in (by omega) (by omega)
      have hI9 : tp_I cy L K Γ (va_up f_23 x_14 (.inl (cy 0, 24, .inl (upd g_33 v3.toNatClampNeg z_43)))) := hI.set hx_14 (show tp_ai cy 36 (24) _ from ⟨_, rfl, tp_pi_upd hg_34 trivial⟩)
      have hfr9 : ∀ b, (K b).1 ∉ ([36] : List Nat) → va_up f_23 x_14 (.inl (cy 0, 24, .inl (upd g_33 v3.toNatClampNeg z_43))) b = f b := tp_fr hfr hx_14 (by decide)
      refine tp_iast (cy := cy) hx hb hK hP hD hS hx_14.1 hf_32 hn_44 dX11_sortIn_41 (fun H locs hP hD hS => ?_)
      have hP : va_P D vwCl (va_pl L (va_up f_23 x_14 (.inl (cy 0, 24, .inl (upd g_33 v3.toNatClampNeg z_43))))) H := hP
      generalize hfe : va_up f_23 x_14 (.inl (cy 0, 24, .inl (upd g_33 v3.toNatClampNeg z_43))) = f_45 at hP hI9 hfr9
      have hD : va_D A (va_pl L f_45) := tp_D hL hAL
      have hf_46 : f_45 x_14 = .inl (cy 0, 24, .inl (upd g_33 v3.toNatClampNeg z_43)) := by rw [← hfe]; exact va_up_self _ _ _
      clear hfe
      have hI := hI9
      have hfr := hfr9
      clear hI9 hfr9
      obtain ⟨z_47, ez_47⟩ : ∃ y : Int32, y = v3 + (-1) := ⟨_, rfl⟩
      refine lv_iinc (v := z_47) (lv' := [(3, .int z_47), (0, .ref o), (1, .int p0), (2, .int p1)]) hx hb dX11_sortIn_42 hl (k := 0) rfl (by rw [ez_47]; rfl) (by decide) rfl (fun ls hl => ?_)
      try have iz_47 : z_47.toInt = v3.toInt + -1 := by rw [ez_47]; exact tl_addL v3 (-1) (by decide) (by omega) (by omega)
      refine lv_goto (tgt := 12) hx hb dX11_sortIn_45 (by decide) ?_
      exact ih12 (f_45, z_47) H locs ls (by show z_47.toInt.toNat < v3.toInt.toNat; omega) ⟨(show 0 ≤ z_47.toInt ∧ z_47.toInt ≤ 23 from (by omega)), hP, hI, hfr, hS, lv_sub hl [0, 1, 2, 3] rfl⟩
set_option maxHeartbeats 4000000 in
set_option maxRecDepth 100000 in
theorem t_X11_farthestFrom (l : Launch) (D : va_G) (cy : Nat → ClassId) (sz : Nat) (L : List Nat) (K : Nat → tk_K) (Γ : tk_G) (f : Nat → va_E) (o : Nat) (p0 : Int32) (p1 : Int32) (ho : tp_r L K 0 (0) 0 o) : Met l yX11_farthestFrom (tl_w yX11_farthestFrom cX11_farthestFrom 7 (some .int)) ({ frames := 1, cells := 0, slots := 0, locals := 13 }) (va_Pc [.ref o, .int p0, .int p1] (tp_P D cy L K Γ f sz)) (vp_Si (fun r : Int32 => True)) 0 0 (fun _ => False) := by
  refine Met.ofW (cc := cX11_farthestFrom) (maxL := 7) (ret := (some .int)) (by decide) rfl ?_
  intro p e s m args below meth c s₁ B hml hv
  obtain ⟨rfl, hsz, hP, hK, hL, hI, hN, hU⟩ := hv
  have hx := B.exec
  have hb := B.bytes
  have hr := B.returns
  have hta := tl_hta (atoms_spec (ws := tl_w yX11_farthestFrom cX11_farthestFrom 7 (some .int)) B.pre)
  have hown : s.vm.findClass RX11 = some m.cls := findClass_of_methodNamed B.named
  have hlocks := B.notSynchronized
  subst hsz
  have hI0 := hI
  have hl := lv_entry ([.ref o, .int p0, .int p1]) (n := 7) (Nat.le_of_ble_eq_true rfl)
  rw [lg_entry_eq]
  generalize (lg_sl ([.ref o, .int p0, .int p1]) ++ List.replicate (7 - (lg_sl ([.ref o, .int p0, .int p1])).length) Slot.unset).toArray = ls at hl ⊢
  have hl : lv_has ls 7 [(0, .ref o), (1, .int p0), (2, .int p1)] := hl
  refine lv_iconst (v := (-1)) hx hb dX11_farthestFrom_0 (by decide) ?_
  refine lv_istore_n (lv' := [(3, .int (-1)), (0, .ref o), (1, .int p0), (2, .int p1)]) hx hb dX11_farthestFrom_1 rfl hl (by decide) rfl (fun ls hl => ?_)
  refine lv_iconst (v := (-1)) hx hb dX11_farthestFrom_2 (by decide) ?_
  refine lv_istore (lv' := [(4, .int (-1)), (3, .int (-1)), (0, .ref o), (1, .int p0), (2, .int p1)]) hx hb dX11_farthestFrom_3 hl (by decide) rfl (fun ls hl => ?_)
  refine lv_iconst (v := 0) hx hb dX11_farthestFrom_5 (by decide) ?_
  refine lv_istore (lv' := [(5, .int 0), (4, .int (-1)), (3, .int (-1)), (0, .ref o), (1, .int p0), (2, .int p1)]) hx hb dX11_farthestFrom_6 hl (by decide) rfl (fun ls hl => ?_)
  refine tl_indR (G := fun ls => W p l e ((headSpec (tl_w yX11_farthestFrom cX11_farthestFrom 7 (some .int)) ({ frames := 1, cells := 0, slots := 0, locals := 13 })).room) s m #[.ref o, .int p0, .int p1] below meth c s.heap [] 0 0 (MQ below (vp_Si (fun r : Int32 => True)) #[.ref o, .int p0, .int p1] s 0 0 (fun _ => False)) (F0 m 8 ls [])) (α := Int32 × Int32 × Int32) (fun aq => (24 - aq.1.toInt).toNat) (fun aq ls => (0 ≤ aq.1.toInt) ∧ (aq.1.toInt ≤ 24) ∧ lv_has ls 7 [(5, .int aq.1), (4, .int aq.2.1), (3, .int aq.2.2), (0, .ref o), (1, .int p0), (2, .int p1)]) ?_ ((0 : Int32), ((-1) : Int32), ((-1) : Int32)) ls ⟨(show 0 ≤ (0 : Int) from (by omega)), (show (0 : Int) ≤ 24 from (by omega)), lv_sub hl [0, 1, 2, 3, 4, 5] rfl⟩
  rintro ⟨v5, v4, v3⟩ ls ⟨h0, h1, hl⟩ ih8
  have h0 : 0 ≤ v5.toInt := h0
  have h1 : v5.toInt ≤ 24 := h1
  have hl : lv_has ls 7 [(5, .int v5), (4, .int v4), (3, .int v3), (0, .ref o), (1, .int p0), (2, .int p1)] := hl
  refine lv_iload hx hb dX11_farthestFrom_8 (lv_at hl 0 rfl) ?_
  refine lv_aload_n hx hb dX11_farthestFrom_10 rfl (lv_at hl 3 rfl) ?_
  obtain ⟨x_2, x_3, x_4, x_5, x_6, x_7, x_8, x_9, x_10, x_11, x_12, x_13, x_14, x_15, x_16, x_17, hf_1, hx_2, hx_3, hx_4, hx_5, hx_6, hx_7, hx_8, hx_9, hx_10, hx_11, hx_12, hx_13, hx_14, hx_15, hx_16, hx_17⟩ := (show tp_o_X L K (0) 0 (Γ (0, 0, 0)) (f o) from hI0.at ho)
  refine tp_get (cy := cy) (ci := 11) (v := .ref x_2) (C := RX11) (T := TX11) (N := 16) hx hb hta inlX11 hown hK hP ho.1 hf_1 rfl 0 (by decide) (hta _ wk_15) (fun _ h9 => h9) rfl dX11_farthestFrom_11 ?_
  obtain ⟨x_19, x_20, x_21, x_22, x_23, x_24, x_25, x_26, x_27, hf_18, hx_19, hx_20, hx_21, hx_22, hx_23, hx_24, hx_25, hx_26, hx_27⟩ := (show tp_o_BOOK L K (0) 0 (Γ (1, 0, 0)) (f x_2) from hI0.at hx_2)
  refine tp_getN (cy := cy) (ci := 0) (v := .ref x_21) (C := RX0) (T := TX0) (N := 9) hx hb hta inlX0 hown hK hP hx_2.1 hf_18 rfl 2 (by decide) (va_Nw.use rfl (hN.1 20 _ nk_20)) (fun _ h9 => h9) rfl dX11_farthestFrom_14 ?_
  obtain ⟨x_29, x_30, x_31, x_32, x_33, x_34, hf_28, hx_29, hx_31, hx_32, hx_33, hx_34⟩ := (show tp_o_ROWS L K (0) 0 (Γ (3, 0, 0)) (f x_21) from hI0.at hx_21)
  refine tp_getN (cy := cy) (ci := 4) (v := .int x_29) (C := RX4) (T := TX4) (N := 6) hx hb hta inlX4 hown hK hP hx_21.1 hf_28 rfl 0 (by decide) (va_Nw.use rfl (hN.1 2 _ nk_2)) (fun _ h9 => h9) rfl dX11_farthestFrom_17 ?_
  refine lv_icmp_ge (tgt := 86) hx hb dX11_farthestFrom_20 (by decide) (fun c_35 => ?_) (fun c_35 => ?_)
  · have c_35 : x_29.toInt ≤ v5.toInt := tl_le c_35
    refine lv_iload_n hx hb dX11_farthestFrom_86 rfl (lv_at hl 2 rfl) ?_
    exact W.iret (v := v3) hx hb hr (fun t ht hW => ⟨_, rfl, trivial, ht⟩) (fun q h => by cases h) dX11_farthestFrom_87
  · have c_35 : v5.toInt < x_29.toInt := tl_nle c_35
    refine lv_aload_n hx hb dX11_farthestFrom_23 rfl (lv_at hl 3 rfl) ?_
    refine tp_get (cy := cy) (ci := 11) (v := .ref x_13) (C := RX11) (T := TX11) (N := 16) hx hb hta inlX11 hown hK hP ho.1 hf_1 rfl 11 (by decide) (hta _ wk_48) (fun _ h9 => h9) rfl dX11_farthestFrom_24 ?_
    refine lv_iload hx hb dX11_farthestFrom_27 (lv_at hl 0 rfl) ?_
    obtain ⟨g_37, hf_36, hg_38⟩ := (show tp_ai cy 36 (24) (f x_13) from hI0.at hx_13)
    have hn_39 : vp_in v5 (24) := tl_in (by omega) (by omega)
    refine tp_iald (cy := cy) hx hb hK hP hx_13.1 hf_36 hn_39 dX11_farthestFrom_29 ?_
    refine lv_topi (fun z_40 ez_40 => ?_)
    refine lv_iload_n hx hb dX11_farthestFrom_30 rfl (lv_at hl 4 rfl) ?_
    refine lv_isub hx hb dX11_farthestFrom_31 ?_
    refine lv_topi (fun z_41 ez_41 => ?_)
    try have iz_41 : z_41.toInt = z_40.toInt - p0.toInt := by rw [ez_41]; exact tl_subN z_40 p0 rfl rfl (by omega) (by omega)
    refine va_mabs hx hb (by rw [hml]; exact hl.1.symm) hown (hta _ wk_1019) (hta _ wk_888) (hta _ wk_83) (hta _ wk_889) (Nat.le_of_ble_eq_true rfl) (Nat.le_of_ble_eq_true rfl) (Nat.le_of_ble_eq_true rfl) (Nat.le_of_ble_eq_true rfl) dX11_farthestFrom_32 ?_
    refine lv_topi (fun z_42 ez_42 => ?_)
    have iz_42 : (z_42.toInt = z_41.toInt ∧ 0 ≤ z_41.toInt) ∨ (z_41.toInt < 0 ∧ (z_42.toInt = -z_41.toInt ∨ z_41.toInt = -2147483648)) := by rw [ez_42]; exact tl_absF
    refine lv_istore (lv' := [(6, .int z_42), (5, .int v5), (4, .int v4), (3, .int v3), (0, .ref o), (1, .int p0), (2, .int p1)]) hx hb dX11_farthestFrom_35 hl (by decide) rfl (fun ls hl => ?_)
    refine lv_aload_n hx hb dX11_farthestFrom_37 rfl (lv_at hl 4 rfl) ?_
    refine tp_get (cy := cy) (ci := 11) (v := .ref x_2) (C := RX11) (T := TX11) (N := 16) hx hb hta inlX11 hown hK hP ho.1 hf_1 rfl 0 (by decide) (hta _ wk_15) (fun _ h9 => h9) rfl dX11_farthestFrom_38 ?_
    refine tp_getN (cy := cy) (ci := 0) (v := .ref x_21) (C := RX0) (T := TX0) (N := 9) hx hb hta inlX0 hown hK hP hx_2.1 hf_18 rfl 2 (by decide) (va_Nw.use rfl (hN.1 20 _ nk_20)) (fun _ h9 => h9) rfl dX11_farthestFrom_41 ?_
    refine tp_getN (cy := cy) (ci := 4) (v := .ref x_31) (C := RX4) (T := TX4) (N := 6) hx hb hta inlX4 hown hK hP hx_21.1 hf_28 rfl 2 (by decide) (va_Nw.use rfl (hN.1 5 _ nk_5)) (fun _ h9 => h9) rfl dX11_farthestFrom_44 ?_
    refine lv_iload hx hb dX11_farthestFrom_47 (lv_at hl 1 rfl) ?_
    obtain ⟨g_44, hf_43, hg_45⟩ := (show tp_ai cy 4 (24) (f x_31) from hI0.at hx_31)
    have hn_46 : vp_in v5 (24) := tl_in (by omega) (by omega)
    refine tp_iald (cy := cy) hx hb hK hP hx_31.1 hf_43 hn_46 dX11_farthestFrom_49 ?_
    refine lv_topi (fun z_47 ez_47 => ?_)
    refine lv_iload_n hx hb dX11_farthestFrom_50 rfl (lv_at hl 6 rfl) ?_
    refine lv_icmp_ne (tgt := 80) hx hb dX11_farthestFrom_51 (by decide) (fun c_48 => ?_) (fun c_48 => ?_)
    · have c_48 : ¬ z_47.toInt = p1.toInt := tl_neq c_48
      obtain ⟨z_49, ez_49⟩ : ∃ y : Int32, y = v5 + 1 := ⟨_, rfl⟩
      refine lv_iinc (v := z_49) (lv' := [(5, .int z_49), (6, .int z_42), (4, .int v4), (3, .int v3), (0, .ref o), (1, .int p0), (2, .int p1)]) hx hb dX11_farthestFrom_80 hl (k := 1) rfl (by rw [ez_49]; rfl) (by decide) rfl (fun ls hl => ?_)
      try have iz_49 : z_49.toInt = v5.toInt + 1 := by rw [ez_49]; exact tl_addL v5 1 (by decide) (by omega) (by omega)
      refine lv_goto (tgt := 8) hx hb dX11_farthestFrom_83 (by decide) ?_
      exact ih8 (z_49, v4, v3) ls (by show (24 - z_49.toInt).toNat < (24 - v5.toInt).toNat; omega) ⟨(show 0 ≤ z_49.toInt from (by omega)), (show z_49.toInt ≤ 24 from (by omega)), lv_sub hl [0, 2, 3, 4, 5, 6] rfl⟩
    · have c_48 : z_47.toInt = p1.toInt := tl_eq c_48
      refine lv_aload_n hx hb dX11_farthestFrom_54 rfl (lv_at hl 4 rfl) ?_
      refine tp_get (cy := cy) (ci := 11) (v := .ref x_13) (C := RX11) (T := TX11) (N := 16) hx hb hta inlX11 hown hK hP ho.1 hf_1 rfl 11 (by decide) (hta _ wk_48) (fun _ h9 => h9) rfl dX11_farthestFrom_55 ?_
      refine lv_iload hx hb dX11_farthestFrom_58 (lv_at hl 1 rfl) ?_
      have hn_50 : vp_in v5 (24) := tl_in (by omega) (by omega)
      refine tp_iald (cy := cy) hx hb hK hP hx_13.1 hf_36 hn_50 dX11_farthestFrom_60 ?_
      refine lv_topi (fun z_51 ez_51 => ?_)
      obtain rfl : z_40 = z_51 := ez_40.trans ez_51.symm
      refine lv_ldc (v := (-1000000)) hx hb hown (hta _ wk_227) dX11_farthestFrom_61 ?_
      refine lv_icmp_eq (tgt := 80) hx hb dX11_farthestFrom_63 (by decide) (fun c_52 => ?_) (fun c_52 => ?_)
      · have c_52 : z_40.toInt = (-1000000 : Int) := tl_eq c_52
        obtain ⟨z_53, ez_53⟩ : ∃ y : Int32, y = v5 + 1 := ⟨_, rfl⟩
        refine lv_iinc (v := z_53) (lv' := [(5, .int z_53), (6, .int z_42), (4, .int v4), (3, .int v3), (0, .ref o), (1, .int p0), (2, .int p1)]) hx hb dX11_farthestFrom_80 hl (k := 1) rfl (by rw [ez_53]; rfl) (by decide) rfl (fun ls hl => ?_)
        try have iz_53 : z_53.toInt = v5.toInt + 1 := by rw [ez_53]; exact tl_addL v5 1 (by decide) (by omega) (by omega)
        refine lv_goto (tgt := 8) hx hb dX11_farthestFrom_83 (by decide) ?_
        exact ih8 (z_53, v4, v3) ls (by show (24 - z_53.toInt).toNat < (24 - v5.toInt).toNat; omega) ⟨(show 0 ≤ z_53.toInt from (by omega)), (show z_53.toInt ≤ 24 from (by omega)), lv_sub hl [0, 2, 3, 4, 5, 6] rfl⟩
      · have c_52 : ¬ z_40.toInt = (-1000000 : Int) := tl_neq c_52
        refine lv_iload hx hb dX11_farthestFrom_66 (lv_at hl 0 rfl) ?_
        refine lv_iload hx hb dX11_farthestFrom_68 (lv_at hl 2 rfl) ?_
        refine lv_icmp_le (tgt := 80) hx hb dX11_farthestFrom_70 (by decide) (fun c_54 => ?_) (fun c_54 => ?_)
        · have c_54 : z_42.toInt ≤ v4.toInt := tl_le c_54
          obtain ⟨z_55, ez_55⟩ : ∃ y : Int32, y = v5 + 1 := ⟨_, rfl⟩
          refine lv_iinc (v := z_55) (lv' := [(5, .int z_55), (6, .int z_42), (4, .int v4), (3, .int v3), (0, .ref o), (1, .int p0), (2, .int p1)]) hx hb dX11_farthestFrom_80 hl (k := 1) rfl (by rw [ez_55]; rfl) (by decide) rfl (fun ls hl => ?_)
          try have iz_55 : z_55.toInt = v5.toInt + 1 := by rw [ez_55]; exact tl_addL v5 1 (by decide) (by omega) (by omega)
          refine lv_goto (tgt := 8) hx hb dX11_farthestFrom_83 (by decide) ?_
          exact ih8 (z_55, v4, v3) ls (by show (24 - z_55.toInt).toNat < (24 - v5.toInt).toNat; omega) ⟨(show 0 ≤ z_55.toInt from (by omega)), (show z_55.toInt ≤ 24 from (by omega)), lv_sub hl [0, 2, 3, 4, 5, 6] rfl⟩
        · have c_54 : v4.toInt < z_42.toInt := tl_nle c_54
          refine lv_iload hx hb dX11_farthestFrom_73 (lv_at hl 1 rfl) ?_
          refine lv_istore_n (lv' := [(3, .int v5), (6, .int z_42), (5, .int v5), (4, .int v4), (0, .ref o), (1, .int p0), (2, .int p1)]) hx hb dX11_farthestFrom_75 rfl hl (by decide) rfl (fun ls hl => ?_)
          refine lv_iload hx hb dX11_farthestFrom_76 (lv_at hl 1 rfl) ?_
          refine lv_istore (lv' := [(4, .int z_42), (3, .int v5), (6, .int z_42), (5, .int v5), (0, .ref o), (1, .int p0), (2, .int p1)]) hx hb dX11_farthestFrom_78 hl (by decide) rfl (fun ls hl => ?_)
          obtain ⟨z_56, ez_56⟩ : ∃ y : Int32, y = v5 + 1 := ⟨_, rfl⟩
          refine lv_iinc (v := z_56) (lv' := [(5, .int z_56), (4, .int z_42), (3, .int v5), (6, .int z_42), (0, .ref o), (1, .int p0), (2, .int p1)]) hx hb dX11_farthestFrom_80 hl (k := 3) rfl (by rw [ez_56]; rfl) (by decide) rfl (fun ls hl => ?_)
          try have iz_56 : z_56.toInt = v5.toInt + 1 := by rw [ez_56]; exact tl_addL v5 1 (by decide) (by omega) (by omega)
          refine lv_goto (tgt := 8) hx hb dX11_farthestFrom_83 (by decide) ?_
          exact ih8 (z_56, z_42, v5) ls (by show (24 - z_56.toInt).toNat < (24 - v5.toInt).toNat; omega) ⟨(show 0 ≤ z_56.toInt from (by omega)), (show z_56.toInt ≤ 24 from (by omega)), lv_sub hl [0, 1, 2, 4, 5, 6] rfl⟩
set_option maxHeartbeats 4000000 in
set_option maxRecDepth 100000 in
theorem t_X11_odd (l : Launch) (D : va_G) (cy : Nat → ClassId) (sz : Nat) (L : List Nat) (K : Nat → tk_K) (Γ : tk_G) (f : Nat → va_E) (o : Nat) (p0 : Int32) (p1 : Int32) (ho : tp_r L K 0 (0) 0 o) : Met l yX11_odd (tl_w yX11_odd cX11_odd 5 (some .int)) ({ frames := 6, cells := 0, slots := 0, locals := 135 }) (va_Pc [.ref o, .int p0, .int p1] (tp_P D cy L K Γ f sz)) (va_Qi (fun (r : Int32) (u : Nat → va_E) => True) (tp_B D cy L K Γ f [28, 29, 23, 24, 27, 30, 31, 32, 36]) (tp_A L sz)) 0 0 (tp_A L sz) := by
  refine Met.ofW (cc := cX11_odd) (maxL := 5) (ret := (some .int)) (by decide) rfl ?_
  intro p e s m args below meth c s₁ B hml hv
  obtain ⟨rfl, hsz, hP, hK, hL, hI, hN, hU⟩ := hv
  have hx := B.exec
  have hb := B.bytes
  have hr := B.returns
  have hta := tl_hta (atoms_spec (ws := tl_w yX11_odd cX11_odd 5 (some .int)) B.pre)
  have hown : s.vm.findClass RX11 = some m.cls := findClass_of_methodNamed B.named
  have hlocks := B.notSynchronized
  subst hsz
  have hI0 := hI
  generalize hAe : tp_A L s.heap.size = A
  have hA : ∀ q : Nat, s.heap.size ≤ q → A q := fun q h => by rw [← hAe]; exact Or.inr h
  have hAL : ∀ q ∈ L, A q := fun q h => by rw [← hAe]; exact Or.inl h
  have hAf : ∀ (H : Heap), s.heap.size ≤ H.size → ∀ q, tp_A L H.size q → A q := fun H h q hq => hq.elim (hAL q) (fun h2 => hA q (Nat.le_trans h h2))
  have hS : va_S A s.heap s.heap [] := va_S.rf
  have hD : va_D A (va_pl L f) := tp_D hL hAL
  have hfr : ∀ b, (K b).1 ∉ ([28, 29, 23, 24, 27, 30, 31, 32, 36] : List Nat) → f b = f b := fun _ _ => rfl
  have hl := lv_entry ([.ref o, .int p0, .int p1]) (n := 5) (Nat.le_of_ble_eq_true rfl)
  rw [lg_entry_eq]
  generalize (lg_sl ([.ref o, .int p0, .int p1]) ++ List.replicate (5 - (lg_sl ([.ref o, .int p0, .int p1])).length) Slot.unset).toArray = ls at hl ⊢
  have hl : lv_has ls 5 [(0, .ref o), (1, .int p0), (2, .int p1)] := hl
  refine lv_aload_n hx hb dX11_odd_0 rfl (lv_at hl 0 rfl) ?_
  obtain ⟨x_2, x_3, x_4, x_5, x_6, x_7, x_8, x_9, x_10, x_11, x_12, x_13, x_14, x_15, x_16, x_17, hf_1, hx_2, hx_3, hx_4, hx_5, hx_6, hx_7, hx_8, hx_9, hx_10, hx_11, hx_12, hx_13, hx_14, hx_15, hx_16, hx_17⟩ := (show tp_o_X L K (0) 0 (Γ (0, 0, 0)) (f o) from hI0.at ho)
  refine tp_get (cy := cy) (ci := 11) (v := .ref x_5) (C := RX11) (T := TX11) (N := 16) hx hb hta inlX11 hown hK hP ho.1 hf_1 rfl 3 (by decide) (hta _ wk_21) (fun _ h9 => h9) rfl dX11_odd_1 ?_
  refine lv_iload_n hx hb dX11_odd_4 rfl (lv_at hl 1 rfl) ?_
  obtain ⟨x_19, x_20, hf_18, hx_19, hx_20⟩ := (show tp_o_TEXTS L K (8) 0 (Γ (13, 8, 0)) (f x_5) from hI0.at hx_5)
  refine tl_sq (tq_rVN hN (As := [.int p0]) (rest := []) ⟨hx, hb, hml, hown, hta⟩ (tp_P.pre hK hN hL hU hI hP) (tp_recv hK hP hx_5.1 hf_18 rfl) lk_X11_201 (t_X8_at l D cy s.heap.size L K Γ f 8 x_5 p0 hx_5 (by first | omega | (simp only [Int32.toInt_toInt64]; omega) | decide | assumption)) rfl rfl ⟨Nat.le_of_ble_eq_true rfl, Nat.le_of_ble_eq_true rfl⟩ rfl hl.1 rfl (Nat.le_of_ble_eq_true rfl) dX11_odd_5 ⟨Nat.le_of_ble_eq_true rfl, Nat.le_of_ble_eq_true rfl⟩) (fun r_22 hw_21 => ?_)
  rcases r_22 with _ | b_23
  · refine W.eq (g2 := F0 m 8 ls ([.null])) (by rfl) ?_
    refine lv_ifnullN (tgt := 18) hx hb dX11_odd_8 (by decide) ?_
    refine lv_iconst (v := (-1)) hx hb dX11_odd_18 (by decide) ?_
    exact W.iret (v := (-1)) hx hb hr (fun t ht hW => ⟨⟨_, f, rfl, trivial, by rw [ht]; exact hP, hI, hfr⟩, hS.F ht⟩) hS.2.2 dX11_odd_19
  · have hb_23 := hw_21 _ rfl
    have hb_23 : tp_r L K 18 (0) 0 b_23 := hb_23
    refine W.eq (g2 := F0 m 8 ls ([.ref b_23])) (by rfl) ?_
    refine lv_ifnull hx hb dX11_odd_8 ?_
    refine lv_iload_n hx hb dX11_odd_11 rfl (lv_at hl 2 rfl) ?_
    refine tl_si (tq_rS (As := [.int p1]) (rest := []) ⟨hx, hb, hml, hown, hta⟩ (tp_P.pre hK hN hL hU hI hP) lk_X11_102 (t_X11_isGlass l D cy s.heap.size L K Γ f p1 ) rfl rfl ⟨Nat.le_of_ble_eq_true rfl, Nat.le_of_ble_eq_true rfl⟩ rfl hl.1 rfl (Nat.le_of_ble_eq_true rfl) dX11_odd_12 ⟨Nat.le_of_ble_eq_true rfl, Nat.le_of_ble_eq_true rfl⟩) (fun r_25 hw_24 => ?_)
    have hw_24 : tl_E r_25 (0 ≤ p1.toInt ∧ p1.toInt ≤ 3) 1 0 := hw_24
    refine lv_if_ne (tgt := 20) hx hb dX11_odd_15 (by decide) (fun c_26 => ?_) (fun c_26 => ?_)
    · have c_26 := hw_24.t c_26
      refine lv_aload_n hx hb dX11_odd_20 rfl (lv_at hl 0 rfl) ?_
      refine lv_iload_n hx hb dX11_odd_21 rfl (lv_at hl 1 rfl) ?_
      refine tq_cv hS (hAf _ hS.1) (tq_rV (As := [.int p0]) (rest := []) ⟨hx, hb, hml, hown, hta⟩ (tp_P.pre hK hN hL hU hI hP) (tp_recv hK hP ho.1 hf_1 rfl) lk_X11_369 (t_X11_findDeeps l D cy s.heap.size L K Γ f o p0 ho) rfl rfl ⟨Nat.le_of_ble_eq_true rfl, Nat.le_of_ble_eq_true rfl⟩ rfl hl.1 rfl (Nat.le_of_ble_eq_true rfl) dX11_odd_22 ⟨Nat.le_of_ble_eq_true rfl, Nat.le_of_ble_eq_true rfl⟩) (fun f_29 H locs hw_27 hP hI hc_30 hS => ?_)
      have hD : va_D A (va_pl L f_29) := tp_D hL hAL
      have hfr := tp_fr2 hfr hc_30 (by decide)
      refine lv_iconst (v := 0) hx hb dX11_odd_25 (by decide) ?_
      refine lv_istore_n (lv' := [(3, .int 0), (0, .ref o), (1, .int p0), (2, .int p1)]) hx hb dX11_odd_26 rfl hl (by decide) rfl (fun ls hl => ?_)
      refine lv_iconst (v := 0) hx hb dX11_odd_27 (by decide) ?_
      refine lv_istore (lv' := [(4, .int 0), (3, .int 0), (0, .ref o), (1, .int p0), (2, .int p1)]) hx hb dX11_odd_28 hl (by decide) rfl (fun ls hl => ?_)
      refine tl_ind (G := fun H locs ls => W p l e ((headSpec (tl_w yX11_odd cX11_odd 5 (some .int)) ({ frames := 6, cells := 0, slots := 0, locals := 135 })).room) s m #[.ref o, .int p0, .int p1] below meth c H locs 0 0 (MQ below (va_Qi (fun (r : Int32) (u : Nat → va_E) => True) (tp_B D cy L K Γ f [28, 29, 23, 24, 27, 30, 31, 32, 36]) A) #[.ref o, .int p0, .int p1] s 0 0 A) (F0 m 30 ls [])) (α := (Nat → va_E) × Int32 × Int32) (fun aq => (24 - aq.2.1.toInt).toNat) (fun aq H locs ls => (0 ≤ aq.2.1.toInt) ∧ (aq.2.1.toInt ≤ 24) ∧ (0 ≤ aq.2.2.toInt ∧ aq.2.2.toInt ≤ aq.2.1.toInt) ∧ va_P D vwCl (va_pl L aq.1) H ∧ tp_I cy L K Γ aq.1 ∧ (∀ b, (K b).1 ∉ ([28, 29, 23, 24, 27, 30, 31, 32, 36] : List Nat) → aq.1 b = f b) ∧ va_S A s.heap H locs ∧ lv_has ls 5 [(4, .int aq.2.1), (3, .int aq.2.2), (0, .ref o), (1, .int p0), (2, .int p1)]) ?_ (f_29, (0 : Int32), (0 : Int32)) H locs ls ⟨(show 0 ≤ (0 : Int) from (by omega)), (show (0 : Int) ≤ 24 from (by omega)), (show 0 ≤ (0 : Int) ∧ (0 : Int) ≤ (0 : Int) from (by omega)), hP, hI, hfr, hS, lv_sub hl [0, 1, 2, 3, 4] rfl⟩
      rintro ⟨f_31, v4, v3⟩ H locs ls ⟨h0, h1, h2, hP, hI, hfr, hS, hl⟩ ih30
      have hP : va_P D vwCl (va_pl L f_31) H := hP
      have hI : tp_I cy L K Γ f_31 := hI
      have hfr : ∀ b, (K b).1 ∉ ([28, 29, 23, 24, 27, 30, 31, 32, 36] : List Nat) → f_31 b = f b := hfr
      have hD : va_D A (va_pl L f_31) := tp_D hL hAL
      have h0 : 0 ≤ v4.toInt := h0
      have h1 : v4.toInt ≤ 24 := h1
      have h2 : 0 ≤ v3.toInt ∧ v3.toInt ≤ v4.toInt := h2
      have hl : lv_has ls 5 [(4, .int v4), (3, .int v3), (0, .ref o), (1, .int p0), (2, .int p1)] := hl
      refine lv_iload hx hb dX11_odd_30 (lv_at hl 0 rfl) ?_
      refine lv_aload_n hx hb dX11_odd_32 rfl (lv_at hl 2 rfl) ?_
      refine tp_get (cy := cy) (ci := 11) (v := .ref x_2) (C := RX11) (T := TX11) (N := 16) hx hb hta inlX11 hown hK hP ho.1 ((tp_un hfr ho (by decide)).trans hf_1) rfl 0 (by decide) (hta _ wk_15) (fun _ h9 => h9) rfl dX11_odd_33 ?_
      obtain ⟨x_33, x_34, x_35, x_36, x_37, x_38, x_39, x_40, x_41, hf_32, hx_33, hx_34, hx_35, hx_36, hx_37, hx_38, hx_39, hx_40, hx_41⟩ := (show tp_o_BOOK L K (0) 0 (Γ (1, 0, 0)) (f x_2) from hI0.at hx_2)
      refine tp_getN (cy := cy) (ci := 0) (v := .ref x_35) (C := RX0) (T := TX0) (N := 9) hx hb hta inlX0 hown hK hP hx_2.1 ((tp_un hfr hx_2 (by decide)).trans hf_32) rfl 2 (by decide) (va_Nw.use rfl (hN.1 20 _ nk_20)) (fun _ h9 => h9) rfl dX11_odd_36 ?_
      obtain ⟨x_43, x_44, x_45, x_46, x_47, x_48, hf_42, hx_43, hx_45, hx_46, hx_47, hx_48⟩ := (show tp_o_ROWS L K (0) 0 (Γ (3, 0, 0)) (f x_35) from hI0.at hx_35)
      refine tp_getN (cy := cy) (ci := 4) (v := .int x_43) (C := RX4) (T := TX4) (N := 6) hx hb hta inlX4 hown hK hP hx_35.1 ((tp_un hfr hx_35 (by decide)).trans hf_42) rfl 0 (by decide) (va_Nw.use rfl (hN.1 2 _ nk_2)) (fun _ h9 => h9) rfl dX11_odd_39 ?_
      refine lv_icmp_ge (tgt := 95) hx hb dX11_odd_42 (by decide) (fun c_49 => ?_) (fun c_49 => ?_)
      · have c_49 : x_43.toInt ≤ v4.toInt := tl_le c_49
        refine lv_iload_n hx hb dX11_odd_95 rfl (lv_at hl 1 rfl) ?_
        refine lv_iconst (v := 3) hx hb dX11_odd_96 (by decide) ?_
        refine lv_icmp_ge (tgt := 105) hx hb dX11_odd_97 (by decide) (fun c_50 => ?_) (fun c_50 => ?_)
        · have c_50 : (3 : Int) ≤ v3.toInt := tl_le c_50
          refine lv_aload_n hx hb dX11_odd_105 rfl (lv_at hl 2 rfl) ?_
          refine lv_aload_n hx hb dX11_odd_106 rfl (lv_at hl 2 rfl) ?_
          refine tp_get (cy := cy) (ci := 11) (v := .ref x_14) (C := RX11) (T := TX11) (N := 16) hx hb hta inlX11 hown hK hP ho.1 ((tp_un hfr ho (by decide)).trans hf_1) rfl 12 (by decide) (hta _ wk_49) (fun _ h9 => h9) rfl dX11_odd_107 ?_
          refine lv_iload_n hx hb dX11_odd_110 rfl (lv_at hl 1 rfl) ?_
          refine lv_iconst (v := 1) hx hb dX11_odd_111 (by decide) ?_
          refine lv_isub hx hb dX11_odd_112 ?_
          refine lv_topi (fun z_51 ez_51 => ?_)
          try have iz_51 : z_51.toInt = v3.toInt - (1 : Int) := by rw [ez_51]; exact tl_subN v3 1 rfl rfl (by omega) (by omega)
          refine lv_iconst (v := 2) hx hb dX11_odd_113 (by decide) ?_
          refine lv_idiv hx hb dX11_odd_114 (by decide) ?_
          refine lv_topi (fun z_52 ez_52 => ?_)
          have iz_52 := tl_idivB (B := 23) ez_52 (by omega) (by decide) (by have l9 : (2 : Int32).toInt = 2 := rfl; omega)
          obtain ⟨g_54, hf_53, hg_55⟩ := (show tp_ai cy 36 (24) (f_31 x_14) from hI.at hx_14)
          have hn_56 : vp_in z_52 (24) := tl_in (by omega) (by omega)
          refine tp_iald (cy := cy) hx hb hK hP hx_14.1 hf_53 hn_56 dX11_odd_115 ?_
          refine lv_topi (fun z_57 ez_57 => ?_)
          refine lv_iload_n hx hb dX11_odd_116 rfl (lv_at hl 4 rfl) ?_
          refine tl_si (tq_rV (As := [.int z_57, .int p1]) (rest := []) ⟨hx, hb, hml, hown, hta⟩ (tp_P.pre hK hN hL hU hI hP) (tp_recv hK hP ho.1 ((tp_un hfr ho (by decide)).trans hf_1) rfl) lk_X11_402 (t_X11_farthestFrom l D cy H.size L K Γ f_31 o z_57 p1 ho) rfl rfl ⟨Nat.le_of_ble_eq_true rfl, Nat.le_of_ble_eq_true rfl⟩ rfl hl.1 rfl (Nat.le_of_ble_eq_true rfl) dX11_odd_117 ⟨Nat.le_of_ble_eq_true rfl, Nat.le_of_ble_eq_true rfl⟩) (fun r_59 hw_58 => ?_)
          exact W.iret (v := r_59) hx hb hr (fun t ht hW => ⟨⟨_, f_31, rfl, trivial, by rw [ht]; exact hP, hI, hfr⟩, hS.F ht⟩) hS.2.2 dX11_odd_120
        · have c_50 : v3.toInt < (3 : Int) := tl_nle c_50
          refine lv_bipush (v := (-2)) hx hb dX11_odd_100 (by decide) ?_
          refine lv_goto (tgt := 120) hx hb dX11_odd_102 (by decide) ?_
          exact W.iret (v := (-2)) hx hb hr (fun t ht hW => ⟨⟨_, f_31, rfl, trivial, by rw [ht]; exact hP, hI, hfr⟩, hS.F ht⟩) hS.2.2 dX11_odd_120
      · have c_49 : v4.toInt < x_43.toInt := tl_nle c_49
        refine lv_aload_n hx hb dX11_odd_45 rfl (lv_at hl 2 rfl) ?_
        refine tp_get (cy := cy) (ci := 11) (v := .ref x_2) (C := RX11) (T := TX11) (N := 16) hx hb hta inlX11 hown hK hP ho.1 ((tp_un hfr ho (by decide)).trans hf_1) rfl 0 (by decide) (hta _ wk_15) (fun _ h9 => h9) rfl dX11_odd_46 ?_
        refine tp_getN (cy := cy) (ci := 0) (v := .ref x_35) (C := RX0) (T := TX0) (N := 9) hx hb hta inlX0 hown hK hP hx_2.1 ((tp_un hfr hx_2 (by decide)).trans hf_32) rfl 2 (by decide) (va_Nw.use rfl (hN.1 20 _ nk_20)) (fun _ h9 => h9) rfl dX11_odd_49 ?_
        refine tp_getN (cy := cy) (ci := 4) (v := .ref x_45) (C := RX4) (T := TX4) (N := 6) hx hb hta inlX4 hown hK hP hx_35.1 ((tp_un hfr hx_35 (by decide)).trans hf_42) rfl 2 (by decide) (va_Nw.use rfl (hN.1 5 _ nk_5)) (fun _ h9 => h9) rfl dX11_odd_52 ?_
        refine lv_iload hx hb dX11_odd_55 (lv_at hl 0 rfl) ?_
        obtain ⟨g_61, hf_60, hg_62⟩ := (show tp_ai cy 4 (24) (f x_45) from hI0.at hx_45)
        have hn_63 : vp_in v4 (24) := tl_in (by omega) (by omega)
        refine tp_iald (cy := cy) hx hb hK hP hx_45.1 ((tp_un hfr hx_45 (by decide)).trans hf_60) hn_63 dX11_odd_57 ?_
        refine lv_topi (fun z_64 ez_64 => ?_)
        refine lv_iload_n hx hb dX11_odd_58 rfl (lv_at hl 4 rfl) ?_
        refine lv_icmp_ne (tgt := 89) hx hb dX11_odd_59 (by decide) (fun c_65 => ?_) (fun c_65 => ?_)
        · have c_65 : ¬ z_64.toInt = p1.toInt := tl_neq c_65
          obtain ⟨z_66, ez_66⟩ : ∃ y : Int32, y = v4 + 1 := ⟨_, rfl⟩
          refine lv_iinc (v := z_66) (lv' := [(4, .int z_66), (3, .int v3), (0, .ref o), (1, .int p0), (2, .int p1)]) hx hb dX11_odd_89 hl (k := 0) rfl (by rw [ez_66]; rfl) (by decide) rfl (fun ls hl => ?_)
          try have iz_66 : z_66.toInt = v4.toInt + 1 := by rw [ez_66]; exact tl_addL v4 1 (by decide) (by omega) (by omega)
          refine lv_goto (tgt := 30) hx hb dX11_odd_92 (by decide) ?_
          exact ih30 (f_31, z_66, v3) H locs ls (by show (24 - z_66.toInt).toNat < (24 - v4.toInt).toNat; omega) ⟨(show 0 ≤ z_66.toInt from (by omega)), (show z_66.toInt ≤ 24 from (by omega)), (show 0 ≤ v3.toInt ∧ v3.toInt ≤ z_66.toInt from (by omega)), hP, hI, hfr, hS, lv_sub hl [0, 1, 2, 3, 4] rfl⟩
        · have c_65 : z_64.toInt = p1.toInt := tl_eq c_65
          refine lv_aload_n hx hb dX11_odd_62 rfl (lv_at hl 2 rfl) ?_
          refine tp_get (cy := cy) (ci := 11) (v := .ref x_13) (C := RX11) (T := TX11) (N := 16) hx hb hta inlX11 hown hK hP ho.1 ((tp_un hfr ho (by decide)).trans hf_1) rfl 11 (by decide) (hta _ wk_48) (fun _ h9 => h9) rfl dX11_odd_63 ?_
          refine lv_iload hx hb dX11_odd_66 (lv_at hl 0 rfl) ?_
          obtain ⟨g_68, hf_67, hg_69⟩ := (show tp_ai cy 36 (24) (f_31 x_13) from hI.at hx_13)
          have hn_70 : vp_in v4 (24) := tl_in (by omega) (by omega)
          refine tp_iald (cy := cy) hx hb hK hP hx_13.1 hf_67 hn_70 dX11_odd_68 ?_
          refine lv_topi (fun z_71 ez_71 => ?_)
          refine lv_ldc (v := (-1000000)) hx hb hown (hta _ wk_227) dX11_odd_69 ?_
          refine lv_icmp_eq (tgt := 89) hx hb dX11_odd_71 (by decide) (fun c_72 => ?_) (fun c_72 => ?_)
          · have c_72 : z_71.toInt = (-1000000 : Int) := tl_eq c_72
            obtain ⟨z_73, ez_73⟩ : ∃ y : Int32, y = v4 + 1 := ⟨_, rfl⟩
            refine lv_iinc (v := z_73) (lv' := [(4, .int z_73), (3, .int v3), (0, .ref o), (1, .int p0), (2, .int p1)]) hx hb dX11_odd_89 hl (k := 0) rfl (by rw [ez_73]; rfl) (by decide) rfl (fun ls hl => ?_)
            try have iz_73 : z_73.toInt = v4.toInt + 1 := by rw [ez_73]; exact tl_addL v4 1 (by decide) (by omega) (by omega)
            refine lv_goto (tgt := 30) hx hb dX11_odd_92 (by decide) ?_
            exact ih30 (f_31, z_73, v3) H locs ls (by show (24 - z_73.toInt).toNat < (24 - v4.toInt).toNat; omega) ⟨(show 0 ≤ z_73.toInt from (by omega)), (show z_73.toInt ≤ 24 from (by omega)), (show 0 ≤ v3.toInt ∧ v3.toInt ≤ z_73.toInt from (by omega)), hP, hI, hfr, hS, lv_sub hl [0, 1, 2, 3, 4] rfl⟩
          · have c_72 : ¬ z_71.toInt = (-1000000 : Int) := tl_neq c_72
            refine lv_aload_n hx hb dX11_odd_74 rfl (lv_at hl 2 rfl) ?_
            refine lv_iload_n hx hb dX11_odd_75 rfl (lv_at hl 1 rfl) ?_
            refine lv_aload_n hx hb dX11_odd_76 rfl (lv_at hl 2 rfl) ?_
            refine tp_get (cy := cy) (ci := 11) (v := .ref x_13) (C := RX11) (T := TX11) (N := 16) hx hb hta inlX11 hown hK hP ho.1 ((tp_un hfr ho (by decide)).trans hf_1) rfl 11 (by decide) (hta _ wk_48) (fun _ h9 => h9) rfl dX11_odd_77 ?_
            refine lv_iload hx hb dX11_odd_80 (lv_at hl 0 rfl) ?_
            have hn_74 : vp_in v4 (24) := tl_in (by omega) (by omega)
            refine tp_iald (cy := cy) hx hb hK hP hx_13.1 hf_67 hn_74 dX11_odd_82 ?_
            refine lv_topi (fun z_75 ez_75 => ?_)
            obtain rfl : z_71 = z_75 := ez_71.trans ez_75.symm
            refine tq_cv hS (hAf _ hS.1) (tq_rV (As := [.int v3, .int z_71]) (rest := []) ⟨hx, hb, hml, hown, hta⟩ (tp_P.pre hK hN hL hU hI hP) (tp_recv hK hP ho.1 ((tp_un hfr ho (by decide)).trans hf_1) rfl) lk_X11_399 (t_X11_sortIn l D cy H.size L K Γ f_31 o v3 z_71 ho (by first | omega | (simp only [Int32.toInt_toInt64]; omega) | decide | assumption)) rfl rfl ⟨Nat.le_of_ble_eq_true rfl, Nat.le_of_ble_eq_true rfl⟩ rfl hl.1 rfl (Nat.le_of_ble_eq_true rfl) dX11_odd_83 ⟨Nat.le_of_ble_eq_true rfl, Nat.le_of_ble_eq_true rfl⟩) (fun f_78 H locs hw_76 hP hI hc_79 hS => ?_)
            have hD : va_D A (va_pl L f_78) := tp_D hL hAL
            have hfr := tp_fr2 hfr hc_79 (by decide)
            obtain ⟨z_80, ez_80⟩ : ∃ y : Int32, y = v3 + 1 := ⟨_, rfl⟩
            refine lv_iinc (v := z_80) (lv' := [(3, .int z_80), (4, .int v4), (0, .ref o), (1, .int p0), (2, .int p1)]) hx hb dX11_odd_86 hl (k := 1) rfl (by rw [ez_80]; rfl) (by decide) rfl (fun ls hl => ?_)
            try have iz_80 : z_80.toInt = v3.toInt + 1 := by rw [ez_80]; exact tl_addL v3 1 (by decide) (by omega) (by omega)
            obtain ⟨z_81, ez_81⟩ : ∃ y : Int32, y = v4 + 1 := ⟨_, rfl⟩
            refine lv_iinc (v := z_81) (lv' := [(4, .int z_81), (3, .int z_80), (0, .ref o), (1, .int p0), (2, .int p1)]) hx hb dX11_odd_89 hl (k := 1) rfl (by rw [ez_81]; rfl) (by decide) rfl (fun ls hl => ?_)
            try have iz_81 : z_81.toInt = v4.toInt + 1 := by rw [ez_81]; exact tl_addL v4 1 (by decide) (by omega) (by omega)
            refine lv_goto (tgt := 30) hx hb dX11_odd_92 (by decide) ?_
            exact ih30 (f_78, z_81, z_80) H locs ls (by show (24 - z_81.toInt).toNat < (24 - v4.toInt).toNat; omega) ⟨(show 0 ≤ z_81.toInt from (by omega)), (show z_81.toInt ≤ 24 from (by omega)), (show 0 ≤ z_80.toInt ∧ z_80.toInt ≤ z_81.toInt from (by omega)), hP, hI, hfr, hS, lv_sub hl [0, 1, 2, 3, 4] rfl⟩
    · have c_26 := hw_24.f c_26
      refine lv_iconst (v := (-1)) hx hb dX11_odd_18 (by decide) ?_
      exact W.iret (v := (-1)) hx hb hr (fun t ht hW => ⟨⟨_, f, rfl, trivial, by rw [ht]; exact hP, hI, hfr⟩, hS.F ht⟩) hS.2.2 dX11_odd_19
set_option maxHeartbeats 4000000 in
set_option maxRecDepth 100000 in
theorem t_X11_ripple (l : Launch) (D : va_G) (cy : Nat → ClassId) (sz : Nat) (L : List Nat) (K : Nat → tk_K) (Γ : tk_G) (f : Nat → va_E) (o : Nat) (p0 : Int32) (p1 : Int32) (p2 : Int32) (ho : tp_r L K 0 (0) 0 o) : Met l yX11_ripple (tl_w yX11_ripple cX11_ripple 5 (some .long)) ({ frames := 5, cells := 0, slots := 0, locals := 113 }) (va_Pc [.ref o, .int p0, .int p1, .int p2] (tp_P D cy L K Γ f sz)) (va_Ql (fun (r : Int64) (u : Nat → va_E) => True) (tp_B D cy L K Γ f [28, 29, 23, 24, 27, 30, 31, 32, 34, 35]) (tp_A L sz)) 0 0 (tp_A L sz) := by
  refine Met.ofW (cc := cX11_ripple) (maxL := 5) (ret := (some .long)) (by decide) rfl ?_
  intro p e s m args below meth c s₁ B hml hv
  obtain ⟨rfl, hsz, hP, hK, hL, hI, hN, hU⟩ := hv
  have hx := B.exec
  have hb := B.bytes
  have hr := B.returns
  have hta := tl_hta (atoms_spec (ws := tl_w yX11_ripple cX11_ripple 5 (some .long)) B.pre)
  have hown : s.vm.findClass RX11 = some m.cls := findClass_of_methodNamed B.named
  have hlocks := B.notSynchronized
  subst hsz
  have hI0 := hI
  generalize hAe : tp_A L s.heap.size = A
  have hA : ∀ q : Nat, s.heap.size ≤ q → A q := fun q h => by rw [← hAe]; exact Or.inr h
  have hAL : ∀ q ∈ L, A q := fun q h => by rw [← hAe]; exact Or.inl h
  have hAf : ∀ (H : Heap), s.heap.size ≤ H.size → ∀ q, tp_A L H.size q → A q := fun H h q hq => hq.elim (hAL q) (fun h2 => hA q (Nat.le_trans h h2))
  have hS : va_S A s.heap s.heap [] := va_S.rf
  have hD : va_D A (va_pl L f) := tp_D hL hAL
  have hfr : ∀ b, (K b).1 ∉ ([28, 29, 23, 24, 27, 30, 31, 32, 34, 35] : List Nat) → f b = f b := fun _ _ => rfl
  have hl := lv_entry ([.ref o, .int p0, .int p1, .int p2]) (n := 5) (Nat.le_of_ble_eq_true rfl)
  rw [lg_entry_eq]
  generalize (lg_sl ([.ref o, .int p0, .int p1, .int p2]) ++ List.replicate (5 - (lg_sl ([.ref o, .int p0, .int p1, .int p2])).length) Slot.unset).toArray = ls at hl ⊢
  have hl : lv_has ls 5 [(0, .ref o), (1, .int p0), (2, .int p1), (3, .int p2)] := hl
  refine lv_iload_n hx hb dX11_ripple_0 rfl (lv_at hl 3 rfl) ?_
  refine lv_iconst (v := 0) hx hb dX11_ripple_1 (by decide) ?_
  refine lv_iconst (v := 1) hx hb dX11_ripple_2 (by decide) ?_
  refine tl_si (tq_rS (As := [.int p2, .int 0, .int 1]) (rest := []) ⟨hx, hb, hml, hown, hta⟩ (tp_P.pre hK hN hL hU hI hP) lk_X11_105 (t_X11_isIn l D cy s.heap.size L K Γ f p2 0 1 ) rfl rfl ⟨Nat.le_of_ble_eq_true rfl, Nat.le_of_ble_eq_true rfl⟩ rfl hl.1 rfl (Nat.le_of_ble_eq_true rfl) dX11_ripple_3 ⟨Nat.le_of_ble_eq_true rfl, Nat.le_of_ble_eq_true rfl⟩) (fun r_2 hw_1 => ?_)
  have hw_1 : tl_E r_2 ((0 : Int) ≤ p2.toInt ∧ p2.toInt ≤ (1 : Int)) 1 0 := hw_1
  refine lv_if_eq (tgt := 19) hx hb dX11_ripple_6 (by decide) (fun c_3 => ?_) (fun c_3 => ?_)
  · have c_3 := hw_1.f c_3
    refine lv_ldc2 (v := (-2)) hx hb hown (hta _ wk_1055) dX11_ripple_19 ?_
    exact W.lret (v := (-2)) hx hb hr (fun t ht hW => ⟨⟨_, f, rfl, trivial, by rw [ht]; exact hP, hI, hfr⟩, hS.F ht⟩) hS.2.2 dX11_ripple_22
  · have c_3 := hw_1.t c_3
    refine lv_aload_n hx hb dX11_ripple_9 rfl (lv_at hl 0 rfl) ?_
    refine lv_iload_n hx hb dX11_ripple_10 rfl (lv_at hl 1 rfl) ?_
    refine lv_iload_n hx hb dX11_ripple_11 rfl (lv_at hl 2 rfl) ?_
    refine lv_iconst (v := (-1)) hx hb dX11_ripple_12 (by decide) ?_
    obtain ⟨x_5, x_6, x_7, x_8, x_9, x_10, x_11, x_12, x_13, x_14, x_15, x_16, x_17, x_18, x_19, x_20, hf_4, hx_5, hx_6, hx_7, hx_8, hx_9, hx_10, hx_11, hx_12, hx_13, hx_14, hx_15, hx_16, hx_17, hx_18, hx_19, hx_20⟩ := (show tp_o_X L K (0) 0 (Γ (0, 0, 0)) (f o) from hI0.at ho)
    refine tq_ci hS (hAf _ hS.1) (tq_rV (As := [.int p0, .int p1, .int (-1)]) (rest := []) ⟨hx, hb, hml, hown, hta⟩ (tp_P.pre hK hN hL hU hI hP) (tp_recv hK hP ho.1 hf_4 rfl) lk_X11_246 (t_X11_look l D cy s.heap.size L K Γ f o p0 p1 (-1) ho) rfl rfl ⟨Nat.le_of_ble_eq_true rfl, Nat.le_of_ble_eq_true rfl⟩ rfl hl.1 rfl (Nat.le_of_ble_eq_true rfl) dX11_ripple_13 ⟨Nat.le_of_ble_eq_true rfl, Nat.le_of_ble_eq_true rfl⟩) (fun r_22 f_23 H locs hw_21 hP hI hc_24 hS => ?_)
    have hD : va_D A (va_pl L f_23) := tp_D hL hAL
    have hfr := tp_fr2 hfr hc_24 (by decide)
    have hw_21 : tl_J r_22 (tv_gx f f_23 o) := hw_21
    refine lv_if_ne (tgt := 23) hx hb dX11_ripple_16 (by decide) (fun c_25 => ?_) (fun c_25 => ?_)
    · have c_25 := hw_21.t c_25
      refine lv_aload_n hx hb dX11_ripple_23 rfl (lv_at hl 0 rfl) ?_
      refine tp_get (cy := cy) (ci := 11) (v := .ref x_14) (C := RX11) (T := TX11) (N := 16) hx hb hta inlX11 hown hK hP ho.1 ((tp_un hfr ho (by decide)).trans hf_4) rfl 9 (by decide) (hta _ wk_42) (fun _ h9 => h9) rfl dX11_ripple_24 ?_
      obtain ⟨x_27, x_28, x_29, x_30, x_31, x_32, x_33, x_34, x_35, x_36, x_37, x_38, x_39, x_40, x_41, x_42, x_43, x_44, hf_26, hx_27, hx_28, hx_29, hx_30, hx_31, hx_32, hx_33, hx_34, hx_35, hx_37, hx_40⟩ := (show tp_o_VIEW L K (0) 0 (Γ (27, 0, 0)) (f_23 x_14) from hI.at hx_14)
      refine tl_si (tq_rVN hN (As := []) (rest := []) ⟨hx, hb, hml, hown, hta⟩ (tp_P.pre hK hN hL hU hI hP) (tp_recv hK hP hx_14.1 hf_26 rfl) lk_X11_252 (t_X10_isLaid l D cy H.size L K Γ f_23 x_14 hx_14) rfl rfl ⟨Nat.le_of_ble_eq_true rfl, Nat.le_of_ble_eq_true rfl⟩ rfl hl.1 rfl (Nat.le_of_ble_eq_true rfl) dX11_ripple_27 ⟨Nat.le_of_ble_eq_true rfl, Nat.le_of_ble_eq_true rfl⟩) (fun r_46 hw_45 => ?_)
      have hw_45 : tl_J r_46 (True) := hw_45
      refine lv_if_ne (tgt := 37) hx hb dX11_ripple_30 (by decide) (fun c_47 => ?_) (fun c_47 => ?_)
      · have c_47 := hw_45.t c_47
        refine lv_aload_n hx hb dX11_ripple_37 rfl (lv_at hl 0 rfl) ?_
        refine tp_get (cy := cy) (ci := 11) (v := .ref x_15) (C := RX11) (T := TX11) (N := 16) hx hb hta inlX11 hown hK hP ho.1 ((tp_un hfr ho (by decide)).trans hf_4) rfl 10 (by decide) (hta _ wk_46) (fun _ h9 => h9) rfl dX11_ripple_38 ?_
        refine lv_aload_n hx hb dX11_ripple_41 rfl (lv_at hl 0 rfl) ?_
        refine tp_get (cy := cy) (ci := 11) (v := .ref x_14) (C := RX11) (T := TX11) (N := 16) hx hb hta inlX11 hown hK hP ho.1 ((tp_un hfr ho (by decide)).trans hf_4) rfl 9 (by decide) (hta _ wk_42) (fun _ h9 => h9) rfl dX11_ripple_42 ?_
        obtain ⟨x_49, x_50, hf_48, hx_49, hx_50⟩ := (show tp_o_RESTS L K (0) 0 (Γ (33, 0, 0)) (f x_15) from hI0.at hx_15)
        refine tq_ci hS (hAf _ hS.1) (tq_rVN hN (As := [.ref x_14]) (rest := []) ⟨hx, hb, hml, hown, hta⟩ (tp_P.pre hK hN hL hU hI hP) (tp_recv hK hP hx_15.1 ((tp_un hfr hx_15 (by decide)).trans hf_48) rfl) lk_X11_405 (t_X3_found l D cy H.size L K Γ f_23 x_15 x_14 hx_15 hx_14) rfl rfl ⟨Nat.le_of_ble_eq_true rfl, Nat.le_of_ble_eq_true rfl⟩ rfl hl.1 rfl (Nat.le_of_ble_eq_true rfl) dX11_ripple_45 ⟨Nat.le_of_ble_eq_true rfl, Nat.le_of_ble_eq_true rfl⟩) (fun r_52 f_53 H locs hw_51 hP hI hc_54 hS => ?_)
        have hD : va_D A (va_pl L f_53) := tp_D hL hAL
        have hfr := tp_fr2 hfr hc_54 (by decide)
        have hf_55 := (tp_un hc_54 hx_14 (by decide)).trans hf_26
        refine lv_istore (lv' := [(4, .int r_52), (0, .ref o), (1, .int p0), (2, .int p1), (3, .int p2)]) hx hb dX11_ripple_48 hl (by decide) rfl (fun ls hl => ?_)
        refine lv_iload_n hx hb dX11_ripple_50 rfl (lv_at hl 4 rfl) ?_
        refine lv_if_ne (tgt := 60) hx hb dX11_ripple_51 (by decide) (fun c_56 => ?_) (fun c_56 => ?_)
        · have c_56 : ¬ p2.toInt = (0 : Int) := tl_neq c_56
          refine lv_aload_n hx hb dX11_ripple_60 rfl (lv_at hl 1 rfl) ?_
          refine tp_get (cy := cy) (ci := 11) (v := .ref x_15) (C := RX11) (T := TX11) (N := 16) hx hb hta inlX11 hown hK hP ho.1 ((tp_un hfr ho (by decide)).trans hf_4) rfl 10 (by decide) (hta _ wk_46) (fun _ h9 => h9) rfl dX11_ripple_61 ?_
          refine lv_aload_n hx hb dX11_ripple_64 rfl (lv_at hl 1 rfl) ?_
          refine tp_get (cy := cy) (ci := 11) (v := .ref x_14) (C := RX11) (T := TX11) (N := 16) hx hb hta inlX11 hown hK hP ho.1 ((tp_un hfr ho (by decide)).trans hf_4) rfl 9 (by decide) (hta _ wk_42) (fun _ h9 => h9) rfl dX11_ripple_65 ?_
          refine lv_iload hx hb dX11_ripple_68 (lv_at hl 0 rfl) ?_
          refine tq_cl hS (hAf _ hS.1) (tq_rVN hN (As := [.ref x_14, .int r_52]) (rest := []) ⟨hx, hb, hml, hown, hta⟩ (tp_P.pre hK hN hL hU hI hP) (tp_recv hK hP hx_15.1 ((tp_un hfr hx_15 (by decide)).trans hf_48) rfl) lk_X11_409 (t_X3_power l D cy H.size L K Γ f_53 x_15 x_14 r_52 hx_15 hx_14) rfl rfl ⟨Nat.le_of_ble_eq_true rfl, Nat.le_of_ble_eq_true rfl⟩ rfl hl.1 rfl (Nat.le_of_ble_eq_true rfl) dX11_ripple_70 ⟨Nat.le_of_ble_eq_true rfl, Nat.le_of_ble_eq_true rfl⟩) (fun r_58 f_59 H locs hw_57 hP hI hc_60 hS => ?_)
          have hD : va_D A (va_pl L f_59) := tp_D hL hAL
          have hfr := tp_fr2 hfr hc_60 (by decide)
          have hf_61 := (tp_un hc_60 hx_14 (by decide)).trans hf_55
          exact W.lret (v := r_58) hx hb hr (fun t ht hW => ⟨⟨_, f_59, rfl, trivial, by rw [ht]; exact hP, hI, hfr⟩, hS.F ht⟩) hS.2.2 dX11_ripple_73
        · have c_56 : p2.toInt = (0 : Int) := tl_eq c_56
          refine lv_iload hx hb dX11_ripple_54 (lv_at hl 0 rfl) ?_
          refine lv_i2l (v := r_52.toInt64) hx hb dX11_ripple_56 (by first | rfl | decide) ?_
          refine lv_goto (tgt := 73) hx hb dX11_ripple_57 (by decide) ?_
          exact W.lret (v := r_52.toInt64) hx hb hr (fun t ht hW => ⟨⟨_, f_53, rfl, trivial, by rw [ht]; exact hP, hI, hfr⟩, hS.F ht⟩) hS.2.2 dX11_ripple_73
      · have c_47 := c_47
        refine lv_ldc2 (v := (-1)) hx hb hown (hta _ wk_962) dX11_ripple_33 ?_
        exact W.lret (v := (-1)) hx hb hr (fun t ht hW => ⟨⟨_, f_23, rfl, trivial, by rw [ht]; exact hP, hI, hfr⟩, hS.F ht⟩) hS.2.2 dX11_ripple_36
    · have c_25 := c_25
      refine lv_ldc2 (v := (-2)) hx hb hown (hta _ wk_1055) dX11_ripple_19 ?_
      exact W.lret (v := (-2)) hx hb hr (fun t ht hW => ⟨⟨_, f_23, rfl, trivial, by rw [ht]; exact hP, hI, hfr⟩, hS.F ht⟩) hS.2.2 dX11_ripple_22
set_option maxHeartbeats 4000000 in
set_option maxRecDepth 100000 in
theorem t_X11_smooth (l : Launch) (D : va_G) (cy : Nat → ClassId) (sz : Nat) (L : List Nat) (K : Nat → tk_K) (Γ : tk_G) (f : Nat → va_E) (o : Nat) (p0 : Int32) (p1 : Int32) (ho : tp_r L K 0 (0) 0 o) : Met l yX11_smooth (tl_w yX11_smooth cX11_smooth 7 (some .int)) ({ frames := 5, cells := 0, slots := 0, locals := 113 }) (va_Pc [.ref o, .int p0, .int p1] (tp_P D cy L K Γ f sz)) (va_Qi (fun (r : Int32) (u : Nat → va_E) => True) (tp_B D cy L K Γ f [28, 29, 23, 24, 27, 30, 31, 32, 34, 35]) (tp_A L sz)) 0 0 (tp_A L sz) := by
  refine Met.ofW (cc := cX11_smooth) (maxL := 7) (ret := (some .int)) (by decide) rfl ?_
  intro p e s m args below meth c s₁ B hml hv
  obtain ⟨rfl, hsz, hP, hK, hL, hI, hN, hU⟩ := hv
  have hx := B.exec
  have hb := B.bytes
  have hr := B.returns
  have hta := tl_hta (atoms_spec (ws := tl_w yX11_smooth cX11_smooth 7 (some .int)) B.pre)
  have hown : s.vm.findClass RX11 = some m.cls := findClass_of_methodNamed B.named
  have hlocks := B.notSynchronized
  subst hsz
  have hI0 := hI
  generalize hAe : tp_A L s.heap.size = A
  have hA : ∀ q : Nat, s.heap.size ≤ q → A q := fun q h => by rw [← hAe]; exact Or.inr h
  have hAL : ∀ q ∈ L, A q := fun q h => by rw [← hAe]; exact Or.inl h
  have hAf : ∀ (H : Heap), s.heap.size ≤ H.size → ∀ q, tp_A L H.size q → A q := fun H h q hq => hq.elim (hAL q) (fun h2 => hA q (Nat.le_trans h h2))
  have hS : va_S A s.heap s.heap [] := va_S.rf
  have hD : va_D A (va_pl L f) := tp_D hL hAL
  have hfr : ∀ b, (K b).1 ∉ ([28, 29, 23, 24, 27, 30, 31, 32, 34, 35] : List Nat) → f b = f b := fun _ _ => rfl
  have hl := lv_entry ([.ref o, .int p0, .int p1]) (n := 7) (Nat.le_of_ble_eq_true rfl)
  rw [lg_entry_eq]
  generalize (lg_sl ([.ref o, .int p0, .int p1]) ++ List.replicate (7 - (lg_sl ([.ref o, .int p0, .int p1])).length) Slot.unset).toArray = ls at hl ⊢
  have hl : lv_has ls 7 [(0, .ref o), (1, .int p0), (2, .int p1)] := hl
  refine lv_aload_n hx hb dX11_smooth_0 rfl (lv_at hl 0 rfl) ?_
  refine lv_iload_n hx hb dX11_smooth_1 rfl (lv_at hl 1 rfl) ?_
  refine lv_iload_n hx hb dX11_smooth_2 rfl (lv_at hl 2 rfl) ?_
  refine lv_iconst (v := (-1)) hx hb dX11_smooth_3 (by decide) ?_
  obtain ⟨x_2, x_3, x_4, x_5, x_6, x_7, x_8, x_9, x_10, x_11, x_12, x_13, x_14, x_15, x_16, x_17, hf_1, hx_2, hx_3, hx_4, hx_5, hx_6, hx_7, hx_8, hx_9, hx_10, hx_11, hx_12, hx_13, hx_14, hx_15, hx_16, hx_17⟩ := (show tp_o_X L K (0) 0 (Γ (0, 0, 0)) (f o) from hI0.at ho)
  refine tq_ci hS (hAf _ hS.1) (tq_rV (As := [.int p0, .int p1, .int (-1)]) (rest := []) ⟨hx, hb, hml, hown, hta⟩ (tp_P.pre hK hN hL hU hI hP) (tp_recv hK hP ho.1 hf_1 rfl) lk_X11_246 (t_X11_look l D cy s.heap.size L K Γ f o p0 p1 (-1) ho) rfl rfl ⟨Nat.le_of_ble_eq_true rfl, Nat.le_of_ble_eq_true rfl⟩ rfl hl.1 rfl (Nat.le_of_ble_eq_true rfl) dX11_smooth_4 ⟨Nat.le_of_ble_eq_true rfl, Nat.le_of_ble_eq_true rfl⟩) (fun r_19 f_20 H locs hw_18 hP hI hc_21 hS => ?_)
  have hD : va_D A (va_pl L f_20) := tp_D hL hAL
  have hfr := tp_fr2 hfr hc_21 (by decide)
  have hw_18 : tl_J r_19 (tv_gx f f_20 o) := hw_18
  refine lv_if_ne (tgt := 13) hx hb dX11_smooth_7 (by decide) (fun c_22 => ?_) (fun c_22 => ?_)
  · have c_22 := hw_18.t c_22
    refine lv_aload_n hx hb dX11_smooth_13 rfl (lv_at hl 0 rfl) ?_
    refine tp_get (cy := cy) (ci := 11) (v := .ref x_11) (C := RX11) (T := TX11) (N := 16) hx hb hta inlX11 hown hK hP ho.1 ((tp_un hfr ho (by decide)).trans hf_1) rfl 9 (by decide) (hta _ wk_42) (fun _ h9 => h9) rfl dX11_smooth_14 ?_
    obtain ⟨x_24, x_25, x_26, x_27, x_28, x_29, x_30, x_31, x_32, x_33, x_34, x_35, x_36, x_37, x_38, x_39, x_40, x_41, hf_23, hx_24, hx_25, hx_26, hx_27, hx_28, hx_29, hx_30, hx_31, hx_32, hx_34, hx_37⟩ := (show tp_o_VIEW L K (0) 0 (Γ (27, 0, 0)) (f_20 x_11) from hI.at hx_11)
    refine tl_si (tq_rVN hN (As := []) (rest := []) ⟨hx, hb, hml, hown, hta⟩ (tp_P.pre hK hN hL hU hI hP) (tp_recv hK hP hx_11.1 hf_23 rfl) lk_X11_289 (t_X10_hasDeep l D cy H.size L K Γ f_20 x_11 hx_11) rfl rfl ⟨Nat.le_of_ble_eq_true rfl, Nat.le_of_ble_eq_true rfl⟩ rfl hl.1 rfl (Nat.le_of_ble_eq_true rfl) dX11_smooth_17 ⟨Nat.le_of_ble_eq_true rfl, Nat.le_of_ble_eq_true rfl⟩) (fun r_43 hw_42 => ?_)
    have hw_42 : tl_J r_43 (tv_gc (f_20 x_11)) := hw_42
    refine lv_if_ne (tgt := 26) hx hb dX11_smooth_20 (by decide) (fun c_44 => ?_) (fun c_44 => ?_)
    · have c_44 := hw_42.t c_44
      refine lv_aload_n hx hb dX11_smooth_26 rfl (lv_at hl 0 rfl) ?_
      refine tp_get (cy := cy) (ci := 11) (v := .ref x_12) (C := RX11) (T := TX11) (N := 16) hx hb hta inlX11 hown hK hP ho.1 ((tp_un hfr ho (by decide)).trans hf_1) rfl 10 (by decide) (hta _ wk_46) (fun _ h9 => h9) rfl dX11_smooth_27 ?_
      refine lv_aload_n hx hb dX11_smooth_30 rfl (lv_at hl 0 rfl) ?_
      refine tp_get (cy := cy) (ci := 11) (v := .ref x_11) (C := RX11) (T := TX11) (N := 16) hx hb hta inlX11 hown hK hP ho.1 ((tp_un hfr ho (by decide)).trans hf_1) rfl 9 (by decide) (hta _ wk_42) (fun _ h9 => h9) rfl dX11_smooth_31 ?_
      obtain ⟨x_46, x_47, hf_45, hx_46, hx_47⟩ := (show tp_o_RESTS L K (0) 0 (Γ (33, 0, 0)) (f x_12) from hI0.at hx_12)
      refine tq_ci hS (hAf _ hS.1) (tq_rVN hN (As := [.ref x_11]) (rest := []) ⟨hx, hb, hml, hown, hta⟩ (tp_P.pre hK hN hL hU hI hP) (tp_recv hK hP hx_12.1 ((tp_un hfr hx_12 (by decide)).trans hf_45) rfl) lk_X11_405 (t_X3_found l D cy H.size L K Γ f_20 x_12 x_11 hx_12 hx_11) rfl rfl ⟨Nat.le_of_ble_eq_true rfl, Nat.le_of_ble_eq_true rfl⟩ rfl hl.1 rfl (Nat.le_of_ble_eq_true rfl) dX11_smooth_34 ⟨Nat.le_of_ble_eq_true rfl, Nat.le_of_ble_eq_true rfl⟩) (fun r_49 f_50 H locs hw_48 hP hI hc_51 hS => ?_)
      have hD : va_D A (va_pl L f_50) := tp_D hL hAL
      have hfr := tp_fr2 hfr hc_51 (by decide)
      have hf_52 := (tp_un hc_51 hx_11 (by decide)).trans hf_23
      refine lv_istore_n (lv' := [(3, .int r_49), (0, .ref o), (1, .int p0), (2, .int p1)]) hx hb dX11_smooth_37 rfl hl (by decide) rfl (fun ls hl => ?_)
      refine lv_aload_n hx hb dX11_smooth_38 rfl (lv_at hl 1 rfl) ?_
      refine tp_get (cy := cy) (ci := 11) (v := .ref x_12) (C := RX11) (T := TX11) (N := 16) hx hb hta inlX11 hown hK hP ho.1 ((tp_un hfr ho (by decide)).trans hf_1) rfl 10 (by decide) (hta _ wk_46) (fun _ h9 => h9) rfl dX11_smooth_39 ?_
      refine lv_aload_n hx hb dX11_smooth_42 rfl (lv_at hl 1 rfl) ?_
      refine tp_get (cy := cy) (ci := 11) (v := .ref x_11) (C := RX11) (T := TX11) (N := 16) hx hb hta inlX11 hown hK hP ho.1 ((tp_un hfr ho (by decide)).trans hf_1) rfl 9 (by decide) (hta _ wk_42) (fun _ h9 => h9) rfl dX11_smooth_43 ?_
      refine lv_iload_n hx hb dX11_smooth_46 rfl (lv_at hl 0 rfl) ?_
      refine tq_cv hS (hAf _ hS.1) (tq_rVN hN (As := [.ref x_11, .int r_49]) (rest := []) ⟨hx, hb, hml, hown, hta⟩ (tp_P.pre hK hN hL hU hI hP) (tp_recv hK hP hx_12.1 ((tp_un hfr hx_12 (by decide)).trans hf_45) rfl) lk_X11_413 (t_X3_gather l D cy H.size L K Γ f_50 x_12 x_11 r_49 hx_12 hx_11) rfl rfl ⟨Nat.le_of_ble_eq_true rfl, Nat.le_of_ble_eq_true rfl⟩ rfl hl.1 rfl (Nat.le_of_ble_eq_true rfl) dX11_smooth_47 ⟨Nat.le_of_ble_eq_true rfl, Nat.le_of_ble_eq_true rfl⟩) (fun f_55 H locs hw_53 hP hI hc_56 hS => ?_)
      have hD : va_D A (va_pl L f_55) := tp_D hL hAL
      have hfr := tp_fr2 hfr hc_56 (by decide)
      have hf_57 := (tp_un hc_56 hx_11 (by decide)).trans hf_52
      refine lv_lconst (v := 0) hx hb dX11_smooth_50 (by decide) ?_
      refine lv_lstore (lv' := [(4, .long 0), (3, .int r_49), (0, .ref o), (1, .int p0), (2, .int p1)]) hx hb dX11_smooth_51 hl (by decide) rfl (fun ls hl => ?_)
      refine lv_iconst (v := 0) hx hb dX11_smooth_53 (by decide) ?_
      refine lv_aload_n hx hb dX11_smooth_54 rfl (lv_at hl 2 rfl) ?_
      refine tp_get (cy := cy) (ci := 11) (v := .ref x_11) (C := RX11) (T := TX11) (N := 16) hx hb hta inlX11 hown hK hP ho.1 ((tp_un hfr ho (by decide)).trans hf_1) rfl 9 (by decide) (hta _ wk_42) (fun _ h9 => h9) rfl dX11_smooth_55 ?_
      refine tp_getN (cy := cy) (ci := 10) (v := .int x_35) (C := RX10) (T := TX10) (N := 18) hx hb hta inlX10 hown hK hP hx_11.1 hf_57 rfl 11 (by decide) (va_Nw.use rfl (hN.1 66 _ nk_66)) (fun _ h9 => h9) rfl dX11_smooth_58 ?_
      refine va_mmax hx hb (by rw [hml]; exact hl.1.symm) hown (hta _ wk_1069) (hta _ wk_82) (hta _ wk_83) (hta _ wk_84) (Nat.le_of_ble_eq_true rfl) (Nat.le_of_ble_eq_true rfl) (Nat.le_of_ble_eq_true rfl) (Nat.le_of_ble_eq_true rfl) dX11_smooth_61 ?_
      refine lv_topi (fun z_58 ez_58 => ?_)
      have iz_58 : (z_58.toInt = x_35.toInt ∧ (0 : Int) ≤ x_35.toInt) ∨ (z_58.toInt = (0 : Int) ∧ x_35.toInt ≤ (0 : Int)) := by rw [ez_58]; exact tl_maxF
      refine lv_istore (lv' := [(6, .int z_58), (4, .long 0), (3, .int r_49), (0, .ref o), (1, .int p0), (2, .int p1)]) hx hb dX11_smooth_64 hl (by decide) rfl (fun ls hl => ?_)
      refine tl_ind (G := fun H locs ls => W p l e ((headSpec (tl_w yX11_smooth cX11_smooth 7 (some .int)) ({ frames := 5, cells := 0, slots := 0, locals := 113 })).room) s m #[.ref o, .int p0, .int p1] below meth c H locs 0 0 (MQ below (va_Qi (fun (r : Int32) (u : Nat → va_E) => True) (tp_B D cy L K Γ f [28, 29, 23, 24, 27, 30, 31, 32, 34, 35]) A) #[.ref o, .int p0, .int p1] s 0 0 A) (F0 m 66 ls [])) (α := (Nat → va_E) × Int32 × Int64) (fun aq => (300 - aq.2.1.toInt).toNat) (fun aq H locs ls => (0 ≤ aq.2.1.toInt) ∧ va_P D vwCl (va_pl L aq.1) H ∧ tp_I cy L K Γ aq.1 ∧ (∀ b, (K b).1 ∉ ([28, 29, 23, 24, 27, 30, 31, 32, 34, 35] : List Nat) → aq.1 b = f b) ∧ va_S A s.heap H locs ∧ lv_has ls 7 [(6, .int aq.2.1), (4, .long aq.2.2), (3, .int r_49), (0, .ref o), (1, .int p0), (2, .int p1)]) ?_ (f_55, z_58, (0 : Int64)) H locs ls ⟨(show 0 ≤ z_58.toInt from (by omega)), hP, hI, hfr, hS, lv_sub hl [0, 1, 2, 3, 4, 5] rfl⟩
      rintro ⟨f_59, v6, v4⟩ H locs ls ⟨h5, hP, hI, hfr, hS, hl⟩ ih66
      have hP : va_P D vwCl (va_pl L f_59) H := hP
      have hI : tp_I cy L K Γ f_59 := hI
      have hfr : ∀ b, (K b).1 ∉ ([28, 29, 23, 24, 27, 30, 31, 32, 34, 35] : List Nat) → f_59 b = f b := hfr
      have hD : va_D A (va_pl L f_59) := tp_D hL hAL
      have h5 : 0 ≤ v6.toInt := h5
      have hl : lv_has ls 7 [(6, .int v6), (4, .long v4), (3, .int r_49), (0, .ref o), (1, .int p0), (2, .int p1)] := hl
      refine lv_iload hx hb dX11_smooth_66 (lv_at hl 0 rfl) ?_
      refine lv_aload_n hx hb dX11_smooth_68 rfl (lv_at hl 3 rfl) ?_
      refine tp_get (cy := cy) (ci := 11) (v := .ref x_11) (C := RX11) (T := TX11) (N := 16) hx hb hta inlX11 hown hK hP ho.1 ((tp_un hfr ho (by decide)).trans hf_1) rfl 9 (by decide) (hta _ wk_42) (fun _ h9 => h9) rfl dX11_smooth_69 ?_
      obtain ⟨x_61, x_62, x_63, x_64, x_65, x_66, x_67, x_68, x_69, x_70, x_71, x_72, x_73, x_74, x_75, x_76, x_77, x_78, hf_60, hx_61, hx_62, hx_63, hx_64, hx_65, hx_66, hx_67, hx_68, hx_69, hx_71, hx_74⟩ := (show tp_o_VIEW L K (0) 0 (Γ (27, 0, 0)) (f_59 x_11) from hI.at hx_11)
      refine tp_getN (cy := cy) (ci := 10) (v := .int x_73) (C := RX10) (T := TX10) (N := 18) hx hb hta inlX10 hown hK hP hx_11.1 hf_60 rfl 12 (by decide) (va_Nw.use rfl (hN.1 67 _ nk_67)) (fun _ h9 => h9) rfl dX11_smooth_72 ?_
      refine lv_icmp_gt (tgt := 136) hx hb dX11_smooth_75 (by decide) (fun c_79 => ?_) (fun c_79 => ?_)
      · have c_79 : x_73.toInt < v6.toInt := tl_lt c_79
        refine lv_lload hx hb dX11_smooth_136 (lv_at hl 1 rfl) ?_
        refine lv_lneg hx hb dX11_smooth_138 ?_
        refine lv_topl (fun z_80 ez_80 => ?_)
        refine lv_iconst (v := 1) hx hb dX11_smooth_139 (by decide) ?_
        refine lv_aload_n hx hb dX11_smooth_140 rfl (lv_at hl 3 rfl) ?_
        refine tp_get (cy := cy) (ci := 11) (v := .ref x_11) (C := RX11) (T := TX11) (N := 16) hx hb hta inlX11 hown hK hP ho.1 ((tp_un hfr ho (by decide)).trans hf_1) rfl 9 (by decide) (hta _ wk_42) (fun _ h9 => h9) rfl dX11_smooth_141 ?_
        refine tp_getN (cy := cy) (ci := 10) (v := .int x_75) (C := RX10) (T := TX10) (N := 18) hx hb hta inlX10 hown hK hP hx_11.1 hf_60 rfl 14 (by decide) (va_Nw.use rfl (hN.1 69 _ nk_69)) (fun _ h9 => h9) rfl dX11_smooth_144 ?_
        refine va_mmax hx hb (by rw [hml]; exact hl.1.symm) hown (hta _ wk_1069) (hta _ wk_82) (hta _ wk_83) (hta _ wk_84) (Nat.le_of_ble_eq_true rfl) (Nat.le_of_ble_eq_true rfl) (Nat.le_of_ble_eq_true rfl) (Nat.le_of_ble_eq_true rfl) dX11_smooth_147 ?_
        refine lv_topi (fun z_81 ez_81 => ?_)
        have iz_81 : (z_81.toInt = x_75.toInt ∧ (1 : Int) ≤ x_75.toInt) ∨ (z_81.toInt = (1 : Int) ∧ x_75.toInt ≤ (1 : Int)) := by rw [ez_81]; exact tl_maxF
        refine lv_i2l (v := z_81.toInt64) hx hb dX11_smooth_150 (by first | rfl | decide) ?_
        refine tl_sl (tq_rS (As := [.long z_80, .long z_81.toInt64]) (rest := []) ⟨hx, hb, hml, hown, hta⟩ (tp_P.pre hK hN hL hU hI hP) lk_X11_318 (t_J9_floorDiv_f86c9 l D cy H.size L K Γ f_59 z_80 z_81.toInt64 (by first | omega | (simp only [Int32.toInt_toInt64]; omega) | decide | assumption)) rfl rfl ⟨Nat.le_of_ble_eq_true rfl, Nat.le_of_ble_eq_true rfl⟩ rfl hl.1 rfl (Nat.le_of_ble_eq_true rfl) dX11_smooth_151 ⟨Nat.le_of_ble_eq_true rfl, Nat.le_of_ble_eq_true rfl⟩) (fun r_83 hw_82 => ?_)
        refine lv_l2i hx hb dX11_smooth_154 rfl ?_
        refine lv_topi (fun z_84 ez_84 => ?_)
        exact W.iret (v := z_84) hx hb hr (fun t ht hW => ⟨⟨_, f_59, rfl, trivial, by rw [ht]; exact hP, hI, hfr⟩, hS.F ht⟩) hS.2.2 dX11_smooth_155
      · have c_79 : v6.toInt ≤ x_73.toInt := tl_nlt c_79
        refine lv_iload hx hb dX11_smooth_78 (lv_at hl 0 rfl) ?_
        refine lv_sipush (v := 300) hx hb dX11_smooth_80 (by decide) ?_
        refine lv_icmp_ge (tgt := 136) hx hb dX11_smooth_83 (by decide) (fun c_85 => ?_) (fun c_85 => ?_)
        · have c_85 : (300 : Int) ≤ v6.toInt := tl_le c_85
          refine lv_lload hx hb dX11_smooth_136 (lv_at hl 1 rfl) ?_
          refine lv_lneg hx hb dX11_smooth_138 ?_
          refine lv_topl (fun z_86 ez_86 => ?_)
          refine lv_iconst (v := 1) hx hb dX11_smooth_139 (by decide) ?_
          refine lv_aload_n hx hb dX11_smooth_140 rfl (lv_at hl 3 rfl) ?_
          refine tp_get (cy := cy) (ci := 11) (v := .ref x_11) (C := RX11) (T := TX11) (N := 16) hx hb hta inlX11 hown hK hP ho.1 ((tp_un hfr ho (by decide)).trans hf_1) rfl 9 (by decide) (hta _ wk_42) (fun _ h9 => h9) rfl dX11_smooth_141 ?_
          refine tp_getN (cy := cy) (ci := 10) (v := .int x_75) (C := RX10) (T := TX10) (N := 18) hx hb hta inlX10 hown hK hP hx_11.1 hf_60 rfl 14 (by decide) (va_Nw.use rfl (hN.1 69 _ nk_69)) (fun _ h9 => h9) rfl dX11_smooth_144 ?_
          refine va_mmax hx hb (by rw [hml]; exact hl.1.symm) hown (hta _ wk_1069) (hta _ wk_82) (hta _ wk_83) (hta _ wk_84) (Nat.le_of_ble_eq_true rfl) (Nat.le_of_ble_eq_true rfl) (Nat.le_of_ble_eq_true rfl) (Nat.le_of_ble_eq_true rfl) dX11_smooth_147 ?_
          refine lv_topi (fun z_87 ez_87 => ?_)
          have iz_87 : (z_87.toInt = x_75.toInt ∧ (1 : Int) ≤ x_75.toInt) ∨ (z_87.toInt = (1 : Int) ∧ x_75.toInt ≤ (1 : Int)) := by rw [ez_87]; exact tl_maxF
          refine lv_i2l (v := z_87.toInt64) hx hb dX11_smooth_150 (by first | rfl | decide) ?_
          refine tl_sl (tq_rS (As := [.long z_86, .long z_87.toInt64]) (rest := []) ⟨hx, hb, hml, hown, hta⟩ (tp_P.pre hK hN hL hU hI hP) lk_X11_318 (t_J9_floorDiv_f86c9 l D cy H.size L K Γ f_59 z_86 z_87.toInt64 (by first | omega | (simp only [Int32.toInt_toInt64]; omega) | decide | assumption)) rfl rfl ⟨Nat.le_of_ble_eq_true rfl, Nat.le_of_ble_eq_true rfl⟩ rfl hl.1 rfl (Nat.le_of_ble_eq_true rfl) dX11_smooth_151 ⟨Nat.le_of_ble_eq_true rfl, Nat.le_of_ble_eq_true rfl⟩) (fun r_89 hw_88 => ?_)
          refine lv_l2i hx hb dX11_smooth_154 rfl ?_
          refine lv_topi (fun z_90 ez_90 => ?_)
          exact W.iret (v := z_90) hx hb hr (fun t ht hW => ⟨⟨_, f_59, rfl, trivial, by rw [ht]; exact hP, hI, hfr⟩, hS.F ht⟩) hS.2.2 dX11_smooth_155
        · have c_85 : v6.toInt < (300 : Int) := tl_nle c_85
          refine lv_aload_n hx hb dX11_smooth_86 rfl (lv_at hl 3 rfl) ?_
          refine tp_get (cy := cy) (ci := 11) (v := .ref x_11) (C := RX11) (T := TX11) (N := 16) hx hb hta inlX11 hown hK hP ho.1 ((tp_un hfr ho (by decide)).trans hf_1) rfl 9 (by decide) (hta _ wk_42) (fun _ h9 => h9) rfl dX11_smooth_87 ?_
          refine tp_getN (cy := cy) (ci := 10) (v := .ref x_61) (C := RX10) (T := TX10) (N := 18) hx hb hta inlX10 hown hK hP hx_11.1 hf_60 rfl 0 (by decide) (va_Nw.use rfl (hN.1 60 _ nk_60)) (fun _ h9 => h9) rfl dX11_smooth_90 ?_
          refine lv_iload hx hb dX11_smooth_93 (lv_at hl 0 rfl) ?_
          obtain ⟨g_92, hf_91⟩ := (show tp_az cy (300) (f_59 x_61) from hI.at hx_61)
          have hn_94 : vp_in v6 (300) := tl_in (by omega) (by omega)
          refine tp_zald (cy := cy) hx hb hK hP hx_61.1 hf_91 hn_94 dX11_smooth_95 ?_
          refine lv_topi (fun z_95 ez_95 => ?_)
          refine lv_if_eq (tgt := 130) hx hb dX11_smooth_96 (by decide) (fun c_96 => ?_) (fun c_96 => ?_)
          · have c_96 : z_95.toInt = (0 : Int) := tl_eq c_96
            obtain ⟨z_97, ez_97⟩ : ∃ y : Int32, y = v6 + 1 := ⟨_, rfl⟩
            refine lv_iinc (v := z_97) (lv' := [(6, .int z_97), (4, .long v4), (3, .int r_49), (0, .ref o), (1, .int p0), (2, .int p1)]) hx hb dX11_smooth_130 hl (k := 0) rfl (by rw [ez_97]; rfl) (by decide) rfl (fun ls hl => ?_)
            try have iz_97 : z_97.toInt = v6.toInt + 1 := by rw [ez_97]; exact tl_addL v6 1 (by decide) (by omega) (by omega)
            refine lv_goto (tgt := 66) hx hb dX11_smooth_133 (by decide) ?_
            exact ih66 (f_59, z_97, v4) H locs ls (by show (300 - z_97.toInt).toNat < (300 - v6.toInt).toNat; omega) ⟨(show 0 ≤ z_97.toInt from (by omega)), hP, hI, hfr, hS, lv_sub hl [0, 1, 2, 3, 4, 5] rfl⟩
          · have c_96 : ¬ z_95.toInt = (0 : Int) := tl_neq c_96
            refine lv_lload hx hb dX11_smooth_99 (lv_at hl 1 rfl) ?_
            refine lv_aload_n hx hb dX11_smooth_101 rfl (lv_at hl 3 rfl) ?_
            refine tp_get (cy := cy) (ci := 11) (v := .ref x_11) (C := RX11) (T := TX11) (N := 16) hx hb hta inlX11 hown hK hP ho.1 ((tp_un hfr ho (by decide)).trans hf_1) rfl 9 (by decide) (hta _ wk_42) (fun _ h9 => h9) rfl dX11_smooth_102 ?_
            refine lv_iload hx hb dX11_smooth_105 (lv_at hl 0 rfl) ?_
            refine tl_si (tq_rVN hN (As := [.int v6]) (rest := [.long v4]) ⟨hx, hb, hml, hown, hta⟩ (tp_P.pre hK hN hL hU hI hP) (tp_recv hK hP hx_11.1 hf_60 rfl) lk_X11_258 (t_X10_leftAt l D cy H.size L K Γ f_59 x_11 v6 hx_11) rfl rfl ⟨Nat.le_of_ble_eq_true rfl, Nat.le_of_ble_eq_true rfl⟩ rfl hl.1 rfl (Nat.le_of_ble_eq_true rfl) dX11_smooth_107 ⟨Nat.le_of_ble_eq_true rfl, Nat.le_of_ble_eq_true rfl⟩) (fun r_99 hw_98 => ?_)
            refine lv_i2l (v := r_99.toInt64) hx hb dX11_smooth_110 (by first | rfl | decide) ?_
            refine lv_aload_n hx hb dX11_smooth_111 rfl (lv_at hl 3 rfl) ?_
            refine tp_get (cy := cy) (ci := 11) (v := .ref x_12) (C := RX11) (T := TX11) (N := 16) hx hb hta inlX11 hown hK hP ho.1 ((tp_un hfr ho (by decide)).trans hf_1) rfl 10 (by decide) (hta _ wk_46) (fun _ h9 => h9) rfl dX11_smooth_112 ?_
            refine lv_iload hx hb dX11_smooth_115 (lv_at hl 0 rfl) ?_
            refine lv_iconst (v := 1) hx hb dX11_smooth_117 (by decide) ?_
            refine lv_iload_n hx hb dX11_smooth_118 rfl (lv_at hl 2 rfl) ?_
            refine va_mmax hx hb (by rw [hml]; exact hl.1.symm) hown (hta _ wk_1069) (hta _ wk_82) (hta _ wk_83) (hta _ wk_84) (Nat.le_of_ble_eq_true rfl) (Nat.le_of_ble_eq_true rfl) (Nat.le_of_ble_eq_true rfl) (Nat.le_of_ble_eq_true rfl) dX11_smooth_119 ?_
            refine lv_topi (fun z_100 ez_100 => ?_)
            have iz_100 : (z_100.toInt = r_49.toInt ∧ (1 : Int) ≤ r_49.toInt) ∨ (z_100.toInt = (1 : Int) ∧ r_49.toInt ≤ (1 : Int)) := by rw [ez_100]; exact tl_maxF
            refine lv_irem hx hb dX11_smooth_122 (tl_ne0 (by omega)) ?_
            refine lv_topi (fun z_101 ez_101 => ?_)
            try have iz_101 := tl_iremB ez_101 (by omega) (by omega)
            refine tl_sl (tq_rVN hN (As := [.int z_101]) (rest := [.long r_99.toInt64, .long v4]) ⟨hx, hb, hml, hown, hta⟩ (tp_P.pre hK hN hL hU hI hP) (tp_recv hK hP hx_12.1 ((tp_un hfr hx_12 (by decide)).trans hf_45) rfl) lk_X11_417 (t_X3_meanAt l D cy H.size L K Γ f_59 x_12 z_101 hx_12) rfl rfl ⟨Nat.le_of_ble_eq_true rfl, Nat.le_of_ble_eq_true rfl⟩ rfl hl.1 rfl (Nat.le_of_ble_eq_true rfl) dX11_smooth_123 ⟨Nat.le_of_ble_eq_true rfl, Nat.le_of_ble_eq_true rfl⟩) (fun r_103 hw_102 => ?_)
            refine lv_lsub hx hb dX11_smooth_126 ?_
            refine lv_topl (fun z_104 ez_104 => ?_)
            refine lv_ladd hx hb dX11_smooth_127 ?_
            refine lv_topl (fun z_105 ez_105 => ?_)
            refine lv_lstore (lv' := [(4, .long z_105), (6, .int v6), (3, .int r_49), (0, .ref o), (1, .int p0), (2, .int p1)]) hx hb dX11_smooth_128 hl (by decide) rfl (fun ls hl => ?_)
            obtain ⟨z_106, ez_106⟩ : ∃ y : Int32, y = v6 + 1 := ⟨_, rfl⟩
            refine lv_iinc (v := z_106) (lv' := [(6, .int z_106), (4, .long z_105), (3, .int r_49), (0, .ref o), (1, .int p0), (2, .int p1)]) hx hb dX11_smooth_130 hl (k := 1) rfl (by rw [ez_106]; rfl) (by decide) rfl (fun ls hl => ?_)
            try have iz_106 : z_106.toInt = v6.toInt + 1 := by rw [ez_106]; exact tl_addL v6 1 (by decide) (by omega) (by omega)
            refine lv_goto (tgt := 66) hx hb dX11_smooth_133 (by decide) ?_
            exact ih66 (f_59, z_106, z_105) H locs ls (by show (300 - z_106.toInt).toNat < (300 - v6.toInt).toNat; omega) ⟨(show 0 ≤ z_106.toInt from (by omega)), hP, hI, hfr, hS, lv_sub hl [0, 1, 2, 3, 4, 5] rfl⟩
    · have c_44 := c_44
      refine lv_ldc (v := (-1000000)) hx hb hown (hta _ wk_227) dX11_smooth_23 ?_
      exact W.iret (v := (-1000000)) hx hb hr (fun t ht hW => ⟨⟨_, f_20, rfl, trivial, by rw [ht]; exact hP, hI, hfr⟩, hS.F ht⟩) hS.2.2 dX11_smooth_25
  · have c_22 := c_22
    refine lv_ldc (v := (-2000000)) hx hb hown (hta _ wk_230) dX11_smooth_10 ?_
    exact W.iret (v := (-2000000)) hx hb hr (fun t ht hW => ⟨⟨_, f_20, rfl, trivial, by rw [ht]; exact hP, hI, hfr⟩, hS.F ht⟩) hS.2.2 dX11_smooth_12
set_option maxHeartbeats 4000000 in
set_option maxRecDepth 100000 in
theorem t_X11_without (l : Launch) (D : va_G) (cy : Nat → ClassId) (sz : Nat) (L : List Nat) (K : Nat → tk_K) (Γ : tk_G) (f : Nat → va_E) (o : Nat) (p0 : Int32) (p1 : Int32) (p2 : Int32) (ho : tp_r L K 0 (0) 0 o) : Met l yX11_without (tl_w yX11_without cX11_without 4 (some .int)) ({ frames := 5, cells := 0, slots := 0, locals := 113 }) (va_Pc [.ref o, .int p0, .int p1, .int p2] (tp_P D cy L K Γ f sz)) (va_Qi (fun (r : Int32) (u : Nat → va_E) => True) (tp_B D cy L K Γ f [28, 29, 23, 24, 27, 30, 31, 32]) (tp_A L sz)) 0 0 (tp_A L sz) := by
  refine Met.ofW (cc := cX11_without) (maxL := 4) (ret := (some .int)) (by decide) rfl ?_
  intro p e s m args below meth c s₁ B hml hv
  obtain ⟨rfl, hsz, hP, hK, hL, hI, hN, hU⟩ := hv
  have hx := B.exec
  have hb := B.bytes
  have hr := B.returns
  have hta := tl_hta (atoms_spec (ws := tl_w yX11_without cX11_without 4 (some .int)) B.pre)
  have hown : s.vm.findClass RX11 = some m.cls := findClass_of_methodNamed B.named
  have hlocks := B.notSynchronized
  subst hsz
  have hI0 := hI
  generalize hAe : tp_A L s.heap.size = A
  have hA : ∀ q : Nat, s.heap.size ≤ q → A q := fun q h => by rw [← hAe]; exact Or.inr h
  have hAL : ∀ q ∈ L, A q := fun q h => by rw [← hAe]; exact Or.inl h
  have hAf : ∀ (H : Heap), s.heap.size ≤ H.size → ∀ q, tp_A L H.size q → A q := fun H h q hq => hq.elim (hAL q) (fun h2 => hA q (Nat.le_trans h h2))
  have hS : va_S A s.heap s.heap [] := va_S.rf
  have hD : va_D A (va_pl L f) := tp_D hL hAL
  have hfr : ∀ b, (K b).1 ∉ ([28, 29, 23, 24, 27, 30, 31, 32] : List Nat) → f b = f b := fun _ _ => rfl
  have hl := lv_entry ([.ref o, .int p0, .int p1, .int p2]) (n := 4) (Nat.le_of_ble_eq_true rfl)
  rw [lg_entry_eq]
  generalize (lg_sl ([.ref o, .int p0, .int p1, .int p2]) ++ List.replicate (4 - (lg_sl ([.ref o, .int p0, .int p1, .int p2])).length) Slot.unset).toArray = ls at hl ⊢
  have hl : lv_has ls 4 [(0, .ref o), (1, .int p0), (2, .int p1), (3, .int p2)] := hl
  refine lv_aload_n hx hb dX11_without_0 rfl (lv_at hl 0 rfl) ?_
  obtain ⟨x_2, x_3, x_4, x_5, x_6, x_7, x_8, x_9, x_10, x_11, x_12, x_13, x_14, x_15, x_16, x_17, hf_1, hx_2, hx_3, hx_4, hx_5, hx_6, hx_7, hx_8, hx_9, hx_10, hx_11, hx_12, hx_13, hx_14, hx_15, hx_16, hx_17⟩ := (show tp_o_X L K (0) 0 (Γ (0, 0, 0)) (f o) from hI0.at ho)
  refine tp_get (cy := cy) (ci := 11) (v := .ref x_2) (C := RX11) (T := TX11) (N := 16) hx hb hta inlX11 hown hK hP ho.1 hf_1 rfl 0 (by decide) (hta _ wk_15) (fun _ h9 => h9) rfl dX11_without_1 ?_
  obtain ⟨x_19, x_20, x_21, x_22, x_23, x_24, x_25, x_26, x_27, hf_18, hx_19, hx_20, hx_21, hx_22, hx_23, hx_24, hx_25, hx_26, hx_27⟩ := (show tp_o_BOOK L K (0) 0 (Γ (1, 0, 0)) (f x_2) from hI0.at hx_2)
  refine tp_getN (cy := cy) (ci := 0) (v := .ref x_22) (C := RX0) (T := TX0) (N := 9) hx hb hta inlX0 hown hK hP hx_2.1 hf_18 rfl 3 (by decide) (va_Nw.use rfl (hN.1 21 _ nk_21)) (fun _ h9 => h9) rfl dX11_without_4 ?_
  refine lv_iload_n hx hb dX11_without_7 rfl (lv_at hl 3 rfl) ?_
  obtain ⟨x_29, x_30, x_31, hf_28, hx_29, hx_30, hx_31⟩ := (show tp_o_TABLE L K (40) 0 (Γ (7, 40, 0)) (f x_22) from hI0.at hx_22)
  refine tl_si (tq_rVN hN (As := [.int p2]) (rest := []) ⟨hx, hb, hml, hown, hta⟩ (tp_P.pre hK hN hL hU hI hP) (tp_recv hK hP hx_22.1 hf_28 rfl) lk_X11_156 (t_X6_has l D cy s.heap.size L K Γ f 40 0 x_22 p2 hx_22 (by first | omega | (simp only [Int32.toInt_toInt64]; omega) | decide | assumption)) rfl rfl ⟨Nat.le_of_ble_eq_true rfl, Nat.le_of_ble_eq_true rfl⟩ rfl hl.1 rfl (Nat.le_of_ble_eq_true rfl) dX11_without_8 ⟨Nat.le_of_ble_eq_true rfl, Nat.le_of_ble_eq_true rfl⟩) (fun r_33 hw_32 => ?_)
  have hw_32 : tl_E r_33 (0 ≤ p2.toInt ∧ p2.toInt < Γ (7, 40, 0) 0) 1 0 := hw_32
  refine lv_if_eq (tgt := 24) hx hb dX11_without_11 (by decide) (fun c_34 => ?_) (fun c_34 => ?_)
  · have c_34 := hw_32.f c_34
    refine lv_ldc (v := (-2000000)) hx hb hown (hta _ wk_230) dX11_without_24 ?_
    exact W.iret (v := (-2000000)) hx hb hr (fun t ht hW => ⟨⟨_, f, rfl, trivial, by rw [ht]; exact hP, hI, hfr⟩, hS.F ht⟩) hS.2.2 dX11_without_26
  · have c_34 := hw_32.t c_34
    refine lv_aload_n hx hb dX11_without_14 rfl (lv_at hl 0 rfl) ?_
    refine lv_iload_n hx hb dX11_without_15 rfl (lv_at hl 1 rfl) ?_
    refine lv_iload_n hx hb dX11_without_16 rfl (lv_at hl 2 rfl) ?_
    refine lv_iload_n hx hb dX11_without_17 rfl (lv_at hl 3 rfl) ?_
    refine tq_ci hS (hAf _ hS.1) (tq_rV (As := [.int p0, .int p1, .int p2]) (rest := []) ⟨hx, hb, hml, hown, hta⟩ (tp_P.pre hK hN hL hU hI hP) (tp_recv hK hP ho.1 hf_1 rfl) lk_X11_246 (t_X11_look l D cy s.heap.size L K Γ f o p0 p1 p2 ho) rfl rfl ⟨Nat.le_of_ble_eq_true rfl, Nat.le_of_ble_eq_true rfl⟩ rfl hl.1 rfl (Nat.le_of_ble_eq_true rfl) dX11_without_18 ⟨Nat.le_of_ble_eq_true rfl, Nat.le_of_ble_eq_true rfl⟩) (fun r_36 f_37 H locs hw_35 hP hI hc_38 hS => ?_)
    have hD : va_D A (va_pl L f_37) := tp_D hL hAL
    have hfr := tp_fr2 hfr hc_38 (by decide)
    have hw_35 : tl_J r_36 (tv_gx f f_37 o) := hw_35
    refine lv_if_ne (tgt := 27) hx hb dX11_without_21 (by decide) (fun c_39 => ?_) (fun c_39 => ?_)
    · have c_39 := hw_35.t c_39
      refine lv_aload_n hx hb dX11_without_27 rfl (lv_at hl 0 rfl) ?_
      refine tp_get (cy := cy) (ci := 11) (v := .ref x_11) (C := RX11) (T := TX11) (N := 16) hx hb hta inlX11 hown hK hP ho.1 ((tp_un hfr ho (by decide)).trans hf_1) rfl 9 (by decide) (hta _ wk_42) (fun _ h9 => h9) rfl dX11_without_28 ?_
      obtain ⟨x_41, x_42, x_43, x_44, x_45, x_46, x_47, x_48, x_49, x_50, x_51, x_52, x_53, x_54, x_55, x_56, x_57, x_58, hf_40, hx_41, hx_42, hx_43, hx_44, hx_45, hx_46, hx_47, hx_48, hx_49, hx_51, hx_54⟩ := (show tp_o_VIEW L K (0) 0 (Γ (27, 0, 0)) (f_37 x_11) from hI.at hx_11)
      refine tl_si (tq_rVN hN (As := []) (rest := []) ⟨hx, hb, hml, hown, hta⟩ (tp_P.pre hK hN hL hU hI hP) (tp_recv hK hP hx_11.1 hf_40 rfl) lk_X11_264 (t_X10_deepness l D cy H.size L K Γ f_37 x_11 hx_11) rfl rfl ⟨Nat.le_of_ble_eq_true rfl, Nat.le_of_ble_eq_true rfl⟩ rfl hl.1 rfl (Nat.le_of_ble_eq_true rfl) dX11_without_31 ⟨Nat.le_of_ble_eq_true rfl, Nat.le_of_ble_eq_true rfl⟩) (fun r_60 hw_59 => ?_)
      exact W.iret (v := r_60) hx hb hr (fun t ht hW => ⟨⟨_, f_37, rfl, trivial, by rw [ht]; exact hP, hI, hfr⟩, hS.F ht⟩) hS.2.2 dX11_without_34
    · have c_39 := c_39
      refine lv_ldc (v := (-2000000)) hx hb hown (hta _ wk_230) dX11_without_24 ?_
      exact W.iret (v := (-2000000)) hx hb hr (fun t ht hW => ⟨⟨_, f_37, rfl, trivial, by rw [ht]; exact hP, hI, hfr⟩, hS.F ht⟩) hS.2.2 dX11_without_26
set_option maxHeartbeats 4000000 in
set_option maxRecDepth 100000 in
theorem t_X11_weightiest (l : Launch) (D : va_G) (cy : Nat → ClassId) (sz : Nat) (L : List Nat) (K : Nat → tk_K) (Γ : tk_G) (f : Nat → va_E) (o : Nat) (p0 : Int32) (p1 : Int32) (ho : tp_r L K 0 (0) 0 o) : Met l yX11_weightiest (tl_w yX11_weightiest cX11_weightiest 8 (some .int)) ({ frames := 5, cells := 0, slots := 0, locals := 113 }) (va_Pc [.ref o, .int p0, .int p1] (tp_P D cy L K Γ f sz)) (va_Qi (fun (r : Int32) (u : Nat → va_E) => True) (tp_B D cy L K Γ f [28, 29, 23, 24, 27, 30, 31, 32]) (tp_A L sz)) 0 0 (tp_A L sz) := by
  refine Met.ofW (cc := cX11_weightiest) (maxL := 8) (ret := (some .int)) (by decide) rfl ?_
  intro p e s m args below meth c s₁ B hml hv
  obtain ⟨rfl, hsz, hP, hK, hL, hI, hN, hU⟩ := hv
  have hx := B.exec
  have hb := B.bytes
  have hr := B.returns
  have hta := tl_hta (atoms_spec (ws := tl_w yX11_weightiest cX11_weightiest 8 (some .int)) B.pre)
  have hown : s.vm.findClass RX11 = some m.cls := findClass_of_methodNamed B.named
  have hlocks := B.notSynchronized
  subst hsz
  have hI0 := hI
  generalize hAe : tp_A L s.heap.size = A
  have hA : ∀ q : Nat, s.heap.size ≤ q → A q := fun q h => by rw [← hAe]; exact Or.inr h
  have hAL : ∀ q ∈ L, A q := fun q h => by rw [← hAe]; exact Or.inl h
  have hAf : ∀ (H : Heap), s.heap.size ≤ H.size → ∀ q, tp_A L H.size q → A q := fun H h q hq => hq.elim (hAL q) (fun h2 => hA q (Nat.le_trans h h2))
  have hS : va_S A s.heap s.heap [] := va_S.rf
  have hD : va_D A (va_pl L f) := tp_D hL hAL
  have hfr : ∀ b, (K b).1 ∉ ([28, 29, 23, 24, 27, 30, 31, 32] : List Nat) → f b = f b := fun _ _ => rfl
  have hl := lv_entry ([.ref o, .int p0, .int p1]) (n := 8) (Nat.le_of_ble_eq_true rfl)
  rw [lg_entry_eq]
  generalize (lg_sl ([.ref o, .int p0, .int p1]) ++ List.replicate (8 - (lg_sl ([.ref o, .int p0, .int p1])).length) Slot.unset).toArray = ls at hl ⊢
  have hl : lv_has ls 8 [(0, .ref o), (1, .int p0), (2, .int p1)] := hl
  refine lv_aload_n hx hb dX11_weightiest_0 rfl (lv_at hl 0 rfl) ?_
  refine lv_iload_n hx hb dX11_weightiest_1 rfl (lv_at hl 1 rfl) ?_
  refine lv_iload_n hx hb dX11_weightiest_2 rfl (lv_at hl 2 rfl) ?_
  refine lv_iconst (v := (-1)) hx hb dX11_weightiest_3 (by decide) ?_
  obtain ⟨x_2, x_3, x_4, x_5, x_6, x_7, x_8, x_9, x_10, x_11, x_12, x_13, x_14, x_15, x_16, x_17, hf_1, hx_2, hx_3, hx_4, hx_5, hx_6, hx_7, hx_8, hx_9, hx_10, hx_11, hx_12, hx_13, hx_14, hx_15, hx_16, hx_17⟩ := (show tp_o_X L K (0) 0 (Γ (0, 0, 0)) (f o) from hI0.at ho)
  refine tq_ci hS (hAf _ hS.1) (tq_rV (As := [.int p0, .int p1, .int (-1)]) (rest := []) ⟨hx, hb, hml, hown, hta⟩ (tp_P.pre hK hN hL hU hI hP) (tp_recv hK hP ho.1 hf_1 rfl) lk_X11_246 (t_X11_look l D cy s.heap.size L K Γ f o p0 p1 (-1) ho) rfl rfl ⟨Nat.le_of_ble_eq_true rfl, Nat.le_of_ble_eq_true rfl⟩ rfl hl.1 rfl (Nat.le_of_ble_eq_true rfl) dX11_weightiest_4 ⟨Nat.le_of_ble_eq_true rfl, Nat.le_of_ble_eq_true rfl⟩) (fun r_19 f_20 H locs hw_18 hP hI hc_21 hS => ?_)
  have hD : va_D A (va_pl L f_20) := tp_D hL hAL
  have hfr := tp_fr2 hfr hc_21 (by decide)
  have hw_18 : tl_J r_19 (tv_gx f f_20 o) := hw_18
  refine lv_if_ne (tgt := 12) hx hb dX11_weightiest_7 (by decide) (fun c_22 => ?_) (fun c_22 => ?_)
  · have c_22 := hw_18.t c_22
    refine lv_aload_n hx hb dX11_weightiest_12 rfl (lv_at hl 0 rfl) ?_
    refine tp_get (cy := cy) (ci := 11) (v := .ref x_11) (C := RX11) (T := TX11) (N := 16) hx hb hta inlX11 hown hK hP ho.1 ((tp_un hfr ho (by decide)).trans hf_1) rfl 9 (by decide) (hta _ wk_42) (fun _ h9 => h9) rfl dX11_weightiest_13 ?_
    obtain ⟨x_24, x_25, x_26, x_27, x_28, x_29, x_30, x_31, x_32, x_33, x_34, x_35, x_36, x_37, x_38, x_39, x_40, x_41, hf_23, hx_24, hx_25, hx_26, hx_27, hx_28, hx_29, hx_30, hx_31, hx_32, hx_34, hx_37⟩ := (show tp_o_VIEW L K (0) 0 (Γ (27, 0, 0)) (f_20 x_11) from hI.at hx_11)
    refine tl_si (tq_rVN hN (As := []) (rest := []) ⟨hx, hb, hml, hown, hta⟩ (tp_P.pre hK hN hL hU hI hP) (tp_recv hK hP hx_11.1 hf_23 rfl) lk_X11_289 (t_X10_hasDeep l D cy H.size L K Γ f_20 x_11 hx_11) rfl rfl ⟨Nat.le_of_ble_eq_true rfl, Nat.le_of_ble_eq_true rfl⟩ rfl hl.1 rfl (Nat.le_of_ble_eq_true rfl) dX11_weightiest_16 ⟨Nat.le_of_ble_eq_true rfl, Nat.le_of_ble_eq_true rfl⟩) (fun r_43 hw_42 => ?_)
    have hw_42 : tl_J r_43 (tv_gc (f_20 x_11)) := hw_42
    refine lv_if_ne (tgt := 25) hx hb dX11_weightiest_19 (by decide) (fun c_44 => ?_) (fun c_44 => ?_)
    · have c_44 := hw_42.t c_44
      refine lv_aload_n hx hb dX11_weightiest_25 rfl (lv_at hl 0 rfl) ?_
      refine tp_get (cy := cy) (ci := 11) (v := .ref x_11) (C := RX11) (T := TX11) (N := 16) hx hb hta inlX11 hown hK hP ho.1 ((tp_un hfr ho (by decide)).trans hf_1) rfl 9 (by decide) (hta _ wk_42) (fun _ h9 => h9) rfl dX11_weightiest_26 ?_
      refine tl_si (tq_rVN hN (As := []) (rest := []) ⟨hx, hb, hml, hown, hta⟩ (tp_P.pre hK hN hL hU hI hP) (tp_recv hK hP hx_11.1 hf_23 rfl) lk_X11_264 (t_X10_deepness l D cy H.size L K Γ f_20 x_11 hx_11) rfl rfl ⟨Nat.le_of_ble_eq_true rfl, Nat.le_of_ble_eq_true rfl⟩ rfl hl.1 rfl (Nat.le_of_ble_eq_true rfl) dX11_weightiest_29 ⟨Nat.le_of_ble_eq_true rfl, Nat.le_of_ble_eq_true rfl⟩) (fun r_46 hw_45 => ?_)
      refine lv_istore_n (lv' := [(3, .int r_46), (0, .ref o), (1, .int p0), (2, .int p1)]) hx hb dX11_weightiest_32 rfl hl (by decide) rfl (fun ls hl => ?_)
      refine lv_bipush (v := (-2)) hx hb dX11_weightiest_33 (by decide) ?_
      refine lv_istore (lv' := [(4, .int (-2)), (3, .int r_46), (0, .ref o), (1, .int p0), (2, .int p1)]) hx hb dX11_weightiest_35 hl (by decide) rfl (fun ls hl => ?_)
      refine lv_iconst (v := (-1)) hx hb dX11_weightiest_37 (by decide) ?_
      refine lv_istore (lv' := [(5, .int (-1)), (4, .int (-2)), (3, .int r_46), (0, .ref o), (1, .int p0), (2, .int p1)]) hx hb dX11_weightiest_38 hl (by decide) rfl (fun ls hl => ?_)
      refine lv_iconst (v := 0) hx hb dX11_weightiest_40 (by decide) ?_
      refine lv_istore (lv' := [(6, .int 0), (5, .int (-1)), (4, .int (-2)), (3, .int r_46), (0, .ref o), (1, .int p0), (2, .int p1)]) hx hb dX11_weightiest_41 hl (by decide) rfl (fun ls hl => ?_)
      refine tl_ind (G := fun H locs ls => W p l e ((headSpec (tl_w yX11_weightiest cX11_weightiest 8 (some .int)) ({ frames := 5, cells := 0, slots := 0, locals := 113 })).room) s m #[.ref o, .int p0, .int p1] below meth c H locs 0 0 (MQ below (va_Qi (fun (r : Int32) (u : Nat → va_E) => True) (tp_B D cy L K Γ f [28, 29, 23, 24, 27, 30, 31, 32]) A) #[.ref o, .int p0, .int p1] s 0 0 A) (F0 m 43 ls [])) (α := (Nat → va_E) × Int32 × Int32 × Int32) (fun aq => (40 - aq.2.1.toInt).toNat) (fun aq H locs ls => (0 ≤ aq.2.1.toInt) ∧ (aq.2.1.toInt ≤ 40) ∧ va_P D vwCl (va_pl L aq.1) H ∧ tp_I cy L K Γ aq.1 ∧ (∀ b, (K b).1 ∉ ([28, 29, 23, 24, 27, 30, 31, 32] : List Nat) → aq.1 b = f b) ∧ va_S A s.heap H locs ∧ lv_has ls 8 [(6, .int aq.2.1), (5, .int aq.2.2.1), (4, .int aq.2.2.2), (3, .int r_46), (0, .ref o), (1, .int p0), (2, .int p1)]) ?_ (f_20, (0 : Int32), ((-1) : Int32), ((-2) : Int32)) H locs ls ⟨(show 0 ≤ (0 : Int) from (by omega)), (show (0 : Int) ≤ 40 from (by omega)), hP, hI, hfr, hS, lv_sub hl [0, 1, 2, 3, 4, 5, 6] rfl⟩
      rintro ⟨f_47, v6, v5, v4⟩ H locs ls ⟨h0, h1, hP, hI, hfr, hS, hl⟩ ih43
      have hP : va_P D vwCl (va_pl L f_47) H := hP
      have hI : tp_I cy L K Γ f_47 := hI
      have hfr : ∀ b, (K b).1 ∉ ([28, 29, 23, 24, 27, 30, 31, 32] : List Nat) → f_47 b = f b := hfr
      have hD : va_D A (va_pl L f_47) := tp_D hL hAL
      have h0 : 0 ≤ v6.toInt := h0
      have h1 : v6.toInt ≤ 40 := h1
      have hl : lv_has ls 8 [(6, .int v6), (5, .int v5), (4, .int v4), (3, .int r_46), (0, .ref o), (1, .int p0), (2, .int p1)] := hl
      refine lv_iload hx hb dX11_weightiest_43 (lv_at hl 0 rfl) ?_
      refine lv_aload_n hx hb dX11_weightiest_45 rfl (lv_at hl 4 rfl) ?_
      refine tp_get (cy := cy) (ci := 11) (v := .ref x_2) (C := RX11) (T := TX11) (N := 16) hx hb hta inlX11 hown hK hP ho.1 ((tp_un hfr ho (by decide)).trans hf_1) rfl 0 (by decide) (hta _ wk_15) (fun _ h9 => h9) rfl dX11_weightiest_46 ?_
      obtain ⟨x_49, x_50, x_51, x_52, x_53, x_54, x_55, x_56, x_57, hf_48, hx_49, hx_50, hx_51, hx_52, hx_53, hx_54, hx_55, hx_56, hx_57⟩ := (show tp_o_BOOK L K (0) 0 (Γ (1, 0, 0)) (f x_2) from hI0.at hx_2)
      refine tp_getN (cy := cy) (ci := 0) (v := .ref x_52) (C := RX0) (T := TX0) (N := 9) hx hb hta inlX0 hown hK hP hx_2.1 ((tp_un hfr hx_2 (by decide)).trans hf_48) rfl 3 (by decide) (va_Nw.use rfl (hN.1 21 _ nk_21)) (fun _ h9 => h9) rfl dX11_weightiest_49 ?_
      obtain ⟨x_59, x_60, x_61, hf_58, hx_59, hx_60, hx_61⟩ := (show tp_o_TABLE L K (40) 0 (Γ (7, 40, 0)) (f x_52) from hI0.at hx_52)
      refine tp_getN (cy := cy) (ci := 6) (v := .int x_61) (C := RX6) (T := TX6) (N := 3) hx hb hta inlX6 hown hK hP hx_52.1 ((tp_un hfr hx_52 (by decide)).trans hf_58) rfl 2 (by decide) (va_Nw.use rfl (hN.1 15 _ nk_15)) (fun _ h9 => h9) rfl dX11_weightiest_52 ?_
      refine lv_icmp_ge (tgt := 141) hx hb dX11_weightiest_55 (by decide) (fun c_62 => ?_) (fun c_62 => ?_)
      · have c_62 : x_61.toInt ≤ v6.toInt := tl_le c_62
        refine lv_iload hx hb dX11_weightiest_141 (lv_at hl 2 rfl) ?_
        exact W.iret (v := v4) hx hb hr (fun t ht hW => ⟨⟨_, f_47, rfl, trivial, by rw [ht]; exact hP, hI, hfr⟩, hS.F ht⟩) hS.2.2 dX11_weightiest_143
      · have c_62 : v6.toInt < x_61.toInt := tl_nle c_62
        refine lv_aload_n hx hb dX11_weightiest_58 rfl (lv_at hl 4 rfl) ?_
        refine tp_get (cy := cy) (ci := 11) (v := .ref x_2) (C := RX11) (T := TX11) (N := 16) hx hb hta inlX11 hown hK hP ho.1 ((tp_un hfr ho (by decide)).trans hf_1) rfl 0 (by decide) (hta _ wk_15) (fun _ h9 => h9) rfl dX11_weightiest_59 ?_
        refine lv_iload_n hx hb dX11_weightiest_62 rfl (lv_at hl 6 rfl) ?_
        refine lv_iload hx hb dX11_weightiest_63 (lv_at hl 0 rfl) ?_
        refine lv_aload_n hx hb dX11_weightiest_65 rfl (lv_at hl 4 rfl) ?_
        refine tp_get (cy := cy) (ci := 11) (v := .ref x_11) (C := RX11) (T := TX11) (N := 16) hx hb hta inlX11 hown hK hP ho.1 ((tp_un hfr ho (by decide)).trans hf_1) rfl 9 (by decide) (hta _ wk_42) (fun _ h9 => h9) rfl dX11_weightiest_66 ?_
        obtain ⟨x_64, x_65, x_66, x_67, x_68, x_69, x_70, x_71, x_72, x_73, x_74, x_75, x_76, x_77, x_78, x_79, x_80, x_81, hf_63, hx_64, hx_65, hx_66, hx_67, hx_68, hx_69, hx_70, hx_71, hx_72, hx_74, hx_77⟩ := (show tp_o_VIEW L K (0) 0 (Γ (27, 0, 0)) (f_47 x_11) from hI.at hx_11)
        refine tp_getN (cy := cy) (ci := 10) (v := .ref x_64) (C := RX10) (T := TX10) (N := 18) hx hb hta inlX10 hown hK hP hx_11.1 hf_63 rfl 0 (by decide) (va_Nw.use rfl (hN.1 60 _ nk_60)) (fun _ h9 => h9) rfl dX11_weightiest_69 ?_
        refine lv_aload_n hx hb dX11_weightiest_72 rfl (lv_at hl 4 rfl) ?_
        refine tp_get (cy := cy) (ci := 11) (v := .ref x_11) (C := RX11) (T := TX11) (N := 16) hx hb hta inlX11 hown hK hP ho.1 ((tp_un hfr ho (by decide)).trans hf_1) rfl 9 (by decide) (hta _ wk_42) (fun _ h9 => h9) rfl dX11_weightiest_73 ?_
        refine tp_getN (cy := cy) (ci := 10) (v := .ref x_67) (C := RX10) (T := TX10) (N := 18) hx hb hta inlX10 hown hK hP hx_11.1 hf_63 rfl 3 (by decide) (va_Nw.use rfl (hN.1 63 _ nk_63)) (fun _ h9 => h9) rfl dX11_weightiest_76 ?_
        refine tq_cv hS (hAf _ hS.1) (tq_rVN hN (As := [.int p1, .int v6, .ref x_64, .ref x_67]) (rest := []) ⟨hx, hb, hml, hown, hta⟩ (tp_P.pre hK hN hL hU hI hP) (tp_recv hK hP hx_2.1 ((tp_un hfr hx_2 (by decide)).trans hf_48) rfl) lk_X11_228 (t_X0_readRow l D cy H.size L K Γ f_47 0 x_2 p1 v6 x_64 x_67 hx_2 hx_64 hx_67) rfl rfl ⟨Nat.le_of_ble_eq_true rfl, Nat.le_of_ble_eq_true rfl⟩ rfl hl.1 rfl (Nat.le_of_ble_eq_true rfl) dX11_weightiest_79 ⟨Nat.le_of_ble_eq_true rfl, Nat.le_of_ble_eq_true rfl⟩) (fun f_84 H locs hw_82 hP hI hc_85 hS => ?_)
        have hD : va_D A (va_pl L f_84) := tp_D hL hAL
        have hfr := tp_fr2 hfr hc_85 (by decide)
        have hf_86 := (tp_un hc_85 hx_11 (by decide)).trans hf_63
        refine lv_aload_n hx hb dX11_weightiest_82 rfl (lv_at hl 4 rfl) ?_
        refine tp_get (cy := cy) (ci := 11) (v := .ref x_11) (C := RX11) (T := TX11) (N := 16) hx hb hta inlX11 hown hK hP ho.1 ((tp_un hfr ho (by decide)).trans hf_1) rfl 9 (by decide) (hta _ wk_42) (fun _ h9 => h9) rfl dX11_weightiest_83 ?_
        refine tq_cv hS (hAf _ hS.1) (tq_rVN hN (As := []) (rest := []) ⟨hx, hb, hml, hown, hta⟩ (tp_P.pre hK hN hL hU hI hP) (tp_recv hK hP hx_11.1 hf_86 rfl) lk_X11_240 (t_X10_tally l D cy H.size L K Γ f_84 x_11 hx_11) rfl rfl ⟨Nat.le_of_ble_eq_true rfl, Nat.le_of_ble_eq_true rfl⟩ rfl hl.1 rfl (Nat.le_of_ble_eq_true rfl) dX11_weightiest_86 ⟨Nat.le_of_ble_eq_true rfl, Nat.le_of_ble_eq_true rfl⟩) (fun f_89 H locs hw_87 hP hI hc_90 hS => ?_)
        have hD : va_D A (va_pl L f_89) := tp_D hL hAL
        have hfr := tp_fr2 hfr hc_90 (by decide)
        have hf_91 := (tp_un hc_90 hx_11 (by decide)).trans hf_86
        refine lv_aload_n hx hb dX11_weightiest_89 rfl (lv_at hl 4 rfl) ?_
        refine tp_get (cy := cy) (ci := 11) (v := .ref x_11) (C := RX11) (T := TX11) (N := 16) hx hb hta inlX11 hown hK hP ho.1 ((tp_un hfr ho (by decide)).trans hf_1) rfl 9 (by decide) (hta _ wk_42) (fun _ h9 => h9) rfl dX11_weightiest_90 ?_
        refine tq_cv hS (hAf _ hS.1) (tq_rVN hN (As := []) (rest := []) ⟨hx, hb, hml, hown, hta⟩ (tp_P.pre hK hN hL hU hI hP) (tp_recv hK hP hx_11.1 hf_91 rfl) lk_X11_243 (t_X10_lay l D cy H.size L K Γ f_89 x_11 hx_11) rfl rfl ⟨Nat.le_of_ble_eq_true rfl, Nat.le_of_ble_eq_true rfl⟩ rfl hl.1 rfl (Nat.le_of_ble_eq_true rfl) dX11_weightiest_93 ⟨Nat.le_of_ble_eq_true rfl, Nat.le_of_ble_eq_true rfl⟩) (fun f_94 H locs hw_92 hP hI hc_95 hS => ?_)
        have hD : va_D A (va_pl L f_94) := tp_D hL hAL
        have hfr := tp_fr2 hfr hc_95 (by decide)
        have hw_92 : tv_gap (f_89 x_11) → tv_gap (f_94 x_11) := hw_92
        refine lv_aload_n hx hb dX11_weightiest_96 rfl (lv_at hl 4 rfl) ?_
        refine tp_get (cy := cy) (ci := 11) (v := .ref x_11) (C := RX11) (T := TX11) (N := 16) hx hb hta inlX11 hown hK hP ho.1 ((tp_un hfr ho (by decide)).trans hf_1) rfl 9 (by decide) (hta _ wk_42) (fun _ h9 => h9) rfl dX11_weightiest_97 ?_
        obtain ⟨x_97, x_98, x_99, x_100, x_101, x_102, x_103, x_104, x_105, x_106, x_107, x_108, x_109, x_110, x_111, x_112, x_113, x_114, hf_96, hx_97, hx_98, hx_99, hx_100, hx_101, hx_102, hx_103, hx_104, hx_105, hx_107, hx_110⟩ := (show tp_o_VIEW L K (0) 0 (Γ (27, 0, 0)) (f_94 x_11) from hI.at hx_11)
        refine tl_si (tq_rVN hN (As := []) (rest := []) ⟨hx, hb, hml, hown, hta⟩ (tp_P.pre hK hN hL hU hI hP) (tp_recv hK hP hx_11.1 hf_96 rfl) lk_X11_264 (t_X10_deepness l D cy H.size L K Γ f_94 x_11 hx_11) rfl rfl ⟨Nat.le_of_ble_eq_true rfl, Nat.le_of_ble_eq_true rfl⟩ rfl hl.1 rfl (Nat.le_of_ble_eq_true rfl) dX11_weightiest_100 ⟨Nat.le_of_ble_eq_true rfl, Nat.le_of_ble_eq_true rfl⟩) (fun r_116 hw_115 => ?_)
        refine lv_iload_n hx hb dX11_weightiest_103 rfl (lv_at hl 3 rfl) ?_
        refine lv_isub hx hb dX11_weightiest_104 ?_
        refine lv_topi (fun z_117 ez_117 => ?_)
        try have iz_117 : z_117.toInt = r_116.toInt - r_46.toInt := by rw [ez_117]; exact tl_subN r_116 r_46 rfl rfl (by omega) (by omega)
        refine va_mabs hx hb (by rw [hml]; exact hl.1.symm) hown (hta _ wk_1019) (hta _ wk_888) (hta _ wk_83) (hta _ wk_889) (Nat.le_of_ble_eq_true rfl) (Nat.le_of_ble_eq_true rfl) (Nat.le_of_ble_eq_true rfl) (Nat.le_of_ble_eq_true rfl) dX11_weightiest_105 ?_
        refine lv_topi (fun z_118 ez_118 => ?_)
        have iz_118 : (z_118.toInt = z_117.toInt ∧ 0 ≤ z_117.toInt) ∨ (z_117.toInt < 0 ∧ (z_118.toInt = -z_117.toInt ∨ z_117.toInt = -2147483648)) := by rw [ez_118]; exact tl_absF
        refine lv_istore (lv' := [(7, .int z_118), (6, .int v6), (5, .int v5), (4, .int v4), (3, .int r_46), (0, .ref o), (1, .int p0), (2, .int p1)]) hx hb dX11_weightiest_108 hl (by decide) rfl (fun ls hl => ?_)
        refine lv_aload_n hx hb dX11_weightiest_110 rfl (lv_at hl 5 rfl) ?_
        refine tp_get (cy := cy) (ci := 11) (v := .ref x_11) (C := RX11) (T := TX11) (N := 16) hx hb hta inlX11 hown hK hP ho.1 ((tp_un hfr ho (by decide)).trans hf_1) rfl 9 (by decide) (hta _ wk_42) (fun _ h9 => h9) rfl dX11_weightiest_111 ?_
        refine tl_si (tq_rVN hN (As := []) (rest := []) ⟨hx, hb, hml, hown, hta⟩ (tp_P.pre hK hN hL hU hI hP) (tp_recv hK hP hx_11.1 hf_96 rfl) lk_X11_289 (t_X10_hasDeep l D cy H.size L K Γ f_94 x_11 hx_11) rfl rfl ⟨Nat.le_of_ble_eq_true rfl, Nat.le_of_ble_eq_true rfl⟩ rfl hl.1 rfl (Nat.le_of_ble_eq_true rfl) dX11_weightiest_114 ⟨Nat.le_of_ble_eq_true rfl, Nat.le_of_ble_eq_true rfl⟩) (fun r_120 hw_119 => ?_)
        have hw_119 : tl_J r_120 (tv_gc (f_94 x_11)) := hw_119
        refine lv_if_eq (tgt := 135) hx hb dX11_weightiest_117 (by decide) (fun c_121 => ?_) (fun c_121 => ?_)
        · have c_121 := c_121
          obtain ⟨z_122, ez_122⟩ : ∃ y : Int32, y = v6 + 1 := ⟨_, rfl⟩
          refine lv_iinc (v := z_122) (lv' := [(6, .int z_122), (7, .int z_118), (5, .int v5), (4, .int v4), (3, .int r_46), (0, .ref o), (1, .int p0), (2, .int p1)]) hx hb dX11_weightiest_135 hl (k := 1) rfl (by rw [ez_122]; rfl) (by decide) rfl (fun ls hl => ?_)
          try have iz_122 : z_122.toInt = v6.toInt + 1 := by rw [ez_122]; exact tl_addL v6 1 (by decide) (by omega) (by omega)
          refine lv_goto (tgt := 43) hx hb dX11_weightiest_138 (by decide) ?_
          exact ih43 (f_94, z_122, v5, v4) H locs ls (by show (40 - z_122.toInt).toNat < (40 - v6.toInt).toNat; omega) ⟨(show 0 ≤ z_122.toInt from (by omega)), (show z_122.toInt ≤ 40 from (by omega)), hP, hI, hfr, hS, lv_sub hl [0, 2, 3, 4, 5, 6, 7] rfl⟩
        · have c_121 := hw_119.t c_121
          refine lv_iload hx hb dX11_weightiest_120 (lv_at hl 0 rfl) ?_
          refine lv_iload hx hb dX11_weightiest_122 (lv_at hl 2 rfl) ?_
          refine lv_icmp_le (tgt := 135) hx hb dX11_weightiest_124 (by decide) (fun c_123 => ?_) (fun c_123 => ?_)
          · have c_123 : z_118.toInt ≤ v5.toInt := tl_le c_123
            obtain ⟨z_124, ez_124⟩ : ∃ y : Int32, y = v6 + 1 := ⟨_, rfl⟩
            refine lv_iinc (v := z_124) (lv' := [(6, .int z_124), (7, .int z_118), (5, .int v5), (4, .int v4), (3, .int r_46), (0, .ref o), (1, .int p0), (2, .int p1)]) hx hb dX11_weightiest_135 hl (k := 1) rfl (by rw [ez_124]; rfl) (by decide) rfl (fun ls hl => ?_)
            try have iz_124 : z_124.toInt = v6.toInt + 1 := by rw [ez_124]; exact tl_addL v6 1 (by decide) (by omega) (by omega)
            refine lv_goto (tgt := 43) hx hb dX11_weightiest_138 (by decide) ?_
            exact ih43 (f_94, z_124, v5, v4) H locs ls (by show (40 - z_124.toInt).toNat < (40 - v6.toInt).toNat; omega) ⟨(show 0 ≤ z_124.toInt from (by omega)), (show z_124.toInt ≤ 40 from (by omega)), hP, hI, hfr, hS, lv_sub hl [0, 2, 3, 4, 5, 6, 7] rfl⟩
          · have c_123 : v5.toInt < z_118.toInt := tl_nle c_123
            refine lv_iload hx hb dX11_weightiest_127 (lv_at hl 1 rfl) ?_
            refine lv_istore (lv' := [(4, .int v6), (7, .int z_118), (6, .int v6), (5, .int v5), (3, .int r_46), (0, .ref o), (1, .int p0), (2, .int p1)]) hx hb dX11_weightiest_129 hl (by decide) rfl (fun ls hl => ?_)
            refine lv_iload hx hb dX11_weightiest_131 (lv_at hl 1 rfl) ?_
            refine lv_istore (lv' := [(5, .int z_118), (4, .int v6), (7, .int z_118), (6, .int v6), (3, .int r_46), (0, .ref o), (1, .int p0), (2, .int p1)]) hx hb dX11_weightiest_133 hl (by decide) rfl (fun ls hl => ?_)
            obtain ⟨z_125, ez_125⟩ : ∃ y : Int32, y = v6 + 1 := ⟨_, rfl⟩
            refine lv_iinc (v := z_125) (lv' := [(6, .int z_125), (5, .int z_118), (4, .int v6), (7, .int z_118), (3, .int r_46), (0, .ref o), (1, .int p0), (2, .int p1)]) hx hb dX11_weightiest_135 hl (k := 3) rfl (by rw [ez_125]; rfl) (by decide) rfl (fun ls hl => ?_)
            try have iz_125 : z_125.toInt = v6.toInt + 1 := by rw [ez_125]; exact tl_addL v6 1 (by decide) (by omega) (by omega)
            refine lv_goto (tgt := 43) hx hb dX11_weightiest_138 (by decide) ?_
            exact ih43 (f_94, z_125, z_118, v6) H locs ls (by show (40 - z_125.toInt).toNat < (40 - v6.toInt).toNat; omega) ⟨(show 0 ≤ z_125.toInt from (by omega)), (show z_125.toInt ≤ 40 from (by omega)), hP, hI, hfr, hS, lv_sub hl [0, 1, 2, 4, 5, 6, 7] rfl⟩
    · have c_44 := c_44
      refine lv_bipush (v := (-2)) hx hb dX11_weightiest_22 (by decide) ?_
      exact W.iret (v := (-2)) hx hb hr (fun t ht hW => ⟨⟨_, f_20, rfl, trivial, by rw [ht]; exact hP, hI, hfr⟩, hS.F ht⟩) hS.2.2 dX11_weightiest_24
  · have c_22 := c_22
    refine lv_iconst (v := (-1)) hx hb dX11_weightiest_10 (by decide) ?_
    exact W.iret (v := (-1)) hx hb hr (fun t ht hW => ⟨⟨_, f_20, rfl, trivial, by rw [ht]; exact hP, hI, hfr⟩, hS.F ht⟩) hS.2.2 dX11_weightiest_11
