theorem dX5_wordAt_0 : decode cX5_wordAt 0 = .ok (.iload_n 1, 1) := by decide +kernel
theorem dX5_wordAt_1 : decode cX5_wordAt 1 = .ok (.ifCond .lt 21, 3) := by decide +kernel
theorem dX5_wordAt_4 : decode cX5_wordAt 4 = .ok (.iload_n 1, 1) := by decide +kernel
theorem dX5_wordAt_5 : decode cX5_wordAt 5 = .ok (.aload_n 0, 1) := by decide +kernel
theorem dX5_wordAt_6 : decode cX5_wordAt 6 = .ok (.getfield 9, 3) := by decide +kernel
theorem dX5_wordAt_9 : decode cX5_wordAt 9 = .ok (.arraylength, 1) := by decide +kernel
theorem dX5_wordAt_10 : decode cX5_wordAt 10 = .ok (.if_icmp .ge 12, 3) := by decide +kernel
theorem dX5_wordAt_13 : decode cX5_wordAt 13 = .ok (.aload_n 0, 1) := by decide +kernel
theorem dX5_wordAt_14 : decode cX5_wordAt 14 = .ok (.getfield 9, 3) := by decide +kernel
theorem dX5_wordAt_17 : decode cX5_wordAt 17 = .ok (.iload_n 1, 1) := by decide +kernel
theorem dX5_wordAt_18 : decode cX5_wordAt 18 = .ok (.laload, 1) := by decide +kernel
theorem dX5_wordAt_19 : decode cX5_wordAt 19 = .ok (.goto 4, 3) := by decide +kernel
theorem dX5_wordAt_22 : decode cX5_wordAt 22 = .ok (.lconst 0, 1) := by decide +kernel
theorem dX5_wordAt_23 : decode cX5_wordAt 23 = .ok (.lreturn, 1) := by decide +kernel
theorem wk_121 : Cond.fieldLink RX5 9 "ThinLine$Sums" "words" "[J" ∈ tl_L := List.mem_filter.mpr ⟨lw_m2 (i := 23) rfl, rfl⟩
theorem dX5_joined_0 : decode cX5_joined 0 = .ok (.iload_n 0, 1) := by decide +kernel
theorem dX5_joined_1 : decode cX5_joined 1 = .ok (.tableswitch 145 4 13 #[55, 59, 63, 67, 81, 93, 105, 117, 129, 141], 55) := by decide +kernel
theorem dX5_joined_56 : decode cX5_joined 56 = .ok (.lload_n 1, 1) := by decide +kernel
theorem dX5_joined_57 : decode cX5_joined 57 = .ok (.lload_n 3, 1) := by decide +kernel
theorem dX5_joined_58 : decode cX5_joined 58 = .ok (.ladd, 1) := by decide +kernel
theorem dX5_joined_59 : decode cX5_joined 59 = .ok (.lreturn, 1) := by decide +kernel
theorem dX5_joined_60 : decode cX5_joined 60 = .ok (.lload_n 1, 1) := by decide +kernel
theorem dX5_joined_61 : decode cX5_joined 61 = .ok (.lload_n 3, 1) := by decide +kernel
theorem dX5_joined_62 : decode cX5_joined 62 = .ok (.lsub, 1) := by decide +kernel
theorem dX5_joined_63 : decode cX5_joined 63 = .ok (.lreturn, 1) := by decide +kernel
theorem dX5_joined_64 : decode cX5_joined 64 = .ok (.lload_n 1, 1) := by decide +kernel
theorem dX5_joined_65 : decode cX5_joined 65 = .ok (.lload_n 3, 1) := by decide +kernel
theorem dX5_joined_66 : decode cX5_joined 66 = .ok (.lmul, 1) := by decide +kernel
theorem dX5_joined_67 : decode cX5_joined 67 = .ok (.lreturn, 1) := by decide +kernel
theorem dX5_joined_68 : decode cX5_joined 68 = .ok (.lload_n 3, 1) := by decide +kernel
theorem dX5_joined_69 : decode cX5_joined 69 = .ok (.lconst 0, 1) := by decide +kernel
theorem dX5_joined_70 : decode cX5_joined 70 = .ok (.lcmp, 1) := by decide +kernel
theorem dX5_joined_71 : decode cX5_joined 71 = .ok (.ifCond .ne 7, 3) := by decide +kernel
theorem dX5_joined_74 : decode cX5_joined 74 = .ok (.lconst 0, 1) := by decide +kernel
theorem dX5_joined_75 : decode cX5_joined 75 = .ok (.goto 6, 3) := by decide +kernel
theorem dX5_joined_78 : decode cX5_joined 78 = .ok (.lload_n 1, 1) := by decide +kernel
theorem dX5_joined_79 : decode cX5_joined 79 = .ok (.lload_n 3, 1) := by decide +kernel
theorem dX5_joined_80 : decode cX5_joined 80 = .ok (.ldiv, 1) := by decide +kernel
theorem dX5_joined_81 : decode cX5_joined 81 = .ok (.lreturn, 1) := by decide +kernel
theorem dX5_joined_82 : decode cX5_joined 82 = .ok (.lload_n 1, 1) := by decide +kernel
theorem dX5_joined_83 : decode cX5_joined 83 = .ok (.lload_n 3, 1) := by decide +kernel
theorem dX5_joined_84 : decode cX5_joined 84 = .ok (.lcmp, 1) := by decide +kernel
theorem dX5_joined_85 : decode cX5_joined 85 = .ok (.ifCond .ge 7, 3) := by decide +kernel
theorem dX5_joined_88 : decode cX5_joined 88 = .ok (.lconst 1, 1) := by decide +kernel
theorem dX5_joined_89 : decode cX5_joined 89 = .ok (.goto 4, 3) := by decide +kernel
theorem dX5_joined_92 : decode cX5_joined 92 = .ok (.lconst 0, 1) := by decide +kernel
theorem dX5_joined_93 : decode cX5_joined 93 = .ok (.lreturn, 1) := by decide +kernel
theorem dX5_joined_94 : decode cX5_joined 94 = .ok (.lload_n 1, 1) := by decide +kernel
theorem dX5_joined_95 : decode cX5_joined 95 = .ok (.lload_n 3, 1) := by decide +kernel
theorem dX5_joined_96 : decode cX5_joined 96 = .ok (.lcmp, 1) := by decide +kernel
theorem dX5_joined_97 : decode cX5_joined 97 = .ok (.ifCond .gt 7, 3) := by decide +kernel
theorem dX5_joined_100 : decode cX5_joined 100 = .ok (.lconst 1, 1) := by decide +kernel
theorem dX5_joined_101 : decode cX5_joined 101 = .ok (.goto 4, 3) := by decide +kernel
theorem dX5_joined_104 : decode cX5_joined 104 = .ok (.lconst 0, 1) := by decide +kernel
theorem dX5_joined_105 : decode cX5_joined 105 = .ok (.lreturn, 1) := by decide +kernel
theorem dX5_joined_106 : decode cX5_joined 106 = .ok (.lload_n 1, 1) := by decide +kernel
theorem dX5_joined_107 : decode cX5_joined 107 = .ok (.lload_n 3, 1) := by decide +kernel
theorem dX5_joined_108 : decode cX5_joined 108 = .ok (.lcmp, 1) := by decide +kernel
theorem dX5_joined_109 : decode cX5_joined 109 = .ok (.ifCond .ne 7, 3) := by decide +kernel
theorem dX5_joined_112 : decode cX5_joined 112 = .ok (.lconst 1, 1) := by decide +kernel
theorem dX5_joined_113 : decode cX5_joined 113 = .ok (.goto 4, 3) := by decide +kernel
theorem dX5_joined_116 : decode cX5_joined 116 = .ok (.lconst 0, 1) := by decide +kernel
theorem dX5_joined_117 : decode cX5_joined 117 = .ok (.lreturn, 1) := by decide +kernel
theorem dX5_joined_118 : decode cX5_joined 118 = .ok (.lload_n 1, 1) := by decide +kernel
theorem dX5_joined_119 : decode cX5_joined 119 = .ok (.lload_n 3, 1) := by decide +kernel
theorem dX5_joined_120 : decode cX5_joined 120 = .ok (.lcmp, 1) := by decide +kernel
theorem dX5_joined_121 : decode cX5_joined 121 = .ok (.ifCond .lt 7, 3) := by decide +kernel
theorem dX5_joined_124 : decode cX5_joined 124 = .ok (.lconst 1, 1) := by decide +kernel
theorem dX5_joined_125 : decode cX5_joined 125 = .ok (.goto 4, 3) := by decide +kernel
theorem dX5_joined_128 : decode cX5_joined 128 = .ok (.lconst 0, 1) := by decide +kernel
theorem dX5_joined_129 : decode cX5_joined 129 = .ok (.lreturn, 1) := by decide +kernel
theorem dX5_joined_130 : decode cX5_joined 130 = .ok (.lload_n 1, 1) := by decide +kernel
theorem dX5_joined_131 : decode cX5_joined 131 = .ok (.lload_n 3, 1) := by decide +kernel
theorem dX5_joined_132 : decode cX5_joined 132 = .ok (.lcmp, 1) := by decide +kernel
theorem dX5_joined_133 : decode cX5_joined 133 = .ok (.ifCond .le 7, 3) := by decide +kernel
theorem dX5_joined_136 : decode cX5_joined 136 = .ok (.lconst 1, 1) := by decide +kernel
theorem dX5_joined_137 : decode cX5_joined 137 = .ok (.goto 4, 3) := by decide +kernel
theorem dX5_joined_140 : decode cX5_joined 140 = .ok (.lconst 0, 1) := by decide +kernel
theorem dX5_joined_141 : decode cX5_joined 141 = .ok (.lreturn, 1) := by decide +kernel
theorem dX5_joined_142 : decode cX5_joined 142 = .ok (.lload_n 1, 1) := by decide +kernel
theorem dX5_joined_143 : decode cX5_joined 143 = .ok (.lload_n 3, 1) := by decide +kernel
theorem dX5_joined_144 : decode cX5_joined 144 = .ok (.land, 1) := by decide +kernel
theorem dX5_joined_145 : decode cX5_joined 145 = .ok (.lreturn, 1) := by decide +kernel
theorem dX5_joined_146 : decode cX5_joined 146 = .ok (.lload_n 1, 1) := by decide +kernel
theorem dX5_joined_147 : decode cX5_joined 147 = .ok (.lload_n 3, 1) := by decide +kernel
theorem dX5_joined_148 : decode cX5_joined 148 = .ok (.lor, 1) := by decide +kernel
theorem dX5_joined_149 : decode cX5_joined 149 = .ok (.lreturn, 1) := by decide +kernel
theorem dX5_setRow_0 : decode cX5_setRow 0 = .ok (.aload_n 1, 1) := by decide +kernel
theorem dX5_setRow_1 : decode cX5_setRow 1 = .ok (.iload_n 2, 1) := by decide +kernel
theorem dX5_setRow_2 : decode cX5_setRow 2 = .ok (.invokevirtual 18, 3) := by decide +kernel
theorem dX5_setRow_5 : decode cX5_setRow 5 = .ok (.ifCond .eq 37, 3) := by decide +kernel
theorem dX5_setRow_8 : decode cX5_setRow 8 = .ok (.aload_n 0, 1) := by decide +kernel
theorem dX5_setRow_9 : decode cX5_setRow 9 = .ok (.getfield 9, 3) := by decide +kernel
theorem dX5_setRow_12 : decode cX5_setRow 12 = .ok (.iconst 1, 1) := by decide +kernel
theorem dX5_setRow_13 : decode cX5_setRow 13 = .ok (.aload_n 1, 1) := by decide +kernel
theorem dX5_setRow_14 : decode cX5_setRow 14 = .ok (.getfield 24, 3) := by decide +kernel
theorem dX5_setRow_17 : decode cX5_setRow 17 = .ok (.iload_n 2, 1) := by decide +kernel
theorem dX5_setRow_18 : decode cX5_setRow 18 = .ok (.iaload, 1) := by decide +kernel
theorem dX5_setRow_19 : decode cX5_setRow 19 = .ok (.i2l, 1) := by decide +kernel
theorem dX5_setRow_20 : decode cX5_setRow 20 = .ok (.lastore, 1) := by decide +kernel
theorem dX5_setRow_21 : decode cX5_setRow 21 = .ok (.aload_n 0, 1) := by decide +kernel
theorem dX5_setRow_22 : decode cX5_setRow 22 = .ok (.getfield 9, 3) := by decide +kernel
theorem dX5_setRow_25 : decode cX5_setRow 25 = .ok (.iconst 2, 1) := by decide +kernel
theorem dX5_setRow_26 : decode cX5_setRow 26 = .ok (.aload_n 1, 1) := by decide +kernel
theorem dX5_setRow_27 : decode cX5_setRow 27 = .ok (.getfield 28, 3) := by decide +kernel
theorem dX5_setRow_30 : decode cX5_setRow 30 = .ok (.iload_n 2, 1) := by decide +kernel
theorem dX5_setRow_31 : decode cX5_setRow 31 = .ok (.iaload, 1) := by decide +kernel
theorem dX5_setRow_32 : decode cX5_setRow 32 = .ok (.i2l, 1) := by decide +kernel
theorem dX5_setRow_33 : decode cX5_setRow 33 = .ok (.lastore, 1) := by decide +kernel
theorem dX5_setRow_34 : decode cX5_setRow 34 = .ok (.aload_n 0, 1) := by decide +kernel
theorem dX5_setRow_35 : decode cX5_setRow 35 = .ok (.getfield 9, 3) := by decide +kernel
theorem dX5_setRow_38 : decode cX5_setRow 38 = .ok (.iconst 3, 1) := by decide +kernel
theorem dX5_setRow_39 : decode cX5_setRow 39 = .ok (.iload_n 2, 1) := by decide +kernel
theorem dX5_setRow_40 : decode cX5_setRow 40 = .ok (.i2l, 1) := by decide +kernel
theorem dX5_setRow_41 : decode cX5_setRow 41 = .ok (.lastore, 1) := by decide +kernel
theorem dX5_setRow_42 : decode cX5_setRow 42 = .ok (.return_, 1) := by decide +kernel
theorem nk_4 : tl_N[4]? = some (Cond.fieldLinkNest "ThinLine$Sums" 24 "ThinLine$Rows" "glass" "[I" "ThinLine") := by decide +kernel
theorem nk_7 : tl_N[7]? = some (Cond.fieldLinkNest "ThinLine$Sums" 28 "ThinLine$Rows" "hour" "[I" "ThinLine") := by decide +kernel
theorem lk_X5_18 : tl_kVN RX5 18 RX4 yX4_has "ThinLine" cX4_has 2 (some .boolean) 1 95 := ⟨wk_233, by decide +kernel, wk_231, wk_232, wk_60, ⟨by decide +kernel, by decide +kernel, by decide +kernel⟩⟩
theorem dX5_setColour_0 : decode cX5_setColour 0 = .ok (.aload_n 0, 1) := by decide +kernel
theorem dX5_setColour_1 : decode cX5_setColour 1 = .ok (.getfield 9, 3) := by decide +kernel
theorem dX5_setColour_4 : decode cX5_setColour 4 = .ok (.iconst 0, 1) := by decide +kernel
theorem dX5_setColour_5 : decode cX5_setColour 5 = .ok (.iload_n 1, 1) := by decide +kernel
theorem dX5_setColour_6 : decode cX5_setColour 6 = .ok (.i2l, 1) := by decide +kernel
theorem dX5_setColour_7 : decode cX5_setColour 7 = .ok (.lastore, 1) := by decide +kernel
theorem dX5_setColour_8 : decode cX5_setColour 8 = .ok (.return_, 1) := by decide +kernel
theorem dX5_setWeather_0 : decode cX5_setWeather 0 = .ok (.iconst 0, 1) := by decide +kernel
theorem dX5_setWeather_1 : decode cX5_setWeather 1 = .ok (.istore_n 2, 1) := by decide +kernel
theorem dX5_setWeather_2 : decode cX5_setWeather 2 = .ok (.iload_n 2, 1) := by decide +kernel
theorem dX5_setWeather_3 : decode cX5_setWeather 3 = .ok (.aload_n 1, 1) := by decide +kernel
theorem dX5_setWeather_4 : decode cX5_setWeather 4 = .ok (.getfield 31, 3) := by decide +kernel
theorem dX5_setWeather_7 : decode cX5_setWeather 7 = .ok (.arraylength, 1) := by decide +kernel
theorem dX5_setWeather_8 : decode cX5_setWeather 8 = .ok (.if_icmp .ge 31, 3) := by decide +kernel
theorem dX5_setWeather_11 : decode cX5_setWeather 11 = .ok (.iload_n 2, 1) := by decide +kernel
theorem dX5_setWeather_12 : decode cX5_setWeather 12 = .ok (.aload_n 0, 1) := by decide +kernel
theorem dX5_setWeather_13 : decode cX5_setWeather 13 = .ok (.getfield 9, 3) := by decide +kernel
theorem dX5_setWeather_16 : decode cX5_setWeather 16 = .ok (.arraylength, 1) := by decide +kernel
theorem dX5_setWeather_17 : decode cX5_setWeather 17 = .ok (.if_icmp .ge 22, 3) := by decide +kernel
theorem dX5_setWeather_20 : decode cX5_setWeather 20 = .ok (.aload_n 0, 1) := by decide +kernel
theorem dX5_setWeather_21 : decode cX5_setWeather 21 = .ok (.getfield 9, 3) := by decide +kernel
theorem dX5_setWeather_24 : decode cX5_setWeather 24 = .ok (.iload_n 2, 1) := by decide +kernel
theorem dX5_setWeather_25 : decode cX5_setWeather 25 = .ok (.aload_n 1, 1) := by decide +kernel
theorem dX5_setWeather_26 : decode cX5_setWeather 26 = .ok (.getfield 31, 3) := by decide +kernel
theorem dX5_setWeather_29 : decode cX5_setWeather 29 = .ok (.iload_n 2, 1) := by decide +kernel
theorem dX5_setWeather_30 : decode cX5_setWeather 30 = .ok (.iaload, 1) := by decide +kernel
theorem dX5_setWeather_31 : decode cX5_setWeather 31 = .ok (.i2l, 1) := by decide +kernel
theorem dX5_setWeather_32 : decode cX5_setWeather 32 = .ok (.lastore, 1) := by decide +kernel
theorem dX5_setWeather_33 : decode cX5_setWeather 33 = .ok (.iinc 2 1, 3) := by decide +kernel
theorem dX5_setWeather_36 : decode cX5_setWeather 36 = .ok (.goto (-34), 3) := by decide +kernel
theorem dX5_setWeather_39 : decode cX5_setWeather 39 = .ok (.aload_n 0, 1) := by decide +kernel
theorem dX5_setWeather_40 : decode cX5_setWeather 40 = .ok (.getfield 9, 3) := by decide +kernel
theorem dX5_setWeather_43 : decode cX5_setWeather 43 = .ok (.iconst 4, 1) := by decide +kernel
theorem dX5_setWeather_44 : decode cX5_setWeather 44 = .ok (.aload_n 1, 1) := by decide +kernel
theorem dX5_setWeather_45 : decode cX5_setWeather 45 = .ok (.getfield 36, 3) := by decide +kernel
theorem dX5_setWeather_48 : decode cX5_setWeather 48 = .ok (.i2l, 1) := by decide +kernel
theorem dX5_setWeather_49 : decode cX5_setWeather 49 = .ok (.lastore, 1) := by decide +kernel
theorem dX5_setWeather_50 : decode cX5_setWeather 50 = .ok (.return_, 1) := by decide +kernel
theorem nk_17 : tl_N[17]? = some (Cond.fieldLinkNest "ThinLine$Sums" 36 "ThinLine$Book" "now" "I" "ThinLine") := by decide +kernel
theorem nk_18 : tl_N[18]? = some (Cond.fieldLinkNest "ThinLine$Sums" 31 "ThinLine$Book" "told" "[I" "ThinLine") := by decide +kernel
theorem dX5_worked_0 : decode cX5_worked 0 = .ok (.iconst 0, 1) := by decide +kernel
theorem dX5_worked_1 : decode cX5_worked 1 = .ok (.istore 4, 2) := by decide +kernel
theorem dX5_worked_3 : decode cX5_worked 3 = .ok (.iconst 0, 1) := by decide +kernel
theorem dX5_worked_4 : decode cX5_worked 4 = .ok (.iload_n 2, 1) := by decide +kernel
theorem dX5_worked_5 : decode cX5_worked 5 = .ok (.invokestatic 55, 3) := by decide +kernel
theorem dX5_worked_8 : decode cX5_worked 8 = .ok (.istore 5, 2) := by decide +kernel
theorem dX5_worked_10 : decode cX5_worked 10 = .ok (.iload 5, 2) := by decide +kernel
theorem dX5_worked_12 : decode cX5_worked 12 = .ok (.iload_n 3, 1) := by decide +kernel
theorem dX5_worked_13 : decode cX5_worked 13 = .ok (.if_icmp .ge 169, 3) := by decide +kernel
theorem dX5_worked_16 : decode cX5_worked 16 = .ok (.iload 5, 2) := by decide +kernel
theorem dX5_worked_18 : decode cX5_worked 18 = .ok (.aload_n 1, 1) := by decide +kernel
theorem dX5_worked_19 : decode cX5_worked 19 = .ok (.getfield 61, 3) := by decide +kernel
theorem dX5_worked_22 : decode cX5_worked 22 = .ok (.arraylength, 1) := by decide +kernel
theorem dX5_worked_23 : decode cX5_worked 23 = .ok (.if_icmp .ge 159, 3) := by decide +kernel
theorem dX5_worked_26 : decode cX5_worked 26 = .ok (.aload_n 1, 1) := by decide +kernel
theorem dX5_worked_27 : decode cX5_worked 27 = .ok (.getfield 61, 3) := by decide +kernel
theorem dX5_worked_30 : decode cX5_worked 30 = .ok (.iload 5, 2) := by decide +kernel
theorem dX5_worked_32 : decode cX5_worked 32 = .ok (.iaload, 1) := by decide +kernel
theorem dX5_worked_33 : decode cX5_worked 33 = .ok (.bipush 15, 2) := by decide +kernel
theorem dX5_worked_35 : decode cX5_worked 35 = .ok (.iand, 1) := by decide +kernel
theorem dX5_worked_36 : decode cX5_worked 36 = .ok (.istore 6, 2) := by decide +kernel
theorem dX5_worked_38 : decode cX5_worked 38 = .ok (.aload_n 1, 1) := by decide +kernel
theorem dX5_worked_39 : decode cX5_worked 39 = .ok (.getfield 61, 3) := by decide +kernel
theorem dX5_worked_42 : decode cX5_worked 42 = .ok (.iload 5, 2) := by decide +kernel
theorem dX5_worked_44 : decode cX5_worked 44 = .ok (.iaload, 1) := by decide +kernel
theorem dX5_worked_45 : decode cX5_worked 45 = .ok (.iconst 4, 1) := by decide +kernel
theorem dX5_worked_46 : decode cX5_worked 46 = .ok (.ishr, 1) := by decide +kernel
theorem dX5_worked_47 : decode cX5_worked 47 = .ok (.istore 7, 2) := by decide +kernel
theorem dX5_worked_49 : decode cX5_worked 49 = .ok (.iload 6, 2) := by decide +kernel
theorem dX5_worked_51 : decode cX5_worked 51 = .ok (.iconst 2, 1) := by decide +kernel
theorem dX5_worked_52 : decode cX5_worked 52 = .ok (.if_icmp .eq 9, 3) := by decide +kernel
theorem dX5_worked_55 : decode cX5_worked 55 = .ok (.iload 6, 2) := by decide +kernel
theorem dX5_worked_57 : decode cX5_worked 57 = .ok (.iconst 3, 1) := by decide +kernel
theorem dX5_worked_58 : decode cX5_worked 58 = .ok (.if_icmp .ne 44, 3) := by decide +kernel
theorem dX5_worked_61 : decode cX5_worked 61 = .ok (.iload 4, 2) := by decide +kernel
theorem dX5_worked_63 : decode cX5_worked 63 = .ok (.aload_n 0, 1) := by decide +kernel
theorem dX5_worked_64 : decode cX5_worked 64 = .ok (.getfield 15, 3) := by decide +kernel
theorem dX5_worked_67 : decode cX5_worked 67 = .ok (.arraylength, 1) := by decide +kernel
theorem dX5_worked_68 : decode cX5_worked 68 = .ok (.if_icmp .ge 108, 3) := by decide +kernel
theorem dX5_worked_71 : decode cX5_worked 71 = .ok (.aload_n 0, 1) := by decide +kernel
theorem dX5_worked_72 : decode cX5_worked 72 = .ok (.getfield 15, 3) := by decide +kernel
theorem dX5_worked_75 : decode cX5_worked 75 = .ok (.iload 4, 2) := by decide +kernel
theorem dX5_worked_77 : decode cX5_worked 77 = .ok (.iload 6, 2) := by decide +kernel
theorem dX5_worked_79 : decode cX5_worked 79 = .ok (.iconst 2, 1) := by decide +kernel
theorem dX5_worked_80 : decode cX5_worked 80 = .ok (.if_icmp .ne 9, 3) := by decide +kernel
theorem dX5_worked_83 : decode cX5_worked 83 = .ok (.iload 7, 2) := by decide +kernel
theorem dX5_worked_85 : decode cX5_worked 85 = .ok (.i2l, 1) := by decide +kernel
theorem dX5_worked_86 : decode cX5_worked 86 = .ok (.goto 9, 3) := by decide +kernel
theorem dX5_worked_89 : decode cX5_worked 89 = .ok (.aload_n 0, 1) := by decide +kernel
theorem dX5_worked_90 : decode cX5_worked 90 = .ok (.iload 7, 2) := by decide +kernel
theorem dX5_worked_92 : decode cX5_worked 92 = .ok (.invokevirtual 64, 3) := by decide +kernel
theorem dX5_worked_95 : decode cX5_worked 95 = .ok (.lastore, 1) := by decide +kernel
theorem dX5_worked_96 : decode cX5_worked 96 = .ok (.iinc 4 1, 3) := by decide +kernel
theorem dX5_worked_99 : decode cX5_worked 99 = .ok (.goto 77, 3) := by decide +kernel
theorem dX5_worked_102 : decode cX5_worked 102 = .ok (.iload 6, 2) := by decide +kernel
theorem dX5_worked_104 : decode cX5_worked 104 = .ok (.bipush 15, 2) := by decide +kernel
theorem dX5_worked_106 : decode cX5_worked 106 = .ok (.if_icmp .ne 31, 3) := by decide +kernel
theorem dX5_worked_109 : decode cX5_worked 109 = .ok (.iload 4, 2) := by decide +kernel
theorem dX5_worked_111 : decode cX5_worked 111 = .ok (.ifCond .le 65, 3) := by decide +kernel
theorem dX5_worked_114 : decode cX5_worked 114 = .ok (.aload_n 0, 1) := by decide +kernel
theorem dX5_worked_115 : decode cX5_worked 115 = .ok (.getfield 15, 3) := by decide +kernel
theorem dX5_worked_118 : decode cX5_worked 118 = .ok (.iload 4, 2) := by decide +kernel
theorem dX5_worked_120 : decode cX5_worked 120 = .ok (.iconst 1, 1) := by decide +kernel
theorem dX5_worked_121 : decode cX5_worked 121 = .ok (.isub, 1) := by decide +kernel
theorem dX5_worked_122 : decode cX5_worked 122 = .ok (.lconst 1, 1) := by decide +kernel
theorem dX5_worked_123 : decode cX5_worked 123 = .ok (.aload_n 0, 1) := by decide +kernel
theorem dX5_worked_124 : decode cX5_worked 124 = .ok (.getfield 15, 3) := by decide +kernel
theorem dX5_worked_127 : decode cX5_worked 127 = .ok (.iload 4, 2) := by decide +kernel
theorem dX5_worked_129 : decode cX5_worked 129 = .ok (.iconst 1, 1) := by decide +kernel
theorem dX5_worked_130 : decode cX5_worked 130 = .ok (.isub, 1) := by decide +kernel
theorem dX5_worked_131 : decode cX5_worked 131 = .ok (.laload, 1) := by decide +kernel
theorem dX5_worked_132 : decode cX5_worked 132 = .ok (.lsub, 1) := by decide +kernel
theorem dX5_worked_133 : decode cX5_worked 133 = .ok (.lastore, 1) := by decide +kernel
theorem dX5_worked_134 : decode cX5_worked 134 = .ok (.goto 42, 3) := by decide +kernel
theorem dX5_worked_137 : decode cX5_worked 137 = .ok (.iload 4, 2) := by decide +kernel
theorem dX5_worked_139 : decode cX5_worked 139 = .ok (.iconst 1, 1) := by decide +kernel
theorem dX5_worked_140 : decode cX5_worked 140 = .ok (.if_icmp .le 36, 3) := by decide +kernel
theorem dX5_worked_143 : decode cX5_worked 143 = .ok (.iinc 4 (-1), 3) := by decide +kernel
theorem dX5_worked_146 : decode cX5_worked 146 = .ok (.aload_n 0, 1) := by decide +kernel
theorem dX5_worked_147 : decode cX5_worked 147 = .ok (.getfield 15, 3) := by decide +kernel
theorem dX5_worked_150 : decode cX5_worked 150 = .ok (.iload 4, 2) := by decide +kernel
theorem dX5_worked_152 : decode cX5_worked 152 = .ok (.iconst 1, 1) := by decide +kernel
theorem dX5_worked_153 : decode cX5_worked 153 = .ok (.isub, 1) := by decide +kernel
theorem dX5_worked_154 : decode cX5_worked 154 = .ok (.iload 6, 2) := by decide +kernel
theorem dX5_worked_156 : decode cX5_worked 156 = .ok (.aload_n 0, 1) := by decide +kernel
theorem dX5_worked_157 : decode cX5_worked 157 = .ok (.getfield 15, 3) := by decide +kernel
theorem dX5_worked_160 : decode cX5_worked 160 = .ok (.iload 4, 2) := by decide +kernel
theorem dX5_worked_162 : decode cX5_worked 162 = .ok (.iconst 1, 1) := by decide +kernel
theorem dX5_worked_163 : decode cX5_worked 163 = .ok (.isub, 1) := by decide +kernel
theorem dX5_worked_164 : decode cX5_worked 164 = .ok (.laload, 1) := by decide +kernel
theorem dX5_worked_165 : decode cX5_worked 165 = .ok (.aload_n 0, 1) := by decide +kernel
theorem dX5_worked_166 : decode cX5_worked 166 = .ok (.getfield 15, 3) := by decide +kernel
theorem dX5_worked_169 : decode cX5_worked 169 = .ok (.iload 4, 2) := by decide +kernel
theorem dX5_worked_171 : decode cX5_worked 171 = .ok (.laload, 1) := by decide +kernel
theorem dX5_worked_172 : decode cX5_worked 172 = .ok (.invokestatic 68, 3) := by decide +kernel
theorem dX5_worked_175 : decode cX5_worked 175 = .ok (.lastore, 1) := by decide +kernel
theorem dX5_worked_176 : decode cX5_worked 176 = .ok (.iinc 5 1, 3) := by decide +kernel
theorem dX5_worked_179 : decode cX5_worked 179 = .ok (.goto (-169), 3) := by decide +kernel
theorem dX5_worked_182 : decode cX5_worked 182 = .ok (.iload 4, 2) := by decide +kernel
theorem dX5_worked_184 : decode cX5_worked 184 = .ok (.ifCond .le 15, 3) := by decide +kernel
theorem dX5_worked_187 : decode cX5_worked 187 = .ok (.aload_n 0, 1) := by decide +kernel
theorem dX5_worked_188 : decode cX5_worked 188 = .ok (.getfield 15, 3) := by decide +kernel
theorem dX5_worked_191 : decode cX5_worked 191 = .ok (.iload 4, 2) := by decide +kernel
theorem dX5_worked_193 : decode cX5_worked 193 = .ok (.iconst 1, 1) := by decide +kernel
theorem dX5_worked_194 : decode cX5_worked 194 = .ok (.isub, 1) := by decide +kernel
theorem dX5_worked_195 : decode cX5_worked 195 = .ok (.laload, 1) := by decide +kernel
theorem dX5_worked_196 : decode cX5_worked 196 = .ok (.goto 4, 3) := by decide +kernel
theorem dX5_worked_199 : decode cX5_worked 199 = .ok (.lconst 0, 1) := by decide +kernel
theorem dX5_worked_200 : decode cX5_worked 200 = .ok (.lreturn, 1) := by decide +kernel
theorem wk_33 : Cond.initialized RX5 ∈ tl_L := List.mem_filter.mpr ⟨lw_m1 (i := 10) rfl, rfl⟩
theorem wk_122 : Cond.fieldLink RX5 15 "ThinLine$Sums" "stack" "[J" ∈ tl_L := List.mem_filter.mpr ⟨lw_m2 (i := 24) rfl, rfl⟩
theorem wk_746 : Cond.methodLink RX5 55 Lib.Math.max.name ∈ tl_L := List.mem_filter.mpr ⟨by decide +kernel, rfl⟩
theorem wk_747 : Cond.methodLink RX5 64 yX5_wordAt ∈ tl_L := List.mem_filter.mpr ⟨lw_m4 (i := 68) rfl, rfl⟩
theorem wk_748 : Cond.instanceMethod yX5_wordAt ∈ tl_L := List.mem_filter.mpr ⟨lw_m4 (i := 70) rfl, rfl⟩
theorem wk_749 : Cond.selects RX5 yX5_wordAt yX5_wordAt ∈ tl_L := List.mem_filter.mpr ⟨lw_s3 (i := 14) (q := (yX5_wordAt, 2)) rfl, rfl⟩
theorem wk_750 : Cond.code yX5_wordAt cX5_wordAt 2 (some .long) ∈ tl_L := List.mem_filter.mpr ⟨lw_m4 (i := 71) rfl, rfl⟩
theorem wk_751 : Cond.methodLink RX5 68 yX5_joined ∈ tl_L := List.mem_filter.mpr ⟨lw_m4 (i := 72) rfl, rfl⟩
theorem wk_752 : Cond.static yX5_joined ∈ tl_L := List.mem_filter.mpr ⟨lw_m4 (i := 73) rfl, rfl⟩
theorem wk_753 : Cond.code yX5_joined cX5_joined 5 (some .long) ∈ tl_L := List.mem_filter.mpr ⟨lw_m4 (i := 74) rfl, rfl⟩
theorem nk_54 : tl_N[54]? = some (Cond.fieldLinkNest "ThinLine$Sums" 61 "ThinLine$Text" "steps" "[I" "ThinLine") := by decide +kernel
theorem lk_X5_64 : tl_kV RX5 64 RX5 yX5_wordAt cX5_wordAt 2 (some .long) 1 := ⟨wk_750, wk_747, wk_748, wk_749, wk_33, ⟨by decide +kernel, by decide +kernel, by decide +kernel⟩⟩
theorem lk_X5_68 : tl_kS RX5 68 yX5_joined cX5_joined 5 (some .long) 3 := ⟨wk_753, wk_751, wk_752, wk_33, ⟨by decide +kernel, by decide +kernel, by decide +kernel⟩⟩
theorem dX5_holds_0 : decode cX5_holds 0 = .ok (.aload_n 1, 1) := by decide +kernel
theorem dX5_holds_1 : decode cX5_holds 1 = .ok (.getfield 40, 3) := by decide +kernel
theorem dX5_holds_4 : decode cX5_holds 4 = .ok (.iload_n 2, 1) := by decide +kernel
theorem dX5_holds_5 : decode cX5_holds 5 = .ok (.iaload, 1) := by decide +kernel
theorem dX5_holds_6 : decode cX5_holds 6 = .ok (.istore_n 3, 1) := by decide +kernel
theorem dX5_holds_7 : decode cX5_holds 7 = .ok (.aload_n 1, 1) := by decide +kernel
theorem dX5_holds_8 : decode cX5_holds 8 = .ok (.getfield 45, 3) := by decide +kernel
theorem dX5_holds_11 : decode cX5_holds 11 = .ok (.iload_n 2, 1) := by decide +kernel
theorem dX5_holds_12 : decode cX5_holds 12 = .ok (.iaload, 1) := by decide +kernel
theorem dX5_holds_13 : decode cX5_holds 13 = .ok (.istore 4, 2) := by decide +kernel
theorem dX5_holds_15 : decode cX5_holds 15 = .ok (.iload_n 3, 1) := by decide +kernel
theorem dX5_holds_16 : decode cX5_holds 16 = .ok (.iload 4, 2) := by decide +kernel
theorem dX5_holds_18 : decode cX5_holds 18 = .ok (.if_icmp .ge 16, 3) := by decide +kernel
theorem dX5_holds_21 : decode cX5_holds 21 = .ok (.aload_n 0, 1) := by decide +kernel
theorem dX5_holds_22 : decode cX5_holds 22 = .ok (.aload_n 1, 1) := by decide +kernel
theorem dX5_holds_23 : decode cX5_holds 23 = .ok (.iload_n 3, 1) := by decide +kernel
theorem dX5_holds_24 : decode cX5_holds 24 = .ok (.iload 4, 2) := by decide +kernel
theorem dX5_holds_26 : decode cX5_holds 26 = .ok (.invokevirtual 48, 3) := by decide +kernel
theorem dX5_holds_29 : decode cX5_holds 29 = .ok (.lconst 0, 1) := by decide +kernel
theorem dX5_holds_30 : decode cX5_holds 30 = .ok (.lcmp, 1) := by decide +kernel
theorem dX5_holds_31 : decode cX5_holds 31 = .ok (.ifCond .eq 7, 3) := by decide +kernel
theorem dX5_holds_34 : decode cX5_holds 34 = .ok (.iconst 1, 1) := by decide +kernel
theorem dX5_holds_35 : decode cX5_holds 35 = .ok (.goto 4, 3) := by decide +kernel
theorem dX5_holds_38 : decode cX5_holds 38 = .ok (.iconst 0, 1) := by decide +kernel
theorem dX5_holds_39 : decode cX5_holds 39 = .ok (.ireturn, 1) := by decide +kernel
theorem wk_742 : Cond.methodLink RX5 48 yX5_worked ∈ tl_L := List.mem_filter.mpr ⟨lw_m4 (i := 63) rfl, rfl⟩
theorem wk_743 : Cond.instanceMethod yX5_worked ∈ tl_L := List.mem_filter.mpr ⟨lw_m4 (i := 65) rfl, rfl⟩
theorem wk_744 : Cond.selects RX5 yX5_worked yX5_worked ∈ tl_L := List.mem_filter.mpr ⟨lw_s3 (i := 13) (q := (yX5_worked, 2)) rfl, rfl⟩
theorem wk_745 : Cond.code yX5_worked cX5_worked 8 (some .long) ∈ tl_L := List.mem_filter.mpr ⟨lw_m4 (i := 66) rfl, rfl⟩
theorem nk_49 : tl_N[49]? = some (Cond.fieldLinkNest "ThinLine$Sums" 40 "ThinLine$Text" "testAt" "[I" "ThinLine") := by decide +kernel
theorem nk_52 : tl_N[52]? = some (Cond.fieldLinkNest "ThinLine$Sums" 45 "ThinLine$Text" "endAt" "[I" "ThinLine") := by decide +kernel
theorem lk_X5_48 : tl_kV RX5 48 RX5 yX5_worked cX5_worked 8 (some .long) 3 := ⟨wk_745, wk_742, wk_743, wk_744, wk_33, ⟨by decide +kernel, by decide +kernel, by decide +kernel⟩⟩
theorem dX5_sumOf_0 : decode cX5_sumOf 0 = .ok (.aload_n 0, 1) := by decide +kernel
theorem dX5_sumOf_1 : decode cX5_sumOf 1 = .ok (.aload_n 1, 1) := by decide +kernel
theorem dX5_sumOf_2 : decode cX5_sumOf 2 = .ok (.aload_n 1, 1) := by decide +kernel
theorem dX5_sumOf_3 : decode cX5_sumOf 3 = .ok (.getfield 52, 3) := by decide +kernel
theorem dX5_sumOf_6 : decode cX5_sumOf 6 = .ok (.iload_n 2, 1) := by decide +kernel
theorem dX5_sumOf_7 : decode cX5_sumOf 7 = .ok (.iaload, 1) := by decide +kernel
theorem dX5_sumOf_8 : decode cX5_sumOf 8 = .ok (.aload_n 1, 1) := by decide +kernel
theorem dX5_sumOf_9 : decode cX5_sumOf 9 = .ok (.getfield 40, 3) := by decide +kernel
theorem dX5_sumOf_12 : decode cX5_sumOf 12 = .ok (.iload_n 2, 1) := by decide +kernel
theorem dX5_sumOf_13 : decode cX5_sumOf 13 = .ok (.iaload, 1) := by decide +kernel
theorem dX5_sumOf_14 : decode cX5_sumOf 14 = .ok (.invokevirtual 48, 3) := by decide +kernel
theorem dX5_sumOf_17 : decode cX5_sumOf 17 = .ok (.lreturn, 1) := by decide +kernel
theorem nk_47 : tl_N[47]? = some (Cond.fieldLinkNest "ThinLine$Sums" 52 "ThinLine$Text" "sumAt" "[I" "ThinLine") := by decide +kernel
set_option maxHeartbeats 4000000 in
set_option maxRecDepth 100000 in
theorem t_X5_wordAt (l : Launch) (D : va_G) (cy : Nat → ClassId) (sz : Nat) (L : List Nat) (K : Nat → tk_K) (Γ : tk_G) (f : Nat → va_E) (o : Nat) (p0 : Int32) (ho : tp_r L K 22 (0) 0 o) : Met l yX5_wordAt (tl_w yX5_wordAt cX5_wordAt 2 (some .long)) ({ frames := 0, cells := 0, slots := 0, locals := 0 }) (va_Pc [.ref o, .int p0] (tp_P D cy L K Γ f sz)) (vp_Sl (fun r : Int64 => True)) 0 0 (fun _ => False) := by
  refine Met.ofW (cc := cX5_wordAt) (maxL := 2) (ret := (some .long)) (by decide) rfl ?_
  intro p e s m args below meth c s₁ B hml hv
  obtain ⟨rfl, hsz, hP, hK, hL, hI, hN, hU⟩ := hv
  have hx := B.exec
  have hb := B.bytes
  have hr := B.returns
  have hta := tl_hta (atoms_spec (ws := tl_w yX5_wordAt cX5_wordAt 2 (some .long)) B.pre)
  have hown : s.vm.findClass RX5 = some m.cls := findClass_of_methodNamed B.named
  have hlocks := B.notSynchronized
  subst hsz
  have hI0 := hI
  have hl := lv_entry ([.ref o, .int p0]) (n := 2) (Nat.le_of_ble_eq_true rfl)
  rw [lg_entry_eq]
  generalize (lg_sl ([.ref o, .int p0]) ++ List.replicate (2 - (lg_sl ([.ref o, .int p0])).length) Slot.unset).toArray = ls at hl ⊢
  have hl : lv_has ls 2 [(0, .ref o), (1, .int p0)] := hl
  refine lv_iload_n hx hb dX5_wordAt_0 rfl (lv_at hl 1 rfl) ?_
  refine lv_if_lt (tgt := 22) hx hb dX5_wordAt_1 (by decide) (fun c_1 => ?_) (fun c_1 => ?_)
  · have c_1 : p0.toInt < (0 : Int) := tl_lt c_1
    refine lv_lconst (v := 0) hx hb dX5_wordAt_22 (by decide) ?_
    exact W.lret (v := 0) hx hb hr (fun t ht hW => ⟨_, rfl, trivial, ht⟩) (fun q h => by cases h) dX5_wordAt_23
  · have c_1 : (0 : Int) ≤ p0.toInt := tl_nlt c_1
    refine lv_iload_n hx hb dX5_wordAt_4 rfl (lv_at hl 1 rfl) ?_
    refine lv_aload_n hx hb dX5_wordAt_5 rfl (lv_at hl 0 rfl) ?_
    obtain ⟨x_3, x_4, hf_2, hx_3, hx_4⟩ := (show tp_o_SUMS L K (0) 0 (Γ (22, 0, 0)) (f o) from hI0.at ho)
    refine tp_get (cy := cy) (ci := 5) (v := .ref x_3) (C := RX5) (T := TX5) (N := 2) hx hb hta inlX5 hown hK hP ho.1 hf_2 rfl 0 (by decide) (hta _ wk_121) (fun _ h9 => h9) rfl dX5_wordAt_6 ?_
    obtain ⟨g_6, hf_5⟩ := (show tp_aj cy (5) (f x_3) from hI0.at hx_3)
    refine tp_alen (cy := cy) (t0 := 1) (v := 5) hx hb hK hP hx_3.1 rfl hf_5 rfl dX5_wordAt_9 ?_
    refine lv_icmp_ge (tgt := 22) hx hb dX5_wordAt_10 (by decide) (fun c_8 => ?_) (fun c_8 => ?_)
    · have c_8 : (5 : Int) ≤ p0.toInt := tl_le c_8
      refine lv_lconst (v := 0) hx hb dX5_wordAt_22 (by decide) ?_
      exact W.lret (v := 0) hx hb hr (fun t ht hW => ⟨_, rfl, trivial, ht⟩) (fun q h => by cases h) dX5_wordAt_23
    · have c_8 : p0.toInt < (5 : Int) := tl_nle c_8
      refine lv_aload_n hx hb dX5_wordAt_13 rfl (lv_at hl 0 rfl) ?_
      refine tp_get (cy := cy) (ci := 5) (v := .ref x_3) (C := RX5) (T := TX5) (N := 2) hx hb hta inlX5 hown hK hP ho.1 hf_2 rfl 0 (by decide) (hta _ wk_121) (fun _ h9 => h9) rfl dX5_wordAt_14 ?_
      refine lv_iload_n hx hb dX5_wordAt_17 rfl (lv_at hl 1 rfl) ?_
      have hn_9 : vp_in p0 (5) := tl_in (by omega) (by omega)
      refine tp_lald (cy := cy) hx hb hK hP hx_3.1 hf_5 hn_9 dX5_wordAt_18 ?_
      refine lv_topl (fun z_10 ez_10 => ?_)
      refine lv_goto (tgt := 23) hx hb dX5_wordAt_19 (by decide) ?_
      exact W.lret (v := z_10) hx hb hr (fun t ht hW => ⟨_, rfl, trivial, ht⟩) (fun q h => by cases h) dX5_wordAt_23
set_option maxHeartbeats 4000000 in
set_option maxRecDepth 100000 in
theorem t_X5_joined (l : Launch) (D : va_G) (cy : Nat → ClassId) (sz : Nat) (L : List Nat) (K : Nat → tk_K) (Γ : tk_G) (f : Nat → va_E) (p0 : Int32) (p1 : Int64) (p2 : Int64)  : Met l yX5_joined (tl_w yX5_joined cX5_joined 5 (some .long)) ({ frames := 0, cells := 0, slots := 0, locals := 0 }) (va_Pc [.int p0, .long p1, .long p2] (tp_P D cy L K Γ f sz)) (vp_Sl (fun r : Int64 => True)) 0 0 (fun _ => False) := by
  refine Met.ofW (cc := cX5_joined) (maxL := 5) (ret := (some .long)) (by decide) rfl ?_
  intro p e s m args below meth c s₁ B hml hv
  obtain ⟨rfl, hsz, hP, hK, hL, hI, hN, hU⟩ := hv
  have hx := B.exec
  have hb := B.bytes
  have hr := B.returns
  have hta := tl_hta (atoms_spec (ws := tl_w yX5_joined cX5_joined 5 (some .long)) B.pre)
  have hown : s.vm.findClass RX5 = some m.cls := findClass_of_methodNamed B.named
  have hlocks := B.notSynchronized
  subst hsz
  have hI0 := hI
  have hl := lv_entry ([.int p0, .long p1, .long p2]) (n := 5) (Nat.le_of_ble_eq_true rfl)
  rw [lg_entry_eq]
  generalize (lg_sl ([.int p0, .long p1, .long p2]) ++ List.replicate (5 - (lg_sl ([.int p0, .long p1, .long p2])).length) Slot.unset).toArray = ls at hl ⊢
  have hl : lv_has ls 5 [(0, .int p0), (1, .long p1), (3, .long p2)] := hl
  refine lv_iload_n hx hb dX5_joined_0 rfl (lv_at hl 0 rfl) ?_
  rcases (show p0.toInt = 4 ∨ p0.toInt = 5 ∨ p0.toInt = 6 ∨ p0.toInt = 7 ∨ p0.toInt = 8 ∨ p0.toInt = 9 ∨ p0.toInt = 10 ∨ p0.toInt = 11 ∨ p0.toInt = 12 ∨ p0.toInt = 13 ∨ (p0.toInt < 4 ∨ 13 < p0.toInt) by omega) with c_1 | c_1 | c_1 | c_1 | c_1 | c_1 | c_1 | c_1 | c_1 | c_1 | c_1
  · refine lv_tableIn (tgt := 56) hx hb dX5_joined_1 (by omega) (by omega) (by rw [c_1]; rfl) (by decide) ?_
    refine lv_lload_n hx hb dX5_joined_56 rfl (lv_at hl 1 rfl) ?_
    refine lv_lload_n hx hb dX5_joined_57 rfl (lv_at hl 2 rfl) ?_
    refine lv_ladd hx hb dX5_joined_58 ?_
    refine lv_topl (fun z_2 ez_2 => ?_)
    exact W.lret (v := z_2) hx hb hr (fun t ht hW => ⟨_, rfl, trivial, ht⟩) (fun q h => by cases h) dX5_joined_59
  · refine lv_tableIn (tgt := 60) hx hb dX5_joined_1 (by omega) (by omega) (by rw [c_1]; rfl) (by decide) ?_
    refine lv_lload_n hx hb dX5_joined_60 rfl (lv_at hl 1 rfl) ?_
    refine lv_lload_n hx hb dX5_joined_61 rfl (lv_at hl 2 rfl) ?_
    refine lv_lsub hx hb dX5_joined_62 ?_
    refine lv_topl (fun z_3 ez_3 => ?_)
    exact W.lret (v := z_3) hx hb hr (fun t ht hW => ⟨_, rfl, trivial, ht⟩) (fun q h => by cases h) dX5_joined_63
  · refine lv_tableIn (tgt := 64) hx hb dX5_joined_1 (by omega) (by omega) (by rw [c_1]; rfl) (by decide) ?_
    refine lv_lload_n hx hb dX5_joined_64 rfl (lv_at hl 1 rfl) ?_
    refine lv_lload_n hx hb dX5_joined_65 rfl (lv_at hl 2 rfl) ?_
    refine lv_lmul hx hb dX5_joined_66 ?_
    refine lv_topl (fun z_4 ez_4 => ?_)
    exact W.lret (v := z_4) hx hb hr (fun t ht hW => ⟨_, rfl, trivial, ht⟩) (fun q h => by cases h) dX5_joined_67
  · refine lv_tableIn (tgt := 68) hx hb dX5_joined_1 (by omega) (by omega) (by rw [c_1]; rfl) (by decide) ?_
    refine lv_lload_n hx hb dX5_joined_68 rfl (lv_at hl 2 rfl) ?_
    refine lv_lconst (v := 0) hx hb dX5_joined_69 (by decide) ?_
    refine W.lcmp hx hb dX5_joined_70 ?_
    refine lv_if_ne (tgt := 78) hx hb dX5_joined_71 (by decide) (fun c_5 => ?_) (fun c_5 => ?_)
    · have c_5 : ¬ p2.toInt = (0 : Int) := tl_cmp_ne c_5
      refine lv_lload_n hx hb dX5_joined_78 rfl (lv_at hl 1 rfl) ?_
      refine lv_lload_n hx hb dX5_joined_79 rfl (lv_at hl 2 rfl) ?_
      refine lv_ldiv hx hb dX5_joined_80 (tl_ne0L (by omega)) ?_
      refine lv_topl (fun z_6 ez_6 => ?_)
      exact W.lret (v := z_6) hx hb hr (fun t ht hW => ⟨_, rfl, trivial, ht⟩) (fun q h => by cases h) dX5_joined_81
    · have c_5 : p2.toInt = (0 : Int) := tl_cmp_nne c_5
      refine lv_lconst (v := 0) hx hb dX5_joined_74 (by decide) ?_
      refine lv_goto (tgt := 81) hx hb dX5_joined_75 (by decide) ?_
      exact W.lret (v := 0) hx hb hr (fun t ht hW => ⟨_, rfl, trivial, ht⟩) (fun q h => by cases h) dX5_joined_81
  · refine lv_tableIn (tgt := 82) hx hb dX5_joined_1 (by omega) (by omega) (by rw [c_1]; rfl) (by decide) ?_
    refine lv_lload_n hx hb dX5_joined_82 rfl (lv_at hl 1 rfl) ?_
    refine lv_lload_n hx hb dX5_joined_83 rfl (lv_at hl 2 rfl) ?_
    refine W.lcmp hx hb dX5_joined_84 ?_
    refine lv_if_ge (tgt := 92) hx hb dX5_joined_85 (by decide) (fun c_7 => ?_) (fun c_7 => ?_)
    · have c_7 : p1.toInt ≥ p2.toInt := tl_cmp_ge c_7
      refine lv_lconst (v := 0) hx hb dX5_joined_92 (by decide) ?_
      exact W.lret (v := 0) hx hb hr (fun t ht hW => ⟨_, rfl, trivial, ht⟩) (fun q h => by cases h) dX5_joined_93
    · have c_7 : p1.toInt < p2.toInt := tl_cmp_nge c_7
      refine lv_lconst (v := 1) hx hb dX5_joined_88 (by decide) ?_
      refine lv_goto (tgt := 93) hx hb dX5_joined_89 (by decide) ?_
      exact W.lret (v := 1) hx hb hr (fun t ht hW => ⟨_, rfl, trivial, ht⟩) (fun q h => by cases h) dX5_joined_93
  · refine lv_tableIn (tgt := 94) hx hb dX5_joined_1 (by omega) (by omega) (by rw [c_1]; rfl) (by decide) ?_
    refine lv_lload_n hx hb dX5_joined_94 rfl (lv_at hl 1 rfl) ?_
    refine lv_lload_n hx hb dX5_joined_95 rfl (lv_at hl 2 rfl) ?_
    refine W.lcmp hx hb dX5_joined_96 ?_
    refine lv_if_gt (tgt := 104) hx hb dX5_joined_97 (by decide) (fun c_8 => ?_) (fun c_8 => ?_)
    · have c_8 : p1.toInt > p2.toInt := tl_cmp_gt c_8
      refine lv_lconst (v := 0) hx hb dX5_joined_104 (by decide) ?_
      exact W.lret (v := 0) hx hb hr (fun t ht hW => ⟨_, rfl, trivial, ht⟩) (fun q h => by cases h) dX5_joined_105
    · have c_8 : p1.toInt ≤ p2.toInt := tl_cmp_ngt c_8
      refine lv_lconst (v := 1) hx hb dX5_joined_100 (by decide) ?_
      refine lv_goto (tgt := 105) hx hb dX5_joined_101 (by decide) ?_
      exact W.lret (v := 1) hx hb hr (fun t ht hW => ⟨_, rfl, trivial, ht⟩) (fun q h => by cases h) dX5_joined_105
  · refine lv_tableIn (tgt := 106) hx hb dX5_joined_1 (by omega) (by omega) (by rw [c_1]; rfl) (by decide) ?_
    refine lv_lload_n hx hb dX5_joined_106 rfl (lv_at hl 1 rfl) ?_
    refine lv_lload_n hx hb dX5_joined_107 rfl (lv_at hl 2 rfl) ?_
    refine W.lcmp hx hb dX5_joined_108 ?_
    refine lv_if_ne (tgt := 116) hx hb dX5_joined_109 (by decide) (fun c_9 => ?_) (fun c_9 => ?_)
    · have c_9 : ¬ p1.toInt = p2.toInt := tl_cmp_ne c_9
      refine lv_lconst (v := 0) hx hb dX5_joined_116 (by decide) ?_
      exact W.lret (v := 0) hx hb hr (fun t ht hW => ⟨_, rfl, trivial, ht⟩) (fun q h => by cases h) dX5_joined_117
    · have c_9 : p1.toInt = p2.toInt := tl_cmp_nne c_9
      refine lv_lconst (v := 1) hx hb dX5_joined_112 (by decide) ?_
      refine lv_goto (tgt := 117) hx hb dX5_joined_113 (by decide) ?_
      exact W.lret (v := 1) hx hb hr (fun t ht hW => ⟨_, rfl, trivial, ht⟩) (fun q h => by cases h) dX5_joined_117
  · refine lv_tableIn (tgt := 118) hx hb dX5_joined_1 (by omega) (by omega) (by rw [c_1]; rfl) (by decide) ?_
    refine lv_lload_n hx hb dX5_joined_118 rfl (lv_at hl 1 rfl) ?_
    refine lv_lload_n hx hb dX5_joined_119 rfl (lv_at hl 2 rfl) ?_
    refine W.lcmp hx hb dX5_joined_120 ?_
    refine lv_if_lt (tgt := 128) hx hb dX5_joined_121 (by decide) (fun c_10 => ?_) (fun c_10 => ?_)
    · have c_10 : p1.toInt < p2.toInt := tl_cmp_lt c_10
      refine lv_lconst (v := 0) hx hb dX5_joined_128 (by decide) ?_
      exact W.lret (v := 0) hx hb hr (fun t ht hW => ⟨_, rfl, trivial, ht⟩) (fun q h => by cases h) dX5_joined_129
    · have c_10 : p1.toInt ≥ p2.toInt := tl_cmp_nlt c_10
      refine lv_lconst (v := 1) hx hb dX5_joined_124 (by decide) ?_
      refine lv_goto (tgt := 129) hx hb dX5_joined_125 (by decide) ?_
      exact W.lret (v := 1) hx hb hr (fun t ht hW => ⟨_, rfl, trivial, ht⟩) (fun q h => by cases h) dX5_joined_129
  · refine lv_tableIn (tgt := 130) hx hb dX5_joined_1 (by omega) (by omega) (by rw [c_1]; rfl) (by decide) ?_
    refine lv_lload_n hx hb dX5_joined_130 rfl (lv_at hl 1 rfl) ?_
    refine lv_lload_n hx hb dX5_joined_131 rfl (lv_at hl 2 rfl) ?_
    refine W.lcmp hx hb dX5_joined_132 ?_
    refine lv_if_le (tgt := 140) hx hb dX5_joined_133 (by decide) (fun c_11 => ?_) (fun c_11 => ?_)
    · have c_11 : p1.toInt ≤ p2.toInt := tl_cmp_le c_11
      refine lv_lconst (v := 0) hx hb dX5_joined_140 (by decide) ?_
      exact W.lret (v := 0) hx hb hr (fun t ht hW => ⟨_, rfl, trivial, ht⟩) (fun q h => by cases h) dX5_joined_141
    · have c_11 : p1.toInt > p2.toInt := tl_cmp_nle c_11
      refine lv_lconst (v := 1) hx hb dX5_joined_136 (by decide) ?_
      refine lv_goto (tgt := 141) hx hb dX5_joined_137 (by decide) ?_
      exact W.lret (v := 1) hx hb hr (fun t ht hW => ⟨_, rfl, trivial, ht⟩) (fun q h => by cases h) dX5_joined_141
  · refine lv_tableIn (tgt := 142) hx hb dX5_joined_1 (by omega) (by omega) (by rw [c_1]; rfl) (by decide) ?_
    refine lv_lload_n hx hb dX5_joined_142 rfl (lv_at hl 1 rfl) ?_
    refine lv_lload_n hx hb dX5_joined_143 rfl (lv_at hl 2 rfl) ?_
    refine lv_land hx hb dX5_joined_144 ?_
    refine lv_topl (fun z_12 ez_12 => ?_)
    exact W.lret (v := z_12) hx hb hr (fun t ht hW => ⟨_, rfl, trivial, ht⟩) (fun q h => by cases h) dX5_joined_145
  · refine lv_tableOut (tgt := 146) hx hb dX5_joined_1 (by omega) (by decide) ?_
    refine lv_lload_n hx hb dX5_joined_146 rfl (lv_at hl 1 rfl) ?_
    refine lv_lload_n hx hb dX5_joined_147 rfl (lv_at hl 2 rfl) ?_
    refine lv_lor hx hb dX5_joined_148 ?_
    refine lv_topl (fun z_13 ez_13 => ?_)
    exact W.lret (v := z_13) hx hb hr (fun t ht hW => ⟨_, rfl, trivial, ht⟩) (fun q h => by cases h) dX5_joined_149
set_option maxHeartbeats 4000000 in
set_option maxRecDepth 100000 in
theorem t_X5_setRow (l : Launch) (D : va_G) (cy : Nat → ClassId) (sz : Nat) (L : List Nat) (K : Nat → tk_K) (Γ : tk_G) (f : Nat → va_E) (o : Nat) (w : Nat) (q : Nat) (p0 : Int32) (ho : tp_r L K 22 (0) 0 o) (hq : tp_r L K 3 (0) w q) : Met l yX5_setRow (tl_w yX5_setRow cX5_setRow 3 none) ({ frames := 1, cells := 0, slots := 0, locals := 21 }) (va_Pc [.ref o, .ref q, .int p0] (tp_P D cy L K Γ f sz)) (va_Qv (fun (u : Nat → va_E) => True) (tp_B D cy L K Γ f [23]) (tp_A L sz)) 0 0 (tp_A L sz) := by
  refine Met.ofW (cc := cX5_setRow) (maxL := 3) (ret := none) (by decide) rfl ?_
  intro p e s m args below meth c s₁ B hml hv
  obtain ⟨rfl, hsz, hP, hK, hL, hI, hN, hU⟩ := hv
  have hx := B.exec
  have hb := B.bytes
  have hr := B.returns
  have hta := tl_hta (atoms_spec (ws := tl_w yX5_setRow cX5_setRow 3 none) B.pre)
  have hown : s.vm.findClass RX5 = some m.cls := findClass_of_methodNamed B.named
  have hlocks := B.notSynchronized
  subst hsz
  have hI0 := hI
  generalize hAe : tp_A L s.heap.size = A
  have hA : ∀ q : Nat, s.heap.size ≤ q → A q := fun q h => by rw [← hAe]; exact Or.inr h
  have hAL : ∀ q ∈ L, A q := fun q h => by rw [← hAe]; exact Or.inl h
  have hAf : ∀ (H : Heap), s.heap.size ≤ H.size → ∀ q, tp_A L H.size q → A q := fun H h q hq => hq.elim (hAL q) (fun h2 => hA q (Nat.le_trans h h2))
  have hS : va_S A s.heap s.heap [] := va_S.rf
  have hD : va_D A (va_pl L f) := tp_D hL hAL
  have hfr : ∀ b, (K b).1 ∉ ([23] : List Nat) → f b = f b := fun _ _ => rfl
  have hl := lv_entry ([.ref o, .ref q, .int p0]) (n := 3) (Nat.le_of_ble_eq_true rfl)
  rw [lg_entry_eq]
  generalize (lg_sl ([.ref o, .ref q, .int p0]) ++ List.replicate (3 - (lg_sl ([.ref o, .ref q, .int p0])).length) Slot.unset).toArray = ls at hl ⊢
  have hl : lv_has ls 3 [(0, .ref o), (1, .ref q), (2, .int p0)] := hl
  refine lv_aload_n hx hb dX5_setRow_0 rfl (lv_at hl 1 rfl) ?_
  refine lv_iload_n hx hb dX5_setRow_1 rfl (lv_at hl 2 rfl) ?_
  obtain ⟨x_2, x_3, x_4, x_5, x_6, x_7, hf_1, hx_2, hx_4, hx_5, hx_6, hx_7⟩ := (show tp_o_ROWS L K (0) w (Γ (3, 0, w)) (f q) from hI0.at hq)
  refine tl_si (tq_rVN hN (As := [.int p0]) (rest := []) ⟨hx, hb, hml, hown, hta⟩ (tp_P.pre hK hN hL hU hI hP) (tp_recv hK hP hq.1 hf_1 rfl) lk_X5_18 (t_X4_has l D cy s.heap.size L K Γ f w q p0 hq) rfl rfl ⟨Nat.le_of_ble_eq_true rfl, Nat.le_of_ble_eq_true rfl⟩ rfl hl.1 rfl (Nat.le_of_ble_eq_true rfl) dX5_setRow_2 ⟨Nat.le_of_ble_eq_true rfl, Nat.le_of_ble_eq_true rfl⟩) (fun r_9 hw_8 => ?_)
  have hw_8 : tl_E r_9 (0 ≤ p0.toInt ∧ p0.toInt < Γ (3, 0, w) 0) 1 0 := hw_8
  refine lv_if_eq (tgt := 42) hx hb dX5_setRow_5 (by decide) (fun c_10 => ?_) (fun c_10 => ?_)
  · have c_10 := hw_8.f c_10
    exact W.vret hx hb hr (fun t ht hW => ⟨⟨f, rfl, trivial, by rw [ht]; exact hP, hI, hfr⟩, hS.F ht⟩) hS.2.2 dX5_setRow_42
  · have c_10 := hw_8.t c_10
    refine lv_aload_n hx hb dX5_setRow_8 rfl (lv_at hl 0 rfl) ?_
    obtain ⟨x_12, x_13, hf_11, hx_12, hx_13⟩ := (show tp_o_SUMS L K (0) 0 (Γ (22, 0, 0)) (f o) from hI0.at ho)
    refine tp_get (cy := cy) (ci := 5) (v := .ref x_12) (C := RX5) (T := TX5) (N := 2) hx hb hta inlX5 hown hK hP ho.1 hf_11 rfl 0 (by decide) (hta _ wk_121) (fun _ h9 => h9) rfl dX5_setRow_9 ?_
    refine lv_iconst (v := 1) hx hb dX5_setRow_12 (by decide) ?_
    refine lv_aload_n hx hb dX5_setRow_13 rfl (lv_at hl 1 rfl) ?_
    refine tp_getN (cy := cy) (ci := 4) (v := .ref x_4) (C := RX4) (T := TX4) (N := 6) hx hb hta inlX4 hown hK hP hq.1 hf_1 rfl 2 (by decide) (va_Nw.use rfl (hN.1 4 _ nk_4)) (fun _ h9 => h9) rfl dX5_setRow_14 ?_
    refine lv_iload_n hx hb dX5_setRow_17 rfl (lv_at hl 2 rfl) ?_
    obtain ⟨g_15, hf_14, hg_16⟩ := (show tp_ai cy 4 (24) (f x_4) from hI0.at hx_4)
    have hn_17 : vp_in p0 (24) := tl_in (by omega) (by omega)
    refine tp_iald (cy := cy) hx hb hK hP hx_4.1 hf_14 hn_17 dX5_setRow_18 ?_
    refine lv_topi (fun z_18 ez_18 => ?_)
    refine lv_i2l (v := z_18.toInt64) hx hb dX5_setRow_19 (by first | rfl | decide) ?_
    obtain ⟨g_20, hf_19⟩ := (show tp_aj cy (5) (f x_12) from hI.at hx_12)
    have hn_22 : vp_in 1 (5) := tl_in (by decide) (by decide)
    have hI9 : tp_I cy L K Γ (va_up f x_12 (.inl (cy 1, 5, .inr (.inl (vp_updL g_20 (1 : Int32).toNatClampNeg z_18.toInt64))))) := hI.set hx_12 (show tp_aj cy (5) _ from ⟨_, rfl⟩)
    have hfr9 : ∀ b, (K b).1 ∉ ([23] : List Nat) → va_up f x_12 (.inl (cy 1, 5, .inr (.inl (vp_updL g_20 (1 : Int32).toNatClampNeg z_18.toInt64)))) b = f b := tp_fr hfr hx_12 (by decide)
    refine tp_last (cy := cy) hx hb hK hP hD hS hx_12.1 hf_19 hn_22 dX5_setRow_20 (fun H locs hP hD hS => ?_)
    have hP : va_P D vwCl (va_pl L (va_up f x_12 (.inl (cy 1, 5, .inr (.inl (vp_updL g_20 (1 : Int32).toNatClampNeg z_18.toInt64)))))) H := hP
    generalize hfe : va_up f x_12 (.inl (cy 1, 5, .inr (.inl (vp_updL g_20 (1 : Int32).toNatClampNeg z_18.toInt64)))) = f_23 at hP hI9 hfr9
    have hD : va_D A (va_pl L f_23) := tp_D hL hAL
    have hf_24 : f_23 x_12 = .inl (cy 1, 5, .inr (.inl (vp_updL g_20 (1 : Int32).toNatClampNeg z_18.toInt64))) := by rw [← hfe]; exact va_up_self _ _ _
    clear hfe
    have hI := hI9
    have hfr := hfr9
    clear hI9 hfr9
    refine lv_aload_n hx hb dX5_setRow_21 rfl (lv_at hl 0 rfl) ?_
    refine tp_get (cy := cy) (ci := 5) (v := .ref x_12) (C := RX5) (T := TX5) (N := 2) hx hb hta inlX5 hown hK hP ho.1 ((tp_un hfr ho (by decide)).trans hf_11) rfl 0 (by decide) (hta _ wk_121) (fun _ h9 => h9) rfl dX5_setRow_22 ?_
    refine lv_iconst (v := 2) hx hb dX5_setRow_25 (by decide) ?_
    refine lv_aload_n hx hb dX5_setRow_26 rfl (lv_at hl 1 rfl) ?_
    refine tp_getN (cy := cy) (ci := 4) (v := .ref x_5) (C := RX4) (T := TX4) (N := 6) hx hb hta inlX4 hown hK hP hq.1 ((tp_un hfr hq (by decide)).trans hf_1) rfl 3 (by decide) (va_Nw.use rfl (hN.1 7 _ nk_7)) (fun _ h9 => h9) rfl dX5_setRow_27 ?_
    refine lv_iload_n hx hb dX5_setRow_30 rfl (lv_at hl 2 rfl) ?_
    obtain ⟨g_26, hf_25, hg_27⟩ := (show tp_ai cy 4 (24) (f x_5) from hI0.at hx_5)
    have hn_28 : vp_in p0 (24) := tl_in (by omega) (by omega)
    refine tp_iald (cy := cy) hx hb hK hP hx_5.1 ((tp_un hfr hx_5 (by decide)).trans hf_25) hn_28 dX5_setRow_31 ?_
    refine lv_topi (fun z_29 ez_29 => ?_)
    refine lv_i2l (v := z_29.toInt64) hx hb dX5_setRow_32 (by first | rfl | decide) ?_
    obtain ⟨g_31, hf_30⟩ := (show tp_aj cy (5) (f_23 x_12) from hI.at hx_12)
    have hn_33 : vp_in 2 (5) := tl_in (by decide) (by decide)
    have hI9 : tp_I cy L K Γ (va_up f_23 x_12 (.inl (cy 1, 5, .inr (.inl (vp_updL g_31 (2 : Int32).toNatClampNeg z_29.toInt64))))) := hI.set hx_12 (show tp_aj cy (5) _ from ⟨_, rfl⟩)
    have hfr9 : ∀ b, (K b).1 ∉ ([23] : List Nat) → va_up f_23 x_12 (.inl (cy 1, 5, .inr (.inl (vp_updL g_31 (2 : Int32).toNatClampNeg z_29.toInt64)))) b = f b := tp_fr hfr hx_12 (by decide)
    refine tp_last (cy := cy) hx hb hK hP hD hS hx_12.1 hf_30 hn_33 dX5_setRow_33 (fun H locs hP hD hS => ?_)
    have hP : va_P D vwCl (va_pl L (va_up f_23 x_12 (.inl (cy 1, 5, .inr (.inl (vp_updL g_31 (2 : Int32).toNatClampNeg z_29.toInt64)))))) H := hP
    generalize hfe : va_up f_23 x_12 (.inl (cy 1, 5, .inr (.inl (vp_updL g_31 (2 : Int32).toNatClampNeg z_29.toInt64)))) = f_34 at hP hI9 hfr9
    have hD : va_D A (va_pl L f_34) := tp_D hL hAL
    have hf_35 : f_34 x_12 = .inl (cy 1, 5, .inr (.inl (vp_updL g_31 (2 : Int32).toNatClampNeg z_29.toInt64))) := by rw [← hfe]; exact va_up_self _ _ _
    clear hfe
    have hI := hI9
    have hfr := hfr9
    clear hI9 hfr9
    refine lv_aload_n hx hb dX5_setRow_34 rfl (lv_at hl 0 rfl) ?_
    refine tp_get (cy := cy) (ci := 5) (v := .ref x_12) (C := RX5) (T := TX5) (N := 2) hx hb hta inlX5 hown hK hP ho.1 ((tp_un hfr ho (by decide)).trans hf_11) rfl 0 (by decide) (hta _ wk_121) (fun _ h9 => h9) rfl dX5_setRow_35 ?_
    refine lv_iconst (v := 3) hx hb dX5_setRow_38 (by decide) ?_
    refine lv_iload_n hx hb dX5_setRow_39 rfl (lv_at hl 2 rfl) ?_
    refine lv_i2l (v := p0.toInt64) hx hb dX5_setRow_40 (by first | rfl | decide) ?_
    obtain ⟨g_37, hf_36⟩ := (show tp_aj cy (5) (f_34 x_12) from hI.at hx_12)
    have hn_39 : vp_in 3 (5) := tl_in (by decide) (by decide)
    have hI9 : tp_I cy L K Γ (va_up f_34 x_12 (.inl (cy 1, 5, .inr (.inl (vp_updL g_37 (3 : Int32).toNatClampNeg p0.toInt64))))) := hI.set hx_12 (show tp_aj cy (5) _ from ⟨_, rfl⟩)
    have hfr9 : ∀ b, (K b).1 ∉ ([23] : List Nat) → va_up f_34 x_12 (.inl (cy 1, 5, .inr (.inl (vp_updL g_37 (3 : Int32).toNatClampNeg p0.toInt64)))) b = f b := tp_fr hfr hx_12 (by decide)
    refine tp_last (cy := cy) hx hb hK hP hD hS hx_12.1 hf_36 hn_39 dX5_setRow_41 (fun H locs hP hD hS => ?_)
    have hP : va_P D vwCl (va_pl L (va_up f_34 x_12 (.inl (cy 1, 5, .inr (.inl (vp_updL g_37 (3 : Int32).toNatClampNeg p0.toInt64)))))) H := hP
    generalize hfe : va_up f_34 x_12 (.inl (cy 1, 5, .inr (.inl (vp_updL g_37 (3 : Int32).toNatClampNeg p0.toInt64)))) = f_40 at hP hI9 hfr9
    have hD : va_D A (va_pl L f_40) := tp_D hL hAL
    have hf_41 : f_40 x_12 = .inl (cy 1, 5, .inr (.inl (vp_updL g_37 (3 : Int32).toNatClampNeg p0.toInt64))) := by rw [← hfe]; exact va_up_self _ _ _
    clear hfe
    have hI := hI9
    have hfr := hfr9
    clear hI9 hfr9
    exact W.vret hx hb hr (fun t ht hW => ⟨⟨f_40, rfl, trivial, by rw [ht]; exact hP, hI, hfr⟩, hS.F ht⟩) hS.2.2 dX5_setRow_42
set_option maxHeartbeats 4000000 in
set_option maxRecDepth 100000 in
theorem t_X5_setColour (l : Launch) (D : va_G) (cy : Nat → ClassId) (sz : Nat) (L : List Nat) (K : Nat → tk_K) (Γ : tk_G) (f : Nat → va_E) (o : Nat) (p0 : Int32) (ho : tp_r L K 22 (0) 0 o) : Met l yX5_setColour (tl_w yX5_setColour cX5_setColour 2 none) ({ frames := 0, cells := 0, slots := 0, locals := 0 }) (va_Pc [.ref o, .int p0] (tp_P D cy L K Γ f sz)) (va_Qv (fun (u : Nat → va_E) => True) (tp_B D cy L K Γ f [23]) (tp_A L sz)) 0 0 (tp_A L sz) := by
  refine Met.ofW (cc := cX5_setColour) (maxL := 2) (ret := none) (by decide) rfl ?_
  intro p e s m args below meth c s₁ B hml hv
  obtain ⟨rfl, hsz, hP, hK, hL, hI, hN, hU⟩ := hv
  have hx := B.exec
  have hb := B.bytes
  have hr := B.returns
  have hta := tl_hta (atoms_spec (ws := tl_w yX5_setColour cX5_setColour 2 none) B.pre)
  have hown : s.vm.findClass RX5 = some m.cls := findClass_of_methodNamed B.named
  have hlocks := B.notSynchronized
  subst hsz
  have hI0 := hI
  generalize hAe : tp_A L s.heap.size = A
  have hA : ∀ q : Nat, s.heap.size ≤ q → A q := fun q h => by rw [← hAe]; exact Or.inr h
  have hAL : ∀ q ∈ L, A q := fun q h => by rw [← hAe]; exact Or.inl h
  have hAf : ∀ (H : Heap), s.heap.size ≤ H.size → ∀ q, tp_A L H.size q → A q := fun H h q hq => hq.elim (hAL q) (fun h2 => hA q (Nat.le_trans h h2))
  have hS : va_S A s.heap s.heap [] := va_S.rf
  have hD : va_D A (va_pl L f) := tp_D hL hAL
  have hfr : ∀ b, (K b).1 ∉ ([23] : List Nat) → f b = f b := fun _ _ => rfl
  have hl := lv_entry ([.ref o, .int p0]) (n := 2) (Nat.le_of_ble_eq_true rfl)
  rw [lg_entry_eq]
  generalize (lg_sl ([.ref o, .int p0]) ++ List.replicate (2 - (lg_sl ([.ref o, .int p0])).length) Slot.unset).toArray = ls at hl ⊢
  have hl : lv_has ls 2 [(0, .ref o), (1, .int p0)] := hl
  refine lv_aload_n hx hb dX5_setColour_0 rfl (lv_at hl 0 rfl) ?_
  obtain ⟨x_2, x_3, hf_1, hx_2, hx_3⟩ := (show tp_o_SUMS L K (0) 0 (Γ (22, 0, 0)) (f o) from hI0.at ho)
  refine tp_get (cy := cy) (ci := 5) (v := .ref x_2) (C := RX5) (T := TX5) (N := 2) hx hb hta inlX5 hown hK hP ho.1 hf_1 rfl 0 (by decide) (hta _ wk_121) (fun _ h9 => h9) rfl dX5_setColour_1 ?_
  refine lv_iconst (v := 0) hx hb dX5_setColour_4 (by decide) ?_
  refine lv_iload_n hx hb dX5_setColour_5 rfl (lv_at hl 1 rfl) ?_
  refine lv_i2l (v := p0.toInt64) hx hb dX5_setColour_6 (by first | rfl | decide) ?_
  obtain ⟨g_5, hf_4⟩ := (show tp_aj cy (5) (f x_2) from hI.at hx_2)
  have hn_7 : vp_in 0 (5) := tl_in (by decide) (by decide)
  have hI9 : tp_I cy L K Γ (va_up f x_2 (.inl (cy 1, 5, .inr (.inl (vp_updL g_5 (0 : Int32).toNatClampNeg p0.toInt64))))) := hI.set hx_2 (show tp_aj cy (5) _ from ⟨_, rfl⟩)
  have hfr9 : ∀ b, (K b).1 ∉ ([23] : List Nat) → va_up f x_2 (.inl (cy 1, 5, .inr (.inl (vp_updL g_5 (0 : Int32).toNatClampNeg p0.toInt64)))) b = f b := tp_fr hfr hx_2 (by decide)
  refine tp_last (cy := cy) hx hb hK hP hD hS hx_2.1 hf_4 hn_7 dX5_setColour_7 (fun H locs hP hD hS => ?_)
  have hP : va_P D vwCl (va_pl L (va_up f x_2 (.inl (cy 1, 5, .inr (.inl (vp_updL g_5 (0 : Int32).toNatClampNeg p0.toInt64)))))) H := hP
  generalize hfe : va_up f x_2 (.inl (cy 1, 5, .inr (.inl (vp_updL g_5 (0 : Int32).toNatClampNeg p0.toInt64)))) = f_8 at hP hI9 hfr9
  have hD : va_D A (va_pl L f_8) := tp_D hL hAL
  have hf_9 : f_8 x_2 = .inl (cy 1, 5, .inr (.inl (vp_updL g_5 (0 : Int32).toNatClampNeg p0.toInt64))) := by rw [← hfe]; exact va_up_self _ _ _
  clear hfe
  have hI := hI9
  have hfr := hfr9
  clear hI9 hfr9
  exact W.vret hx hb hr (fun t ht hW => ⟨⟨f_8, rfl, trivial, by rw [ht]; exact hP, hI, hfr⟩, hS.F ht⟩) hS.2.2 dX5_setColour_8
set_option maxHeartbeats 4000000 in
set_option maxRecDepth 100000 in
theorem t_X5_setWeather (l : Launch) (D : va_G) (cy : Nat → ClassId) (sz : Nat) (L : List Nat) (K : Nat → tk_K) (Γ : tk_G) (f : Nat → va_E) (o : Nat) (w : Nat) (q : Nat) (ho : tp_r L K 22 (0) 0 o) (hq : tp_r L K 1 (0) w q) : Met l yX5_setWeather (tl_w yX5_setWeather cX5_setWeather 3 none) ({ frames := 0, cells := 0, slots := 0, locals := 0 }) (va_Pc [.ref o, .ref q] (tp_P D cy L K Γ f sz)) (va_Qv (fun (u : Nat → va_E) => True) (tp_B D cy L K Γ f [23]) (tp_A L sz)) 0 0 (tp_A L sz) := by
  refine Met.ofW (cc := cX5_setWeather) (maxL := 3) (ret := none) (by decide) rfl ?_
  intro p e s m args below meth c s₁ B hml hv
  obtain ⟨rfl, hsz, hP, hK, hL, hI, hN, hU⟩ := hv
  have hx := B.exec
  have hb := B.bytes
  have hr := B.returns
  have hta := tl_hta (atoms_spec (ws := tl_w yX5_setWeather cX5_setWeather 3 none) B.pre)
  have hown : s.vm.findClass RX5 = some m.cls := findClass_of_methodNamed B.named
  have hlocks := B.notSynchronized
  subst hsz
  have hI0 := hI
  generalize hAe : tp_A L s.heap.size = A
  have hA : ∀ q : Nat, s.heap.size ≤ q → A q := fun q h => by rw [← hAe]; exact Or.inr h
  have hAL : ∀ q ∈ L, A q := fun q h => by rw [← hAe]; exact Or.inl h
  have hAf : ∀ (H : Heap), s.heap.size ≤ H.size → ∀ q, tp_A L H.size q → A q := fun H h q hq => hq.elim (hAL q) (fun h2 => hA q (Nat.le_trans h h2))
  have hS : va_S A s.heap s.heap [] := va_S.rf
  have hD : va_D A (va_pl L f) := tp_D hL hAL
  have hfr : ∀ b, (K b).1 ∉ ([23] : List Nat) → f b = f b := fun _ _ => rfl
  have hl := lv_entry ([.ref o, .ref q]) (n := 3) (Nat.le_of_ble_eq_true rfl)
  rw [lg_entry_eq]
  generalize (lg_sl ([.ref o, .ref q]) ++ List.replicate (3 - (lg_sl ([.ref o, .ref q])).length) Slot.unset).toArray = ls at hl ⊢
  have hl : lv_has ls 3 [(0, .ref o), (1, .ref q)] := hl
  refine lv_iconst (v := 0) hx hb dX5_setWeather_0 (by decide) ?_
  refine lv_istore_n (lv' := [(2, .int 0), (0, .ref o), (1, .ref q)]) hx hb dX5_setWeather_1 rfl hl (by decide) rfl (fun ls hl => ?_)
  refine tq_start hP hS (fun H locs hP hS => ?_)
  refine tl_ind (G := fun H locs ls => W p l e ((headSpec (tl_w yX5_setWeather cX5_setWeather 3 none) ({ frames := 0, cells := 0, slots := 0, locals := 0 })).room) s m #[.ref o, .ref q] below meth c H locs 0 0 (MQ below (va_Qv (fun (u : Nat → va_E) => True) (tp_B D cy L K Γ f [23]) A) #[.ref o, .ref q] s 0 0 A) (F0 m 2 ls [])) (α := (Nat → va_E) × Int32) (fun aq => (5 - aq.2.toInt).toNat) (fun aq H locs ls => (0 ≤ aq.2.toInt) ∧ (aq.2.toInt ≤ 5) ∧ va_P D vwCl (va_pl L aq.1) H ∧ tp_I cy L K Γ aq.1 ∧ (∀ b, (K b).1 ∉ ([23] : List Nat) → aq.1 b = f b) ∧ va_S A s.heap H locs ∧ lv_has ls 3 [(2, .int aq.2), (0, .ref o), (1, .ref q)]) ?_ (f, (0 : Int32)) H locs ls ⟨(show 0 ≤ (0 : Int) from (by omega)), (show (0 : Int) ≤ 5 from (by omega)), hP, hI, hfr, hS, lv_sub hl [0, 1, 2] rfl⟩
  rintro ⟨f_1, v2⟩ H locs ls ⟨h0, h1, hP, hI, hfr, hS, hl⟩ ih2
  have hP : va_P D vwCl (va_pl L f_1) H := hP
  have hI : tp_I cy L K Γ f_1 := hI
  have hfr : ∀ b, (K b).1 ∉ ([23] : List Nat) → f_1 b = f b := hfr
  have hD : va_D A (va_pl L f_1) := tp_D hL hAL
  have h0 : 0 ≤ v2.toInt := h0
  have h1 : v2.toInt ≤ 5 := h1
  have hl : lv_has ls 3 [(2, .int v2), (0, .ref o), (1, .ref q)] := hl
  refine lv_iload_n hx hb dX5_setWeather_2 rfl (lv_at hl 0 rfl) ?_
  refine lv_aload_n hx hb dX5_setWeather_3 rfl (lv_at hl 2 rfl) ?_
  obtain ⟨x_3, x_4, x_5, x_6, x_7, x_8, x_9, x_10, x_11, hf_2, hx_3, hx_4, hx_5, hx_6, hx_7, hx_8, hx_9, hx_10, hx_11⟩ := (show tp_o_BOOK L K (0) w (Γ (1, 0, w)) (f q) from hI0.at hq)
  refine tp_getN (cy := cy) (ci := 0) (v := .ref x_4) (C := RX0) (T := TX0) (N := 9) hx hb hta inlX0 hown hK hP hq.1 ((tp_un hfr hq (by decide)).trans hf_2) rfl 1 (by decide) (va_Nw.use rfl (hN.1 18 _ nk_18)) (fun _ h9 => h9) rfl dX5_setWeather_4 ?_
  obtain ⟨g_13, hf_12, hg_14⟩ := (show tp_gi cy (4) (Γ (2, 4, w)) (f x_4) from hI0.at hx_4)
  refine tp_alen (cy := cy) (t0 := 0) (v := 4) hx hb hK hP hx_4.1 rfl ((tp_un hfr hx_4 (by decide)).trans hf_12) rfl dX5_setWeather_7 ?_
  refine lv_icmp_ge (tgt := 39) hx hb dX5_setWeather_8 (by decide) (fun c_15 => ?_) (fun c_15 => ?_)
  · have c_15 : (4 : Int) ≤ v2.toInt := tl_le c_15
    refine lv_aload_n hx hb dX5_setWeather_39 rfl (lv_at hl 1 rfl) ?_
    obtain ⟨x_17, x_18, hf_16, hx_17, hx_18⟩ := (show tp_o_SUMS L K (0) 0 (Γ (22, 0, 0)) (f o) from hI0.at ho)
    refine tp_get (cy := cy) (ci := 5) (v := .ref x_17) (C := RX5) (T := TX5) (N := 2) hx hb hta inlX5 hown hK hP ho.1 ((tp_un hfr ho (by decide)).trans hf_16) rfl 0 (by decide) (hta _ wk_121) (fun _ h9 => h9) rfl dX5_setWeather_40 ?_
    refine lv_iconst (v := 4) hx hb dX5_setWeather_43 (by decide) ?_
    refine lv_aload_n hx hb dX5_setWeather_44 rfl (lv_at hl 2 rfl) ?_
    refine tp_getN (cy := cy) (ci := 0) (v := .int x_3) (C := RX0) (T := TX0) (N := 9) hx hb hta inlX0 hown hK hP hq.1 ((tp_un hfr hq (by decide)).trans hf_2) rfl 0 (by decide) (va_Nw.use rfl (hN.1 17 _ nk_17)) (fun _ h9 => h9) rfl dX5_setWeather_45 ?_
    refine lv_i2l (v := x_3.toInt64) hx hb dX5_setWeather_48 (by first | rfl | decide) ?_
    obtain ⟨g_20, hf_19⟩ := (show tp_aj cy (5) (f_1 x_17) from hI.at hx_17)
    have hn_22 : vp_in 4 (5) := tl_in (by decide) (by decide)
    have hI9 : tp_I cy L K Γ (va_up f_1 x_17 (.inl (cy 1, 5, .inr (.inl (vp_updL g_20 (4 : Int32).toNatClampNeg x_3.toInt64))))) := hI.set hx_17 (show tp_aj cy (5) _ from ⟨_, rfl⟩)
    have hfr9 : ∀ b, (K b).1 ∉ ([23] : List Nat) → va_up f_1 x_17 (.inl (cy 1, 5, .inr (.inl (vp_updL g_20 (4 : Int32).toNatClampNeg x_3.toInt64)))) b = f b := tp_fr hfr hx_17 (by decide)
    refine tp_last (cy := cy) hx hb hK hP hD hS hx_17.1 hf_19 hn_22 dX5_setWeather_49 (fun H locs hP hD hS => ?_)
    have hP : va_P D vwCl (va_pl L (va_up f_1 x_17 (.inl (cy 1, 5, .inr (.inl (vp_updL g_20 (4 : Int32).toNatClampNeg x_3.toInt64)))))) H := hP
    generalize hfe : va_up f_1 x_17 (.inl (cy 1, 5, .inr (.inl (vp_updL g_20 (4 : Int32).toNatClampNeg x_3.toInt64)))) = f_23 at hP hI9 hfr9
    have hD : va_D A (va_pl L f_23) := tp_D hL hAL
    have hf_24 : f_23 x_17 = .inl (cy 1, 5, .inr (.inl (vp_updL g_20 (4 : Int32).toNatClampNeg x_3.toInt64))) := by rw [← hfe]; exact va_up_self _ _ _
    clear hfe
    have hI := hI9
    have hfr := hfr9
    clear hI9 hfr9
    exact W.vret hx hb hr (fun t ht hW => ⟨⟨f_23, rfl, trivial, by rw [ht]; exact hP, hI, hfr⟩, hS.F ht⟩) hS.2.2 dX5_setWeather_50
  · have c_15 : v2.toInt < (4 : Int) := tl_nle c_15
    refine lv_iload_n hx hb dX5_setWeather_11 rfl (lv_at hl 0 rfl) ?_
    refine lv_aload_n hx hb dX5_setWeather_12 rfl (lv_at hl 1 rfl) ?_
    obtain ⟨x_26, x_27, hf_25, hx_26, hx_27⟩ := (show tp_o_SUMS L K (0) 0 (Γ (22, 0, 0)) (f o) from hI0.at ho)
    refine tp_get (cy := cy) (ci := 5) (v := .ref x_26) (C := RX5) (T := TX5) (N := 2) hx hb hta inlX5 hown hK hP ho.1 ((tp_un hfr ho (by decide)).trans hf_25) rfl 0 (by decide) (hta _ wk_121) (fun _ h9 => h9) rfl dX5_setWeather_13 ?_
    obtain ⟨g_29, hf_28⟩ := (show tp_aj cy (5) (f_1 x_26) from hI.at hx_26)
    refine tp_alen (cy := cy) (t0 := 1) (v := 5) hx hb hK hP hx_26.1 rfl hf_28 rfl dX5_setWeather_16 ?_
    refine lv_icmp_ge (tgt := 39) hx hb dX5_setWeather_17 (by decide) (fun c_31 => ?_) (fun c_31 => ?_)
    · have c_31 : (5 : Int) ≤ v2.toInt := tl_le c_31
      exfalso; omega
    · have c_31 : v2.toInt < (5 : Int) := tl_nle c_31
      refine lv_aload_n hx hb dX5_setWeather_20 rfl (lv_at hl 1 rfl) ?_
      refine tp_get (cy := cy) (ci := 5) (v := .ref x_26) (C := RX5) (T := TX5) (N := 2) hx hb hta inlX5 hown hK hP ho.1 ((tp_un hfr ho (by decide)).trans hf_25) rfl 0 (by decide) (hta _ wk_121) (fun _ h9 => h9) rfl dX5_setWeather_21 ?_
      refine lv_iload_n hx hb dX5_setWeather_24 rfl (lv_at hl 0 rfl) ?_
      refine lv_aload_n hx hb dX5_setWeather_25 rfl (lv_at hl 2 rfl) ?_
      refine tp_getN (cy := cy) (ci := 0) (v := .ref x_4) (C := RX0) (T := TX0) (N := 9) hx hb hta inlX0 hown hK hP hq.1 ((tp_un hfr hq (by decide)).trans hf_2) rfl 1 (by decide) (va_Nw.use rfl (hN.1 18 _ nk_18)) (fun _ h9 => h9) rfl dX5_setWeather_26 ?_
      refine lv_iload_n hx hb dX5_setWeather_29 rfl (lv_at hl 0 rfl) ?_
      have hn_32 : vp_in v2 (4) := tl_in (by omega) (by omega)
      refine tp_iald (cy := cy) hx hb hK hP hx_4.1 ((tp_un hfr hx_4 (by decide)).trans hf_12) hn_32 dX5_setWeather_30 ?_
      refine lv_topi (fun z_33 ez_33 => ?_)
      have iz_33 : z_33.toInt = Γ (2, 4, w) v2.toInt.toNat := by rw [ez_33]; exact hg_14 _ (tp_pin hn_32)
      refine lv_i2l (v := z_33.toInt64) hx hb dX5_setWeather_31 (by first | rfl | decide) ?_
      have hn_34 : vp_in v2 (5) := tl_in (by omega) (by omega)
      have hI9 : tp_I cy L K Γ (va_up f_1 x_26 (.inl (cy 1, 5, .inr (.inl (vp_updL g_29 v2.toNatClampNeg z_33.toInt64))))) := hI.set hx_26 (show tp_aj cy (5) _ from ⟨_, rfl⟩)
      have hfr9 : ∀ b, (K b).1 ∉ ([23] : List Nat) → va_up f_1 x_26 (.inl (cy 1, 5, .inr (.inl (vp_updL g_29 v2.toNatClampNeg z_33.toInt64)))) b = f b := tp_fr hfr hx_26 (by decide)
      refine tp_last (cy := cy) hx hb hK hP hD hS hx_26.1 hf_28 hn_34 dX5_setWeather_32 (fun H locs hP hD hS => ?_)
      have hP : va_P D vwCl (va_pl L (va_up f_1 x_26 (.inl (cy 1, 5, .inr (.inl (vp_updL g_29 v2.toNatClampNeg z_33.toInt64)))))) H := hP
      generalize hfe : va_up f_1 x_26 (.inl (cy 1, 5, .inr (.inl (vp_updL g_29 v2.toNatClampNeg z_33.toInt64)))) = f_35 at hP hI9 hfr9
      have hD : va_D A (va_pl L f_35) := tp_D hL hAL
      have hf_36 : f_35 x_26 = .inl (cy 1, 5, .inr (.inl (vp_updL g_29 v2.toNatClampNeg z_33.toInt64))) := by rw [← hfe]; exact va_up_self _ _ _
      clear hfe
      have hI := hI9
      have hfr := hfr9
      clear hI9 hfr9
      obtain ⟨z_37, ez_37⟩ : ∃ y : Int32, y = v2 + 1 := ⟨_, rfl⟩
      refine lv_iinc (v := z_37) (lv' := [(2, .int z_37), (0, .ref o), (1, .ref q)]) hx hb dX5_setWeather_33 hl (k := 0) rfl (by rw [ez_37]; rfl) (by decide) rfl (fun ls hl => ?_)
      try have iz_37 : z_37.toInt = v2.toInt + 1 := by rw [ez_37]; exact tl_addL v2 1 (by decide) (by omega) (by omega)
      refine lv_goto (tgt := 2) hx hb dX5_setWeather_36 (by decide) ?_
      exact ih2 (f_35, z_37) H locs ls (by show (5 - z_37.toInt).toNat < (5 - v2.toInt).toNat; omega) ⟨(show 0 ≤ z_37.toInt from (by omega)), (show z_37.toInt ≤ 5 from (by omega)), hP, hI, hfr, hS, lv_sub hl [0, 1, 2] rfl⟩
set_option maxHeartbeats 4000000 in
set_option maxRecDepth 100000 in
theorem t_X5_worked (l : Launch) (D : va_G) (cy : Nat → ClassId) (sz : Nat) (L : List Nat) (K : Nat → tk_K) (Γ : tk_G) (f : Nat → va_E) (o : Nat) (q : Nat) (p0 : Int32) (p1 : Int32) (ho : tp_r L K 22 (0) 0 o) (hq : tp_r L K 18 (0) 0 q) : Met l yX5_worked (tl_w yX5_worked cX5_worked 8 (some .long)) ({ frames := 1, cells := 0, slots := 0, locals := 24 }) (va_Pc [.ref o, .ref q, .int p0, .int p1] (tp_P D cy L K Γ f sz)) (va_Ql (fun (r : Int64) (u : Nat → va_E) => True) (tp_B D cy L K Γ f [24]) (tp_A L sz)) 0 0 (tp_A L sz) := by
  refine Met.ofW (cc := cX5_worked) (maxL := 8) (ret := (some .long)) (by decide) rfl ?_
  intro p e s m args below meth c s₁ B hml hv
  obtain ⟨rfl, hsz, hP, hK, hL, hI, hN, hU⟩ := hv
  have hx := B.exec
  have hb := B.bytes
  have hr := B.returns
  have hta := tl_hta (atoms_spec (ws := tl_w yX5_worked cX5_worked 8 (some .long)) B.pre)
  have hown : s.vm.findClass RX5 = some m.cls := findClass_of_methodNamed B.named
  have hlocks := B.notSynchronized
  subst hsz
  have hI0 := hI
  generalize hAe : tp_A L s.heap.size = A
  have hA : ∀ q : Nat, s.heap.size ≤ q → A q := fun q h => by rw [← hAe]; exact Or.inr h
  have hAL : ∀ q ∈ L, A q := fun q h => by rw [← hAe]; exact Or.inl h
  have hAf : ∀ (H : Heap), s.heap.size ≤ H.size → ∀ q, tp_A L H.size q → A q := fun H h q hq => hq.elim (hAL q) (fun h2 => hA q (Nat.le_trans h h2))
  have hS : va_S A s.heap s.heap [] := va_S.rf
  have hD : va_D A (va_pl L f) := tp_D hL hAL
  have hfr : ∀ b, (K b).1 ∉ ([24] : List Nat) → f b = f b := fun _ _ => rfl
  have hl := lv_entry ([.ref o, .ref q, .int p0, .int p1]) (n := 8) (Nat.le_of_ble_eq_true rfl)
  rw [lg_entry_eq]
  generalize (lg_sl ([.ref o, .ref q, .int p0, .int p1]) ++ List.replicate (8 - (lg_sl ([.ref o, .ref q, .int p0, .int p1])).length) Slot.unset).toArray = ls at hl ⊢
  have hl : lv_has ls 8 [(0, .ref o), (1, .ref q), (2, .int p0), (3, .int p1)] := hl
  refine lv_iconst (v := 0) hx hb dX5_worked_0 (by decide) ?_
  refine lv_istore (lv' := [(4, .int 0), (0, .ref o), (1, .ref q), (2, .int p0), (3, .int p1)]) hx hb dX5_worked_1 hl (by decide) rfl (fun ls hl => ?_)
  refine lv_iconst (v := 0) hx hb dX5_worked_3 (by decide) ?_
  refine lv_iload_n hx hb dX5_worked_4 rfl (lv_at hl 3 rfl) ?_
  refine va_mmax hx hb (by rw [hml]; exact hl.1.symm) hown (hta _ wk_746) (hta _ wk_82) (hta _ wk_83) (hta _ wk_84) (Nat.le_of_ble_eq_true rfl) (Nat.le_of_ble_eq_true rfl) (Nat.le_of_ble_eq_true rfl) (Nat.le_of_ble_eq_true rfl) dX5_worked_5 ?_
  refine lv_topi (fun z_1 ez_1 => ?_)
  have iz_1 : (z_1.toInt = p0.toInt ∧ (0 : Int) ≤ p0.toInt) ∨ (z_1.toInt = (0 : Int) ∧ p0.toInt ≤ (0 : Int)) := by rw [ez_1]; exact tl_maxF
  refine lv_istore (lv' := [(5, .int z_1), (4, .int 0), (0, .ref o), (1, .ref q), (2, .int p0), (3, .int p1)]) hx hb dX5_worked_8 hl (by decide) rfl (fun ls hl => ?_)
  refine tq_start hP hS (fun H locs hP hS => ?_)
  refine tl_ind (G := fun H locs ls => W p l e ((headSpec (tl_w yX5_worked cX5_worked 8 (some .long)) ({ frames := 1, cells := 0, slots := 0, locals := 24 })).room) s m #[.ref o, .ref q, .int p0, .int p1] below meth c H locs 0 0 (MQ below (va_Ql (fun (r : Int64) (u : Nat → va_E) => True) (tp_B D cy L K Γ f [24]) A) #[.ref o, .ref q, .int p0, .int p1] s 0 0 A) (F0 m 10 ls [])) (α := (Nat → va_E) × Int32 × Int32) (fun aq => (400 - aq.2.1.toInt).toNat) (fun aq H locs ls => (0 ≤ aq.2.1.toInt) ∧ (0 ≤ aq.2.2.toInt ∧ aq.2.2.toInt ≤ 60) ∧ va_P D vwCl (va_pl L aq.1) H ∧ tp_I cy L K Γ aq.1 ∧ (∀ b, (K b).1 ∉ ([24] : List Nat) → aq.1 b = f b) ∧ va_S A s.heap H locs ∧ lv_has ls 8 [(5, .int aq.2.1), (4, .int aq.2.2), (0, .ref o), (1, .ref q), (2, .int p0), (3, .int p1)]) ?_ (f, z_1, (0 : Int32)) H locs ls ⟨(show 0 ≤ z_1.toInt from (by omega)), (show 0 ≤ (0 : Int) ∧ (0 : Int) ≤ 60 from (by omega)), hP, hI, hfr, hS, lv_sub hl [0, 1, 2, 3, 4, 5] rfl⟩
  rintro ⟨f_2, v5, v4⟩ H locs ls ⟨h0, h1, hP, hI, hfr, hS, hl⟩ ih10
  have hP : va_P D vwCl (va_pl L f_2) H := hP
  have hI : tp_I cy L K Γ f_2 := hI
  have hfr : ∀ b, (K b).1 ∉ ([24] : List Nat) → f_2 b = f b := hfr
  have hD : va_D A (va_pl L f_2) := tp_D hL hAL
  have h0 : 0 ≤ v5.toInt := h0
  have h1 : 0 ≤ v4.toInt ∧ v4.toInt ≤ 60 := h1
  have hl : lv_has ls 8 [(5, .int v5), (4, .int v4), (0, .ref o), (1, .ref q), (2, .int p0), (3, .int p1)] := hl
  refine lv_iload hx hb dX5_worked_10 (lv_at hl 0 rfl) ?_
  refine lv_iload_n hx hb dX5_worked_12 rfl (lv_at hl 5 rfl) ?_
  refine lv_icmp_ge (tgt := 182) hx hb dX5_worked_13 (by decide) (fun c_3 => ?_) (fun c_3 => ?_)
  · have c_3 : p1.toInt ≤ v5.toInt := tl_le c_3
    refine lv_iload hx hb dX5_worked_182 (lv_at hl 1 rfl) ?_
    refine lv_if_le (tgt := 199) hx hb dX5_worked_184 (by decide) (fun c_4 => ?_) (fun c_4 => ?_)
    · have c_4 : v4.toInt ≤ (0 : Int) := tl_le c_4
      refine lv_lconst (v := 0) hx hb dX5_worked_199 (by decide) ?_
      exact W.lret (v := 0) hx hb hr (fun t ht hW => ⟨⟨_, f_2, rfl, trivial, by rw [ht]; exact hP, hI, hfr⟩, hS.F ht⟩) hS.2.2 dX5_worked_200
    · have c_4 : (0 : Int) < v4.toInt := tl_nle c_4
      refine lv_aload_n hx hb dX5_worked_187 rfl (lv_at hl 2 rfl) ?_
      obtain ⟨x_6, x_7, hf_5, hx_6, hx_7⟩ := (show tp_o_SUMS L K (0) 0 (Γ (22, 0, 0)) (f o) from hI0.at ho)
      refine tp_get (cy := cy) (ci := 5) (v := .ref x_7) (C := RX5) (T := TX5) (N := 2) hx hb hta inlX5 hown hK hP ho.1 ((tp_un hfr ho (by decide)).trans hf_5) rfl 1 (by decide) (hta _ wk_122) (fun _ h9 => h9) rfl dX5_worked_188 ?_
      refine lv_iload hx hb dX5_worked_191 (lv_at hl 1 rfl) ?_
      refine lv_iconst (v := 1) hx hb dX5_worked_193 (by decide) ?_
      refine lv_isub hx hb dX5_worked_194 ?_
      refine lv_topi (fun z_8 ez_8 => ?_)
      try have iz_8 : z_8.toInt = v4.toInt - (1 : Int) := by rw [ez_8]; exact tl_subN v4 1 rfl rfl (by omega) (by omega)
      obtain ⟨g_10, hf_9⟩ := (show tp_aj cy (60) (f_2 x_7) from hI.at hx_7)
      have hn_12 : vp_in z_8 (60) := tl_in (by omega) (by omega)
      refine tp_lald (cy := cy) hx hb hK hP hx_7.1 hf_9 hn_12 dX5_worked_195 ?_
      refine lv_topl (fun z_13 ez_13 => ?_)
      refine lv_goto (tgt := 200) hx hb dX5_worked_196 (by decide) ?_
      exact W.lret (v := z_13) hx hb hr (fun t ht hW => ⟨⟨_, f_2, rfl, trivial, by rw [ht]; exact hP, hI, hfr⟩, hS.F ht⟩) hS.2.2 dX5_worked_200
  · have c_3 : v5.toInt < p1.toInt := tl_nle c_3
    refine lv_iload hx hb dX5_worked_16 (lv_at hl 0 rfl) ?_
    refine lv_aload_n hx hb dX5_worked_18 rfl (lv_at hl 3 rfl) ?_
    obtain ⟨x_15, x_16, x_17, x_18, x_19, x_20, x_21, x_22, x_23, hf_14, hx_15, hx_16, hx_17, hx_18, hx_19, hx_20, hx_21, hx_22, hx_23⟩ := (show tp_o_TEXT L K (0) 0 (Γ (18, 0, 0)) (f q) from hI0.at hq)
    refine tp_getN (cy := cy) (ci := 7) (v := .ref x_22) (C := RX7) (T := TX7) (N := 9) hx hb hta inlX7 hown hK hP hq.1 ((tp_un hfr hq (by decide)).trans hf_14) rfl 7 (by decide) (va_Nw.use rfl (hN.1 54 _ nk_54)) (fun _ h9 => h9) rfl dX5_worked_19 ?_
    obtain ⟨g_25, hf_24, hg_26⟩ := (show tp_ai cy 21 (400) (f x_22) from hI0.at hx_22)
    refine tp_alen (cy := cy) (t0 := 0) (v := 400) hx hb hK hP hx_22.1 rfl ((tp_un hfr hx_22 (by decide)).trans hf_24) rfl dX5_worked_22 ?_
    refine lv_icmp_ge (tgt := 182) hx hb dX5_worked_23 (by decide) (fun c_27 => ?_) (fun c_27 => ?_)
    · have c_27 : (400 : Int) ≤ v5.toInt := tl_le c_27
      refine lv_iload hx hb dX5_worked_182 (lv_at hl 1 rfl) ?_
      refine lv_if_le (tgt := 199) hx hb dX5_worked_184 (by decide) (fun c_28 => ?_) (fun c_28 => ?_)
      · have c_28 : v4.toInt ≤ (0 : Int) := tl_le c_28
        refine lv_lconst (v := 0) hx hb dX5_worked_199 (by decide) ?_
        exact W.lret (v := 0) hx hb hr (fun t ht hW => ⟨⟨_, f_2, rfl, trivial, by rw [ht]; exact hP, hI, hfr⟩, hS.F ht⟩) hS.2.2 dX5_worked_200
      · have c_28 : (0 : Int) < v4.toInt := tl_nle c_28
        refine lv_aload_n hx hb dX5_worked_187 rfl (lv_at hl 2 rfl) ?_
        obtain ⟨x_30, x_31, hf_29, hx_30, hx_31⟩ := (show tp_o_SUMS L K (0) 0 (Γ (22, 0, 0)) (f o) from hI0.at ho)
        refine tp_get (cy := cy) (ci := 5) (v := .ref x_31) (C := RX5) (T := TX5) (N := 2) hx hb hta inlX5 hown hK hP ho.1 ((tp_un hfr ho (by decide)).trans hf_29) rfl 1 (by decide) (hta _ wk_122) (fun _ h9 => h9) rfl dX5_worked_188 ?_
        refine lv_iload hx hb dX5_worked_191 (lv_at hl 1 rfl) ?_
        refine lv_iconst (v := 1) hx hb dX5_worked_193 (by decide) ?_
        refine lv_isub hx hb dX5_worked_194 ?_
        refine lv_topi (fun z_32 ez_32 => ?_)
        try have iz_32 : z_32.toInt = v4.toInt - (1 : Int) := by rw [ez_32]; exact tl_subN v4 1 rfl rfl (by omega) (by omega)
        obtain ⟨g_34, hf_33⟩ := (show tp_aj cy (60) (f_2 x_31) from hI.at hx_31)
        have hn_36 : vp_in z_32 (60) := tl_in (by omega) (by omega)
        refine tp_lald (cy := cy) hx hb hK hP hx_31.1 hf_33 hn_36 dX5_worked_195 ?_
        refine lv_topl (fun z_37 ez_37 => ?_)
        refine lv_goto (tgt := 200) hx hb dX5_worked_196 (by decide) ?_
        exact W.lret (v := z_37) hx hb hr (fun t ht hW => ⟨⟨_, f_2, rfl, trivial, by rw [ht]; exact hP, hI, hfr⟩, hS.F ht⟩) hS.2.2 dX5_worked_200
    · have c_27 : v5.toInt < (400 : Int) := tl_nle c_27
      refine lv_aload_n hx hb dX5_worked_26 rfl (lv_at hl 3 rfl) ?_
      refine tp_getN (cy := cy) (ci := 7) (v := .ref x_22) (C := RX7) (T := TX7) (N := 9) hx hb hta inlX7 hown hK hP hq.1 ((tp_un hfr hq (by decide)).trans hf_14) rfl 7 (by decide) (va_Nw.use rfl (hN.1 54 _ nk_54)) (fun _ h9 => h9) rfl dX5_worked_27 ?_
      refine lv_iload hx hb dX5_worked_30 (lv_at hl 0 rfl) ?_
      have hn_38 : vp_in v5 (400) := tl_in (by omega) (by omega)
      refine tp_iald (cy := cy) hx hb hK hP hx_22.1 ((tp_un hfr hx_22 (by decide)).trans hf_24) hn_38 dX5_worked_32 ?_
      refine lv_topi (fun z_39 ez_39 => ?_)
      refine lv_bipush (v := 15) hx hb dX5_worked_33 (by decide) ?_
      refine lv_iand hx hb dX5_worked_35 ?_
      refine lv_topi (fun z_40 ez_40 => ?_)
      refine lv_istore (lv' := [(6, .int z_40), (5, .int v5), (4, .int v4), (0, .ref o), (1, .ref q), (2, .int p0), (3, .int p1)]) hx hb dX5_worked_36 hl (by decide) rfl (fun ls hl => ?_)
      refine lv_aload_n hx hb dX5_worked_38 rfl (lv_at hl 4 rfl) ?_
      refine tp_getN (cy := cy) (ci := 7) (v := .ref x_22) (C := RX7) (T := TX7) (N := 9) hx hb hta inlX7 hown hK hP hq.1 ((tp_un hfr hq (by decide)).trans hf_14) rfl 7 (by decide) (va_Nw.use rfl (hN.1 54 _ nk_54)) (fun _ h9 => h9) rfl dX5_worked_39 ?_
      refine lv_iload hx hb dX5_worked_42 (lv_at hl 1 rfl) ?_
      have hn_41 : vp_in v5 (400) := tl_in (by omega) (by omega)
      refine tp_iald (cy := cy) hx hb hK hP hx_22.1 ((tp_un hfr hx_22 (by decide)).trans hf_24) hn_41 dX5_worked_44 ?_
      refine lv_topi (fun z_42 ez_42 => ?_)
      obtain rfl : z_39 = z_42 := ez_39.trans ez_42.symm
      refine lv_iconst (v := 4) hx hb dX5_worked_45 (by decide) ?_
      refine lv_ishr hx hb dX5_worked_46 ?_
      refine lv_topi (fun z_43 ez_43 => ?_)
      refine lv_istore (lv' := [(7, .int z_43), (6, .int z_40), (5, .int v5), (4, .int v4), (0, .ref o), (1, .ref q), (2, .int p0), (3, .int p1)]) hx hb dX5_worked_47 hl (by decide) rfl (fun ls hl => ?_)
      refine lv_iload hx hb dX5_worked_49 (lv_at hl 1 rfl) ?_
      refine lv_iconst (v := 2) hx hb dX5_worked_51 (by decide) ?_
      refine lv_icmp_eq (tgt := 61) hx hb dX5_worked_52 (by decide) (fun c_44 => ?_) (fun c_44 => ?_)
      · have c_44 : z_40.toInt = (2 : Int) := tl_eq c_44
        refine lv_iload hx hb dX5_worked_61 (lv_at hl 3 rfl) ?_
        refine lv_aload_n hx hb dX5_worked_63 rfl (lv_at hl 4 rfl) ?_
        obtain ⟨x_46, x_47, hf_45, hx_46, hx_47⟩ := (show tp_o_SUMS L K (0) 0 (Γ (22, 0, 0)) (f o) from hI0.at ho)
        refine tp_get (cy := cy) (ci := 5) (v := .ref x_47) (C := RX5) (T := TX5) (N := 2) hx hb hta inlX5 hown hK hP ho.1 ((tp_un hfr ho (by decide)).trans hf_45) rfl 1 (by decide) (hta _ wk_122) (fun _ h9 => h9) rfl dX5_worked_64 ?_
        obtain ⟨g_49, hf_48⟩ := (show tp_aj cy (60) (f_2 x_47) from hI.at hx_47)
        refine tp_alen (cy := cy) (t0 := 1) (v := 60) hx hb hK hP hx_47.1 rfl hf_48 rfl dX5_worked_67 ?_
        refine lv_icmp_ge (tgt := 176) hx hb dX5_worked_68 (by decide) (fun c_51 => ?_) (fun c_51 => ?_)
        · have c_51 : (60 : Int) ≤ v4.toInt := tl_le c_51
          obtain ⟨z_52, ez_52⟩ : ∃ y : Int32, y = v5 + 1 := ⟨_, rfl⟩
          refine lv_iinc (v := z_52) (lv' := [(5, .int z_52), (7, .int z_43), (6, .int z_40), (4, .int v4), (0, .ref o), (1, .ref q), (2, .int p0), (3, .int p1)]) hx hb dX5_worked_176 hl (k := 2) rfl (by rw [ez_52]; rfl) (by decide) rfl (fun ls hl => ?_)
          try have iz_52 : z_52.toInt = v5.toInt + 1 := by rw [ez_52]; exact tl_addL v5 1 (by decide) (by omega) (by omega)
          refine lv_goto (tgt := 10) hx hb dX5_worked_179 (by decide) ?_
          exact ih10 (f_2, z_52, v4) H locs ls (by show (400 - z_52.toInt).toNat < (400 - v5.toInt).toNat; omega) ⟨(show 0 ≤ z_52.toInt from (by omega)), (show 0 ≤ v4.toInt ∧ v4.toInt ≤ 60 from (by omega)), hP, hI, hfr, hS, lv_sub hl [0, 3, 4, 5, 6, 7] rfl⟩
        · have c_51 : v4.toInt < (60 : Int) := tl_nle c_51
          refine lv_aload_n hx hb dX5_worked_71 rfl (lv_at hl 4 rfl) ?_
          refine tp_get (cy := cy) (ci := 5) (v := .ref x_47) (C := RX5) (T := TX5) (N := 2) hx hb hta inlX5 hown hK hP ho.1 ((tp_un hfr ho (by decide)).trans hf_45) rfl 1 (by decide) (hta _ wk_122) (fun _ h9 => h9) rfl dX5_worked_72 ?_
          refine lv_iload hx hb dX5_worked_75 (lv_at hl 3 rfl) ?_
          refine lv_iload hx hb dX5_worked_77 (lv_at hl 1 rfl) ?_
          refine lv_iconst (v := 2) hx hb dX5_worked_79 (by decide) ?_
          refine lv_icmp_ne (tgt := 89) hx hb dX5_worked_80 (by decide) (fun c_53 => ?_) (fun c_53 => ?_)
          · have c_53 : ¬ z_40.toInt = (2 : Int) := tl_neq c_53
            exfalso; omega
          · have c_53 : z_40.toInt = (2 : Int) := tl_eq c_53
            refine lv_iload hx hb dX5_worked_83 (lv_at hl 0 rfl) ?_
            refine lv_i2l (v := z_43.toInt64) hx hb dX5_worked_85 (by first | rfl | decide) ?_
            refine lv_goto (tgt := 95) hx hb dX5_worked_86 (by decide) ?_
            have hn_54 : vp_in v4 (60) := tl_in (by omega) (by omega)
            have hI9 : tp_I cy L K Γ (va_up f_2 x_47 (.inl (cy 1, 60, .inr (.inl (vp_updL g_49 v4.toNatClampNeg z_43.toInt64))))) := hI.set hx_47 (show tp_aj cy (60) _ from ⟨_, rfl⟩)
            have hfr9 : ∀ b, (K b).1 ∉ ([24] : List Nat) → va_up f_2 x_47 (.inl (cy 1, 60, .inr (.inl (vp_updL g_49 v4.toNatClampNeg z_43.toInt64)))) b = f b := tp_fr hfr hx_47 (by decide)
            refine tp_last (cy := cy) hx hb hK hP hD hS hx_47.1 hf_48 hn_54 dX5_worked_95 (fun H locs hP hD hS => ?_)
            have hP : va_P D vwCl (va_pl L (va_up f_2 x_47 (.inl (cy 1, 60, .inr (.inl (vp_updL g_49 v4.toNatClampNeg z_43.toInt64)))))) H := hP
            generalize hfe : va_up f_2 x_47 (.inl (cy 1, 60, .inr (.inl (vp_updL g_49 v4.toNatClampNeg z_43.toInt64)))) = f_55 at hP hI9 hfr9
            have hD : va_D A (va_pl L f_55) := tp_D hL hAL
            have hf_56 : f_55 x_47 = .inl (cy 1, 60, .inr (.inl (vp_updL g_49 v4.toNatClampNeg z_43.toInt64))) := by rw [← hfe]; exact va_up_self _ _ _
            clear hfe
            have hI := hI9
            have hfr := hfr9
            clear hI9 hfr9
            obtain ⟨z_57, ez_57⟩ : ∃ y : Int32, y = v4 + 1 := ⟨_, rfl⟩
            refine lv_iinc (v := z_57) (lv' := [(4, .int z_57), (7, .int z_43), (6, .int z_40), (5, .int v5), (0, .ref o), (1, .ref q), (2, .int p0), (3, .int p1)]) hx hb dX5_worked_96 hl (k := 3) rfl (by rw [ez_57]; rfl) (by decide) rfl (fun ls hl => ?_)
            try have iz_57 : z_57.toInt = v4.toInt + 1 := by rw [ez_57]; exact tl_addL v4 1 (by decide) (by omega) (by omega)
            refine lv_goto (tgt := 176) hx hb dX5_worked_99 (by decide) ?_
            obtain ⟨z_58, ez_58⟩ : ∃ y : Int32, y = v5 + 1 := ⟨_, rfl⟩
            refine lv_iinc (v := z_58) (lv' := [(5, .int z_58), (4, .int z_57), (7, .int z_43), (6, .int z_40), (0, .ref o), (1, .ref q), (2, .int p0), (3, .int p1)]) hx hb dX5_worked_176 hl (k := 3) rfl (by rw [ez_58]; rfl) (by decide) rfl (fun ls hl => ?_)
            try have iz_58 : z_58.toInt = v5.toInt + 1 := by rw [ez_58]; exact tl_addL v5 1 (by decide) (by omega) (by omega)
            refine lv_goto (tgt := 10) hx hb dX5_worked_179 (by decide) ?_
            exact ih10 (f_55, z_58, z_57) H locs ls (by show (400 - z_58.toInt).toNat < (400 - v5.toInt).toNat; omega) ⟨(show 0 ≤ z_58.toInt from (by omega)), (show 0 ≤ z_57.toInt ∧ z_57.toInt ≤ 60 from (by omega)), hP, hI, hfr, hS, lv_sub hl [0, 1, 4, 5, 6, 7] rfl⟩
      · have c_44 : ¬ z_40.toInt = (2 : Int) := tl_neq c_44
        refine lv_iload hx hb dX5_worked_55 (lv_at hl 1 rfl) ?_
        refine lv_iconst (v := 3) hx hb dX5_worked_57 (by decide) ?_
        refine lv_icmp_ne (tgt := 102) hx hb dX5_worked_58 (by decide) (fun c_59 => ?_) (fun c_59 => ?_)
        · have c_59 : ¬ z_40.toInt = (3 : Int) := tl_neq c_59
          refine lv_iload hx hb dX5_worked_102 (lv_at hl 1 rfl) ?_
          refine lv_bipush (v := 15) hx hb dX5_worked_104 (by decide) ?_
          refine lv_icmp_ne (tgt := 137) hx hb dX5_worked_106 (by decide) (fun c_60 => ?_) (fun c_60 => ?_)
          · have c_60 : ¬ z_40.toInt = (15 : Int) := tl_neq c_60
            refine lv_iload hx hb dX5_worked_137 (lv_at hl 3 rfl) ?_
            refine lv_iconst (v := 1) hx hb dX5_worked_139 (by decide) ?_
            refine lv_icmp_le (tgt := 176) hx hb dX5_worked_140 (by decide) (fun c_61 => ?_) (fun c_61 => ?_)
            · have c_61 : v4.toInt ≤ (1 : Int) := tl_le c_61
              obtain ⟨z_62, ez_62⟩ : ∃ y : Int32, y = v5 + 1 := ⟨_, rfl⟩
              refine lv_iinc (v := z_62) (lv' := [(5, .int z_62), (7, .int z_43), (6, .int z_40), (4, .int v4), (0, .ref o), (1, .ref q), (2, .int p0), (3, .int p1)]) hx hb dX5_worked_176 hl (k := 2) rfl (by rw [ez_62]; rfl) (by decide) rfl (fun ls hl => ?_)
              try have iz_62 : z_62.toInt = v5.toInt + 1 := by rw [ez_62]; exact tl_addL v5 1 (by decide) (by omega) (by omega)
              refine lv_goto (tgt := 10) hx hb dX5_worked_179 (by decide) ?_
              exact ih10 (f_2, z_62, v4) H locs ls (by show (400 - z_62.toInt).toNat < (400 - v5.toInt).toNat; omega) ⟨(show 0 ≤ z_62.toInt from (by omega)), (show 0 ≤ v4.toInt ∧ v4.toInt ≤ 60 from (by omega)), hP, hI, hfr, hS, lv_sub hl [0, 3, 4, 5, 6, 7] rfl⟩
            · have c_61 : (1 : Int) < v4.toInt := tl_nle c_61
              obtain ⟨z_63, ez_63⟩ : ∃ y : Int32, y = v4 + (-1) := ⟨_, rfl⟩
              refine lv_iinc (v := z_63) (lv' := [(4, .int z_63), (7, .int z_43), (6, .int z_40), (5, .int v5), (0, .ref o), (1, .ref q), (2, .int p0), (3, .int p1)]) hx hb dX5_worked_143 hl (k := 3) rfl (by rw [ez_63]; rfl) (by decide) rfl (fun ls hl => ?_)
              try have iz_63 : z_63.toInt = v4.toInt + -1 := by rw [ez_63]; exact tl_addL v4 (-1) (by decide) (by omega) (by omega)
              refine lv_aload_n hx hb dX5_worked_146 rfl (lv_at hl 4 rfl) ?_
              obtain ⟨x_65, x_66, hf_64, hx_65, hx_66⟩ := (show tp_o_SUMS L K (0) 0 (Γ (22, 0, 0)) (f o) from hI0.at ho)
              refine tp_get (cy := cy) (ci := 5) (v := .ref x_66) (C := RX5) (T := TX5) (N := 2) hx hb hta inlX5 hown hK hP ho.1 ((tp_un hfr ho (by decide)).trans hf_64) rfl 1 (by decide) (hta _ wk_122) (fun _ h9 => h9) rfl dX5_worked_147 ?_
              refine lv_iload hx hb dX5_worked_150 (lv_at hl 0 rfl) ?_
              refine lv_iconst (v := 1) hx hb dX5_worked_152 (by decide) ?_
              refine lv_isub hx hb dX5_worked_153 ?_
              refine lv_topi (fun z_67 ez_67 => ?_)
              try have iz_67 : z_67.toInt = z_63.toInt - (1 : Int) := by rw [ez_67]; exact tl_subN z_63 1 rfl rfl (by omega) (by omega)
              refine lv_iload hx hb dX5_worked_154 (lv_at hl 2 rfl) ?_
              refine lv_aload_n hx hb dX5_worked_156 rfl (lv_at hl 4 rfl) ?_
              refine tp_get (cy := cy) (ci := 5) (v := .ref x_66) (C := RX5) (T := TX5) (N := 2) hx hb hta inlX5 hown hK hP ho.1 ((tp_un hfr ho (by decide)).trans hf_64) rfl 1 (by decide) (hta _ wk_122) (fun _ h9 => h9) rfl dX5_worked_157 ?_
              refine lv_iload hx hb dX5_worked_160 (lv_at hl 0 rfl) ?_
              refine lv_iconst (v := 1) hx hb dX5_worked_162 (by decide) ?_
              refine lv_isub hx hb dX5_worked_163 ?_
              refine lv_topi (fun z_68 ez_68 => ?_)
              try have iz_68 : z_68.toInt = z_63.toInt - (1 : Int) := by rw [ez_68]; exact tl_subN z_63 1 rfl rfl (by omega) (by omega)
              obtain ⟨g_70, hf_69⟩ := (show tp_aj cy (60) (f_2 x_66) from hI.at hx_66)
              have hn_72 : vp_in z_68 (60) := tl_in (by omega) (by omega)
              refine tp_lald (cy := cy) hx hb hK hP hx_66.1 hf_69 hn_72 dX5_worked_164 ?_
              refine lv_topl (fun z_73 ez_73 => ?_)
              refine lv_aload_n hx hb dX5_worked_165 rfl (lv_at hl 4 rfl) ?_
              refine tp_get (cy := cy) (ci := 5) (v := .ref x_66) (C := RX5) (T := TX5) (N := 2) hx hb hta inlX5 hown hK hP ho.1 ((tp_un hfr ho (by decide)).trans hf_64) rfl 1 (by decide) (hta _ wk_122) (fun _ h9 => h9) rfl dX5_worked_166 ?_
              refine lv_iload hx hb dX5_worked_169 (lv_at hl 0 rfl) ?_
              have hn_74 : vp_in z_63 (60) := tl_in (by omega) (by omega)
              refine tp_lald (cy := cy) hx hb hK hP hx_66.1 hf_69 hn_74 dX5_worked_171 ?_
              refine lv_topl (fun z_75 ez_75 => ?_)
              refine tl_sl (tq_rS (As := [.int z_40, .long z_73, .long z_75]) (rest := [.int z_67, .ref x_66]) ⟨hx, hb, hml, hown, hta⟩ (tp_P.pre hK hN hL hU hI hP) lk_X5_68 (t_X5_joined l D cy H.size L K Γ f_2 z_40 z_73 z_75 ) rfl rfl ⟨Nat.le_of_ble_eq_true rfl, Nat.le_of_ble_eq_true rfl⟩ rfl hl.1 rfl (Nat.le_of_ble_eq_true rfl) dX5_worked_172 ⟨Nat.le_of_ble_eq_true rfl, Nat.le_of_ble_eq_true rfl⟩) (fun r_77 hw_76 => ?_)
              have hn_78 : vp_in z_67 (60) := tl_in (by omega) (by omega)
              have hI9 : tp_I cy L K Γ (va_up f_2 x_66 (.inl (cy 1, 60, .inr (.inl (vp_updL g_70 z_67.toNatClampNeg r_77))))) := hI.set hx_66 (show tp_aj cy (60) _ from ⟨_, rfl⟩)
              have hfr9 : ∀ b, (K b).1 ∉ ([24] : List Nat) → va_up f_2 x_66 (.inl (cy 1, 60, .inr (.inl (vp_updL g_70 z_67.toNatClampNeg r_77)))) b = f b := tp_fr hfr hx_66 (by decide)
              refine tp_last (cy := cy) hx hb hK hP hD hS hx_66.1 hf_69 hn_78 dX5_worked_175 (fun H locs hP hD hS => ?_)
              have hP : va_P D vwCl (va_pl L (va_up f_2 x_66 (.inl (cy 1, 60, .inr (.inl (vp_updL g_70 z_67.toNatClampNeg r_77)))))) H := hP
              generalize hfe : va_up f_2 x_66 (.inl (cy 1, 60, .inr (.inl (vp_updL g_70 z_67.toNatClampNeg r_77)))) = f_79 at hP hI9 hfr9
              have hD : va_D A (va_pl L f_79) := tp_D hL hAL
              have hf_80 : f_79 x_66 = .inl (cy 1, 60, .inr (.inl (vp_updL g_70 z_67.toNatClampNeg r_77))) := by rw [← hfe]; exact va_up_self _ _ _
              clear hfe
              have hI := hI9
              have hfr := hfr9
              clear hI9 hfr9
              obtain ⟨z_81, ez_81⟩ : ∃ y : Int32, y = v5 + 1 := ⟨_, rfl⟩
              refine lv_iinc (v := z_81) (lv' := [(5, .int z_81), (4, .int z_63), (7, .int z_43), (6, .int z_40), (0, .ref o), (1, .ref q), (2, .int p0), (3, .int p1)]) hx hb dX5_worked_176 hl (k := 3) rfl (by rw [ez_81]; rfl) (by decide) rfl (fun ls hl => ?_)
              try have iz_81 : z_81.toInt = v5.toInt + 1 := by rw [ez_81]; exact tl_addL v5 1 (by decide) (by omega) (by omega)
              refine lv_goto (tgt := 10) hx hb dX5_worked_179 (by decide) ?_
              exact ih10 (f_79, z_81, z_63) H locs ls (by show (400 - z_81.toInt).toNat < (400 - v5.toInt).toNat; omega) ⟨(show 0 ≤ z_81.toInt from (by omega)), (show 0 ≤ z_63.toInt ∧ z_63.toInt ≤ 60 from (by omega)), hP, hI, hfr, hS, lv_sub hl [0, 1, 4, 5, 6, 7] rfl⟩
          · have c_60 : z_40.toInt = (15 : Int) := tl_eq c_60
            refine lv_iload hx hb dX5_worked_109 (lv_at hl 3 rfl) ?_
            refine lv_if_le (tgt := 176) hx hb dX5_worked_111 (by decide) (fun c_82 => ?_) (fun c_82 => ?_)
            · have c_82 : v4.toInt ≤ (0 : Int) := tl_le c_82
              obtain ⟨z_83, ez_83⟩ : ∃ y : Int32, y = v5 + 1 := ⟨_, rfl⟩
              refine lv_iinc (v := z_83) (lv' := [(5, .int z_83), (7, .int z_43), (6, .int z_40), (4, .int v4), (0, .ref o), (1, .ref q), (2, .int p0), (3, .int p1)]) hx hb dX5_worked_176 hl (k := 2) rfl (by rw [ez_83]; rfl) (by decide) rfl (fun ls hl => ?_)
              try have iz_83 : z_83.toInt = v5.toInt + 1 := by rw [ez_83]; exact tl_addL v5 1 (by decide) (by omega) (by omega)
              refine lv_goto (tgt := 10) hx hb dX5_worked_179 (by decide) ?_
              exact ih10 (f_2, z_83, v4) H locs ls (by show (400 - z_83.toInt).toNat < (400 - v5.toInt).toNat; omega) ⟨(show 0 ≤ z_83.toInt from (by omega)), (show 0 ≤ v4.toInt ∧ v4.toInt ≤ 60 from (by omega)), hP, hI, hfr, hS, lv_sub hl [0, 3, 4, 5, 6, 7] rfl⟩
            · have c_82 : (0 : Int) < v4.toInt := tl_nle c_82
              refine lv_aload_n hx hb dX5_worked_114 rfl (lv_at hl 4 rfl) ?_
              obtain ⟨x_85, x_86, hf_84, hx_85, hx_86⟩ := (show tp_o_SUMS L K (0) 0 (Γ (22, 0, 0)) (f o) from hI0.at ho)
              refine tp_get (cy := cy) (ci := 5) (v := .ref x_86) (C := RX5) (T := TX5) (N := 2) hx hb hta inlX5 hown hK hP ho.1 ((tp_un hfr ho (by decide)).trans hf_84) rfl 1 (by decide) (hta _ wk_122) (fun _ h9 => h9) rfl dX5_worked_115 ?_
              refine lv_iload hx hb dX5_worked_118 (lv_at hl 3 rfl) ?_
              refine lv_iconst (v := 1) hx hb dX5_worked_120 (by decide) ?_
              refine lv_isub hx hb dX5_worked_121 ?_
              refine lv_topi (fun z_87 ez_87 => ?_)
              try have iz_87 : z_87.toInt = v4.toInt - (1 : Int) := by rw [ez_87]; exact tl_subN v4 1 rfl rfl (by omega) (by omega)
              refine lv_lconst (v := 1) hx hb dX5_worked_122 (by decide) ?_
              refine lv_aload_n hx hb dX5_worked_123 rfl (lv_at hl 4 rfl) ?_
              refine tp_get (cy := cy) (ci := 5) (v := .ref x_86) (C := RX5) (T := TX5) (N := 2) hx hb hta inlX5 hown hK hP ho.1 ((tp_un hfr ho (by decide)).trans hf_84) rfl 1 (by decide) (hta _ wk_122) (fun _ h9 => h9) rfl dX5_worked_124 ?_
              refine lv_iload hx hb dX5_worked_127 (lv_at hl 3 rfl) ?_
              refine lv_iconst (v := 1) hx hb dX5_worked_129 (by decide) ?_
              refine lv_isub hx hb dX5_worked_130 ?_
              refine lv_topi (fun z_88 ez_88 => ?_)
              try have iz_88 : z_88.toInt = v4.toInt - (1 : Int) := by rw [ez_88]; exact tl_subN v4 1 rfl rfl (by omega) (by omega)
              obtain ⟨g_90, hf_89⟩ := (show tp_aj cy (60) (f_2 x_86) from hI.at hx_86)
              have hn_92 : vp_in z_88 (60) := tl_in (by omega) (by omega)
              refine tp_lald (cy := cy) hx hb hK hP hx_86.1 hf_89 hn_92 dX5_worked_131 ?_
              refine lv_topl (fun z_93 ez_93 => ?_)
              refine lv_lsub hx hb dX5_worked_132 ?_
              refine lv_topl (fun z_94 ez_94 => ?_)
              have hn_95 : vp_in z_87 (60) := tl_in (by omega) (by omega)
              have hI9 : tp_I cy L K Γ (va_up f_2 x_86 (.inl (cy 1, 60, .inr (.inl (vp_updL g_90 z_87.toNatClampNeg z_94))))) := hI.set hx_86 (show tp_aj cy (60) _ from ⟨_, rfl⟩)
              have hfr9 : ∀ b, (K b).1 ∉ ([24] : List Nat) → va_up f_2 x_86 (.inl (cy 1, 60, .inr (.inl (vp_updL g_90 z_87.toNatClampNeg z_94)))) b = f b := tp_fr hfr hx_86 (by decide)
              refine tp_last (cy := cy) hx hb hK hP hD hS hx_86.1 hf_89 hn_95 dX5_worked_133 (fun H locs hP hD hS => ?_)
              have hP : va_P D vwCl (va_pl L (va_up f_2 x_86 (.inl (cy 1, 60, .inr (.inl (vp_updL g_90 z_87.toNatClampNeg z_94)))))) H := hP
              generalize hfe : va_up f_2 x_86 (.inl (cy 1, 60, .inr (.inl (vp_updL g_90 z_87.toNatClampNeg z_94)))) = f_96 at hP hI9 hfr9
              have hD : va_D A (va_pl L f_96) := tp_D hL hAL
              have hf_97 : f_96 x_86 = .inl (cy 1, 60, .inr (.inl (vp_updL g_90 z_87.toNatClampNeg z_94))) := by rw [← hfe]; exact va_up_self _ _ _
              clear hfe
              have hI := hI9
              have hfr := hfr9
              clear hI9 hfr9
              refine lv_goto (tgt := 176) hx hb dX5_worked_134 (by decide) ?_
              obtain ⟨z_98, ez_98⟩ : ∃ y : Int32, y = v5 + 1 := ⟨_, rfl⟩
              refine lv_iinc (v := z_98) (lv' := [(5, .int z_98), (7, .int z_43), (6, .int z_40), (4, .int v4), (0, .ref o), (1, .ref q), (2, .int p0), (3, .int p1)]) hx hb dX5_worked_176 hl (k := 2) rfl (by rw [ez_98]; rfl) (by decide) rfl (fun ls hl => ?_)
              try have iz_98 : z_98.toInt = v5.toInt + 1 := by rw [ez_98]; exact tl_addL v5 1 (by decide) (by omega) (by omega)
              refine lv_goto (tgt := 10) hx hb dX5_worked_179 (by decide) ?_
              exact ih10 (f_96, z_98, v4) H locs ls (by show (400 - z_98.toInt).toNat < (400 - v5.toInt).toNat; omega) ⟨(show 0 ≤ z_98.toInt from (by omega)), (show 0 ≤ v4.toInt ∧ v4.toInt ≤ 60 from (by omega)), hP, hI, hfr, hS, lv_sub hl [0, 3, 4, 5, 6, 7] rfl⟩
        · have c_59 : z_40.toInt = (3 : Int) := tl_eq c_59
          refine lv_iload hx hb dX5_worked_61 (lv_at hl 3 rfl) ?_
          refine lv_aload_n hx hb dX5_worked_63 rfl (lv_at hl 4 rfl) ?_
          obtain ⟨x_100, x_101, hf_99, hx_100, hx_101⟩ := (show tp_o_SUMS L K (0) 0 (Γ (22, 0, 0)) (f o) from hI0.at ho)
          refine tp_get (cy := cy) (ci := 5) (v := .ref x_101) (C := RX5) (T := TX5) (N := 2) hx hb hta inlX5 hown hK hP ho.1 ((tp_un hfr ho (by decide)).trans hf_99) rfl 1 (by decide) (hta _ wk_122) (fun _ h9 => h9) rfl dX5_worked_64 ?_
          obtain ⟨g_103, hf_102⟩ := (show tp_aj cy (60) (f_2 x_101) from hI.at hx_101)
          refine tp_alen (cy := cy) (t0 := 1) (v := 60) hx hb hK hP hx_101.1 rfl hf_102 rfl dX5_worked_67 ?_
          refine lv_icmp_ge (tgt := 176) hx hb dX5_worked_68 (by decide) (fun c_105 => ?_) (fun c_105 => ?_)
          · have c_105 : (60 : Int) ≤ v4.toInt := tl_le c_105
            obtain ⟨z_106, ez_106⟩ : ∃ y : Int32, y = v5 + 1 := ⟨_, rfl⟩
            refine lv_iinc (v := z_106) (lv' := [(5, .int z_106), (7, .int z_43), (6, .int z_40), (4, .int v4), (0, .ref o), (1, .ref q), (2, .int p0), (3, .int p1)]) hx hb dX5_worked_176 hl (k := 2) rfl (by rw [ez_106]; rfl) (by decide) rfl (fun ls hl => ?_)
            try have iz_106 : z_106.toInt = v5.toInt + 1 := by rw [ez_106]; exact tl_addL v5 1 (by decide) (by omega) (by omega)
            refine lv_goto (tgt := 10) hx hb dX5_worked_179 (by decide) ?_
            exact ih10 (f_2, z_106, v4) H locs ls (by show (400 - z_106.toInt).toNat < (400 - v5.toInt).toNat; omega) ⟨(show 0 ≤ z_106.toInt from (by omega)), (show 0 ≤ v4.toInt ∧ v4.toInt ≤ 60 from (by omega)), hP, hI, hfr, hS, lv_sub hl [0, 3, 4, 5, 6, 7] rfl⟩
          · have c_105 : v4.toInt < (60 : Int) := tl_nle c_105
            refine lv_aload_n hx hb dX5_worked_71 rfl (lv_at hl 4 rfl) ?_
            refine tp_get (cy := cy) (ci := 5) (v := .ref x_101) (C := RX5) (T := TX5) (N := 2) hx hb hta inlX5 hown hK hP ho.1 ((tp_un hfr ho (by decide)).trans hf_99) rfl 1 (by decide) (hta _ wk_122) (fun _ h9 => h9) rfl dX5_worked_72 ?_
            refine lv_iload hx hb dX5_worked_75 (lv_at hl 3 rfl) ?_
            refine lv_iload hx hb dX5_worked_77 (lv_at hl 1 rfl) ?_
            refine lv_iconst (v := 2) hx hb dX5_worked_79 (by decide) ?_
            refine lv_icmp_ne (tgt := 89) hx hb dX5_worked_80 (by decide) (fun c_107 => ?_) (fun c_107 => ?_)
            · have c_107 : ¬ z_40.toInt = (2 : Int) := tl_neq c_107
              refine lv_aload_n hx hb dX5_worked_89 rfl (lv_at hl 4 rfl) ?_
              refine lv_iload hx hb dX5_worked_90 (lv_at hl 0 rfl) ?_
              refine tl_sl (tq_rV (As := [.int z_43]) (rest := [.int v4, .ref x_101]) ⟨hx, hb, hml, hown, hta⟩ (tp_P.pre hK hN hL hU hI hP) (tp_recv hK hP ho.1 ((tp_un hfr ho (by decide)).trans hf_99) rfl) lk_X5_64 (t_X5_wordAt l D cy H.size L K Γ f_2 o z_43 ho) rfl rfl ⟨Nat.le_of_ble_eq_true rfl, Nat.le_of_ble_eq_true rfl⟩ rfl hl.1 rfl (Nat.le_of_ble_eq_true rfl) dX5_worked_92 ⟨Nat.le_of_ble_eq_true rfl, Nat.le_of_ble_eq_true rfl⟩) (fun r_109 hw_108 => ?_)
              have hn_110 : vp_in v4 (60) := tl_in (by omega) (by omega)
              have hI9 : tp_I cy L K Γ (va_up f_2 x_101 (.inl (cy 1, 60, .inr (.inl (vp_updL g_103 v4.toNatClampNeg r_109))))) := hI.set hx_101 (show tp_aj cy (60) _ from ⟨_, rfl⟩)
              have hfr9 : ∀ b, (K b).1 ∉ ([24] : List Nat) → va_up f_2 x_101 (.inl (cy 1, 60, .inr (.inl (vp_updL g_103 v4.toNatClampNeg r_109)))) b = f b := tp_fr hfr hx_101 (by decide)
              refine tp_last (cy := cy) hx hb hK hP hD hS hx_101.1 hf_102 hn_110 dX5_worked_95 (fun H locs hP hD hS => ?_)
              have hP : va_P D vwCl (va_pl L (va_up f_2 x_101 (.inl (cy 1, 60, .inr (.inl (vp_updL g_103 v4.toNatClampNeg r_109)))))) H := hP
              generalize hfe : va_up f_2 x_101 (.inl (cy 1, 60, .inr (.inl (vp_updL g_103 v4.toNatClampNeg r_109)))) = f_111 at hP hI9 hfr9
              have hD : va_D A (va_pl L f_111) := tp_D hL hAL
              have hf_112 : f_111 x_101 = .inl (cy 1, 60, .inr (.inl (vp_updL g_103 v4.toNatClampNeg r_109))) := by rw [← hfe]; exact va_up_self _ _ _
              clear hfe
              have hI := hI9
              have hfr := hfr9
              clear hI9 hfr9
              obtain ⟨z_113, ez_113⟩ : ∃ y : Int32, y = v4 + 1 := ⟨_, rfl⟩
              refine lv_iinc (v := z_113) (lv' := [(4, .int z_113), (7, .int z_43), (6, .int z_40), (5, .int v5), (0, .ref o), (1, .ref q), (2, .int p0), (3, .int p1)]) hx hb dX5_worked_96 hl (k := 3) rfl (by rw [ez_113]; rfl) (by decide) rfl (fun ls hl => ?_)
              try have iz_113 : z_113.toInt = v4.toInt + 1 := by rw [ez_113]; exact tl_addL v4 1 (by decide) (by omega) (by omega)
              refine lv_goto (tgt := 176) hx hb dX5_worked_99 (by decide) ?_
              obtain ⟨z_114, ez_114⟩ : ∃ y : Int32, y = v5 + 1 := ⟨_, rfl⟩
              refine lv_iinc (v := z_114) (lv' := [(5, .int z_114), (4, .int z_113), (7, .int z_43), (6, .int z_40), (0, .ref o), (1, .ref q), (2, .int p0), (3, .int p1)]) hx hb dX5_worked_176 hl (k := 3) rfl (by rw [ez_114]; rfl) (by decide) rfl (fun ls hl => ?_)
              try have iz_114 : z_114.toInt = v5.toInt + 1 := by rw [ez_114]; exact tl_addL v5 1 (by decide) (by omega) (by omega)
              refine lv_goto (tgt := 10) hx hb dX5_worked_179 (by decide) ?_
              exact ih10 (f_111, z_114, z_113) H locs ls (by show (400 - z_114.toInt).toNat < (400 - v5.toInt).toNat; omega) ⟨(show 0 ≤ z_114.toInt from (by omega)), (show 0 ≤ z_113.toInt ∧ z_113.toInt ≤ 60 from (by omega)), hP, hI, hfr, hS, lv_sub hl [0, 1, 4, 5, 6, 7] rfl⟩
            · have c_107 : z_40.toInt = (2 : Int) := tl_eq c_107
              exfalso; omega
set_option maxHeartbeats 4000000 in
set_option maxRecDepth 100000 in
theorem t_X5_holds (l : Launch) (D : va_G) (cy : Nat → ClassId) (sz : Nat) (L : List Nat) (K : Nat → tk_K) (Γ : tk_G) (f : Nat → va_E) (o : Nat) (q : Nat) (p0 : Int32) (ho : tp_r L K 22 (0) 0 o) (hq : tp_r L K 18 (0) 0 q) (hc : 0 ≤ p0.toInt ∧ p0.toInt ≤ 11) : Met l yX5_holds (tl_w yX5_holds cX5_holds 5 (some .boolean)) ({ frames := 2, cells := 0, slots := 0, locals := 51 }) (va_Pc [.ref o, .ref q, .int p0] (tp_P D cy L K Γ f sz)) (va_Qi (fun (r : Int32) (u : Nat → va_E) => tl_J r (True)) (tp_B D cy L K Γ f [24]) (tp_A L sz)) 0 0 (tp_A L sz) := by
  refine Met.ofW (cc := cX5_holds) (maxL := 5) (ret := (some .boolean)) (by decide) rfl ?_
  intro p e s m args below meth c s₁ B hml hv
  obtain ⟨rfl, hsz, hP, hK, hL, hI, hN, hU⟩ := hv
  have hx := B.exec
  have hb := B.bytes
  have hr := B.returns
  have hta := tl_hta (atoms_spec (ws := tl_w yX5_holds cX5_holds 5 (some .boolean)) B.pre)
  have hown : s.vm.findClass RX5 = some m.cls := findClass_of_methodNamed B.named
  have hlocks := B.notSynchronized
  subst hsz
  have hI0 := hI
  generalize hAe : tp_A L s.heap.size = A
  have hA : ∀ q : Nat, s.heap.size ≤ q → A q := fun q h => by rw [← hAe]; exact Or.inr h
  have hAL : ∀ q ∈ L, A q := fun q h => by rw [← hAe]; exact Or.inl h
  have hAf : ∀ (H : Heap), s.heap.size ≤ H.size → ∀ q, tp_A L H.size q → A q := fun H h q hq => hq.elim (hAL q) (fun h2 => hA q (Nat.le_trans h h2))
  have hS : va_S A s.heap s.heap [] := va_S.rf
  have hD : va_D A (va_pl L f) := tp_D hL hAL
  have hfr : ∀ b, (K b).1 ∉ ([24] : List Nat) → f b = f b := fun _ _ => rfl
  have hl := lv_entry ([.ref o, .ref q, .int p0]) (n := 5) (Nat.le_of_ble_eq_true rfl)
  rw [lg_entry_eq]
  generalize (lg_sl ([.ref o, .ref q, .int p0]) ++ List.replicate (5 - (lg_sl ([.ref o, .ref q, .int p0])).length) Slot.unset).toArray = ls at hl ⊢
  have hl : lv_has ls 5 [(0, .ref o), (1, .ref q), (2, .int p0)] := hl
  refine lv_aload_n hx hb dX5_holds_0 rfl (lv_at hl 1 rfl) ?_
  obtain ⟨x_2, x_3, x_4, x_5, x_6, x_7, x_8, x_9, x_10, hf_1, hx_2, hx_3, hx_4, hx_5, hx_6, hx_7, hx_8, hx_9, hx_10⟩ := (show tp_o_TEXT L K (0) 0 (Γ (18, 0, 0)) (f q) from hI0.at hq)
  refine tp_getN (cy := cy) (ci := 7) (v := .ref x_7) (C := RX7) (T := TX7) (N := 9) hx hb hta inlX7 hown hK hP hq.1 hf_1 rfl 5 (by decide) (va_Nw.use rfl (hN.1 49 _ nk_49)) (fun _ h9 => h9) rfl dX5_holds_1 ?_
  refine lv_iload_n hx hb dX5_holds_4 rfl (lv_at hl 2 rfl) ?_
  obtain ⟨g_12, hf_11, hg_13⟩ := (show tp_ai cy 20 (12) (f x_7) from hI0.at hx_7)
  have hn_14 : vp_in p0 (12) := tl_in (by omega) (by omega)
  refine tp_iald (cy := cy) hx hb hK hP hx_7.1 hf_11 hn_14 dX5_holds_5 ?_
  refine lv_topi (fun z_15 ez_15 => ?_)
  refine lv_istore_n (lv' := [(3, .int z_15), (0, .ref o), (1, .ref q), (2, .int p0)]) hx hb dX5_holds_6 rfl hl (by decide) rfl (fun ls hl => ?_)
  refine lv_aload_n hx hb dX5_holds_7 rfl (lv_at hl 2 rfl) ?_
  refine tp_getN (cy := cy) (ci := 7) (v := .ref x_8) (C := RX7) (T := TX7) (N := 9) hx hb hta inlX7 hown hK hP hq.1 hf_1 rfl 6 (by decide) (va_Nw.use rfl (hN.1 52 _ nk_52)) (fun _ h9 => h9) rfl dX5_holds_8 ?_
  refine lv_iload_n hx hb dX5_holds_11 rfl (lv_at hl 3 rfl) ?_
  obtain ⟨g_17, hf_16, hg_18⟩ := (show tp_ai cy 20 (12) (f x_8) from hI0.at hx_8)
  have hn_19 : vp_in p0 (12) := tl_in (by omega) (by omega)
  refine tp_iald (cy := cy) hx hb hK hP hx_8.1 hf_16 hn_19 dX5_holds_12 ?_
  refine lv_topi (fun z_20 ez_20 => ?_)
  refine lv_istore (lv' := [(4, .int z_20), (3, .int z_15), (0, .ref o), (1, .ref q), (2, .int p0)]) hx hb dX5_holds_13 hl (by decide) rfl (fun ls hl => ?_)
  refine lv_iload_n hx hb dX5_holds_15 rfl (lv_at hl 1 rfl) ?_
  refine lv_iload hx hb dX5_holds_16 (lv_at hl 0 rfl) ?_
  refine lv_icmp_ge (tgt := 34) hx hb dX5_holds_18 (by decide) (fun c_21 => ?_) (fun c_21 => ?_)
  · have c_21 : z_20.toInt ≤ z_15.toInt := tl_le c_21
    refine lv_iconst (v := 1) hx hb dX5_holds_34 (by decide) ?_
    refine lv_goto (tgt := 39) hx hb dX5_holds_35 (by decide) ?_
    exact W.zret (ty := .boolean) (v := 1) hx hb hr rfl (fun t ht hW => ⟨⟨_, f, rfl, (Or.inl ⟨rfl, trivial⟩), by rw [ht]; exact hP, hI, hfr⟩, hS.F ht⟩) hS.2.2 dX5_holds_39
  · have c_21 : z_15.toInt < z_20.toInt := tl_nle c_21
    refine lv_aload_n hx hb dX5_holds_21 rfl (lv_at hl 2 rfl) ?_
    refine lv_aload_n hx hb dX5_holds_22 rfl (lv_at hl 3 rfl) ?_
    refine lv_iload_n hx hb dX5_holds_23 rfl (lv_at hl 1 rfl) ?_
    refine lv_iload hx hb dX5_holds_24 (lv_at hl 0 rfl) ?_
    obtain ⟨x_23, x_24, hf_22, hx_23, hx_24⟩ := (show tp_o_SUMS L K (0) 0 (Γ (22, 0, 0)) (f o) from hI0.at ho)
    refine tq_cl hS (hAf _ hS.1) (tq_rV (As := [.ref q, .int z_15, .int z_20]) (rest := []) ⟨hx, hb, hml, hown, hta⟩ (tp_P.pre hK hN hL hU hI hP) (tp_recv hK hP ho.1 hf_22 rfl) lk_X5_48 (t_X5_worked l D cy s.heap.size L K Γ f o q z_15 z_20 ho hq) rfl rfl ⟨Nat.le_of_ble_eq_true rfl, Nat.le_of_ble_eq_true rfl⟩ rfl hl.1 rfl (Nat.le_of_ble_eq_true rfl) dX5_holds_26 ⟨Nat.le_of_ble_eq_true rfl, Nat.le_of_ble_eq_true rfl⟩) (fun r_26 f_27 H locs hw_25 hP hI hc_28 hS => ?_)
    have hD : va_D A (va_pl L f_27) := tp_D hL hAL
    have hfr := tp_fr2 hfr hc_28 (by decide)
    refine lv_lconst (v := 0) hx hb dX5_holds_29 (by decide) ?_
    refine W.lcmp hx hb dX5_holds_30 ?_
    refine lv_if_eq (tgt := 38) hx hb dX5_holds_31 (by decide) (fun c_29 => ?_) (fun c_29 => ?_)
    · have c_29 : r_26.toInt = (0 : Int) := tl_cmp_eq c_29
      refine lv_iconst (v := 0) hx hb dX5_holds_38 (by decide) ?_
      exact W.zret (ty := .boolean) (v := 0) hx hb hr rfl (fun t ht hW => ⟨⟨_, f_27, rfl, (Or.inr rfl), by rw [ht]; exact hP, hI, hfr⟩, hS.F ht⟩) hS.2.2 dX5_holds_39
    · have c_29 : ¬ r_26.toInt = (0 : Int) := tl_cmp_neq c_29
      refine lv_iconst (v := 1) hx hb dX5_holds_34 (by decide) ?_
      refine lv_goto (tgt := 39) hx hb dX5_holds_35 (by decide) ?_
      exact W.zret (ty := .boolean) (v := 1) hx hb hr rfl (fun t ht hW => ⟨⟨_, f_27, rfl, (Or.inl ⟨rfl, trivial⟩), by rw [ht]; exact hP, hI, hfr⟩, hS.F ht⟩) hS.2.2 dX5_holds_39
set_option maxHeartbeats 4000000 in
set_option maxRecDepth 100000 in
theorem t_X5_sumOf (l : Launch) (D : va_G) (cy : Nat → ClassId) (sz : Nat) (L : List Nat) (K : Nat → tk_K) (Γ : tk_G) (f : Nat → va_E) (o : Nat) (q : Nat) (p0 : Int32) (ho : tp_r L K 22 (0) 0 o) (hq : tp_r L K 18 (0) 0 q) (hc : 0 ≤ p0.toInt ∧ p0.toInt ≤ 11) : Met l yX5_sumOf (tl_w yX5_sumOf cX5_sumOf 3 (some .long)) ({ frames := 2, cells := 0, slots := 0, locals := 51 }) (va_Pc [.ref o, .ref q, .int p0] (tp_P D cy L K Γ f sz)) (va_Ql (fun (r : Int64) (u : Nat → va_E) => True) (tp_B D cy L K Γ f [24]) (tp_A L sz)) 0 0 (tp_A L sz) := by
  refine Met.ofW (cc := cX5_sumOf) (maxL := 3) (ret := (some .long)) (by decide) rfl ?_
  intro p e s m args below meth c s₁ B hml hv
  obtain ⟨rfl, hsz, hP, hK, hL, hI, hN, hU⟩ := hv
  have hx := B.exec
  have hb := B.bytes
  have hr := B.returns
  have hta := tl_hta (atoms_spec (ws := tl_w yX5_sumOf cX5_sumOf 3 (some .long)) B.pre)
  have hown : s.vm.findClass RX5 = some m.cls := findClass_of_methodNamed B.named
  have hlocks := B.notSynchronized
  subst hsz
  have hI0 := hI
  generalize hAe : tp_A L s.heap.size = A
  have hA : ∀ q : Nat, s.heap.size ≤ q → A q := fun q h => by rw [← hAe]; exact Or.inr h
  have hAL : ∀ q ∈ L, A q := fun q h => by rw [← hAe]; exact Or.inl h
  have hAf : ∀ (H : Heap), s.heap.size ≤ H.size → ∀ q, tp_A L H.size q → A q := fun H h q hq => hq.elim (hAL q) (fun h2 => hA q (Nat.le_trans h h2))
  have hS : va_S A s.heap s.heap [] := va_S.rf
  have hD : va_D A (va_pl L f) := tp_D hL hAL
  have hfr : ∀ b, (K b).1 ∉ ([24] : List Nat) → f b = f b := fun _ _ => rfl
  have hl := lv_entry ([.ref o, .ref q, .int p0]) (n := 3) (Nat.le_of_ble_eq_true rfl)
  rw [lg_entry_eq]
  generalize (lg_sl ([.ref o, .ref q, .int p0]) ++ List.replicate (3 - (lg_sl ([.ref o, .ref q, .int p0])).length) Slot.unset).toArray = ls at hl ⊢
  have hl : lv_has ls 3 [(0, .ref o), (1, .ref q), (2, .int p0)] := hl
  refine lv_aload_n hx hb dX5_sumOf_0 rfl (lv_at hl 0 rfl) ?_
  refine lv_aload_n hx hb dX5_sumOf_1 rfl (lv_at hl 1 rfl) ?_
  refine lv_aload_n hx hb dX5_sumOf_2 rfl (lv_at hl 1 rfl) ?_
  obtain ⟨x_2, x_3, x_4, x_5, x_6, x_7, x_8, x_9, x_10, hf_1, hx_2, hx_3, hx_4, hx_5, hx_6, hx_7, hx_8, hx_9, hx_10⟩ := (show tp_o_TEXT L K (0) 0 (Γ (18, 0, 0)) (f q) from hI0.at hq)
  refine tp_getN (cy := cy) (ci := 7) (v := .ref x_6) (C := RX7) (T := TX7) (N := 9) hx hb hta inlX7 hown hK hP hq.1 hf_1 rfl 4 (by decide) (va_Nw.use rfl (hN.1 47 _ nk_47)) (fun _ h9 => h9) rfl dX5_sumOf_3 ?_
  refine lv_iload_n hx hb dX5_sumOf_6 rfl (lv_at hl 2 rfl) ?_
  obtain ⟨g_12, hf_11, hg_13⟩ := (show tp_ai cy 20 (12) (f x_6) from hI0.at hx_6)
  have hn_14 : vp_in p0 (12) := tl_in (by omega) (by omega)
  refine tp_iald (cy := cy) hx hb hK hP hx_6.1 hf_11 hn_14 dX5_sumOf_7 ?_
  refine lv_topi (fun z_15 ez_15 => ?_)
  refine lv_aload_n hx hb dX5_sumOf_8 rfl (lv_at hl 1 rfl) ?_
  refine tp_getN (cy := cy) (ci := 7) (v := .ref x_7) (C := RX7) (T := TX7) (N := 9) hx hb hta inlX7 hown hK hP hq.1 hf_1 rfl 5 (by decide) (va_Nw.use rfl (hN.1 49 _ nk_49)) (fun _ h9 => h9) rfl dX5_sumOf_9 ?_
  refine lv_iload_n hx hb dX5_sumOf_12 rfl (lv_at hl 2 rfl) ?_
  obtain ⟨g_17, hf_16, hg_18⟩ := (show tp_ai cy 20 (12) (f x_7) from hI0.at hx_7)
  have hn_19 : vp_in p0 (12) := tl_in (by omega) (by omega)
  refine tp_iald (cy := cy) hx hb hK hP hx_7.1 hf_16 hn_19 dX5_sumOf_13 ?_
  refine lv_topi (fun z_20 ez_20 => ?_)
  obtain ⟨x_22, x_23, hf_21, hx_22, hx_23⟩ := (show tp_o_SUMS L K (0) 0 (Γ (22, 0, 0)) (f o) from hI0.at ho)
  refine tq_cl hS (hAf _ hS.1) (tq_rV (As := [.ref q, .int z_15, .int z_20]) (rest := []) ⟨hx, hb, hml, hown, hta⟩ (tp_P.pre hK hN hL hU hI hP) (tp_recv hK hP ho.1 hf_21 rfl) lk_X5_48 (t_X5_worked l D cy s.heap.size L K Γ f o q z_15 z_20 ho hq) rfl rfl ⟨Nat.le_of_ble_eq_true rfl, Nat.le_of_ble_eq_true rfl⟩ rfl hl.1 rfl (Nat.le_of_ble_eq_true rfl) dX5_sumOf_14 ⟨Nat.le_of_ble_eq_true rfl, Nat.le_of_ble_eq_true rfl⟩) (fun r_25 f_26 H locs hw_24 hP hI hc_27 hS => ?_)
  have hD : va_D A (va_pl L f_26) := tp_D hL hAL
  have hfr := tp_fr2 hfr hc_27 (by decide)
  exact W.lret (v := r_25) hx hb hr (fun t ht hW => ⟨⟨_, f_26, rfl, trivial, by rw [ht]; exact hP, hI, hfr⟩, hS.F ht⟩) hS.2.2 dX5_sumOf_17
