theorem dX12_in_0 : decode cX12_in 0 = .ok (.lload_n 0, 1) := by decide +kernel
theorem dX12_in_1 : decode cX12_in 1 = .ok (.lload_n 2, 1) := by decide +kernel
theorem dX12_in_2 : decode cX12_in 2 = .ok (.lcmp, 1) := by decide +kernel
theorem dX12_in_3 : decode cX12_in 3 = .ok (.ifCond .lt 14, 3) := by decide +kernel
theorem dX12_in_6 : decode cX12_in 6 = .ok (.lload_n 0, 1) := by decide +kernel
theorem dX12_in_7 : decode cX12_in 7 = .ok (.lload 4, 2) := by decide +kernel
theorem dX12_in_9 : decode cX12_in 9 = .ok (.lcmp, 1) := by decide +kernel
theorem dX12_in_10 : decode cX12_in 10 = .ok (.ifCond .gt 7, 3) := by decide +kernel
theorem dX12_in_13 : decode cX12_in 13 = .ok (.iconst 1, 1) := by decide +kernel
theorem dX12_in_14 : decode cX12_in 14 = .ok (.goto 4, 3) := by decide +kernel
theorem dX12_in_17 : decode cX12_in 17 = .ok (.iconst 0, 1) := by decide +kernel
theorem dX12_in_18 : decode cX12_in 18 = .ok (.ireturn, 1) := by decide +kernel
theorem dX12_held_0 : decode cX12_held 0 = .ok (.lload_n 0, 1) := by decide +kernel
theorem dX12_held_1 : decode cX12_held 1 = .ok (.lload_n 2, 1) := by decide +kernel
theorem dX12_held_2 : decode cX12_held 2 = .ok (.lcmp, 1) := by decide +kernel
theorem dX12_held_3 : decode cX12_held 3 = .ok (.ifCond .ge 7, 3) := by decide +kernel
theorem dX12_held_6 : decode cX12_held 6 = .ok (.lload_n 2, 1) := by decide +kernel
theorem dX12_held_7 : decode cX12_held 7 = .ok (.goto 16, 3) := by decide +kernel
theorem dX12_held_10 : decode cX12_held 10 = .ok (.lload_n 0, 1) := by decide +kernel
theorem dX12_held_11 : decode cX12_held 11 = .ok (.lload 4, 2) := by decide +kernel
theorem dX12_held_13 : decode cX12_held 13 = .ok (.lcmp, 1) := by decide +kernel
theorem dX12_held_14 : decode cX12_held 14 = .ok (.ifCond .le 8, 3) := by decide +kernel
theorem dX12_held_17 : decode cX12_held 17 = .ok (.lload 4, 2) := by decide +kernel
theorem dX12_held_19 : decode cX12_held 19 = .ok (.goto 4, 3) := by decide +kernel
theorem dX12_held_22 : decode cX12_held 22 = .ok (.lload_n 0, 1) := by decide +kernel
theorem dX12_held_23 : decode cX12_held 23 = .ok (.lreturn, 1) := by decide +kernel
theorem dX12_down_0 : decode cX12_down 0 = .ok (.lload_n 0, 1) := by decide +kernel
theorem dX12_down_1 : decode cX12_down 1 = .ok (.lload_n 2, 1) := by decide +kernel
theorem dX12_down_2 : decode cX12_down 2 = .ok (.ldiv, 1) := by decide +kernel
theorem dX12_down_3 : decode cX12_down 3 = .ok (.lstore 4, 2) := by decide +kernel
theorem dX12_down_5 : decode cX12_down 5 = .ok (.lload 4, 2) := by decide +kernel
theorem dX12_down_7 : decode cX12_down 7 = .ok (.lload_n 2, 1) := by decide +kernel
theorem dX12_down_8 : decode cX12_down 8 = .ok (.lmul, 1) := by decide +kernel
theorem dX12_down_9 : decode cX12_down 9 = .ok (.lload_n 0, 1) := by decide +kernel
theorem dX12_down_10 : decode cX12_down 10 = .ok (.lcmp, 1) := by decide +kernel
theorem dX12_down_11 : decode cX12_down 11 = .ok (.ifCond .le 10, 3) := by decide +kernel
theorem dX12_down_14 : decode cX12_down 14 = .ok (.lload 4, 2) := by decide +kernel
theorem dX12_down_16 : decode cX12_down 16 = .ok (.lconst 1, 1) := by decide +kernel
theorem dX12_down_17 : decode cX12_down 17 = .ok (.lsub, 1) := by decide +kernel
theorem dX12_down_18 : decode cX12_down 18 = .ok (.goto 5, 3) := by decide +kernel
theorem dX12_down_21 : decode cX12_down 21 = .ok (.lload 4, 2) := by decide +kernel
theorem dX12_down_23 : decode cX12_down 23 = .ok (.lreturn, 1) := by decide +kernel
theorem dX12_size_0 : decode cX12_size 0 = .ok (.lload_n 0, 1) := by decide +kernel
theorem dX12_size_1 : decode cX12_size 1 = .ok (.lconst 0, 1) := by decide +kernel
theorem dX12_size_2 : decode cX12_size 2 = .ok (.lcmp, 1) := by decide +kernel
theorem dX12_size_3 : decode cX12_size 3 = .ok (.ifCond .ge 8, 3) := by decide +kernel
theorem dX12_size_6 : decode cX12_size 6 = .ok (.lload_n 0, 1) := by decide +kernel
theorem dX12_size_7 : decode cX12_size 7 = .ok (.lneg, 1) := by decide +kernel
theorem dX12_size_8 : decode cX12_size 8 = .ok (.goto 4, 3) := by decide +kernel
theorem dX12_size_11 : decode cX12_size 11 = .ok (.lload_n 0, 1) := by decide +kernel
theorem dX12_size_12 : decode cX12_size 12 = .ok (.lreturn, 1) := by decide +kernel
theorem dX12_isColour_0 : decode cX12_isColour 0 = .ok (.iload_n 0, 1) := by decide +kernel
theorem dX12_isColour_1 : decode cX12_isColour 1 = .ok (.ifCond .lt 14, 3) := by decide +kernel
theorem dX12_isColour_4 : decode cX12_isColour 4 = .ok (.iload_n 0, 1) := by decide +kernel
theorem dX12_isColour_5 : decode cX12_isColour 5 = .ok (.sipush 300, 3) := by decide +kernel
theorem dX12_isColour_8 : decode cX12_isColour 8 = .ok (.if_icmp .ge 7, 3) := by decide +kernel
theorem dX12_isColour_11 : decode cX12_isColour 11 = .ok (.iconst 1, 1) := by decide +kernel
theorem dX12_isColour_12 : decode cX12_isColour 12 = .ok (.goto 4, 3) := by decide +kernel
theorem dX12_isColour_15 : decode cX12_isColour 15 = .ok (.iconst 0, 1) := by decide +kernel
theorem dX12_isColour_16 : decode cX12_isColour 16 = .ok (.ireturn, 1) := by decide +kernel
theorem dX12_isWeek_0 : decode cX12_isWeek 0 = .ok (.iload_n 0, 1) := by decide +kernel
theorem dX12_isWeek_1 : decode cX12_isWeek 1 = .ok (.ifCond .lt 14, 3) := by decide +kernel
theorem dX12_isWeek_4 : decode cX12_isWeek 4 = .ok (.iload_n 0, 1) := by decide +kernel
theorem dX12_isWeek_5 : decode cX12_isWeek 5 = .ok (.sipush 400, 3) := by decide +kernel
theorem dX12_isWeek_8 : decode cX12_isWeek 8 = .ok (.if_icmp .ge 7, 3) := by decide +kernel
theorem dX12_isWeek_11 : decode cX12_isWeek 11 = .ok (.iconst 1, 1) := by decide +kernel
theorem dX12_isWeek_12 : decode cX12_isWeek 12 = .ok (.goto 4, 3) := by decide +kernel
theorem dX12_isWeek_15 : decode cX12_isWeek 15 = .ok (.iconst 0, 1) := by decide +kernel
theorem dX12_isWeek_16 : decode cX12_isWeek 16 = .ok (.ireturn, 1) := by decide +kernel
theorem dX12_strength_0 : decode cX12_strength 0 = .ok (.iload_n 0, 1) := by decide +kernel
theorem dX12_strength_1 : decode cX12_strength 1 = .ok (.bipush 13, 2) := by decide +kernel
theorem dX12_strength_3 : decode cX12_strength 3 = .ok (.if_icmp .ne 7, 3) := by decide +kernel
theorem dX12_strength_6 : decode cX12_strength 6 = .ok (.iconst 1, 1) := by decide +kernel
theorem dX12_strength_7 : decode cX12_strength 7 = .ok (.goto 24, 3) := by decide +kernel
theorem dX12_strength_10 : decode cX12_strength 10 = .ok (.iload_n 0, 1) := by decide +kernel
theorem dX12_strength_11 : decode cX12_strength 11 = .ok (.bipush 12, 2) := by decide +kernel
theorem dX12_strength_13 : decode cX12_strength 13 = .ok (.if_icmp .ne 7, 3) := by decide +kernel
theorem dX12_strength_16 : decode cX12_strength 16 = .ok (.iconst 2, 1) := by decide +kernel
theorem dX12_strength_17 : decode cX12_strength 17 = .ok (.goto 14, 3) := by decide +kernel
theorem dX12_strength_20 : decode cX12_strength 20 = .ok (.iload_n 0, 1) := by decide +kernel
theorem dX12_strength_21 : decode cX12_strength 21 = .ok (.bipush 11, 2) := by decide +kernel
theorem dX12_strength_23 : decode cX12_strength 23 = .ok (.if_icmp .ne 7, 3) := by decide +kernel
theorem dX12_strength_26 : decode cX12_strength 26 = .ok (.iconst 3, 1) := by decide +kernel
theorem dX12_strength_27 : decode cX12_strength 27 = .ok (.goto 4, 3) := by decide +kernel
theorem dX12_strength_30 : decode cX12_strength 30 = .ok (.iconst 0, 1) := by decide +kernel
theorem dX12_strength_31 : decode cX12_strength 31 = .ok (.ireturn, 1) := by decide +kernel
theorem dX12_one_0 : decode cX12_one 0 = .ok (.iload_n 0, 1) := by decide +kernel
theorem dX12_one_1 : decode cX12_one 1 = .ok (.tableswitch 149 2 12 #[59, 63, 67, 71, 85, 97, 109, 121, 133, 149, 145], 59) := by decide +kernel
theorem dX12_one_60 : decode cX12_one 60 = .ok (.lload_n 1, 1) := by decide +kernel
theorem dX12_one_61 : decode cX12_one 61 = .ok (.lload_n 3, 1) := by decide +kernel
theorem dX12_one_62 : decode cX12_one 62 = .ok (.ladd, 1) := by decide +kernel
theorem dX12_one_63 : decode cX12_one 63 = .ok (.lreturn, 1) := by decide +kernel
theorem dX12_one_64 : decode cX12_one 64 = .ok (.lload_n 1, 1) := by decide +kernel
theorem dX12_one_65 : decode cX12_one 65 = .ok (.lload_n 3, 1) := by decide +kernel
theorem dX12_one_66 : decode cX12_one 66 = .ok (.lsub, 1) := by decide +kernel
theorem dX12_one_67 : decode cX12_one 67 = .ok (.lreturn, 1) := by decide +kernel
theorem dX12_one_68 : decode cX12_one 68 = .ok (.lload_n 1, 1) := by decide +kernel
theorem dX12_one_69 : decode cX12_one 69 = .ok (.lload_n 3, 1) := by decide +kernel
theorem dX12_one_70 : decode cX12_one 70 = .ok (.lmul, 1) := by decide +kernel
theorem dX12_one_71 : decode cX12_one 71 = .ok (.lreturn, 1) := by decide +kernel
theorem dX12_one_72 : decode cX12_one 72 = .ok (.lload_n 3, 1) := by decide +kernel
theorem dX12_one_73 : decode cX12_one 73 = .ok (.lconst 0, 1) := by decide +kernel
theorem dX12_one_74 : decode cX12_one 74 = .ok (.lcmp, 1) := by decide +kernel
theorem dX12_one_75 : decode cX12_one 75 = .ok (.ifCond .ne 7, 3) := by decide +kernel
theorem dX12_one_78 : decode cX12_one 78 = .ok (.lconst 0, 1) := by decide +kernel
theorem dX12_one_79 : decode cX12_one 79 = .ok (.goto 6, 3) := by decide +kernel
theorem dX12_one_82 : decode cX12_one 82 = .ok (.lload_n 1, 1) := by decide +kernel
theorem dX12_one_83 : decode cX12_one 83 = .ok (.lload_n 3, 1) := by decide +kernel
theorem dX12_one_84 : decode cX12_one 84 = .ok (.ldiv, 1) := by decide +kernel
theorem dX12_one_85 : decode cX12_one 85 = .ok (.lreturn, 1) := by decide +kernel
theorem dX12_one_86 : decode cX12_one 86 = .ok (.lload_n 1, 1) := by decide +kernel
theorem dX12_one_87 : decode cX12_one 87 = .ok (.lload_n 3, 1) := by decide +kernel
theorem dX12_one_88 : decode cX12_one 88 = .ok (.lcmp, 1) := by decide +kernel
theorem dX12_one_89 : decode cX12_one 89 = .ok (.ifCond .ge 7, 3) := by decide +kernel
theorem dX12_one_92 : decode cX12_one 92 = .ok (.lconst 1, 1) := by decide +kernel
theorem dX12_one_93 : decode cX12_one 93 = .ok (.goto 4, 3) := by decide +kernel
theorem dX12_one_96 : decode cX12_one 96 = .ok (.lconst 0, 1) := by decide +kernel
theorem dX12_one_97 : decode cX12_one 97 = .ok (.lreturn, 1) := by decide +kernel
theorem dX12_one_98 : decode cX12_one 98 = .ok (.lload_n 1, 1) := by decide +kernel
theorem dX12_one_99 : decode cX12_one 99 = .ok (.lload_n 3, 1) := by decide +kernel
theorem dX12_one_100 : decode cX12_one 100 = .ok (.lcmp, 1) := by decide +kernel
theorem dX12_one_101 : decode cX12_one 101 = .ok (.ifCond .gt 7, 3) := by decide +kernel
theorem dX12_one_104 : decode cX12_one 104 = .ok (.lconst 1, 1) := by decide +kernel
theorem dX12_one_105 : decode cX12_one 105 = .ok (.goto 4, 3) := by decide +kernel
theorem dX12_one_108 : decode cX12_one 108 = .ok (.lconst 0, 1) := by decide +kernel
theorem dX12_one_109 : decode cX12_one 109 = .ok (.lreturn, 1) := by decide +kernel
theorem dX12_one_110 : decode cX12_one 110 = .ok (.lload_n 1, 1) := by decide +kernel
theorem dX12_one_111 : decode cX12_one 111 = .ok (.lload_n 3, 1) := by decide +kernel
theorem dX12_one_112 : decode cX12_one 112 = .ok (.lcmp, 1) := by decide +kernel
theorem dX12_one_113 : decode cX12_one 113 = .ok (.ifCond .ne 7, 3) := by decide +kernel
theorem dX12_one_116 : decode cX12_one 116 = .ok (.lconst 1, 1) := by decide +kernel
theorem dX12_one_117 : decode cX12_one 117 = .ok (.goto 4, 3) := by decide +kernel
theorem dX12_one_120 : decode cX12_one 120 = .ok (.lconst 0, 1) := by decide +kernel
theorem dX12_one_121 : decode cX12_one 121 = .ok (.lreturn, 1) := by decide +kernel
theorem dX12_one_122 : decode cX12_one 122 = .ok (.lload_n 1, 1) := by decide +kernel
theorem dX12_one_123 : decode cX12_one 123 = .ok (.lload_n 3, 1) := by decide +kernel
theorem dX12_one_124 : decode cX12_one 124 = .ok (.lcmp, 1) := by decide +kernel
theorem dX12_one_125 : decode cX12_one 125 = .ok (.ifCond .lt 7, 3) := by decide +kernel
theorem dX12_one_128 : decode cX12_one 128 = .ok (.lconst 1, 1) := by decide +kernel
theorem dX12_one_129 : decode cX12_one 129 = .ok (.goto 4, 3) := by decide +kernel
theorem dX12_one_132 : decode cX12_one 132 = .ok (.lconst 0, 1) := by decide +kernel
theorem dX12_one_133 : decode cX12_one 133 = .ok (.lreturn, 1) := by decide +kernel
theorem dX12_one_134 : decode cX12_one 134 = .ok (.lload_n 1, 1) := by decide +kernel
theorem dX12_one_135 : decode cX12_one 135 = .ok (.lload_n 3, 1) := by decide +kernel
theorem dX12_one_136 : decode cX12_one 136 = .ok (.lcmp, 1) := by decide +kernel
theorem dX12_one_137 : decode cX12_one 137 = .ok (.ifCond .le 7, 3) := by decide +kernel
theorem dX12_one_140 : decode cX12_one 140 = .ok (.lconst 1, 1) := by decide +kernel
theorem dX12_one_141 : decode cX12_one 141 = .ok (.goto 4, 3) := by decide +kernel
theorem dX12_one_144 : decode cX12_one 144 = .ok (.lconst 0, 1) := by decide +kernel
theorem dX12_one_145 : decode cX12_one 145 = .ok (.lreturn, 1) := by decide +kernel
theorem dX12_one_146 : decode cX12_one 146 = .ok (.lload_n 1, 1) := by decide +kernel
theorem dX12_one_147 : decode cX12_one 147 = .ok (.lload_n 3, 1) := by decide +kernel
theorem dX12_one_148 : decode cX12_one 148 = .ok (.land, 1) := by decide +kernel
theorem dX12_one_149 : decode cX12_one 149 = .ok (.lreturn, 1) := by decide +kernel
theorem dX12_one_150 : decode cX12_one 150 = .ok (.lload_n 1, 1) := by decide +kernel
theorem dX12_one_151 : decode cX12_one 151 = .ok (.lload_n 3, 1) := by decide +kernel
theorem dX12_one_152 : decode cX12_one 152 = .ok (.lor, 1) := by decide +kernel
theorem dX12_one_153 : decode cX12_one 153 = .ok (.lreturn, 1) := by decide +kernel
theorem dX12_mostOf_0 : decode cX12_mostOf 0 = .ok (.iload_n 0, 1) := by decide +kernel
theorem dX12_mostOf_1 : decode cX12_mostOf 1 = .ok (.ifCond .ne 8, 3) := by decide +kernel
theorem dX12_mostOf_4 : decode cX12_mostOf 4 = .ok (.bipush 6, 2) := by decide +kernel
theorem dX12_mostOf_6 : decode cX12_mostOf 6 = .ok (.goto 15, 3) := by decide +kernel
theorem dX12_mostOf_9 : decode cX12_mostOf 9 = .ok (.iload_n 0, 1) := by decide +kernel
theorem dX12_mostOf_10 : decode cX12_mostOf 10 = .ok (.iconst 1, 1) := by decide +kernel
theorem dX12_mostOf_11 : decode cX12_mostOf 11 = .ok (.if_icmp .ne 8, 3) := by decide +kernel
theorem dX12_mostOf_14 : decode cX12_mostOf 14 = .ok (.bipush 8, 2) := by decide +kernel
theorem dX12_mostOf_16 : decode cX12_mostOf 16 = .ok (.goto 5, 3) := by decide +kernel
theorem dX12_mostOf_19 : decode cX12_mostOf 19 = .ok (.bipush 8, 2) := by decide +kernel
theorem dX12_mostOf_21 : decode cX12_mostOf 21 = .ok (.ireturn, 1) := by decide +kernel
theorem dX12_firstOf_0 : decode cX12_firstOf 0 = .ok (.iload_n 0, 1) := by decide +kernel
theorem dX12_firstOf_1 : decode cX12_firstOf 1 = .ok (.ifCond .ne 7, 3) := by decide +kernel
theorem dX12_firstOf_4 : decode cX12_firstOf 4 = .ok (.iconst 0, 1) := by decide +kernel
theorem dX12_firstOf_5 : decode cX12_firstOf 5 = .ok (.goto 15, 3) := by decide +kernel
theorem dX12_firstOf_8 : decode cX12_firstOf 8 = .ok (.iload_n 0, 1) := by decide +kernel
theorem dX12_firstOf_9 : decode cX12_firstOf 9 = .ok (.iconst 1, 1) := by decide +kernel
theorem dX12_firstOf_10 : decode cX12_firstOf 10 = .ok (.if_icmp .ne 8, 3) := by decide +kernel
theorem dX12_firstOf_13 : decode cX12_firstOf 13 = .ok (.bipush 6, 2) := by decide +kernel
theorem dX12_firstOf_15 : decode cX12_firstOf 15 = .ok (.goto 5, 3) := by decide +kernel
theorem dX12_firstOf_18 : decode cX12_firstOf 18 = .ok (.bipush 14, 2) := by decide +kernel
theorem dX12_firstOf_20 : decode cX12_firstOf 20 = .ok (.ireturn, 1) := by decide +kernel
theorem dX12_kindOf_0 : decode cX12_kindOf 0 = .ok (.iload_n 1, 1) := by decide +kernel
theorem dX12_kindOf_1 : decode cX12_kindOf 1 = .ok (.bipush 6, 2) := by decide +kernel
theorem dX12_kindOf_3 : decode cX12_kindOf 3 = .ok (.if_icmp .ge 7, 3) := by decide +kernel
theorem dX12_kindOf_6 : decode cX12_kindOf 6 = .ok (.iconst 0, 1) := by decide +kernel
theorem dX12_kindOf_7 : decode cX12_kindOf 7 = .ok (.goto 14, 3) := by decide +kernel
theorem dX12_kindOf_10 : decode cX12_kindOf 10 = .ok (.iload_n 1, 1) := by decide +kernel
theorem dX12_kindOf_11 : decode cX12_kindOf 11 = .ok (.bipush 14, 2) := by decide +kernel
theorem dX12_kindOf_13 : decode cX12_kindOf 13 = .ok (.if_icmp .ge 7, 3) := by decide +kernel
theorem dX12_kindOf_16 : decode cX12_kindOf 16 = .ok (.iconst 1, 1) := by decide +kernel
theorem dX12_kindOf_17 : decode cX12_kindOf 17 = .ok (.goto 4, 3) := by decide +kernel
theorem dX12_kindOf_20 : decode cX12_kindOf 20 = .ok (.iconst 2, 1) := by decide +kernel
theorem dX12_kindOf_21 : decode cX12_kindOf 21 = .ok (.ireturn, 1) := by decide +kernel
theorem dX12_isRow_0 : decode cX12_isRow 0 = .ok (.iload_n 1, 1) := by decide +kernel
theorem dX12_isRow_1 : decode cX12_isRow 1 = .ok (.ifCond .lt 17, 3) := by decide +kernel
theorem dX12_isRow_4 : decode cX12_isRow 4 = .ok (.iload_n 1, 1) := by decide +kernel
theorem dX12_isRow_5 : decode cX12_isRow 5 = .ok (.aload_n 0, 1) := by decide +kernel
theorem dX12_isRow_6 : decode cX12_isRow 6 = .ok (.getfield 7, 3) := by decide +kernel
theorem dX12_isRow_9 : decode cX12_isRow 9 = .ok (.iconst 1, 1) := by decide +kernel
theorem dX12_isRow_10 : decode cX12_isRow 10 = .ok (.iaload, 1) := by decide +kernel
theorem dX12_isRow_11 : decode cX12_isRow 11 = .ok (.if_icmp .ge 7, 3) := by decide +kernel
theorem dX12_isRow_14 : decode cX12_isRow 14 = .ok (.iconst 1, 1) := by decide +kernel
theorem dX12_isRow_15 : decode cX12_isRow 15 = .ok (.goto 4, 3) := by decide +kernel
theorem dX12_isRow_18 : decode cX12_isRow 18 = .ok (.iconst 0, 1) := by decide +kernel
theorem dX12_isRow_19 : decode cX12_isRow 19 = .ok (.ireturn, 1) := by decide +kernel
theorem wk_149 : Cond.fieldLink RX12 7 "ThinLineModel" "said" "[I" ∈ tl_L := List.mem_filter.mpr ⟨lw_m6 (i := 65) rfl, rfl⟩
theorem dX12_rowOf_0 : decode cX12_rowOf 0 = .ok (.aload_n 0, 1) := by decide +kernel
theorem dX12_rowOf_1 : decode cX12_rowOf 1 = .ok (.getfield 7, 3) := by decide +kernel
theorem dX12_rowOf_4 : decode cX12_rowOf 4 = .ok (.bipush 9, 2) := by decide +kernel
theorem dX12_rowOf_6 : decode cX12_rowOf 6 = .ok (.iconst 3, 1) := by decide +kernel
theorem dX12_rowOf_7 : decode cX12_rowOf 7 = .ok (.iload_n 1, 1) := by decide +kernel
theorem dX12_rowOf_8 : decode cX12_rowOf 8 = .ok (.imul, 1) := by decide +kernel
theorem dX12_rowOf_9 : decode cX12_rowOf 9 = .ok (.iadd, 1) := by decide +kernel
theorem dX12_rowOf_10 : decode cX12_rowOf 10 = .ok (.iload_n 2, 1) := by decide +kernel
theorem dX12_rowOf_11 : decode cX12_rowOf 11 = .ok (.iadd, 1) := by decide +kernel
theorem dX12_rowOf_12 : decode cX12_rowOf 12 = .ok (.iaload, 1) := by decide +kernel
theorem dX12_rowOf_13 : decode cX12_rowOf 13 = .ok (.ireturn, 1) := by decide +kernel
theorem dX12_lineOf_0 : decode cX12_lineOf 0 = .ok (.aload_n 0, 1) := by decide +kernel
theorem dX12_lineOf_1 : decode cX12_lineOf 1 = .ok (.getfield 7, 3) := by decide +kernel
theorem dX12_lineOf_4 : decode cX12_lineOf 4 = .ok (.sipush 241, 3) := by decide +kernel
theorem dX12_lineOf_7 : decode cX12_lineOf 7 = .ok (.iconst 3, 1) := by decide +kernel
theorem dX12_lineOf_8 : decode cX12_lineOf 8 = .ok (.iload_n 1, 1) := by decide +kernel
theorem dX12_lineOf_9 : decode cX12_lineOf 9 = .ok (.imul, 1) := by decide +kernel
theorem dX12_lineOf_10 : decode cX12_lineOf 10 = .ok (.iadd, 1) := by decide +kernel
theorem dX12_lineOf_11 : decode cX12_lineOf 11 = .ok (.iload_n 2, 1) := by decide +kernel
theorem dX12_lineOf_12 : decode cX12_lineOf 12 = .ok (.iadd, 1) := by decide +kernel
theorem dX12_lineOf_13 : decode cX12_lineOf 13 = .ok (.iaload, 1) := by decide +kernel
theorem dX12_lineOf_14 : decode cX12_lineOf 14 = .ok (.ireturn, 1) := by decide +kernel
theorem dX12_isText_0 : decode cX12_isText 0 = .ok (.iload_n 2, 1) := by decide +kernel
theorem dX12_isText_1 : decode cX12_isText 1 = .ok (.ifCond .lt 17, 3) := by decide +kernel
theorem dX12_isText_4 : decode cX12_isText 4 = .ok (.iload_n 2, 1) := by decide +kernel
theorem dX12_isText_5 : decode cX12_isText 5 = .ok (.aload_n 0, 1) := by decide +kernel
theorem dX12_isText_6 : decode cX12_isText 6 = .ok (.getfield 17, 3) := by decide +kernel
theorem dX12_isText_9 : decode cX12_isText 9 = .ok (.iload_n 1, 1) := by decide +kernel
theorem dX12_isText_10 : decode cX12_isText 10 = .ok (.iaload, 1) := by decide +kernel
theorem dX12_isText_11 : decode cX12_isText 11 = .ok (.if_icmp .ge 7, 3) := by decide +kernel
theorem dX12_isText_14 : decode cX12_isText 14 = .ok (.iconst 1, 1) := by decide +kernel
theorem dX12_isText_15 : decode cX12_isText 15 = .ok (.goto 4, 3) := by decide +kernel
theorem dX12_isText_18 : decode cX12_isText 18 = .ok (.iconst 0, 1) := by decide +kernel
theorem dX12_isText_19 : decode cX12_isText 19 = .ok (.ireturn, 1) := by decide +kernel
theorem wk_152 : Cond.fieldLink RX12 17 "ThinLineModel" "texts" "[I" ∈ tl_L := List.mem_filter.mpr ⟨lw_m6 (i := 68) rfl, rfl⟩
theorem dX12_isKnown_0 : decode cX12_isKnown 0 = .ok (.aload_n 0, 1) := by decide +kernel
theorem dX12_isKnown_1 : decode cX12_isKnown 1 = .ok (.iload_n 1, 1) := by decide +kernel
theorem dX12_isKnown_2 : decode cX12_isKnown 2 = .ok (.iconst 2, 1) := by decide +kernel
theorem dX12_isKnown_3 : decode cX12_isKnown 3 = .ok (.invokevirtual 132, 3) := by decide +kernel
theorem dX12_isKnown_6 : decode cX12_isKnown 6 = .ok (.iload_n 2, 1) := by decide +kernel
theorem dX12_isKnown_7 : decode cX12_isKnown 7 = .ok (.if_icmp .gt 7, 3) := by decide +kernel
theorem dX12_isKnown_10 : decode cX12_isKnown 10 = .ok (.iconst 1, 1) := by decide +kernel
theorem dX12_isKnown_11 : decode cX12_isKnown 11 = .ok (.goto 4, 3) := by decide +kernel
theorem dX12_isKnown_14 : decode cX12_isKnown 14 = .ok (.iconst 0, 1) := by decide +kernel
theorem dX12_isKnown_15 : decode cX12_isKnown 15 = .ok (.ireturn, 1) := by decide +kernel
theorem wk_5 : Cond.initialized RX12 ∈ tl_L := List.mem_filter.mpr ⟨lw_m1 (i := 14) rfl, rfl⟩
theorem wk_275 : Cond.methodLink RX12 132 yX12_rowOf ∈ tl_L := List.mem_filter.mpr ⟨lw_m7 (i := 9) rfl, rfl⟩
theorem wk_276 : Cond.instanceMethod yX12_rowOf ∈ tl_L := List.mem_filter.mpr ⟨lw_m7 (i := 11) rfl, rfl⟩
theorem wk_277 : Cond.selects RX12 yX12_rowOf yX12_rowOf ∈ tl_L := List.mem_filter.mpr ⟨lw_s7 (i := 10) (q := (yX12_rowOf, 49)) rfl, rfl⟩
theorem wk_278 : Cond.code yX12_rowOf cX12_rowOf 3 (some .int) ∈ tl_L := List.mem_filter.mpr ⟨lw_m7 (i := 12) rfl, rfl⟩
theorem lk_X12_132 : tl_kV RX12 132 RX12 yX12_rowOf cX12_rowOf 3 (some .int) 2 := ⟨wk_278, wk_275, wk_276, wk_277, wk_5, ⟨by decide +kernel, by decide +kernel, by decide +kernel⟩⟩
theorem dX12_canAsk_0 : decode cX12_canAsk 0 = .ok (.aload_n 0, 1) := by decide +kernel
theorem dX12_canAsk_1 : decode cX12_canAsk 1 = .ok (.iconst 1, 1) := by decide +kernel
theorem dX12_canAsk_2 : decode cX12_canAsk 2 = .ok (.iload_n 1, 1) := by decide +kernel
theorem dX12_canAsk_3 : decode cX12_canAsk 3 = .ok (.invokevirtual 382, 3) := by decide +kernel
theorem dX12_canAsk_6 : decode cX12_canAsk 6 = .ok (.ifCond .eq 15, 3) := by decide +kernel
theorem dX12_canAsk_9 : decode cX12_canAsk 9 = .ok (.aload_n 0, 1) := by decide +kernel
theorem dX12_canAsk_10 : decode cX12_canAsk 10 = .ok (.iload_n 2, 1) := by decide +kernel
theorem dX12_canAsk_11 : decode cX12_canAsk 11 = .ok (.invokevirtual 120, 3) := by decide +kernel
theorem dX12_canAsk_14 : decode cX12_canAsk 14 = .ok (.ifCond .eq 7, 3) := by decide +kernel
theorem dX12_canAsk_17 : decode cX12_canAsk 17 = .ok (.iconst 1, 1) := by decide +kernel
theorem dX12_canAsk_18 : decode cX12_canAsk 18 = .ok (.goto 4, 3) := by decide +kernel
theorem dX12_canAsk_21 : decode cX12_canAsk 21 = .ok (.iconst 0, 1) := by decide +kernel
theorem dX12_canAsk_22 : decode cX12_canAsk 22 = .ok (.ireturn, 1) := by decide +kernel
theorem wk_249 : Cond.methodLink RX12 120 yX12_isRow ∈ tl_L := List.mem_filter.mpr ⟨lw_m6 (i := 231) rfl, rfl⟩
theorem wk_250 : Cond.instanceMethod yX12_isRow ∈ tl_L := List.mem_filter.mpr ⟨lw_m6 (i := 233) rfl, rfl⟩
theorem wk_251 : Cond.selects RX12 yX12_isRow yX12_isRow ∈ tl_L := List.mem_filter.mpr ⟨lw_s7 (i := 8) (q := (yX12_isRow, 49)) rfl, rfl⟩
theorem wk_252 : Cond.code yX12_isRow cX12_isRow 2 (some .boolean) ∈ tl_L := List.mem_filter.mpr ⟨lw_m6 (i := 234) rfl, rfl⟩
theorem wk_777 : Cond.methodLink RX12 382 yX12_isText ∈ tl_L := List.mem_filter.mpr ⟨lw_m7 (i := 202) rfl, rfl⟩
theorem wk_778 : Cond.instanceMethod yX12_isText ∈ tl_L := List.mem_filter.mpr ⟨lw_m7 (i := 204) rfl, rfl⟩
theorem wk_779 : Cond.selects RX12 yX12_isText yX12_isText ∈ tl_L := List.mem_filter.mpr ⟨lw_s9 (i := 10) (q := (yX12_isText, 49)) rfl, rfl⟩
theorem wk_780 : Cond.code yX12_isText cX12_isText 3 (some .boolean) ∈ tl_L := List.mem_filter.mpr ⟨lw_m7 (i := 205) rfl, rfl⟩
theorem lk_X12_120 : tl_kV RX12 120 RX12 yX12_isRow cX12_isRow 2 (some .boolean) 1 := ⟨wk_252, wk_249, wk_250, wk_251, wk_5, ⟨by decide +kernel, by decide +kernel, by decide +kernel⟩⟩
theorem lk_X12_382 : tl_kV RX12 382 RX12 yX12_isText cX12_isText 3 (some .boolean) 2 := ⟨wk_780, wk_777, wk_778, wk_779, wk_5, ⟨by decide +kernel, by decide +kernel, by decide +kernel⟩⟩
set_option maxHeartbeats 4000000 in
set_option maxRecDepth 100000 in
theorem r_X12_in (l : Launch) (D : va_G) (cy : Nat → ClassId) (sz : Nat) (L : List Nat) (K : Nat → tk_K) (Γ : tk_G) (f : Nat → va_E) (p0 : Int64) (p1 : Int64) (p2 : Int64)  : Met l yX12_in (tl_w yX12_in cX12_in 6 (some .boolean)) ({ frames := 0, cells := 0, slots := 0, locals := 0 }) (va_Pc [.long p0, .long p1, .long p2] (tp_P D cy L K Γ f sz)) (vp_Si (fun r : Int32 => tl_E r (p1.toInt ≤ p0.toInt ∧ p0.toInt ≤ p2.toInt) 1 0)) 0 0 (fun _ => False) := by
  refine Met.ofW (cc := cX12_in) (maxL := 6) (ret := (some .boolean)) (by decide) rfl ?_
  intro p e s m args below meth c s₁ B hml hv
  obtain ⟨rfl, hsz, hP, hK, hL, hI, hN, hU⟩ := hv
  have hx := B.exec
  have hb := B.bytes
  have hr := B.returns
  have hta := tl_hta (atoms_spec (ws := tl_w yX12_in cX12_in 6 (some .boolean)) B.pre)
  have hown : s.vm.findClass RX12 = some m.cls := findClass_of_methodNamed B.named
  have hlocks := B.notSynchronized
  subst hsz
  have hI0 := hI
  have hl := lv_entry ([.long p0, .long p1, .long p2]) (n := 6) (Nat.le_of_ble_eq_true rfl)
  rw [lg_entry_eq]
  generalize (lg_sl ([.long p0, .long p1, .long p2]) ++ List.replicate (6 - (lg_sl ([.long p0, .long p1, .long p2])).length) Slot.unset).toArray = ls at hl ⊢
  have hl : lv_has ls 6 [(0, .long p0), (2, .long p1), (4, .long p2)] := hl
  refine lv_lload_n hx hb dX12_in_0 rfl (lv_at hl 0 rfl) ?_
  refine lv_lload_n hx hb dX12_in_1 rfl (lv_at hl 1 rfl) ?_
  refine W.lcmp hx hb dX12_in_2 ?_
  refine lv_if_lt (tgt := 17) hx hb dX12_in_3 (by decide) (fun c_1 => ?_) (fun c_1 => ?_)
  · have c_1 : p0.toInt < p1.toInt := tl_cmp_lt c_1
    refine lv_iconst (v := 0) hx hb dX12_in_17 (by decide) ?_
    exact W.zret (ty := .boolean) (v := 0) hx hb hr rfl (fun t ht hW => ⟨_, rfl, (Or.inr ⟨by omega, rfl⟩), ht⟩) (fun q h => by cases h) dX12_in_18
  · have c_1 : p0.toInt ≥ p1.toInt := tl_cmp_nlt c_1
    refine lv_lload_n hx hb dX12_in_6 rfl (lv_at hl 0 rfl) ?_
    refine lv_lload hx hb dX12_in_7 (lv_at hl 2 rfl) ?_
    refine W.lcmp hx hb dX12_in_9 ?_
    refine lv_if_gt (tgt := 17) hx hb dX12_in_10 (by decide) (fun c_2 => ?_) (fun c_2 => ?_)
    · have c_2 : p0.toInt > p2.toInt := tl_cmp_gt c_2
      refine lv_iconst (v := 0) hx hb dX12_in_17 (by decide) ?_
      exact W.zret (ty := .boolean) (v := 0) hx hb hr rfl (fun t ht hW => ⟨_, rfl, (Or.inr ⟨by omega, rfl⟩), ht⟩) (fun q h => by cases h) dX12_in_18
    · have c_2 : p0.toInt ≤ p2.toInt := tl_cmp_ngt c_2
      refine lv_iconst (v := 1) hx hb dX12_in_13 (by decide) ?_
      refine lv_goto (tgt := 18) hx hb dX12_in_14 (by decide) ?_
      exact W.zret (ty := .boolean) (v := 1) hx hb hr rfl (fun t ht hW => ⟨_, rfl, (Or.inl ⟨by omega, rfl⟩), ht⟩) (fun q h => by cases h) dX12_in_18
set_option maxHeartbeats 4000000 in
set_option maxRecDepth 100000 in
theorem r_X12_held (l : Launch) (D : va_G) (cy : Nat → ClassId) (sz : Nat) (L : List Nat) (K : Nat → tk_K) (Γ : tk_G) (f : Nat → va_E) (p0 : Int64) (p1 : Int64) (p2 : Int64)  : Met l yX12_held (tl_w yX12_held cX12_held 6 (some .long)) ({ frames := 0, cells := 0, slots := 0, locals := 0 }) (va_Pc [.long p0, .long p1, .long p2] (tp_P D cy L K Γ f sz)) (vp_Sl (fun r : Int64 => True)) 0 0 (fun _ => False) := by
  refine Met.ofW (cc := cX12_held) (maxL := 6) (ret := (some .long)) (by decide) rfl ?_
  intro p e s m args below meth c s₁ B hml hv
  obtain ⟨rfl, hsz, hP, hK, hL, hI, hN, hU⟩ := hv
  have hx := B.exec
  have hb := B.bytes
  have hr := B.returns
  have hta := tl_hta (atoms_spec (ws := tl_w yX12_held cX12_held 6 (some .long)) B.pre)
  have hown : s.vm.findClass RX12 = some m.cls := findClass_of_methodNamed B.named
  have hlocks := B.notSynchronized
  subst hsz
  have hI0 := hI
  have hl := lv_entry ([.long p0, .long p1, .long p2]) (n := 6) (Nat.le_of_ble_eq_true rfl)
  rw [lg_entry_eq]
  generalize (lg_sl ([.long p0, .long p1, .long p2]) ++ List.replicate (6 - (lg_sl ([.long p0, .long p1, .long p2])).length) Slot.unset).toArray = ls at hl ⊢
  have hl : lv_has ls 6 [(0, .long p0), (2, .long p1), (4, .long p2)] := hl
  refine lv_lload_n hx hb dX12_held_0 rfl (lv_at hl 0 rfl) ?_
  refine lv_lload_n hx hb dX12_held_1 rfl (lv_at hl 1 rfl) ?_
  refine W.lcmp hx hb dX12_held_2 ?_
  refine lv_if_ge (tgt := 10) hx hb dX12_held_3 (by decide) (fun c_1 => ?_) (fun c_1 => ?_)
  · have c_1 : p0.toInt ≥ p1.toInt := tl_cmp_ge c_1
    refine lv_lload_n hx hb dX12_held_10 rfl (lv_at hl 0 rfl) ?_
    refine lv_lload hx hb dX12_held_11 (lv_at hl 2 rfl) ?_
    refine W.lcmp hx hb dX12_held_13 ?_
    refine lv_if_le (tgt := 22) hx hb dX12_held_14 (by decide) (fun c_2 => ?_) (fun c_2 => ?_)
    · have c_2 : p0.toInt ≤ p2.toInt := tl_cmp_le c_2
      refine lv_lload_n hx hb dX12_held_22 rfl (lv_at hl 0 rfl) ?_
      exact W.lret (v := p0) hx hb hr (fun t ht hW => ⟨_, rfl, trivial, ht⟩) (fun q h => by cases h) dX12_held_23
    · have c_2 : p0.toInt > p2.toInt := tl_cmp_nle c_2
      refine lv_lload hx hb dX12_held_17 (lv_at hl 2 rfl) ?_
      refine lv_goto (tgt := 23) hx hb dX12_held_19 (by decide) ?_
      exact W.lret (v := p2) hx hb hr (fun t ht hW => ⟨_, rfl, trivial, ht⟩) (fun q h => by cases h) dX12_held_23
  · have c_1 : p0.toInt < p1.toInt := tl_cmp_nge c_1
    refine lv_lload_n hx hb dX12_held_6 rfl (lv_at hl 1 rfl) ?_
    refine lv_goto (tgt := 23) hx hb dX12_held_7 (by decide) ?_
    exact W.lret (v := p1) hx hb hr (fun t ht hW => ⟨_, rfl, trivial, ht⟩) (fun q h => by cases h) dX12_held_23
set_option maxHeartbeats 4000000 in
set_option maxRecDepth 100000 in
theorem r_X12_down (l : Launch) (D : va_G) (cy : Nat → ClassId) (sz : Nat) (L : List Nat) (K : Nat → tk_K) (Γ : tk_G) (f : Nat → va_E) (p0 : Int64) (p1 : Int64) (h0 : ¬ p1.toInt = 0) : Met l yX12_down (tl_w yX12_down cX12_down 6 (some .long)) ({ frames := 0, cells := 0, slots := 0, locals := 0 }) (va_Pc [.long p0, .long p1] (tp_P D cy L K Γ f sz)) (vp_Sl (fun r : Int64 => True)) 0 0 (fun _ => False) := by
  refine Met.ofW (cc := cX12_down) (maxL := 6) (ret := (some .long)) (by decide) rfl ?_
  intro p e s m args below meth c s₁ B hml hv
  obtain ⟨rfl, hsz, hP, hK, hL, hI, hN, hU⟩ := hv
  have hx := B.exec
  have hb := B.bytes
  have hr := B.returns
  have hta := tl_hta (atoms_spec (ws := tl_w yX12_down cX12_down 6 (some .long)) B.pre)
  have hown : s.vm.findClass RX12 = some m.cls := findClass_of_methodNamed B.named
  have hlocks := B.notSynchronized
  subst hsz
  have hI0 := hI
  have hl := lv_entry ([.long p0, .long p1]) (n := 6) (Nat.le_of_ble_eq_true rfl)
  rw [lg_entry_eq]
  generalize (lg_sl ([.long p0, .long p1]) ++ List.replicate (6 - (lg_sl ([.long p0, .long p1])).length) Slot.unset).toArray = ls at hl ⊢
  have hl : lv_has ls 6 [(0, .long p0), (2, .long p1)] := hl
  refine lv_lload_n hx hb dX12_down_0 rfl (lv_at hl 0 rfl) ?_
  refine lv_lload_n hx hb dX12_down_1 rfl (lv_at hl 1 rfl) ?_
  refine lv_ldiv hx hb dX12_down_2 (tl_ne0L (by omega)) ?_
  refine lv_topl (fun z_1 ez_1 => ?_)
  refine lv_lstore (lv' := [(4, .long z_1), (0, .long p0), (2, .long p1)]) hx hb dX12_down_3 hl (by decide) rfl (fun ls hl => ?_)
  refine lv_lload hx hb dX12_down_5 (lv_at hl 0 rfl) ?_
  refine lv_lload_n hx hb dX12_down_7 rfl (lv_at hl 2 rfl) ?_
  refine lv_lmul hx hb dX12_down_8 ?_
  refine lv_topl (fun z_2 ez_2 => ?_)
  refine lv_lload_n hx hb dX12_down_9 rfl (lv_at hl 1 rfl) ?_
  refine W.lcmp hx hb dX12_down_10 ?_
  refine lv_if_le (tgt := 21) hx hb dX12_down_11 (by decide) (fun c_3 => ?_) (fun c_3 => ?_)
  · have c_3 : z_2.toInt ≤ p0.toInt := tl_cmp_le c_3
    refine lv_lload hx hb dX12_down_21 (lv_at hl 0 rfl) ?_
    exact W.lret (v := z_1) hx hb hr (fun t ht hW => ⟨_, rfl, trivial, ht⟩) (fun q h => by cases h) dX12_down_23
  · have c_3 : z_2.toInt > p0.toInt := tl_cmp_nle c_3
    refine lv_lload hx hb dX12_down_14 (lv_at hl 0 rfl) ?_
    refine lv_lconst (v := 1) hx hb dX12_down_16 (by decide) ?_
    refine lv_lsub hx hb dX12_down_17 ?_
    refine lv_topl (fun z_4 ez_4 => ?_)
    refine lv_goto (tgt := 23) hx hb dX12_down_18 (by decide) ?_
    exact W.lret (v := z_4) hx hb hr (fun t ht hW => ⟨_, rfl, trivial, ht⟩) (fun q h => by cases h) dX12_down_23
set_option maxHeartbeats 4000000 in
set_option maxRecDepth 100000 in
theorem r_X12_size (l : Launch) (D : va_G) (cy : Nat → ClassId) (sz : Nat) (L : List Nat) (K : Nat → tk_K) (Γ : tk_G) (f : Nat → va_E) (p0 : Int64)  : Met l yX12_size (tl_w yX12_size cX12_size 2 (some .long)) ({ frames := 0, cells := 0, slots := 0, locals := 0 }) (va_Pc [.long p0] (tp_P D cy L K Γ f sz)) (vp_Sl (fun r : Int64 => True)) 0 0 (fun _ => False) := by
  refine Met.ofW (cc := cX12_size) (maxL := 2) (ret := (some .long)) (by decide) rfl ?_
  intro p e s m args below meth c s₁ B hml hv
  obtain ⟨rfl, hsz, hP, hK, hL, hI, hN, hU⟩ := hv
  have hx := B.exec
  have hb := B.bytes
  have hr := B.returns
  have hta := tl_hta (atoms_spec (ws := tl_w yX12_size cX12_size 2 (some .long)) B.pre)
  have hown : s.vm.findClass RX12 = some m.cls := findClass_of_methodNamed B.named
  have hlocks := B.notSynchronized
  subst hsz
  have hI0 := hI
  have hl := lv_entry ([.long p0]) (n := 2) (Nat.le_of_ble_eq_true rfl)
  rw [lg_entry_eq]
  generalize (lg_sl ([.long p0]) ++ List.replicate (2 - (lg_sl ([.long p0])).length) Slot.unset).toArray = ls at hl ⊢
  have hl : lv_has ls 2 [(0, .long p0)] := hl
  refine lv_lload_n hx hb dX12_size_0 rfl (lv_at hl 0 rfl) ?_
  refine lv_lconst (v := 0) hx hb dX12_size_1 (by decide) ?_
  refine W.lcmp hx hb dX12_size_2 ?_
  refine lv_if_ge (tgt := 11) hx hb dX12_size_3 (by decide) (fun c_1 => ?_) (fun c_1 => ?_)
  · have c_1 : p0.toInt ≥ (0 : Int) := tl_cmp_ge c_1
    refine lv_lload_n hx hb dX12_size_11 rfl (lv_at hl 0 rfl) ?_
    exact W.lret (v := p0) hx hb hr (fun t ht hW => ⟨_, rfl, trivial, ht⟩) (fun q h => by cases h) dX12_size_12
  · have c_1 : p0.toInt < (0 : Int) := tl_cmp_nge c_1
    refine lv_lload_n hx hb dX12_size_6 rfl (lv_at hl 0 rfl) ?_
    refine lv_lneg hx hb dX12_size_7 ?_
    refine lv_topl (fun z_2 ez_2 => ?_)
    refine lv_goto (tgt := 12) hx hb dX12_size_8 (by decide) ?_
    exact W.lret (v := z_2) hx hb hr (fun t ht hW => ⟨_, rfl, trivial, ht⟩) (fun q h => by cases h) dX12_size_12
set_option maxHeartbeats 4000000 in
set_option maxRecDepth 100000 in
theorem r_X12_isColour (l : Launch) (D : va_G) (cy : Nat → ClassId) (sz : Nat) (L : List Nat) (K : Nat → tk_K) (Γ : tk_G) (f : Nat → va_E) (p0 : Int32)  : Met l yX12_isColour (tl_w yX12_isColour cX12_isColour 1 (some .boolean)) ({ frames := 0, cells := 0, slots := 0, locals := 0 }) (va_Pc [.int p0] (tp_P D cy L K Γ f sz)) (vp_Si (fun r : Int32 => tl_E r (0 ≤ p0.toInt ∧ p0.toInt ≤ 299) 1 0)) 0 0 (fun _ => False) := by
  refine Met.ofW (cc := cX12_isColour) (maxL := 1) (ret := (some .boolean)) (by decide) rfl ?_
  intro p e s m args below meth c s₁ B hml hv
  obtain ⟨rfl, hsz, hP, hK, hL, hI, hN, hU⟩ := hv
  have hx := B.exec
  have hb := B.bytes
  have hr := B.returns
  have hta := tl_hta (atoms_spec (ws := tl_w yX12_isColour cX12_isColour 1 (some .boolean)) B.pre)
  have hown : s.vm.findClass RX12 = some m.cls := findClass_of_methodNamed B.named
  have hlocks := B.notSynchronized
  subst hsz
  have hI0 := hI
  have hl := lv_entry ([.int p0]) (n := 1) (Nat.le_of_ble_eq_true rfl)
  rw [lg_entry_eq]
  generalize (lg_sl ([.int p0]) ++ List.replicate (1 - (lg_sl ([.int p0])).length) Slot.unset).toArray = ls at hl ⊢
  have hl : lv_has ls 1 [(0, .int p0)] := hl
  refine lv_iload_n hx hb dX12_isColour_0 rfl (lv_at hl 0 rfl) ?_
  refine lv_if_lt (tgt := 15) hx hb dX12_isColour_1 (by decide) (fun c_1 => ?_) (fun c_1 => ?_)
  · have c_1 : p0.toInt < (0 : Int) := tl_lt c_1
    refine lv_iconst (v := 0) hx hb dX12_isColour_15 (by decide) ?_
    exact W.zret (ty := .boolean) (v := 0) hx hb hr rfl (fun t ht hW => ⟨_, rfl, (Or.inr ⟨by omega, rfl⟩), ht⟩) (fun q h => by cases h) dX12_isColour_16
  · have c_1 : (0 : Int) ≤ p0.toInt := tl_nlt c_1
    refine lv_iload_n hx hb dX12_isColour_4 rfl (lv_at hl 0 rfl) ?_
    refine lv_sipush (v := 300) hx hb dX12_isColour_5 (by decide) ?_
    refine lv_icmp_ge (tgt := 15) hx hb dX12_isColour_8 (by decide) (fun c_2 => ?_) (fun c_2 => ?_)
    · have c_2 : (300 : Int) ≤ p0.toInt := tl_le c_2
      refine lv_iconst (v := 0) hx hb dX12_isColour_15 (by decide) ?_
      exact W.zret (ty := .boolean) (v := 0) hx hb hr rfl (fun t ht hW => ⟨_, rfl, (Or.inr ⟨by omega, rfl⟩), ht⟩) (fun q h => by cases h) dX12_isColour_16
    · have c_2 : p0.toInt < (300 : Int) := tl_nle c_2
      refine lv_iconst (v := 1) hx hb dX12_isColour_11 (by decide) ?_
      refine lv_goto (tgt := 16) hx hb dX12_isColour_12 (by decide) ?_
      exact W.zret (ty := .boolean) (v := 1) hx hb hr rfl (fun t ht hW => ⟨_, rfl, (Or.inl ⟨by omega, rfl⟩), ht⟩) (fun q h => by cases h) dX12_isColour_16
set_option maxHeartbeats 4000000 in
set_option maxRecDepth 100000 in
theorem r_X12_isWeek (l : Launch) (D : va_G) (cy : Nat → ClassId) (sz : Nat) (L : List Nat) (K : Nat → tk_K) (Γ : tk_G) (f : Nat → va_E) (p0 : Int32)  : Met l yX12_isWeek (tl_w yX12_isWeek cX12_isWeek 1 (some .boolean)) ({ frames := 0, cells := 0, slots := 0, locals := 0 }) (va_Pc [.int p0] (tp_P D cy L K Γ f sz)) (vp_Si (fun r : Int32 => tl_E r (0 ≤ p0.toInt ∧ p0.toInt ≤ 399) 1 0)) 0 0 (fun _ => False) := by
  refine Met.ofW (cc := cX12_isWeek) (maxL := 1) (ret := (some .boolean)) (by decide) rfl ?_
  intro p e s m args below meth c s₁ B hml hv
  obtain ⟨rfl, hsz, hP, hK, hL, hI, hN, hU⟩ := hv
  have hx := B.exec
  have hb := B.bytes
  have hr := B.returns
  have hta := tl_hta (atoms_spec (ws := tl_w yX12_isWeek cX12_isWeek 1 (some .boolean)) B.pre)
  have hown : s.vm.findClass RX12 = some m.cls := findClass_of_methodNamed B.named
  have hlocks := B.notSynchronized
  subst hsz
  have hI0 := hI
  have hl := lv_entry ([.int p0]) (n := 1) (Nat.le_of_ble_eq_true rfl)
  rw [lg_entry_eq]
  generalize (lg_sl ([.int p0]) ++ List.replicate (1 - (lg_sl ([.int p0])).length) Slot.unset).toArray = ls at hl ⊢
  have hl : lv_has ls 1 [(0, .int p0)] := hl
  refine lv_iload_n hx hb dX12_isWeek_0 rfl (lv_at hl 0 rfl) ?_
  refine lv_if_lt (tgt := 15) hx hb dX12_isWeek_1 (by decide) (fun c_1 => ?_) (fun c_1 => ?_)
  · have c_1 : p0.toInt < (0 : Int) := tl_lt c_1
    refine lv_iconst (v := 0) hx hb dX12_isWeek_15 (by decide) ?_
    exact W.zret (ty := .boolean) (v := 0) hx hb hr rfl (fun t ht hW => ⟨_, rfl, (Or.inr ⟨by omega, rfl⟩), ht⟩) (fun q h => by cases h) dX12_isWeek_16
  · have c_1 : (0 : Int) ≤ p0.toInt := tl_nlt c_1
    refine lv_iload_n hx hb dX12_isWeek_4 rfl (lv_at hl 0 rfl) ?_
    refine lv_sipush (v := 400) hx hb dX12_isWeek_5 (by decide) ?_
    refine lv_icmp_ge (tgt := 15) hx hb dX12_isWeek_8 (by decide) (fun c_2 => ?_) (fun c_2 => ?_)
    · have c_2 : (400 : Int) ≤ p0.toInt := tl_le c_2
      refine lv_iconst (v := 0) hx hb dX12_isWeek_15 (by decide) ?_
      exact W.zret (ty := .boolean) (v := 0) hx hb hr rfl (fun t ht hW => ⟨_, rfl, (Or.inr ⟨by omega, rfl⟩), ht⟩) (fun q h => by cases h) dX12_isWeek_16
    · have c_2 : p0.toInt < (400 : Int) := tl_nle c_2
      refine lv_iconst (v := 1) hx hb dX12_isWeek_11 (by decide) ?_
      refine lv_goto (tgt := 16) hx hb dX12_isWeek_12 (by decide) ?_
      exact W.zret (ty := .boolean) (v := 1) hx hb hr rfl (fun t ht hW => ⟨_, rfl, (Or.inl ⟨by omega, rfl⟩), ht⟩) (fun q h => by cases h) dX12_isWeek_16
set_option maxHeartbeats 4000000 in
set_option maxRecDepth 100000 in
theorem r_X12_strength (l : Launch) (D : va_G) (cy : Nat → ClassId) (sz : Nat) (L : List Nat) (K : Nat → tk_K) (Γ : tk_G) (f : Nat → va_E) (p0 : Int32)  : Met l yX12_strength (tl_w yX12_strength cX12_strength 1 (some .int)) ({ frames := 0, cells := 0, slots := 0, locals := 0 }) (va_Pc [.int p0] (tp_P D cy L K Γ f sz)) (vp_Si (fun r : Int32 => (p0.toInt = 13 ∧ r.toInt = 1) ∨ (p0.toInt = 12 ∧ r.toInt = 2) ∨ (p0.toInt = 11 ∧ r.toInt = 3) ∨ ((¬ p0.toInt = 13 ∧ ¬ p0.toInt = 12 ∧ ¬ p0.toInt = 11) ∧ r.toInt = 0))) 0 0 (fun _ => False) := by
  refine Met.ofW (cc := cX12_strength) (maxL := 1) (ret := (some .int)) (by decide) rfl ?_
  intro p e s m args below meth c s₁ B hml hv
  obtain ⟨rfl, hsz, hP, hK, hL, hI, hN, hU⟩ := hv
  have hx := B.exec
  have hb := B.bytes
  have hr := B.returns
  have hta := tl_hta (atoms_spec (ws := tl_w yX12_strength cX12_strength 1 (some .int)) B.pre)
  have hown : s.vm.findClass RX12 = some m.cls := findClass_of_methodNamed B.named
  have hlocks := B.notSynchronized
  subst hsz
  have hI0 := hI
  have hl := lv_entry ([.int p0]) (n := 1) (Nat.le_of_ble_eq_true rfl)
  rw [lg_entry_eq]
  generalize (lg_sl ([.int p0]) ++ List.replicate (1 - (lg_sl ([.int p0])).length) Slot.unset).toArray = ls at hl ⊢
  have hl : lv_has ls 1 [(0, .int p0)] := hl
  refine lv_iload_n hx hb dX12_strength_0 rfl (lv_at hl 0 rfl) ?_
  refine lv_bipush (v := 13) hx hb dX12_strength_1 (by decide) ?_
  refine lv_icmp_ne (tgt := 10) hx hb dX12_strength_3 (by decide) (fun c_1 => ?_) (fun c_1 => ?_)
  · have c_1 : ¬ p0.toInt = (13 : Int) := tl_neq c_1
    refine lv_iload_n hx hb dX12_strength_10 rfl (lv_at hl 0 rfl) ?_
    refine lv_bipush (v := 12) hx hb dX12_strength_11 (by decide) ?_
    refine lv_icmp_ne (tgt := 20) hx hb dX12_strength_13 (by decide) (fun c_2 => ?_) (fun c_2 => ?_)
    · have c_2 : ¬ p0.toInt = (12 : Int) := tl_neq c_2
      refine lv_iload_n hx hb dX12_strength_20 rfl (lv_at hl 0 rfl) ?_
      refine lv_bipush (v := 11) hx hb dX12_strength_21 (by decide) ?_
      refine lv_icmp_ne (tgt := 30) hx hb dX12_strength_23 (by decide) (fun c_3 => ?_) (fun c_3 => ?_)
      · have c_3 : ¬ p0.toInt = (11 : Int) := tl_neq c_3
        refine lv_iconst (v := 0) hx hb dX12_strength_30 (by decide) ?_
        exact W.iret (v := 0) hx hb hr (fun t ht hW => ⟨_, rfl, (by have h9 : (0 : Int32).toInt = 0 := (by decide); dsimp only; omega), ht⟩) (fun q h => by cases h) dX12_strength_31
      · have c_3 : p0.toInt = (11 : Int) := tl_eq c_3
        refine lv_iconst (v := 3) hx hb dX12_strength_26 (by decide) ?_
        refine lv_goto (tgt := 31) hx hb dX12_strength_27 (by decide) ?_
        exact W.iret (v := 3) hx hb hr (fun t ht hW => ⟨_, rfl, (by have h9 : (3 : Int32).toInt = 3 := (by decide); dsimp only; omega), ht⟩) (fun q h => by cases h) dX12_strength_31
    · have c_2 : p0.toInt = (12 : Int) := tl_eq c_2
      refine lv_iconst (v := 2) hx hb dX12_strength_16 (by decide) ?_
      refine lv_goto (tgt := 31) hx hb dX12_strength_17 (by decide) ?_
      exact W.iret (v := 2) hx hb hr (fun t ht hW => ⟨_, rfl, (by have h9 : (2 : Int32).toInt = 2 := (by decide); dsimp only; omega), ht⟩) (fun q h => by cases h) dX12_strength_31
  · have c_1 : p0.toInt = (13 : Int) := tl_eq c_1
    refine lv_iconst (v := 1) hx hb dX12_strength_6 (by decide) ?_
    refine lv_goto (tgt := 31) hx hb dX12_strength_7 (by decide) ?_
    exact W.iret (v := 1) hx hb hr (fun t ht hW => ⟨_, rfl, (by have h9 : (1 : Int32).toInt = 1 := (by decide); dsimp only; omega), ht⟩) (fun q h => by cases h) dX12_strength_31
set_option maxHeartbeats 4000000 in
set_option maxRecDepth 100000 in
theorem r_X12_one (l : Launch) (D : va_G) (cy : Nat → ClassId) (sz : Nat) (L : List Nat) (K : Nat → tk_K) (Γ : tk_G) (f : Nat → va_E) (p0 : Int32) (p1 : Int64) (p2 : Int64)  : Met l yX12_one (tl_w yX12_one cX12_one 5 (some .long)) ({ frames := 0, cells := 0, slots := 0, locals := 0 }) (va_Pc [.int p0, .long p1, .long p2] (tp_P D cy L K Γ f sz)) (vp_Sl (fun r : Int64 => True)) 0 0 (fun _ => False) := by
  refine Met.ofW (cc := cX12_one) (maxL := 5) (ret := (some .long)) (by decide) rfl ?_
  intro p e s m args below meth c s₁ B hml hv
  obtain ⟨rfl, hsz, hP, hK, hL, hI, hN, hU⟩ := hv
  have hx := B.exec
  have hb := B.bytes
  have hr := B.returns
  have hta := tl_hta (atoms_spec (ws := tl_w yX12_one cX12_one 5 (some .long)) B.pre)
  have hown : s.vm.findClass RX12 = some m.cls := findClass_of_methodNamed B.named
  have hlocks := B.notSynchronized
  subst hsz
  have hI0 := hI
  have hl := lv_entry ([.int p0, .long p1, .long p2]) (n := 5) (Nat.le_of_ble_eq_true rfl)
  rw [lg_entry_eq]
  generalize (lg_sl ([.int p0, .long p1, .long p2]) ++ List.replicate (5 - (lg_sl ([.int p0, .long p1, .long p2])).length) Slot.unset).toArray = ls at hl ⊢
  have hl : lv_has ls 5 [(0, .int p0), (1, .long p1), (3, .long p2)] := hl
  refine lv_iload_n hx hb dX12_one_0 rfl (lv_at hl 0 rfl) ?_
  rcases (show p0.toInt = 2 ∨ p0.toInt = 3 ∨ p0.toInt = 4 ∨ p0.toInt = 5 ∨ p0.toInt = 6 ∨ p0.toInt = 7 ∨ p0.toInt = 8 ∨ p0.toInt = 9 ∨ p0.toInt = 10 ∨ p0.toInt = 11 ∨ p0.toInt = 12 ∨ (p0.toInt < 2 ∨ 12 < p0.toInt) by omega) with c_1 | c_1 | c_1 | c_1 | c_1 | c_1 | c_1 | c_1 | c_1 | c_1 | c_1 | c_1
  · refine lv_tableIn (tgt := 60) hx hb dX12_one_1 (by omega) (by omega) (by rw [c_1]; rfl) (by decide) ?_
    refine lv_lload_n hx hb dX12_one_60 rfl (lv_at hl 1 rfl) ?_
    refine lv_lload_n hx hb dX12_one_61 rfl (lv_at hl 2 rfl) ?_
    refine lv_ladd hx hb dX12_one_62 ?_
    refine lv_topl (fun z_2 ez_2 => ?_)
    exact W.lret (v := z_2) hx hb hr (fun t ht hW => ⟨_, rfl, trivial, ht⟩) (fun q h => by cases h) dX12_one_63
  · refine lv_tableIn (tgt := 64) hx hb dX12_one_1 (by omega) (by omega) (by rw [c_1]; rfl) (by decide) ?_
    refine lv_lload_n hx hb dX12_one_64 rfl (lv_at hl 1 rfl) ?_
    refine lv_lload_n hx hb dX12_one_65 rfl (lv_at hl 2 rfl) ?_
    refine lv_lsub hx hb dX12_one_66 ?_
    refine lv_topl (fun z_3 ez_3 => ?_)
    exact W.lret (v := z_3) hx hb hr (fun t ht hW => ⟨_, rfl, trivial, ht⟩) (fun q h => by cases h) dX12_one_67
  · refine lv_tableIn (tgt := 68) hx hb dX12_one_1 (by omega) (by omega) (by rw [c_1]; rfl) (by decide) ?_
    refine lv_lload_n hx hb dX12_one_68 rfl (lv_at hl 1 rfl) ?_
    refine lv_lload_n hx hb dX12_one_69 rfl (lv_at hl 2 rfl) ?_
    refine lv_lmul hx hb dX12_one_70 ?_
    refine lv_topl (fun z_4 ez_4 => ?_)
    exact W.lret (v := z_4) hx hb hr (fun t ht hW => ⟨_, rfl, trivial, ht⟩) (fun q h => by cases h) dX12_one_71
  · refine lv_tableIn (tgt := 72) hx hb dX12_one_1 (by omega) (by omega) (by rw [c_1]; rfl) (by decide) ?_
    refine lv_lload_n hx hb dX12_one_72 rfl (lv_at hl 2 rfl) ?_
    refine lv_lconst (v := 0) hx hb dX12_one_73 (by decide) ?_
    refine W.lcmp hx hb dX12_one_74 ?_
    refine lv_if_ne (tgt := 82) hx hb dX12_one_75 (by decide) (fun c_5 => ?_) (fun c_5 => ?_)
    · have c_5 : ¬ p2.toInt = (0 : Int) := tl_cmp_ne c_5
      refine lv_lload_n hx hb dX12_one_82 rfl (lv_at hl 1 rfl) ?_
      refine lv_lload_n hx hb dX12_one_83 rfl (lv_at hl 2 rfl) ?_
      refine lv_ldiv hx hb dX12_one_84 (tl_ne0L (by omega)) ?_
      refine lv_topl (fun z_6 ez_6 => ?_)
      exact W.lret (v := z_6) hx hb hr (fun t ht hW => ⟨_, rfl, trivial, ht⟩) (fun q h => by cases h) dX12_one_85
    · have c_5 : p2.toInt = (0 : Int) := tl_cmp_nne c_5
      refine lv_lconst (v := 0) hx hb dX12_one_78 (by decide) ?_
      refine lv_goto (tgt := 85) hx hb dX12_one_79 (by decide) ?_
      exact W.lret (v := 0) hx hb hr (fun t ht hW => ⟨_, rfl, trivial, ht⟩) (fun q h => by cases h) dX12_one_85
  · refine lv_tableIn (tgt := 86) hx hb dX12_one_1 (by omega) (by omega) (by rw [c_1]; rfl) (by decide) ?_
    refine lv_lload_n hx hb dX12_one_86 rfl (lv_at hl 1 rfl) ?_
    refine lv_lload_n hx hb dX12_one_87 rfl (lv_at hl 2 rfl) ?_
    refine W.lcmp hx hb dX12_one_88 ?_
    refine lv_if_ge (tgt := 96) hx hb dX12_one_89 (by decide) (fun c_7 => ?_) (fun c_7 => ?_)
    · have c_7 : p1.toInt ≥ p2.toInt := tl_cmp_ge c_7
      refine lv_lconst (v := 0) hx hb dX12_one_96 (by decide) ?_
      exact W.lret (v := 0) hx hb hr (fun t ht hW => ⟨_, rfl, trivial, ht⟩) (fun q h => by cases h) dX12_one_97
    · have c_7 : p1.toInt < p2.toInt := tl_cmp_nge c_7
      refine lv_lconst (v := 1) hx hb dX12_one_92 (by decide) ?_
      refine lv_goto (tgt := 97) hx hb dX12_one_93 (by decide) ?_
      exact W.lret (v := 1) hx hb hr (fun t ht hW => ⟨_, rfl, trivial, ht⟩) (fun q h => by cases h) dX12_one_97
  · refine lv_tableIn (tgt := 98) hx hb dX12_one_1 (by omega) (by omega) (by rw [c_1]; rfl) (by decide) ?_
    refine lv_lload_n hx hb dX12_one_98 rfl (lv_at hl 1 rfl) ?_
    refine lv_lload_n hx hb dX12_one_99 rfl (lv_at hl 2 rfl) ?_
    refine W.lcmp hx hb dX12_one_100 ?_
    refine lv_if_gt (tgt := 108) hx hb dX12_one_101 (by decide) (fun c_8 => ?_) (fun c_8 => ?_)
    · have c_8 : p1.toInt > p2.toInt := tl_cmp_gt c_8
      refine lv_lconst (v := 0) hx hb dX12_one_108 (by decide) ?_
      exact W.lret (v := 0) hx hb hr (fun t ht hW => ⟨_, rfl, trivial, ht⟩) (fun q h => by cases h) dX12_one_109
    · have c_8 : p1.toInt ≤ p2.toInt := tl_cmp_ngt c_8
      refine lv_lconst (v := 1) hx hb dX12_one_104 (by decide) ?_
      refine lv_goto (tgt := 109) hx hb dX12_one_105 (by decide) ?_
      exact W.lret (v := 1) hx hb hr (fun t ht hW => ⟨_, rfl, trivial, ht⟩) (fun q h => by cases h) dX12_one_109
  · refine lv_tableIn (tgt := 110) hx hb dX12_one_1 (by omega) (by omega) (by rw [c_1]; rfl) (by decide) ?_
    refine lv_lload_n hx hb dX12_one_110 rfl (lv_at hl 1 rfl) ?_
    refine lv_lload_n hx hb dX12_one_111 rfl (lv_at hl 2 rfl) ?_
    refine W.lcmp hx hb dX12_one_112 ?_
    refine lv_if_ne (tgt := 120) hx hb dX12_one_113 (by decide) (fun c_9 => ?_) (fun c_9 => ?_)
    · have c_9 : ¬ p1.toInt = p2.toInt := tl_cmp_ne c_9
      refine lv_lconst (v := 0) hx hb dX12_one_120 (by decide) ?_
      exact W.lret (v := 0) hx hb hr (fun t ht hW => ⟨_, rfl, trivial, ht⟩) (fun q h => by cases h) dX12_one_121
    · have c_9 : p1.toInt = p2.toInt := tl_cmp_nne c_9
      refine lv_lconst (v := 1) hx hb dX12_one_116 (by decide) ?_
      refine lv_goto (tgt := 121) hx hb dX12_one_117 (by decide) ?_
      exact W.lret (v := 1) hx hb hr (fun t ht hW => ⟨_, rfl, trivial, ht⟩) (fun q h => by cases h) dX12_one_121
  · refine lv_tableIn (tgt := 122) hx hb dX12_one_1 (by omega) (by omega) (by rw [c_1]; rfl) (by decide) ?_
    refine lv_lload_n hx hb dX12_one_122 rfl (lv_at hl 1 rfl) ?_
    refine lv_lload_n hx hb dX12_one_123 rfl (lv_at hl 2 rfl) ?_
    refine W.lcmp hx hb dX12_one_124 ?_
    refine lv_if_lt (tgt := 132) hx hb dX12_one_125 (by decide) (fun c_10 => ?_) (fun c_10 => ?_)
    · have c_10 : p1.toInt < p2.toInt := tl_cmp_lt c_10
      refine lv_lconst (v := 0) hx hb dX12_one_132 (by decide) ?_
      exact W.lret (v := 0) hx hb hr (fun t ht hW => ⟨_, rfl, trivial, ht⟩) (fun q h => by cases h) dX12_one_133
    · have c_10 : p1.toInt ≥ p2.toInt := tl_cmp_nlt c_10
      refine lv_lconst (v := 1) hx hb dX12_one_128 (by decide) ?_
      refine lv_goto (tgt := 133) hx hb dX12_one_129 (by decide) ?_
      exact W.lret (v := 1) hx hb hr (fun t ht hW => ⟨_, rfl, trivial, ht⟩) (fun q h => by cases h) dX12_one_133
  · refine lv_tableIn (tgt := 134) hx hb dX12_one_1 (by omega) (by omega) (by rw [c_1]; rfl) (by decide) ?_
    refine lv_lload_n hx hb dX12_one_134 rfl (lv_at hl 1 rfl) ?_
    refine lv_lload_n hx hb dX12_one_135 rfl (lv_at hl 2 rfl) ?_
    refine W.lcmp hx hb dX12_one_136 ?_
    refine lv_if_le (tgt := 144) hx hb dX12_one_137 (by decide) (fun c_11 => ?_) (fun c_11 => ?_)
    · have c_11 : p1.toInt ≤ p2.toInt := tl_cmp_le c_11
      refine lv_lconst (v := 0) hx hb dX12_one_144 (by decide) ?_
      exact W.lret (v := 0) hx hb hr (fun t ht hW => ⟨_, rfl, trivial, ht⟩) (fun q h => by cases h) dX12_one_145
    · have c_11 : p1.toInt > p2.toInt := tl_cmp_nle c_11
      refine lv_lconst (v := 1) hx hb dX12_one_140 (by decide) ?_
      refine lv_goto (tgt := 145) hx hb dX12_one_141 (by decide) ?_
      exact W.lret (v := 1) hx hb hr (fun t ht hW => ⟨_, rfl, trivial, ht⟩) (fun q h => by cases h) dX12_one_145
  · refine lv_tableIn (tgt := 150) hx hb dX12_one_1 (by omega) (by omega) (by rw [c_1]; rfl) (by decide) ?_
    refine lv_lload_n hx hb dX12_one_150 rfl (lv_at hl 1 rfl) ?_
    refine lv_lload_n hx hb dX12_one_151 rfl (lv_at hl 2 rfl) ?_
    refine lv_lor hx hb dX12_one_152 ?_
    refine lv_topl (fun z_12 ez_12 => ?_)
    exact W.lret (v := z_12) hx hb hr (fun t ht hW => ⟨_, rfl, trivial, ht⟩) (fun q h => by cases h) dX12_one_153
  · refine lv_tableIn (tgt := 146) hx hb dX12_one_1 (by omega) (by omega) (by rw [c_1]; rfl) (by decide) ?_
    refine lv_lload_n hx hb dX12_one_146 rfl (lv_at hl 1 rfl) ?_
    refine lv_lload_n hx hb dX12_one_147 rfl (lv_at hl 2 rfl) ?_
    refine lv_land hx hb dX12_one_148 ?_
    refine lv_topl (fun z_13 ez_13 => ?_)
    exact W.lret (v := z_13) hx hb hr (fun t ht hW => ⟨_, rfl, trivial, ht⟩) (fun q h => by cases h) dX12_one_149
  · refine lv_tableOut (tgt := 150) hx hb dX12_one_1 (by omega) (by decide) ?_
    refine lv_lload_n hx hb dX12_one_150 rfl (lv_at hl 1 rfl) ?_
    refine lv_lload_n hx hb dX12_one_151 rfl (lv_at hl 2 rfl) ?_
    refine lv_lor hx hb dX12_one_152 ?_
    refine lv_topl (fun z_14 ez_14 => ?_)
    exact W.lret (v := z_14) hx hb hr (fun t ht hW => ⟨_, rfl, trivial, ht⟩) (fun q h => by cases h) dX12_one_153
set_option maxHeartbeats 4000000 in
set_option maxRecDepth 100000 in
theorem r_X12_mostOf (l : Launch) (D : va_G) (cy : Nat → ClassId) (sz : Nat) (L : List Nat) (K : Nat → tk_K) (Γ : tk_G) (f : Nat → va_E) (p0 : Int32)  : Met l yX12_mostOf (tl_w yX12_mostOf cX12_mostOf 1 (some .int)) ({ frames := 0, cells := 0, slots := 0, locals := 0 }) (va_Pc [.int p0] (tp_P D cy L K Γ f sz)) (vp_Si (fun r : Int32 => (p0.toInt = 0 ∧ r.toInt = 6) ∨ (¬ p0.toInt = 0 ∧ r.toInt = 8))) 0 0 (fun _ => False) := by
  refine Met.ofW (cc := cX12_mostOf) (maxL := 1) (ret := (some .int)) (by decide) rfl ?_
  intro p e s m args below meth c s₁ B hml hv
  obtain ⟨rfl, hsz, hP, hK, hL, hI, hN, hU⟩ := hv
  have hx := B.exec
  have hb := B.bytes
  have hr := B.returns
  have hta := tl_hta (atoms_spec (ws := tl_w yX12_mostOf cX12_mostOf 1 (some .int)) B.pre)
  have hown : s.vm.findClass RX12 = some m.cls := findClass_of_methodNamed B.named
  have hlocks := B.notSynchronized
  subst hsz
  have hI0 := hI
  have hl := lv_entry ([.int p0]) (n := 1) (Nat.le_of_ble_eq_true rfl)
  rw [lg_entry_eq]
  generalize (lg_sl ([.int p0]) ++ List.replicate (1 - (lg_sl ([.int p0])).length) Slot.unset).toArray = ls at hl ⊢
  have hl : lv_has ls 1 [(0, .int p0)] := hl
  refine lv_iload_n hx hb dX12_mostOf_0 rfl (lv_at hl 0 rfl) ?_
  refine lv_if_ne (tgt := 9) hx hb dX12_mostOf_1 (by decide) (fun c_1 => ?_) (fun c_1 => ?_)
  · have c_1 : ¬ p0.toInt = (0 : Int) := tl_neq c_1
    refine lv_iload_n hx hb dX12_mostOf_9 rfl (lv_at hl 0 rfl) ?_
    refine lv_iconst (v := 1) hx hb dX12_mostOf_10 (by decide) ?_
    refine lv_icmp_ne (tgt := 19) hx hb dX12_mostOf_11 (by decide) (fun c_2 => ?_) (fun c_2 => ?_)
    · have c_2 : ¬ p0.toInt = (1 : Int) := tl_neq c_2
      refine lv_bipush (v := 8) hx hb dX12_mostOf_19 (by decide) ?_
      exact W.iret (v := 8) hx hb hr (fun t ht hW => ⟨_, rfl, (by have h9 : (8 : Int32).toInt = 8 := (by decide); dsimp only; omega), ht⟩) (fun q h => by cases h) dX12_mostOf_21
    · have c_2 : p0.toInt = (1 : Int) := tl_eq c_2
      refine lv_bipush (v := 8) hx hb dX12_mostOf_14 (by decide) ?_
      refine lv_goto (tgt := 21) hx hb dX12_mostOf_16 (by decide) ?_
      exact W.iret (v := 8) hx hb hr (fun t ht hW => ⟨_, rfl, (by have h9 : (8 : Int32).toInt = 8 := (by decide); dsimp only; omega), ht⟩) (fun q h => by cases h) dX12_mostOf_21
  · have c_1 : p0.toInt = (0 : Int) := tl_eq c_1
    refine lv_bipush (v := 6) hx hb dX12_mostOf_4 (by decide) ?_
    refine lv_goto (tgt := 21) hx hb dX12_mostOf_6 (by decide) ?_
    exact W.iret (v := 6) hx hb hr (fun t ht hW => ⟨_, rfl, (by have h9 : (6 : Int32).toInt = 6 := (by decide); dsimp only; omega), ht⟩) (fun q h => by cases h) dX12_mostOf_21
set_option maxHeartbeats 4000000 in
set_option maxRecDepth 100000 in
theorem r_X12_firstOf (l : Launch) (D : va_G) (cy : Nat → ClassId) (sz : Nat) (L : List Nat) (K : Nat → tk_K) (Γ : tk_G) (f : Nat → va_E) (p0 : Int32)  : Met l yX12_firstOf (tl_w yX12_firstOf cX12_firstOf 1 (some .int)) ({ frames := 0, cells := 0, slots := 0, locals := 0 }) (va_Pc [.int p0] (tp_P D cy L K Γ f sz)) (vp_Si (fun r : Int32 => (p0.toInt = 0 ∧ r.toInt = 0) ∨ (p0.toInt = 1 ∧ r.toInt = 6) ∨ ((¬ p0.toInt = 0 ∧ ¬ p0.toInt = 1) ∧ r.toInt = 14))) 0 0 (fun _ => False) := by
  refine Met.ofW (cc := cX12_firstOf) (maxL := 1) (ret := (some .int)) (by decide) rfl ?_
  intro p e s m args below meth c s₁ B hml hv
  obtain ⟨rfl, hsz, hP, hK, hL, hI, hN, hU⟩ := hv
  have hx := B.exec
  have hb := B.bytes
  have hr := B.returns
  have hta := tl_hta (atoms_spec (ws := tl_w yX12_firstOf cX12_firstOf 1 (some .int)) B.pre)
  have hown : s.vm.findClass RX12 = some m.cls := findClass_of_methodNamed B.named
  have hlocks := B.notSynchronized
  subst hsz
  have hI0 := hI
  have hl := lv_entry ([.int p0]) (n := 1) (Nat.le_of_ble_eq_true rfl)
  rw [lg_entry_eq]
  generalize (lg_sl ([.int p0]) ++ List.replicate (1 - (lg_sl ([.int p0])).length) Slot.unset).toArray = ls at hl ⊢
  have hl : lv_has ls 1 [(0, .int p0)] := hl
  refine lv_iload_n hx hb dX12_firstOf_0 rfl (lv_at hl 0 rfl) ?_
  refine lv_if_ne (tgt := 8) hx hb dX12_firstOf_1 (by decide) (fun c_1 => ?_) (fun c_1 => ?_)
  · have c_1 : ¬ p0.toInt = (0 : Int) := tl_neq c_1
    refine lv_iload_n hx hb dX12_firstOf_8 rfl (lv_at hl 0 rfl) ?_
    refine lv_iconst (v := 1) hx hb dX12_firstOf_9 (by decide) ?_
    refine lv_icmp_ne (tgt := 18) hx hb dX12_firstOf_10 (by decide) (fun c_2 => ?_) (fun c_2 => ?_)
    · have c_2 : ¬ p0.toInt = (1 : Int) := tl_neq c_2
      refine lv_bipush (v := 14) hx hb dX12_firstOf_18 (by decide) ?_
      exact W.iret (v := 14) hx hb hr (fun t ht hW => ⟨_, rfl, (by have h9 : (14 : Int32).toInt = 14 := (by decide); dsimp only; omega), ht⟩) (fun q h => by cases h) dX12_firstOf_20
    · have c_2 : p0.toInt = (1 : Int) := tl_eq c_2
      refine lv_bipush (v := 6) hx hb dX12_firstOf_13 (by decide) ?_
      refine lv_goto (tgt := 20) hx hb dX12_firstOf_15 (by decide) ?_
      exact W.iret (v := 6) hx hb hr (fun t ht hW => ⟨_, rfl, (by have h9 : (6 : Int32).toInt = 6 := (by decide); dsimp only; omega), ht⟩) (fun q h => by cases h) dX12_firstOf_20
  · have c_1 : p0.toInt = (0 : Int) := tl_eq c_1
    refine lv_iconst (v := 0) hx hb dX12_firstOf_4 (by decide) ?_
    refine lv_goto (tgt := 20) hx hb dX12_firstOf_5 (by decide) ?_
    exact W.iret (v := 0) hx hb hr (fun t ht hW => ⟨_, rfl, (by have h9 : (0 : Int32).toInt = 0 := (by decide); dsimp only; omega), ht⟩) (fun q h => by cases h) dX12_firstOf_20
set_option maxHeartbeats 4000000 in
set_option maxRecDepth 100000 in
theorem r_X12_kindOf (l : Launch) (D : va_G) (cy : Nat → ClassId) (sz : Nat) (L : List Nat) (K : Nat → tk_K) (Γ : tk_G) (f : Nat → va_E) (o : Nat) (p0 : Int32) (ho : tp_r L K 39 (0) 0 o) : Met l yX12_kindOf (tl_w yX12_kindOf cX12_kindOf 2 (some .int)) ({ frames := 0, cells := 0, slots := 0, locals := 0 }) (va_Pc [.ref o, .int p0] (tp_P D cy L K Γ f sz)) (vp_Si (fun r : Int32 => (p0.toInt < 6 ∧ r.toInt = 0) ∨ (6 ≤ p0.toInt ∧ p0.toInt < 14 ∧ r.toInt = 1) ∨ (14 ≤ p0.toInt ∧ r.toInt = 2))) 0 0 (fun _ => False) := by
  refine Met.ofW (cc := cX12_kindOf) (maxL := 2) (ret := (some .int)) (by decide) rfl ?_
  intro p e s m args below meth c s₁ B hml hv
  obtain ⟨rfl, hsz, hP, hK, hL, hI, hN, hU⟩ := hv
  have hx := B.exec
  have hb := B.bytes
  have hr := B.returns
  have hta := tl_hta (atoms_spec (ws := tl_w yX12_kindOf cX12_kindOf 2 (some .int)) B.pre)
  have hown : s.vm.findClass RX12 = some m.cls := findClass_of_methodNamed B.named
  have hlocks := B.notSynchronized
  subst hsz
  have hI0 := hI
  have hl := lv_entry ([.ref o, .int p0]) (n := 2) (Nat.le_of_ble_eq_true rfl)
  rw [lg_entry_eq]
  generalize (lg_sl ([.ref o, .int p0]) ++ List.replicate (2 - (lg_sl ([.ref o, .int p0])).length) Slot.unset).toArray = ls at hl ⊢
  have hl : lv_has ls 2 [(0, .ref o), (1, .int p0)] := hl
  refine lv_iload_n hx hb dX12_kindOf_0 rfl (lv_at hl 1 rfl) ?_
  refine lv_bipush (v := 6) hx hb dX12_kindOf_1 (by decide) ?_
  refine lv_icmp_ge (tgt := 10) hx hb dX12_kindOf_3 (by decide) (fun c_1 => ?_) (fun c_1 => ?_)
  · have c_1 : (6 : Int) ≤ p0.toInt := tl_le c_1
    refine lv_iload_n hx hb dX12_kindOf_10 rfl (lv_at hl 1 rfl) ?_
    refine lv_bipush (v := 14) hx hb dX12_kindOf_11 (by decide) ?_
    refine lv_icmp_ge (tgt := 20) hx hb dX12_kindOf_13 (by decide) (fun c_2 => ?_) (fun c_2 => ?_)
    · have c_2 : (14 : Int) ≤ p0.toInt := tl_le c_2
      refine lv_iconst (v := 2) hx hb dX12_kindOf_20 (by decide) ?_
      exact W.iret (v := 2) hx hb hr (fun t ht hW => ⟨_, rfl, (by have h9 : (2 : Int32).toInt = 2 := (by decide); dsimp only; omega), ht⟩) (fun q h => by cases h) dX12_kindOf_21
    · have c_2 : p0.toInt < (14 : Int) := tl_nle c_2
      refine lv_iconst (v := 1) hx hb dX12_kindOf_16 (by decide) ?_
      refine lv_goto (tgt := 21) hx hb dX12_kindOf_17 (by decide) ?_
      exact W.iret (v := 1) hx hb hr (fun t ht hW => ⟨_, rfl, (by have h9 : (1 : Int32).toInt = 1 := (by decide); dsimp only; omega), ht⟩) (fun q h => by cases h) dX12_kindOf_21
  · have c_1 : p0.toInt < (6 : Int) := tl_nle c_1
    refine lv_iconst (v := 0) hx hb dX12_kindOf_6 (by decide) ?_
    refine lv_goto (tgt := 21) hx hb dX12_kindOf_7 (by decide) ?_
    exact W.iret (v := 0) hx hb hr (fun t ht hW => ⟨_, rfl, (by have h9 : (0 : Int32).toInt = 0 := (by decide); dsimp only; omega), ht⟩) (fun q h => by cases h) dX12_kindOf_21
set_option maxHeartbeats 4000000 in
set_option maxRecDepth 100000 in
theorem r_X12_isRow (l : Launch) (D : va_G) (cy : Nat → ClassId) (sz : Nat) (L : List Nat) (K : Nat → tk_K) (Γ : tk_G) (f : Nat → va_E) (o : Nat) (p0 : Int32) (ho : tp_r L K 39 (0) 0 o) : Met l yX12_isRow (tl_w yX12_isRow cX12_isRow 2 (some .boolean)) ({ frames := 0, cells := 0, slots := 0, locals := 0 }) (va_Pc [.ref o, .int p0] (tp_P D cy L K Γ f sz)) (vp_Si (fun r : Int32 => tl_E r (0 ≤ p0.toInt ∧ p0.toInt < Γ (40, 7666, 0) 1) 1 0)) 0 0 (fun _ => False) := by
  refine Met.ofW (cc := cX12_isRow) (maxL := 2) (ret := (some .boolean)) (by decide) rfl ?_
  intro p e s m args below meth c s₁ B hml hv
  obtain ⟨rfl, hsz, hP, hK, hL, hI, hN, hU⟩ := hv
  have hx := B.exec
  have hb := B.bytes
  have hr := B.returns
  have hta := tl_hta (atoms_spec (ws := tl_w yX12_isRow cX12_isRow 2 (some .boolean)) B.pre)
  have hown : s.vm.findClass RX12 = some m.cls := findClass_of_methodNamed B.named
  have hlocks := B.notSynchronized
  subst hsz
  have hI0 := hI
  have hl := lv_entry ([.ref o, .int p0]) (n := 2) (Nat.le_of_ble_eq_true rfl)
  rw [lg_entry_eq]
  generalize (lg_sl ([.ref o, .int p0]) ++ List.replicate (2 - (lg_sl ([.ref o, .int p0])).length) Slot.unset).toArray = ls at hl ⊢
  have hl : lv_has ls 2 [(0, .ref o), (1, .int p0)] := hl
  refine lv_iload_n hx hb dX12_isRow_0 rfl (lv_at hl 1 rfl) ?_
  refine lv_if_lt (tgt := 18) hx hb dX12_isRow_1 (by decide) (fun c_1 => ?_) (fun c_1 => ?_)
  · have c_1 : p0.toInt < (0 : Int) := tl_lt c_1
    refine lv_iconst (v := 0) hx hb dX12_isRow_18 (by decide) ?_
    exact W.zret (ty := .boolean) (v := 0) hx hb hr rfl (fun t ht hW => ⟨_, rfl, (Or.inr ⟨by omega, rfl⟩), ht⟩) (fun q h => by cases h) dX12_isRow_19
  · have c_1 : (0 : Int) ≤ p0.toInt := tl_nlt c_1
    refine lv_iload_n hx hb dX12_isRow_4 rfl (lv_at hl 1 rfl) ?_
    refine lv_aload_n hx hb dX12_isRow_5 rfl (lv_at hl 0 rfl) ?_
    obtain ⟨r_3, v_4, q_5, hf_2, hr_6, hv_7⟩ := (show tp_o_M L K 0 0 (Γ (39, 0, 0)) (f o) from hI0.at ho)
    refine tp_get (cy := cy) (ci := 12) (v := .ref (r_3 0)) (C := RX12) (T := TX12) (N := 49) hx hb hta inlX12 hown hK hP ho.1 hf_2 rfl 0 (by decide) (hta _ wk_149) (fun _ h9 => h9) rfl dX12_isRow_6 ?_
    refine lv_iconst (v := 1) hx hb dX12_isRow_9 (by decide) ?_
    obtain ⟨g_25, hf_24, hg_26⟩ := (show tp_gi cy (7666) (Γ (40, 7666, 0)) (f (r_3 0)) from hI0.at (show tp_r L K 40 7666 0 (r_3 0) from hr_6 0 (by decide)))
    have hn_27 : vp_in 1 (7666) := tl_in (by decide) (by decide)
    refine tp_iald (cy := cy) hx hb hK hP (show tp_r L K 40 7666 0 (r_3 0) from hr_6 0 (by decide)).1 hf_24 hn_27 dX12_isRow_10 ?_
    refine lv_topi (fun z_28 ez_28 => ?_)
    have iz_28 : z_28.toInt = Γ (40, 7666, 0) 1 := by rw [ez_28]; exact hg_26 _ (tp_pin hn_27)
    refine lv_icmp_ge (tgt := 18) hx hb dX12_isRow_11 (by decide) (fun c_29 => ?_) (fun c_29 => ?_)
    · have c_29 : z_28.toInt ≤ p0.toInt := tl_le c_29
      refine lv_iconst (v := 0) hx hb dX12_isRow_18 (by decide) ?_
      exact W.zret (ty := .boolean) (v := 0) hx hb hr rfl (fun t ht hW => ⟨_, rfl, (Or.inr ⟨by omega, rfl⟩), ht⟩) (fun q h => by cases h) dX12_isRow_19
    · have c_29 : p0.toInt < z_28.toInt := tl_nle c_29
      refine lv_iconst (v := 1) hx hb dX12_isRow_14 (by decide) ?_
      refine lv_goto (tgt := 19) hx hb dX12_isRow_15 (by decide) ?_
      exact W.zret (ty := .boolean) (v := 1) hx hb hr rfl (fun t ht hW => ⟨_, rfl, (Or.inl ⟨by omega, rfl⟩), ht⟩) (fun q h => by cases h) dX12_isRow_19
set_option maxHeartbeats 4000000 in
set_option maxRecDepth 100000 in
theorem r_X12_rowOf (l : Launch) (D : va_G) (cy : Nat → ClassId) (sz : Nat) (L : List Nat) (K : Nat → tk_K) (Γ : tk_G) (f : Nat → va_E) (o : Nat) (p0 : Int32) (p1 : Int32) (ho : tp_r L K 39 (0) 0 o) (h0 : 0 ≤ p0.toInt ∧ p0.toInt ≤ 23) (h1 : 0 ≤ p1.toInt ∧ p1.toInt ≤ 2) : Met l yX12_rowOf (tl_w yX12_rowOf cX12_rowOf 3 (some .int)) ({ frames := 0, cells := 0, slots := 0, locals := 0 }) (va_Pc [.ref o, .int p0, .int p1] (tp_P D cy L K Γ f sz)) (vp_Si (fun r : Int32 => r.toInt = Γ (40, 7666, 0) (9 + 3 * p0.toInt + p1.toInt).toNat)) 0 0 (fun _ => False) := by
  refine Met.ofW (cc := cX12_rowOf) (maxL := 3) (ret := (some .int)) (by decide) rfl ?_
  intro p e s m args below meth c s₁ B hml hv
  obtain ⟨rfl, hsz, hP, hK, hL, hI, hN, hU⟩ := hv
  have hx := B.exec
  have hb := B.bytes
  have hr := B.returns
  have hta := tl_hta (atoms_spec (ws := tl_w yX12_rowOf cX12_rowOf 3 (some .int)) B.pre)
  have hown : s.vm.findClass RX12 = some m.cls := findClass_of_methodNamed B.named
  have hlocks := B.notSynchronized
  subst hsz
  have hI0 := hI
  have hl := lv_entry ([.ref o, .int p0, .int p1]) (n := 3) (Nat.le_of_ble_eq_true rfl)
  rw [lg_entry_eq]
  generalize (lg_sl ([.ref o, .int p0, .int p1]) ++ List.replicate (3 - (lg_sl ([.ref o, .int p0, .int p1])).length) Slot.unset).toArray = ls at hl ⊢
  have hl : lv_has ls 3 [(0, .ref o), (1, .int p0), (2, .int p1)] := hl
  refine lv_aload_n hx hb dX12_rowOf_0 rfl (lv_at hl 0 rfl) ?_
  obtain ⟨r_2, v_3, q_4, hf_1, hr_5, hv_6⟩ := (show tp_o_M L K 0 0 (Γ (39, 0, 0)) (f o) from hI0.at ho)
  refine tp_get (cy := cy) (ci := 12) (v := .ref (r_2 0)) (C := RX12) (T := TX12) (N := 49) hx hb hta inlX12 hown hK hP ho.1 hf_1 rfl 0 (by decide) (hta _ wk_149) (fun _ h9 => h9) rfl dX12_rowOf_1 ?_
  refine lv_bipush (v := 9) hx hb dX12_rowOf_4 (by decide) ?_
  refine lv_iconst (v := 3) hx hb dX12_rowOf_6 (by decide) ?_
  refine lv_iload_n hx hb dX12_rowOf_7 rfl (lv_at hl 1 rfl) ?_
  refine lv_imul hx hb dX12_rowOf_8 ?_
  refine lv_topi (fun z_23 ez_23 => ?_)
  try have iz_23 : z_23.toInt = (3 : Int) * p0.toInt := by rw [ez_23]; exact tl_mulN 3 p0 rfl rfl (by omega) (by omega)
  refine lv_iadd hx hb dX12_rowOf_9 ?_
  refine lv_topi (fun z_24 ez_24 => ?_)
  try have iz_24 : z_24.toInt = (9 : Int) + z_23.toInt := by rw [ez_24]; exact tl_addN 9 z_23 rfl rfl (by omega) (by omega)
  refine lv_iload_n hx hb dX12_rowOf_10 rfl (lv_at hl 2 rfl) ?_
  refine lv_iadd hx hb dX12_rowOf_11 ?_
  refine lv_topi (fun z_25 ez_25 => ?_)
  try have iz_25 : z_25.toInt = z_24.toInt + p1.toInt := by rw [ez_25]; exact tl_addN z_24 p1 rfl rfl (by omega) (by omega)
  obtain ⟨g_27, hf_26, hg_28⟩ := (show tp_gi cy (7666) (Γ (40, 7666, 0)) (f (r_2 0)) from hI0.at (show tp_r L K 40 7666 0 (r_2 0) from hr_5 0 (by decide)))
  have hn_29 : vp_in z_25 (7666) := tl_in (by omega) (by omega)
  refine tp_iald (cy := cy) hx hb hK hP (show tp_r L K 40 7666 0 (r_2 0) from hr_5 0 (by decide)).1 hf_26 hn_29 dX12_rowOf_12 ?_
  refine lv_topi (fun z_30 ez_30 => ?_)
  have iz_30 : z_30.toInt = Γ (40, 7666, 0) z_25.toInt.toNat := by rw [ez_30]; exact hg_28 _ (tp_pin hn_29)
  exact W.iret (v := z_30) hx hb hr (fun t ht hW => ⟨_, rfl, (iz_30.trans (congrArg _ (by omega))), ht⟩) (fun q h => by cases h) dX12_rowOf_13
set_option maxHeartbeats 4000000 in
set_option maxRecDepth 100000 in
theorem r_X12_lineOf (l : Launch) (D : va_G) (cy : Nat → ClassId) (sz : Nat) (L : List Nat) (K : Nat → tk_K) (Γ : tk_G) (f : Nat → va_E) (o : Nat) (p0 : Int32) (p1 : Int32) (ho : tp_r L K 39 (0) 0 o) (h0 : 0 ≤ p0.toInt ∧ p0.toInt ≤ 59) (h1 : 0 ≤ p1.toInt ∧ p1.toInt ≤ 2) : Met l yX12_lineOf (tl_w yX12_lineOf cX12_lineOf 3 (some .int)) ({ frames := 0, cells := 0, slots := 0, locals := 0 }) (va_Pc [.ref o, .int p0, .int p1] (tp_P D cy L K Γ f sz)) (vp_Si (fun r : Int32 => r.toInt = Γ (40, 7666, 0) (241 + 3 * p0.toInt + p1.toInt).toNat)) 0 0 (fun _ => False) := by
  refine Met.ofW (cc := cX12_lineOf) (maxL := 3) (ret := (some .int)) (by decide) rfl ?_
  intro p e s m args below meth c s₁ B hml hv
  obtain ⟨rfl, hsz, hP, hK, hL, hI, hN, hU⟩ := hv
  have hx := B.exec
  have hb := B.bytes
  have hr := B.returns
  have hta := tl_hta (atoms_spec (ws := tl_w yX12_lineOf cX12_lineOf 3 (some .int)) B.pre)
  have hown : s.vm.findClass RX12 = some m.cls := findClass_of_methodNamed B.named
  have hlocks := B.notSynchronized
  subst hsz
  have hI0 := hI
  have hl := lv_entry ([.ref o, .int p0, .int p1]) (n := 3) (Nat.le_of_ble_eq_true rfl)
  rw [lg_entry_eq]
  generalize (lg_sl ([.ref o, .int p0, .int p1]) ++ List.replicate (3 - (lg_sl ([.ref o, .int p0, .int p1])).length) Slot.unset).toArray = ls at hl ⊢
  have hl : lv_has ls 3 [(0, .ref o), (1, .int p0), (2, .int p1)] := hl
  refine lv_aload_n hx hb dX12_lineOf_0 rfl (lv_at hl 0 rfl) ?_
  obtain ⟨r_2, v_3, q_4, hf_1, hr_5, hv_6⟩ := (show tp_o_M L K 0 0 (Γ (39, 0, 0)) (f o) from hI0.at ho)
  refine tp_get (cy := cy) (ci := 12) (v := .ref (r_2 0)) (C := RX12) (T := TX12) (N := 49) hx hb hta inlX12 hown hK hP ho.1 hf_1 rfl 0 (by decide) (hta _ wk_149) (fun _ h9 => h9) rfl dX12_lineOf_1 ?_
  refine lv_sipush (v := 241) hx hb dX12_lineOf_4 (by decide) ?_
  refine lv_iconst (v := 3) hx hb dX12_lineOf_7 (by decide) ?_
  refine lv_iload_n hx hb dX12_lineOf_8 rfl (lv_at hl 1 rfl) ?_
  refine lv_imul hx hb dX12_lineOf_9 ?_
  refine lv_topi (fun z_23 ez_23 => ?_)
  try have iz_23 : z_23.toInt = (3 : Int) * p0.toInt := by rw [ez_23]; exact tl_mulN 3 p0 rfl rfl (by omega) (by omega)
  refine lv_iadd hx hb dX12_lineOf_10 ?_
  refine lv_topi (fun z_24 ez_24 => ?_)
  try have iz_24 : z_24.toInt = (241 : Int) + z_23.toInt := by rw [ez_24]; exact tl_addN 241 z_23 rfl rfl (by omega) (by omega)
  refine lv_iload_n hx hb dX12_lineOf_11 rfl (lv_at hl 2 rfl) ?_
  refine lv_iadd hx hb dX12_lineOf_12 ?_
  refine lv_topi (fun z_25 ez_25 => ?_)
  try have iz_25 : z_25.toInt = z_24.toInt + p1.toInt := by rw [ez_25]; exact tl_addN z_24 p1 rfl rfl (by omega) (by omega)
  obtain ⟨g_27, hf_26, hg_28⟩ := (show tp_gi cy (7666) (Γ (40, 7666, 0)) (f (r_2 0)) from hI0.at (show tp_r L K 40 7666 0 (r_2 0) from hr_5 0 (by decide)))
  have hn_29 : vp_in z_25 (7666) := tl_in (by omega) (by omega)
  refine tp_iald (cy := cy) hx hb hK hP (show tp_r L K 40 7666 0 (r_2 0) from hr_5 0 (by decide)).1 hf_26 hn_29 dX12_lineOf_13 ?_
  refine lv_topi (fun z_30 ez_30 => ?_)
  have iz_30 : z_30.toInt = Γ (40, 7666, 0) z_25.toInt.toNat := by rw [ez_30]; exact hg_28 _ (tp_pin hn_29)
  exact W.iret (v := z_30) hx hb hr (fun t ht hW => ⟨_, rfl, (iz_30.trans (congrArg _ (by omega))), ht⟩) (fun q h => by cases h) dX12_lineOf_14
set_option maxHeartbeats 4000000 in
set_option maxRecDepth 100000 in
theorem r_isText_0 (l : Launch) (D : va_G) (cy : Nat → ClassId) (sz : Nat) (L : List Nat) (K : Nat → tk_K) (Γ : tk_G) (f : Nat → va_E) (o : Nat) (p0 : Int32) (ho : tp_r L K 39 (0) 0 o) : Met l yX12_isText (tl_w yX12_isText cX12_isText 3 (some .boolean)) ({ frames := 0, cells := 0, slots := 0, locals := 0 }) (va_Pc [.ref o, .int 0, .int p0] (tp_P D cy L K Γ f sz)) (vp_Si (fun r : Int32 => tl_E r (0 ≤ p0.toInt ∧ p0.toInt < Γ (42, 3, 0) 0) 1 0)) 0 0 (fun _ => False) := by
  refine Met.ofW (cc := cX12_isText) (maxL := 3) (ret := (some .boolean)) (by decide) rfl ?_
  intro p e s m args below meth c s₁ B hml hv
  obtain ⟨rfl, hsz, hP, hK, hL, hI, hN, hU⟩ := hv
  have hx := B.exec
  have hb := B.bytes
  have hr := B.returns
  have hta := tl_hta (atoms_spec (ws := tl_w yX12_isText cX12_isText 3 (some .boolean)) B.pre)
  have hown : s.vm.findClass RX12 = some m.cls := findClass_of_methodNamed B.named
  have hlocks := B.notSynchronized
  subst hsz
  have hI0 := hI
  have hl := lv_entry ([.ref o, .int 0, .int p0]) (n := 3) (Nat.le_of_ble_eq_true rfl)
  rw [lg_entry_eq]
  generalize (lg_sl ([.ref o, .int 0, .int p0]) ++ List.replicate (3 - (lg_sl ([.ref o, .int 0, .int p0])).length) Slot.unset).toArray = ls at hl ⊢
  have hl : lv_has ls 3 [(0, .ref o), (1, .int 0), (2, .int p0)] := hl
  refine lv_iload_n hx hb dX12_isText_0 rfl (lv_at hl 2 rfl) ?_
  refine lv_if_lt (tgt := 18) hx hb dX12_isText_1 (by decide) (fun c_1 => ?_) (fun c_1 => ?_)
  · have c_1 : p0.toInt < (0 : Int) := tl_lt c_1
    refine lv_iconst (v := 0) hx hb dX12_isText_18 (by decide) ?_
    exact W.zret (ty := .boolean) (v := 0) hx hb hr rfl (fun t ht hW => ⟨_, rfl, (Or.inr ⟨by omega, rfl⟩), ht⟩) (fun q h => by cases h) dX12_isText_19
  · have c_1 : (0 : Int) ≤ p0.toInt := tl_nlt c_1
    refine lv_iload_n hx hb dX12_isText_4 rfl (lv_at hl 2 rfl) ?_
    refine lv_aload_n hx hb dX12_isText_5 rfl (lv_at hl 0 rfl) ?_
    obtain ⟨r_3, v_4, q_5, hf_2, hr_6, hv_7⟩ := (show tp_o_M L K 0 0 (Γ (39, 0, 0)) (f o) from hI0.at ho)
    refine tp_get (cy := cy) (ci := 12) (v := .ref (r_3 2)) (C := RX12) (T := TX12) (N := 49) hx hb hta inlX12 hown hK hP ho.1 hf_2 rfl 3 (by decide) (hta _ wk_152) (fun _ h9 => h9) rfl dX12_isText_6 ?_
    refine lv_iload_n hx hb dX12_isText_9 rfl (lv_at hl 1 rfl) ?_
    obtain ⟨g_25, hf_24, hg_26⟩ := (show tp_gi cy (3) (Γ (42, 3, 0)) (f (r_3 2)) from hI0.at (show tp_r L K 42 3 0 (r_3 2) from hr_6 2 (by decide)))
    have hn_27 : vp_in 0 (3) := tl_in (by decide) (by decide)
    refine tp_iald (cy := cy) hx hb hK hP (show tp_r L K 42 3 0 (r_3 2) from hr_6 2 (by decide)).1 hf_24 hn_27 dX12_isText_10 ?_
    refine lv_topi (fun z_28 ez_28 => ?_)
    have iz_28 : z_28.toInt = Γ (42, 3, 0) 0 := by rw [ez_28]; exact hg_26 _ (tp_pin hn_27)
    refine lv_icmp_ge (tgt := 18) hx hb dX12_isText_11 (by decide) (fun c_29 => ?_) (fun c_29 => ?_)
    · have c_29 : z_28.toInt ≤ p0.toInt := tl_le c_29
      refine lv_iconst (v := 0) hx hb dX12_isText_18 (by decide) ?_
      exact W.zret (ty := .boolean) (v := 0) hx hb hr rfl (fun t ht hW => ⟨_, rfl, (Or.inr ⟨by omega, rfl⟩), ht⟩) (fun q h => by cases h) dX12_isText_19
    · have c_29 : p0.toInt < z_28.toInt := tl_nle c_29
      refine lv_iconst (v := 1) hx hb dX12_isText_14 (by decide) ?_
      refine lv_goto (tgt := 19) hx hb dX12_isText_15 (by decide) ?_
      exact W.zret (ty := .boolean) (v := 1) hx hb hr rfl (fun t ht hW => ⟨_, rfl, (Or.inl ⟨by omega, rfl⟩), ht⟩) (fun q h => by cases h) dX12_isText_19
set_option maxHeartbeats 4000000 in
set_option maxRecDepth 100000 in
theorem r_isText_1 (l : Launch) (D : va_G) (cy : Nat → ClassId) (sz : Nat) (L : List Nat) (K : Nat → tk_K) (Γ : tk_G) (f : Nat → va_E) (o : Nat) (p0 : Int32) (ho : tp_r L K 39 (0) 0 o) : Met l yX12_isText (tl_w yX12_isText cX12_isText 3 (some .boolean)) ({ frames := 0, cells := 0, slots := 0, locals := 0 }) (va_Pc [.ref o, .int 1, .int p0] (tp_P D cy L K Γ f sz)) (vp_Si (fun r : Int32 => tl_E r (0 ≤ p0.toInt ∧ p0.toInt < Γ (42, 3, 0) 1) 1 0)) 0 0 (fun _ => False) := by
  refine Met.ofW (cc := cX12_isText) (maxL := 3) (ret := (some .boolean)) (by decide) rfl ?_
  intro p e s m args below meth c s₁ B hml hv
  obtain ⟨rfl, hsz, hP, hK, hL, hI, hN, hU⟩ := hv
  have hx := B.exec
  have hb := B.bytes
  have hr := B.returns
  have hta := tl_hta (atoms_spec (ws := tl_w yX12_isText cX12_isText 3 (some .boolean)) B.pre)
  have hown : s.vm.findClass RX12 = some m.cls := findClass_of_methodNamed B.named
  have hlocks := B.notSynchronized
  subst hsz
  have hI0 := hI
  have hl := lv_entry ([.ref o, .int 1, .int p0]) (n := 3) (Nat.le_of_ble_eq_true rfl)
  rw [lg_entry_eq]
  generalize (lg_sl ([.ref o, .int 1, .int p0]) ++ List.replicate (3 - (lg_sl ([.ref o, .int 1, .int p0])).length) Slot.unset).toArray = ls at hl ⊢
  have hl : lv_has ls 3 [(0, .ref o), (1, .int 1), (2, .int p0)] := hl
  refine lv_iload_n hx hb dX12_isText_0 rfl (lv_at hl 2 rfl) ?_
  refine lv_if_lt (tgt := 18) hx hb dX12_isText_1 (by decide) (fun c_1 => ?_) (fun c_1 => ?_)
  · have c_1 : p0.toInt < (0 : Int) := tl_lt c_1
    refine lv_iconst (v := 0) hx hb dX12_isText_18 (by decide) ?_
    exact W.zret (ty := .boolean) (v := 0) hx hb hr rfl (fun t ht hW => ⟨_, rfl, (Or.inr ⟨by omega, rfl⟩), ht⟩) (fun q h => by cases h) dX12_isText_19
  · have c_1 : (0 : Int) ≤ p0.toInt := tl_nlt c_1
    refine lv_iload_n hx hb dX12_isText_4 rfl (lv_at hl 2 rfl) ?_
    refine lv_aload_n hx hb dX12_isText_5 rfl (lv_at hl 0 rfl) ?_
    obtain ⟨r_3, v_4, q_5, hf_2, hr_6, hv_7⟩ := (show tp_o_M L K 0 0 (Γ (39, 0, 0)) (f o) from hI0.at ho)
    refine tp_get (cy := cy) (ci := 12) (v := .ref (r_3 2)) (C := RX12) (T := TX12) (N := 49) hx hb hta inlX12 hown hK hP ho.1 hf_2 rfl 3 (by decide) (hta _ wk_152) (fun _ h9 => h9) rfl dX12_isText_6 ?_
    refine lv_iload_n hx hb dX12_isText_9 rfl (lv_at hl 1 rfl) ?_
    obtain ⟨g_25, hf_24, hg_26⟩ := (show tp_gi cy (3) (Γ (42, 3, 0)) (f (r_3 2)) from hI0.at (show tp_r L K 42 3 0 (r_3 2) from hr_6 2 (by decide)))
    have hn_27 : vp_in 1 (3) := tl_in (by decide) (by decide)
    refine tp_iald (cy := cy) hx hb hK hP (show tp_r L K 42 3 0 (r_3 2) from hr_6 2 (by decide)).1 hf_24 hn_27 dX12_isText_10 ?_
    refine lv_topi (fun z_28 ez_28 => ?_)
    have iz_28 : z_28.toInt = Γ (42, 3, 0) 1 := by rw [ez_28]; exact hg_26 _ (tp_pin hn_27)
    refine lv_icmp_ge (tgt := 18) hx hb dX12_isText_11 (by decide) (fun c_29 => ?_) (fun c_29 => ?_)
    · have c_29 : z_28.toInt ≤ p0.toInt := tl_le c_29
      refine lv_iconst (v := 0) hx hb dX12_isText_18 (by decide) ?_
      exact W.zret (ty := .boolean) (v := 0) hx hb hr rfl (fun t ht hW => ⟨_, rfl, (Or.inr ⟨by omega, rfl⟩), ht⟩) (fun q h => by cases h) dX12_isText_19
    · have c_29 : p0.toInt < z_28.toInt := tl_nle c_29
      refine lv_iconst (v := 1) hx hb dX12_isText_14 (by decide) ?_
      refine lv_goto (tgt := 19) hx hb dX12_isText_15 (by decide) ?_
      exact W.zret (ty := .boolean) (v := 1) hx hb hr rfl (fun t ht hW => ⟨_, rfl, (Or.inl ⟨by omega, rfl⟩), ht⟩) (fun q h => by cases h) dX12_isText_19
set_option maxHeartbeats 4000000 in
set_option maxRecDepth 100000 in
theorem r_isText_2 (l : Launch) (D : va_G) (cy : Nat → ClassId) (sz : Nat) (L : List Nat) (K : Nat → tk_K) (Γ : tk_G) (f : Nat → va_E) (o : Nat) (p0 : Int32) (ho : tp_r L K 39 (0) 0 o) : Met l yX12_isText (tl_w yX12_isText cX12_isText 3 (some .boolean)) ({ frames := 0, cells := 0, slots := 0, locals := 0 }) (va_Pc [.ref o, .int 2, .int p0] (tp_P D cy L K Γ f sz)) (vp_Si (fun r : Int32 => tl_E r (0 ≤ p0.toInt ∧ p0.toInt < Γ (42, 3, 0) 2) 1 0)) 0 0 (fun _ => False) := by
  refine Met.ofW (cc := cX12_isText) (maxL := 3) (ret := (some .boolean)) (by decide) rfl ?_
  intro p e s m args below meth c s₁ B hml hv
  obtain ⟨rfl, hsz, hP, hK, hL, hI, hN, hU⟩ := hv
  have hx := B.exec
  have hb := B.bytes
  have hr := B.returns
  have hta := tl_hta (atoms_spec (ws := tl_w yX12_isText cX12_isText 3 (some .boolean)) B.pre)
  have hown : s.vm.findClass RX12 = some m.cls := findClass_of_methodNamed B.named
  have hlocks := B.notSynchronized
  subst hsz
  have hI0 := hI
  have hl := lv_entry ([.ref o, .int 2, .int p0]) (n := 3) (Nat.le_of_ble_eq_true rfl)
  rw [lg_entry_eq]
  generalize (lg_sl ([.ref o, .int 2, .int p0]) ++ List.replicate (3 - (lg_sl ([.ref o, .int 2, .int p0])).length) Slot.unset).toArray = ls at hl ⊢
  have hl : lv_has ls 3 [(0, .ref o), (1, .int 2), (2, .int p0)] := hl
  refine lv_iload_n hx hb dX12_isText_0 rfl (lv_at hl 2 rfl) ?_
  refine lv_if_lt (tgt := 18) hx hb dX12_isText_1 (by decide) (fun c_1 => ?_) (fun c_1 => ?_)
  · have c_1 : p0.toInt < (0 : Int) := tl_lt c_1
    refine lv_iconst (v := 0) hx hb dX12_isText_18 (by decide) ?_
    exact W.zret (ty := .boolean) (v := 0) hx hb hr rfl (fun t ht hW => ⟨_, rfl, (Or.inr ⟨by omega, rfl⟩), ht⟩) (fun q h => by cases h) dX12_isText_19
  · have c_1 : (0 : Int) ≤ p0.toInt := tl_nlt c_1
    refine lv_iload_n hx hb dX12_isText_4 rfl (lv_at hl 2 rfl) ?_
    refine lv_aload_n hx hb dX12_isText_5 rfl (lv_at hl 0 rfl) ?_
    obtain ⟨r_3, v_4, q_5, hf_2, hr_6, hv_7⟩ := (show tp_o_M L K 0 0 (Γ (39, 0, 0)) (f o) from hI0.at ho)
    refine tp_get (cy := cy) (ci := 12) (v := .ref (r_3 2)) (C := RX12) (T := TX12) (N := 49) hx hb hta inlX12 hown hK hP ho.1 hf_2 rfl 3 (by decide) (hta _ wk_152) (fun _ h9 => h9) rfl dX12_isText_6 ?_
    refine lv_iload_n hx hb dX12_isText_9 rfl (lv_at hl 1 rfl) ?_
    obtain ⟨g_25, hf_24, hg_26⟩ := (show tp_gi cy (3) (Γ (42, 3, 0)) (f (r_3 2)) from hI0.at (show tp_r L K 42 3 0 (r_3 2) from hr_6 2 (by decide)))
    have hn_27 : vp_in 2 (3) := tl_in (by decide) (by decide)
    refine tp_iald (cy := cy) hx hb hK hP (show tp_r L K 42 3 0 (r_3 2) from hr_6 2 (by decide)).1 hf_24 hn_27 dX12_isText_10 ?_
    refine lv_topi (fun z_28 ez_28 => ?_)
    have iz_28 : z_28.toInt = Γ (42, 3, 0) 2 := by rw [ez_28]; exact hg_26 _ (tp_pin hn_27)
    refine lv_icmp_ge (tgt := 18) hx hb dX12_isText_11 (by decide) (fun c_29 => ?_) (fun c_29 => ?_)
    · have c_29 : z_28.toInt ≤ p0.toInt := tl_le c_29
      refine lv_iconst (v := 0) hx hb dX12_isText_18 (by decide) ?_
      exact W.zret (ty := .boolean) (v := 0) hx hb hr rfl (fun t ht hW => ⟨_, rfl, (Or.inr ⟨by omega, rfl⟩), ht⟩) (fun q h => by cases h) dX12_isText_19
    · have c_29 : p0.toInt < z_28.toInt := tl_nle c_29
      refine lv_iconst (v := 1) hx hb dX12_isText_14 (by decide) ?_
      refine lv_goto (tgt := 19) hx hb dX12_isText_15 (by decide) ?_
      exact W.zret (ty := .boolean) (v := 1) hx hb hr rfl (fun t ht hW => ⟨_, rfl, (Or.inl ⟨by omega, rfl⟩), ht⟩) (fun q h => by cases h) dX12_isText_19
set_option maxHeartbeats 4000000 in
set_option maxRecDepth 100000 in
theorem r_X12_isKnown (l : Launch) (D : va_G) (cy : Nat → ClassId) (sz : Nat) (L : List Nat) (K : Nat → tk_K) (Γ : tk_G) (f : Nat → va_E) (o : Nat) (p0 : Int32) (p1 : Int32) (ho : tp_r L K 39 (0) 0 o) (h0 : 0 ≤ p0.toInt ∧ p0.toInt ≤ 23) : Met l yX12_isKnown (tl_w yX12_isKnown cX12_isKnown 3 (some .boolean)) ({ frames := 1, cells := 0, slots := 0, locals := 22 }) (va_Pc [.ref o, .int p0, .int p1] (tp_P D cy L K Γ f sz)) (vp_Si (fun r : Int32 => tl_J r (True))) 0 0 (fun _ => False) := by
  refine Met.ofW (cc := cX12_isKnown) (maxL := 3) (ret := (some .boolean)) (by decide) rfl ?_
  intro p e s m args below meth c s₁ B hml hv
  obtain ⟨rfl, hsz, hP, hK, hL, hI, hN, hU⟩ := hv
  have hx := B.exec
  have hb := B.bytes
  have hr := B.returns
  have hta := tl_hta (atoms_spec (ws := tl_w yX12_isKnown cX12_isKnown 3 (some .boolean)) B.pre)
  have hown : s.vm.findClass RX12 = some m.cls := findClass_of_methodNamed B.named
  have hlocks := B.notSynchronized
  subst hsz
  have hI0 := hI
  have hl := lv_entry ([.ref o, .int p0, .int p1]) (n := 3) (Nat.le_of_ble_eq_true rfl)
  rw [lg_entry_eq]
  generalize (lg_sl ([.ref o, .int p0, .int p1]) ++ List.replicate (3 - (lg_sl ([.ref o, .int p0, .int p1])).length) Slot.unset).toArray = ls at hl ⊢
  have hl : lv_has ls 3 [(0, .ref o), (1, .int p0), (2, .int p1)] := hl
  refine lv_aload_n hx hb dX12_isKnown_0 rfl (lv_at hl 0 rfl) ?_
  refine lv_iload_n hx hb dX12_isKnown_1 rfl (lv_at hl 1 rfl) ?_
  refine lv_iconst (v := 2) hx hb dX12_isKnown_2 (by decide) ?_
  obtain ⟨r_2, v_3, q_4, hf_1, hr_5, hv_6⟩ := (show tp_o_M L K 0 0 (Γ (39, 0, 0)) (f o) from hI0.at ho)
  refine tl_si (tq_rV (As := [.int p0, .int 2]) (rest := []) ⟨hx, hb, hml, hown, hta⟩ (tp_P.pre hK hN hL hU hI hP) (tp_recv hK hP ho.1 hf_1 rfl) lk_X12_132 (r_X12_rowOf l D cy s.heap.size L K Γ f o p0 2 ho (by first | omega | (simp only [Int32.toInt_toInt64]; omega) | decide | assumption) (by first | omega | (simp only [Int32.toInt_toInt64]; omega) | decide | assumption)) rfl rfl ⟨Nat.le_of_ble_eq_true rfl, Nat.le_of_ble_eq_true rfl⟩ rfl hl.1 rfl (Nat.le_of_ble_eq_true rfl) dX12_isKnown_3 ⟨Nat.le_of_ble_eq_true rfl, Nat.le_of_ble_eq_true rfl⟩) (fun r_24 hw_23 => ?_)
  have hw_23 : r_24.toInt = Γ (40, 7666, 0) (9 + 3 * p0.toInt + (2 : Int)).toNat := hw_23
  refine lv_iload_n hx hb dX12_isKnown_6 rfl (lv_at hl 2 rfl) ?_
  refine lv_icmp_gt (tgt := 14) hx hb dX12_isKnown_7 (by decide) (fun c_25 => ?_) (fun c_25 => ?_)
  · have c_25 : p1.toInt < r_24.toInt := tl_lt c_25
    refine lv_iconst (v := 0) hx hb dX12_isKnown_14 (by decide) ?_
    exact W.zret (ty := .boolean) (v := 0) hx hb hr rfl (fun t ht hW => ⟨_, rfl, (Or.inr rfl), ht⟩) (fun q h => by cases h) dX12_isKnown_15
  · have c_25 : r_24.toInt ≤ p1.toInt := tl_nlt c_25
    refine lv_iconst (v := 1) hx hb dX12_isKnown_10 (by decide) ?_
    refine lv_goto (tgt := 15) hx hb dX12_isKnown_11 (by decide) ?_
    exact W.zret (ty := .boolean) (v := 1) hx hb hr rfl (fun t ht hW => ⟨_, rfl, (Or.inl ⟨rfl, trivial⟩), ht⟩) (fun q h => by cases h) dX12_isKnown_15
set_option maxHeartbeats 4000000 in
set_option maxRecDepth 100000 in
theorem r_X12_canAsk (l : Launch) (D : va_G) (cy : Nat → ClassId) (sz : Nat) (L : List Nat) (K : Nat → tk_K) (Γ : tk_G) (f : Nat → va_E) (o : Nat) (p0 : Int32) (p1 : Int32) (ho : tp_r L K 39 (0) 0 o) : Met l yX12_canAsk (tl_w yX12_canAsk cX12_canAsk 3 (some .boolean)) ({ frames := 1, cells := 0, slots := 0, locals := 22 }) (va_Pc [.ref o, .int p0, .int p1] (tp_P D cy L K Γ f sz)) (vp_Si (fun r : Int32 => tl_E r ((0 ≤ p0.toInt ∧ p0.toInt < Γ (42, 3, 0) 1) ∧ 0 ≤ p1.toInt ∧ p1.toInt < Γ (40, 7666, 0) 1) 1 0)) 0 0 (fun _ => False) := by
  refine Met.ofW (cc := cX12_canAsk) (maxL := 3) (ret := (some .boolean)) (by decide) rfl ?_
  intro p e s m args below meth c s₁ B hml hv
  obtain ⟨rfl, hsz, hP, hK, hL, hI, hN, hU⟩ := hv
  have hx := B.exec
  have hb := B.bytes
  have hr := B.returns
  have hta := tl_hta (atoms_spec (ws := tl_w yX12_canAsk cX12_canAsk 3 (some .boolean)) B.pre)
  have hown : s.vm.findClass RX12 = some m.cls := findClass_of_methodNamed B.named
  have hlocks := B.notSynchronized
  subst hsz
  have hI0 := hI
  have hl := lv_entry ([.ref o, .int p0, .int p1]) (n := 3) (Nat.le_of_ble_eq_true rfl)
  rw [lg_entry_eq]
  generalize (lg_sl ([.ref o, .int p0, .int p1]) ++ List.replicate (3 - (lg_sl ([.ref o, .int p0, .int p1])).length) Slot.unset).toArray = ls at hl ⊢
  have hl : lv_has ls 3 [(0, .ref o), (1, .int p0), (2, .int p1)] := hl
  refine lv_aload_n hx hb dX12_canAsk_0 rfl (lv_at hl 0 rfl) ?_
  refine lv_iconst (v := 1) hx hb dX12_canAsk_1 (by decide) ?_
  refine lv_iload_n hx hb dX12_canAsk_2 rfl (lv_at hl 1 rfl) ?_
  obtain ⟨r_2, v_3, q_4, hf_1, hr_5, hv_6⟩ := (show tp_o_M L K 0 0 (Γ (39, 0, 0)) (f o) from hI0.at ho)
  refine tl_si (tq_rV (As := [.int 1, .int p0]) (rest := []) ⟨hx, hb, hml, hown, hta⟩ (tp_P.pre hK hN hL hU hI hP) (tp_recv hK hP ho.1 hf_1 rfl) lk_X12_382 (r_isText_1 l D cy s.heap.size L K Γ f o p0 ho) rfl rfl ⟨Nat.le_of_ble_eq_true rfl, Nat.le_of_ble_eq_true rfl⟩ rfl hl.1 rfl (Nat.le_of_ble_eq_true rfl) dX12_canAsk_3 ⟨Nat.le_of_ble_eq_true rfl, Nat.le_of_ble_eq_true rfl⟩) (fun r_24 hw_23 => ?_)
  have hw_23 : tl_E r_24 (0 ≤ p0.toInt ∧ p0.toInt < Γ (42, 3, 0) 1) 1 0 := hw_23
  refine lv_if_eq (tgt := 21) hx hb dX12_canAsk_6 (by decide) (fun c_25 => ?_) (fun c_25 => ?_)
  · have c_25 := hw_23.f c_25
    refine lv_iconst (v := 0) hx hb dX12_canAsk_21 (by decide) ?_
    exact W.zret (ty := .boolean) (v := 0) hx hb hr rfl (fun t ht hW => ⟨_, rfl, (Or.inr ⟨by omega, rfl⟩), ht⟩) (fun q h => by cases h) dX12_canAsk_22
  · have c_25 := hw_23.t c_25
    refine lv_aload_n hx hb dX12_canAsk_9 rfl (lv_at hl 0 rfl) ?_
    refine lv_iload_n hx hb dX12_canAsk_10 rfl (lv_at hl 2 rfl) ?_
    refine tl_si (tq_rV (As := [.int p1]) (rest := []) ⟨hx, hb, hml, hown, hta⟩ (tp_P.pre hK hN hL hU hI hP) (tp_recv hK hP ho.1 hf_1 rfl) lk_X12_120 (r_X12_isRow l D cy s.heap.size L K Γ f o p1 ho) rfl rfl ⟨Nat.le_of_ble_eq_true rfl, Nat.le_of_ble_eq_true rfl⟩ rfl hl.1 rfl (Nat.le_of_ble_eq_true rfl) dX12_canAsk_11 ⟨Nat.le_of_ble_eq_true rfl, Nat.le_of_ble_eq_true rfl⟩) (fun r_27 hw_26 => ?_)
    have hw_26 : tl_E r_27 (0 ≤ p1.toInt ∧ p1.toInt < Γ (40, 7666, 0) 1) 1 0 := hw_26
    refine lv_if_eq (tgt := 21) hx hb dX12_canAsk_14 (by decide) (fun c_28 => ?_) (fun c_28 => ?_)
    · have c_28 := hw_26.f c_28
      refine lv_iconst (v := 0) hx hb dX12_canAsk_21 (by decide) ?_
      exact W.zret (ty := .boolean) (v := 0) hx hb hr rfl (fun t ht hW => ⟨_, rfl, (Or.inr ⟨by omega, rfl⟩), ht⟩) (fun q h => by cases h) dX12_canAsk_22
    · have c_28 := hw_26.t c_28
      refine lv_iconst (v := 1) hx hb dX12_canAsk_17 (by decide) ?_
      refine lv_goto (tgt := 22) hx hb dX12_canAsk_18 (by decide) ?_
      exact W.zret (ty := .boolean) (v := 1) hx hb hr rfl (fun t ht hW => ⟨_, rfl, (Or.inl ⟨by omega, rfl⟩), ht⟩) (fun q h => by cases h) dX12_canAsk_22
