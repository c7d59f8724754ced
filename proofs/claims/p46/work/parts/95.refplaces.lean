theorem dX12_elsewhere_0 : decode cX12_elsewhere 0 = .ok (.aload_n 0, 1) := by decide +kernel
theorem dX12_elsewhere_1 : decode cX12_elsewhere 1 = .ok (.iload_n 1, 1) := by decide +kernel
theorem dX12_elsewhere_2 : decode cX12_elsewhere 2 = .ok (.iload_n 2, 1) := by decide +kernel
theorem dX12_elsewhere_3 : decode cX12_elsewhere 3 = .ok (.invokevirtual 447, 3) := by decide +kernel
theorem dX12_elsewhere_6 : decode cX12_elsewhere 6 = .ok (.ifCond .eq 13, 3) := by decide +kernel
theorem dX12_elsewhere_9 : decode cX12_elsewhere 9 = .ok (.iload_n 3, 1) := by decide +kernel
theorem dX12_elsewhere_10 : decode cX12_elsewhere 10 = .ok (.i2l, 1) := by decide +kernel
theorem dX12_elsewhere_11 : decode cX12_elsewhere 11 = .ok (.lconst 0, 1) := by decide +kernel
theorem dX12_elsewhere_12 : decode cX12_elsewhere 12 = .ok (.lconst 1, 1) := by decide +kernel
theorem dX12_elsewhere_13 : decode cX12_elsewhere 13 = .ok (.invokestatic 112, 3) := by decide +kernel
theorem dX12_elsewhere_16 : decode cX12_elsewhere 16 = .ok (.ifCond .ne 5, 3) := by decide +kernel
theorem dX12_elsewhere_19 : decode cX12_elsewhere 19 = .ok (.iconst (-1), 1) := by decide +kernel
theorem dX12_elsewhere_20 : decode cX12_elsewhere 20 = .ok (.ireturn, 1) := by decide +kernel
theorem dX12_elsewhere_21 : decode cX12_elsewhere 21 = .ok (.aload_n 0, 1) := by decide +kernel
theorem dX12_elsewhere_22 : decode cX12_elsewhere 22 = .ok (.iload_n 1, 1) := by decide +kernel
theorem dX12_elsewhere_23 : decode cX12_elsewhere 23 = .ok (.iload_n 2, 1) := by decide +kernel
theorem dX12_elsewhere_24 : decode cX12_elsewhere 24 = .ok (.invokevirtual 450, 3) := by decide +kernel
theorem dX12_elsewhere_27 : decode cX12_elsewhere 27 = .ok (.lstore 4, 2) := by decide +kernel
theorem dX12_elsewhere_29 : decode cX12_elsewhere 29 = .ok (.aload_n 0, 1) := by decide +kernel
theorem dX12_elsewhere_30 : decode cX12_elsewhere 30 = .ok (.getfield 425, 3) := by decide +kernel
theorem dX12_elsewhere_33 : decode cX12_elsewhere 33 = .ok (.ifCond .ne 6, 3) := by decide +kernel
theorem dX12_elsewhere_36 : decode cX12_elsewhere 36 = .ok (.bipush (-2), 2) := by decide +kernel
theorem dX12_elsewhere_38 : decode cX12_elsewhere 38 = .ok (.ireturn, 1) := by decide +kernel
theorem dX12_elsewhere_39 : decode cX12_elsewhere 39 = .ok (.bipush 6, 2) := by decide +kernel
theorem dX12_elsewhere_41 : decode cX12_elsewhere 41 = .ok (.iload_n 1, 1) := by decide +kernel
theorem dX12_elsewhere_42 : decode cX12_elsewhere 42 = .ok (.iadd, 1) := by decide +kernel
theorem dX12_elsewhere_43 : decode cX12_elsewhere 43 = .ok (.istore 6, 2) := by decide +kernel
theorem dX12_elsewhere_45 : decode cX12_elsewhere 45 = .ok (.iconst 0, 1) := by decide +kernel
theorem dX12_elsewhere_46 : decode cX12_elsewhere 46 = .ok (.istore 7, 2) := by decide +kernel
theorem dX12_elsewhere_48 : decode cX12_elsewhere 48 = .ok (.iconst 0, 1) := by decide +kernel
theorem dX12_elsewhere_49 : decode cX12_elsewhere 49 = .ok (.istore 8, 2) := by decide +kernel
theorem dX12_elsewhere_51 : decode cX12_elsewhere 51 = .ok (.iconst 0, 1) := by decide +kernel
theorem dX12_elsewhere_52 : decode cX12_elsewhere 52 = .ok (.istore 9, 2) := by decide +kernel
theorem dX12_elsewhere_54 : decode cX12_elsewhere 54 = .ok (.iload 9, 2) := by decide +kernel
theorem dX12_elsewhere_56 : decode cX12_elsewhere 56 = .ok (.sipush 300, 3) := by decide +kernel
theorem dX12_elsewhere_59 : decode cX12_elsewhere 59 = .ok (.aload_n 0, 1) := by decide +kernel
theorem dX12_elsewhere_60 : decode cX12_elsewhere 60 = .ok (.iload_n 1, 1) := by decide +kernel
theorem dX12_elsewhere_61 : decode cX12_elsewhere 61 = .ok (.invokevirtual 459, 3) := by decide +kernel
theorem dX12_elsewhere_64 : decode cX12_elsewhere 64 = .ok (.isub, 1) := by decide +kernel
theorem dX12_elsewhere_65 : decode cX12_elsewhere 65 = .ok (.if_icmp .gt 83, 3) := by decide +kernel
theorem dX12_elsewhere_68 : decode cX12_elsewhere 68 = .ok (.iload 9, 2) := by decide +kernel
theorem dX12_elsewhere_70 : decode cX12_elsewhere 70 = .ok (.aload_n 0, 1) := by decide +kernel
theorem dX12_elsewhere_71 : decode cX12_elsewhere 71 = .ok (.getfield 53, 3) := by decide +kernel
theorem dX12_elsewhere_74 : decode cX12_elsewhere 74 = .ok (.iload 6, 2) := by decide +kernel
theorem dX12_elsewhere_76 : decode cX12_elsewhere 76 = .ok (.iaload, 1) := by decide +kernel
theorem dX12_elsewhere_77 : decode cX12_elsewhere 77 = .ok (.if_icmp .gt 24, 3) := by decide +kernel
theorem dX12_elsewhere_80 : decode cX12_elsewhere 80 = .ok (.iload 9, 2) := by decide +kernel
theorem dX12_elsewhere_82 : decode cX12_elsewhere 82 = .ok (.aload_n 0, 1) := by decide +kernel
theorem dX12_elsewhere_83 : decode cX12_elsewhere 83 = .ok (.iload_n 1, 1) := by decide +kernel
theorem dX12_elsewhere_84 : decode cX12_elsewhere 84 = .ok (.invokevirtual 459, 3) := by decide +kernel
theorem dX12_elsewhere_87 : decode cX12_elsewhere 87 = .ok (.iadd, 1) := by decide +kernel
theorem dX12_elsewhere_88 : decode cX12_elsewhere 88 = .ok (.aload_n 0, 1) := by decide +kernel
theorem dX12_elsewhere_89 : decode cX12_elsewhere 89 = .ok (.getfield 50, 3) := by decide +kernel
theorem dX12_elsewhere_92 : decode cX12_elsewhere 92 = .ok (.iload 6, 2) := by decide +kernel
theorem dX12_elsewhere_94 : decode cX12_elsewhere 94 = .ok (.iaload, 1) := by decide +kernel
theorem dX12_elsewhere_95 : decode cX12_elsewhere 95 = .ok (.if_icmp .le 6, 3) := by decide +kernel
theorem dX12_elsewhere_98 : decode cX12_elsewhere 98 = .ok (.goto 44, 3) := by decide +kernel
theorem dX12_elsewhere_101 : decode cX12_elsewhere 101 = .ok (.aload_n 0, 1) := by decide +kernel
theorem dX12_elsewhere_102 : decode cX12_elsewhere 102 = .ok (.iload_n 1, 1) := by decide +kernel
theorem dX12_elsewhere_103 : decode cX12_elsewhere 103 = .ok (.iload_n 2, 1) := by decide +kernel
theorem dX12_elsewhere_104 : decode cX12_elsewhere 104 = .ok (.iload 9, 2) := by decide +kernel
theorem dX12_elsewhere_106 : decode cX12_elsewhere 106 = .ok (.invokevirtual 462, 3) := by decide +kernel
theorem dX12_elsewhere_109 : decode cX12_elsewhere 109 = .ok (.lstore 10, 2) := by decide +kernel
theorem dX12_elsewhere_111 : decode cX12_elsewhere 111 = .ok (.aload_n 0, 1) := by decide +kernel
theorem dX12_elsewhere_112 : decode cX12_elsewhere 112 = .ok (.getfield 425, 3) := by decide +kernel
theorem dX12_elsewhere_115 : decode cX12_elsewhere 115 = .ok (.ifCond .ne 6, 3) := by decide +kernel
theorem dX12_elsewhere_118 : decode cX12_elsewhere 118 = .ok (.goto 24, 3) := by decide +kernel
theorem dX12_elsewhere_121 : decode cX12_elsewhere 121 = .ok (.iinc 7 1, 3) := by decide +kernel
theorem dX12_elsewhere_124 : decode cX12_elsewhere 124 = .ok (.iload 8, 2) := by decide +kernel
theorem dX12_elsewhere_126 : decode cX12_elsewhere 126 = .ok (.lload 10, 2) := by decide +kernel
theorem dX12_elsewhere_128 : decode cX12_elsewhere 128 = .ok (.lload 4, 2) := by decide +kernel
theorem dX12_elsewhere_130 : decode cX12_elsewhere 130 = .ok (.lcmp, 1) := by decide +kernel
theorem dX12_elsewhere_131 : decode cX12_elsewhere 131 = .ok (.ifCond .lt 7, 3) := by decide +kernel
theorem dX12_elsewhere_134 : decode cX12_elsewhere 134 = .ok (.iconst 1, 1) := by decide +kernel
theorem dX12_elsewhere_135 : decode cX12_elsewhere 135 = .ok (.goto 4, 3) := by decide +kernel
theorem dX12_elsewhere_138 : decode cX12_elsewhere 138 = .ok (.iconst 0, 1) := by decide +kernel
theorem dX12_elsewhere_139 : decode cX12_elsewhere 139 = .ok (.iadd, 1) := by decide +kernel
theorem dX12_elsewhere_140 : decode cX12_elsewhere 140 = .ok (.istore 8, 2) := by decide +kernel
theorem dX12_elsewhere_142 : decode cX12_elsewhere 142 = .ok (.iinc 9 1, 3) := by decide +kernel
theorem dX12_elsewhere_145 : decode cX12_elsewhere 145 = .ok (.goto (-91), 3) := by decide +kernel
theorem dX12_elsewhere_148 : decode cX12_elsewhere 148 = .ok (.iload_n 3, 1) := by decide +kernel
theorem dX12_elsewhere_149 : decode cX12_elsewhere 149 = .ok (.ifCond .ne 8, 3) := by decide +kernel
theorem dX12_elsewhere_152 : decode cX12_elsewhere 152 = .ok (.iload 7, 2) := by decide +kernel
theorem dX12_elsewhere_154 : decode cX12_elsewhere 154 = .ok (.goto 5, 3) := by decide +kernel
theorem dX12_elsewhere_157 : decode cX12_elsewhere 157 = .ok (.iload 8, 2) := by decide +kernel
theorem dX12_elsewhere_159 : decode cX12_elsewhere 159 = .ok (.ireturn, 1) := by decide +kernel
theorem dX12_deepest_0 : decode cX12_deepest 0 = .ok (.aload_n 0, 1) := by decide +kernel
theorem dX12_deepest_1 : decode cX12_deepest 1 = .ok (.iload_n 1, 1) := by decide +kernel
theorem dX12_deepest_2 : decode cX12_deepest 2 = .ok (.iload_n 2, 1) := by decide +kernel
theorem dX12_deepest_3 : decode cX12_deepest 3 = .ok (.invokevirtual 447, 3) := by decide +kernel
theorem dX12_deepest_6 : decode cX12_deepest 6 = .ok (.ifCond .eq 13, 3) := by decide +kernel
theorem dX12_deepest_9 : decode cX12_deepest 9 = .ok (.iload_n 3, 1) := by decide +kernel
theorem dX12_deepest_10 : decode cX12_deepest 10 = .ok (.i2l, 1) := by decide +kernel
theorem dX12_deepest_11 : decode cX12_deepest 11 = .ok (.lconst 0, 1) := by decide +kernel
theorem dX12_deepest_12 : decode cX12_deepest 12 = .ok (.lconst 1, 1) := by decide +kernel
theorem dX12_deepest_13 : decode cX12_deepest 13 = .ok (.invokestatic 112, 3) := by decide +kernel
theorem dX12_deepest_16 : decode cX12_deepest 16 = .ok (.ifCond .ne 7, 3) := by decide +kernel
theorem dX12_deepest_19 : decode cX12_deepest 19 = .ok (.ldc2_w 524, 3) := by decide +kernel
theorem dX12_deepest_22 : decode cX12_deepest 22 = .ok (.lreturn, 1) := by decide +kernel
theorem dX12_deepest_23 : decode cX12_deepest 23 = .ok (.aload_n 0, 1) := by decide +kernel
theorem dX12_deepest_24 : decode cX12_deepest 24 = .ok (.iload_n 2, 1) := by decide +kernel
theorem dX12_deepest_25 : decode cX12_deepest 25 = .ok (.invokevirtual 441, 3) := by decide +kernel
theorem dX12_deepest_28 : decode cX12_deepest 28 = .ok (.bipush 6, 2) := by decide +kernel
theorem dX12_deepest_30 : decode cX12_deepest 30 = .ok (.iload_n 1, 1) := by decide +kernel
theorem dX12_deepest_31 : decode cX12_deepest 31 = .ok (.iadd, 1) := by decide +kernel
theorem dX12_deepest_32 : decode cX12_deepest 32 = .ok (.istore 4, 2) := by decide +kernel
theorem dX12_deepest_34 : decode cX12_deepest 34 = .ok (.iconst (-1), 1) := by decide +kernel
theorem dX12_deepest_35 : decode cX12_deepest 35 = .ok (.istore 5, 2) := by decide +kernel
theorem dX12_deepest_37 : decode cX12_deepest 37 = .ok (.lconst 0, 1) := by decide +kernel
theorem dX12_deepest_38 : decode cX12_deepest 38 = .ok (.lstore 6, 2) := by decide +kernel
theorem dX12_deepest_40 : decode cX12_deepest 40 = .ok (.iconst 0, 1) := by decide +kernel
theorem dX12_deepest_41 : decode cX12_deepest 41 = .ok (.istore 8, 2) := by decide +kernel
theorem dX12_deepest_43 : decode cX12_deepest 43 = .ok (.iload 8, 2) := by decide +kernel
theorem dX12_deepest_45 : decode cX12_deepest 45 = .ok (.sipush 300, 3) := by decide +kernel
theorem dX12_deepest_48 : decode cX12_deepest 48 = .ok (.aload_n 0, 1) := by decide +kernel
theorem dX12_deepest_49 : decode cX12_deepest 49 = .ok (.iload_n 1, 1) := by decide +kernel
theorem dX12_deepest_50 : decode cX12_deepest 50 = .ok (.invokevirtual 459, 3) := by decide +kernel
theorem dX12_deepest_53 : decode cX12_deepest 53 = .ok (.isub, 1) := by decide +kernel
theorem dX12_deepest_54 : decode cX12_deepest 54 = .ok (.if_icmp .gt 83, 3) := by decide +kernel
theorem dX12_deepest_57 : decode cX12_deepest 57 = .ok (.iload 8, 2) := by decide +kernel
theorem dX12_deepest_59 : decode cX12_deepest 59 = .ok (.aload_n 0, 1) := by decide +kernel
theorem dX12_deepest_60 : decode cX12_deepest 60 = .ok (.getfield 53, 3) := by decide +kernel
theorem dX12_deepest_63 : decode cX12_deepest 63 = .ok (.iload 4, 2) := by decide +kernel
theorem dX12_deepest_65 : decode cX12_deepest 65 = .ok (.iaload, 1) := by decide +kernel
theorem dX12_deepest_66 : decode cX12_deepest 66 = .ok (.if_icmp .gt 24, 3) := by decide +kernel
theorem dX12_deepest_69 : decode cX12_deepest 69 = .ok (.iload 8, 2) := by decide +kernel
theorem dX12_deepest_71 : decode cX12_deepest 71 = .ok (.aload_n 0, 1) := by decide +kernel
theorem dX12_deepest_72 : decode cX12_deepest 72 = .ok (.iload_n 1, 1) := by decide +kernel
theorem dX12_deepest_73 : decode cX12_deepest 73 = .ok (.invokevirtual 459, 3) := by decide +kernel
theorem dX12_deepest_76 : decode cX12_deepest 76 = .ok (.iadd, 1) := by decide +kernel
theorem dX12_deepest_77 : decode cX12_deepest 77 = .ok (.aload_n 0, 1) := by decide +kernel
theorem dX12_deepest_78 : decode cX12_deepest 78 = .ok (.getfield 50, 3) := by decide +kernel
theorem dX12_deepest_81 : decode cX12_deepest 81 = .ok (.iload 4, 2) := by decide +kernel
theorem dX12_deepest_83 : decode cX12_deepest 83 = .ok (.iaload, 1) := by decide +kernel
theorem dX12_deepest_84 : decode cX12_deepest 84 = .ok (.if_icmp .le 6, 3) := by decide +kernel
theorem dX12_deepest_87 : decode cX12_deepest 87 = .ok (.goto 44, 3) := by decide +kernel
theorem dX12_deepest_90 : decode cX12_deepest 90 = .ok (.aload_n 0, 1) := by decide +kernel
theorem dX12_deepest_91 : decode cX12_deepest 91 = .ok (.iload_n 1, 1) := by decide +kernel
theorem dX12_deepest_92 : decode cX12_deepest 92 = .ok (.iload_n 2, 1) := by decide +kernel
theorem dX12_deepest_93 : decode cX12_deepest 93 = .ok (.iload 8, 2) := by decide +kernel
theorem dX12_deepest_95 : decode cX12_deepest 95 = .ok (.invokevirtual 462, 3) := by decide +kernel
theorem dX12_deepest_98 : decode cX12_deepest 98 = .ok (.lstore 9, 2) := by decide +kernel
theorem dX12_deepest_100 : decode cX12_deepest 100 = .ok (.aload_n 0, 1) := by decide +kernel
theorem dX12_deepest_101 : decode cX12_deepest 101 = .ok (.getfield 425, 3) := by decide +kernel
theorem dX12_deepest_104 : decode cX12_deepest 104 = .ok (.ifCond .eq 27, 3) := by decide +kernel
theorem dX12_deepest_107 : decode cX12_deepest 107 = .ok (.iload 5, 2) := by decide +kernel
theorem dX12_deepest_109 : decode cX12_deepest 109 = .ok (.ifCond .lt 14, 3) := by decide +kernel
theorem dX12_deepest_112 : decode cX12_deepest 112 = .ok (.lload 9, 2) := by decide +kernel
theorem dX12_deepest_114 : decode cX12_deepest 114 = .ok (.lload 6, 2) := by decide +kernel
theorem dX12_deepest_116 : decode cX12_deepest 116 = .ok (.lcmp, 1) := by decide +kernel
theorem dX12_deepest_117 : decode cX12_deepest 117 = .ok (.ifCond .gt 6, 3) := by decide +kernel
theorem dX12_deepest_120 : decode cX12_deepest 120 = .ok (.goto 11, 3) := by decide +kernel
theorem dX12_deepest_123 : decode cX12_deepest 123 = .ok (.iload 8, 2) := by decide +kernel
theorem dX12_deepest_125 : decode cX12_deepest 125 = .ok (.istore 5, 2) := by decide +kernel
theorem dX12_deepest_127 : decode cX12_deepest 127 = .ok (.lload 9, 2) := by decide +kernel
theorem dX12_deepest_129 : decode cX12_deepest 129 = .ok (.lstore 6, 2) := by decide +kernel
theorem dX12_deepest_131 : decode cX12_deepest 131 = .ok (.iinc 8 1, 3) := by decide +kernel
theorem dX12_deepest_134 : decode cX12_deepest 134 = .ok (.goto (-91), 3) := by decide +kernel
theorem dX12_deepest_137 : decode cX12_deepest 137 = .ok (.iload 5, 2) := by decide +kernel
theorem dX12_deepest_139 : decode cX12_deepest 139 = .ok (.ifCond .ge 9, 3) := by decide +kernel
theorem dX12_deepest_142 : decode cX12_deepest 142 = .ok (.ldc2_w 455, 3) := by decide +kernel
theorem dX12_deepest_145 : decode cX12_deepest 145 = .ok (.goto 15, 3) := by decide +kernel
theorem dX12_deepest_148 : decode cX12_deepest 148 = .ok (.iload_n 3, 1) := by decide +kernel
theorem dX12_deepest_149 : decode cX12_deepest 149 = .ok (.ifCond .ne 9, 3) := by decide +kernel
theorem dX12_deepest_152 : decode cX12_deepest 152 = .ok (.iload 5, 2) := by decide +kernel
theorem dX12_deepest_154 : decode cX12_deepest 154 = .ok (.i2l, 1) := by decide +kernel
theorem dX12_deepest_155 : decode cX12_deepest 155 = .ok (.goto 5, 3) := by decide +kernel
theorem dX12_deepest_158 : decode cX12_deepest 158 = .ok (.lload 6, 2) := by decide +kernel
theorem dX12_deepest_160 : decode cX12_deepest 160 = .ok (.lreturn, 1) := by decide +kernel
theorem wk_1307 : Cond.constantLong RX12 524 (-2100000000) ∈ tl_L := List.mem_filter.mpr ⟨lw_m8 (i := 208) rfl, rfl⟩
theorem dX12_best_0 : decode cX12_best 0 = .ok (.aload_n 0, 1) := by decide +kernel
theorem dX12_best_1 : decode cX12_best 1 = .ok (.iload_n 1, 1) := by decide +kernel
theorem dX12_best_2 : decode cX12_best 2 = .ok (.iload_n 2, 1) := by decide +kernel
theorem dX12_best_3 : decode cX12_best 3 = .ok (.invokevirtual 447, 3) := by decide +kernel
theorem dX12_best_6 : decode cX12_best 6 = .ok (.ifCond .eq 26, 3) := by decide +kernel
theorem dX12_best_9 : decode cX12_best 9 = .ok (.iload_n 3, 1) := by decide +kernel
theorem dX12_best_10 : decode cX12_best 10 = .ok (.i2l, 1) := by decide +kernel
theorem dX12_best_11 : decode cX12_best 11 = .ok (.lconst 0, 1) := by decide +kernel
theorem dX12_best_12 : decode cX12_best 12 = .ok (.ldc2_w 469, 3) := by decide +kernel
theorem dX12_best_15 : decode cX12_best 15 = .ok (.invokestatic 112, 3) := by decide +kernel
theorem dX12_best_18 : decode cX12_best 18 = .ok (.ifCond .eq 14, 3) := by decide +kernel
theorem dX12_best_21 : decode cX12_best 21 = .ok (.iload 4, 2) := by decide +kernel
theorem dX12_best_23 : decode cX12_best 23 = .ok (.i2l, 1) := by decide +kernel
theorem dX12_best_24 : decode cX12_best 24 = .ok (.lconst 0, 1) := by decide +kernel
theorem dX12_best_25 : decode cX12_best 25 = .ok (.lconst 1, 1) := by decide +kernel
theorem dX12_best_26 : decode cX12_best 26 = .ok (.invokestatic 112, 3) := by decide +kernel
theorem dX12_best_29 : decode cX12_best 29 = .ok (.ifCond .ne 7, 3) := by decide +kernel
theorem dX12_best_32 : decode cX12_best 32 = .ok (.ldc2_w 457, 3) := by decide +kernel
theorem dX12_best_35 : decode cX12_best 35 = .ok (.lreturn, 1) := by decide +kernel
theorem dX12_best_36 : decode cX12_best 36 = .ok (.aload_n 0, 1) := by decide +kernel
theorem dX12_best_37 : decode cX12_best 37 = .ok (.iload_n 2, 1) := by decide +kernel
theorem dX12_best_38 : decode cX12_best 38 = .ok (.invokevirtual 441, 3) := by decide +kernel
theorem dX12_best_41 : decode cX12_best 41 = .ok (.aload_n 0, 1) := by decide +kernel
theorem dX12_best_42 : decode cX12_best 42 = .ok (.iload_n 1, 1) := by decide +kernel
theorem dX12_best_43 : decode cX12_best 43 = .ok (.iload_n 2, 1) := by decide +kernel
theorem dX12_best_44 : decode cX12_best 44 = .ok (.aload_n 0, 1) := by decide +kernel
theorem dX12_best_45 : decode cX12_best 45 = .ok (.getfield 50, 3) := by decide +kernel
theorem dX12_best_48 : decode cX12_best 48 = .ok (.bipush 6, 2) := by decide +kernel
theorem dX12_best_50 : decode cX12_best 50 = .ok (.iload_n 1, 1) := by decide +kernel
theorem dX12_best_51 : decode cX12_best 51 = .ok (.iadd, 1) := by decide +kernel
theorem dX12_best_52 : decode cX12_best 52 = .ok (.iaload, 1) := by decide +kernel
theorem dX12_best_53 : decode cX12_best 53 = .ok (.aload_n 0, 1) := by decide +kernel
theorem dX12_best_54 : decode cX12_best 54 = .ok (.getfield 53, 3) := by decide +kernel
theorem dX12_best_57 : decode cX12_best 57 = .ok (.bipush 6, 2) := by decide +kernel
theorem dX12_best_59 : decode cX12_best 59 = .ok (.iload_n 1, 1) := by decide +kernel
theorem dX12_best_60 : decode cX12_best 60 = .ok (.iadd, 1) := by decide +kernel
theorem dX12_best_61 : decode cX12_best 61 = .ok (.iaload, 1) := by decide +kernel
theorem dX12_best_62 : decode cX12_best 62 = .ok (.invokevirtual 418, 3) := by decide +kernel
theorem dX12_best_65 : decode cX12_best 65 = .ok (.bipush (-2), 2) := by decide +kernel
theorem dX12_best_67 : decode cX12_best 67 = .ok (.istore 5, 2) := by decide +kernel
theorem dX12_best_69 : decode cX12_best 69 = .ok (.lconst 0, 1) := by decide +kernel
theorem dX12_best_70 : decode cX12_best 70 = .ok (.lstore 6, 2) := by decide +kernel
theorem dX12_best_72 : decode cX12_best 72 = .ok (.iconst 0, 1) := by decide +kernel
theorem dX12_best_73 : decode cX12_best 73 = .ok (.istore 8, 2) := by decide +kernel
theorem dX12_best_75 : decode cX12_best 75 = .ok (.iload 8, 2) := by decide +kernel
theorem dX12_best_77 : decode cX12_best 77 = .ok (.bipush 40, 2) := by decide +kernel
theorem dX12_best_79 : decode cX12_best 79 = .ok (.if_icmp .gt 115, 3) := by decide +kernel
theorem dX12_best_82 : decode cX12_best 82 = .ok (.aload_n 0, 1) := by decide +kernel
theorem dX12_best_83 : decode cX12_best 83 = .ok (.iload_n 1, 1) := by decide +kernel
theorem dX12_best_84 : decode cX12_best 84 = .ok (.iload 8, 2) := by decide +kernel
theorem dX12_best_86 : decode cX12_best 86 = .ok (.invokevirtual 422, 3) := by decide +kernel
theorem dX12_best_89 : decode cX12_best 89 = .ok (.ifCond .ne 6, 3) := by decide +kernel
theorem dX12_best_92 : decode cX12_best 92 = .ok (.goto 96, 3) := by decide +kernel
theorem dX12_best_95 : decode cX12_best 95 = .ok (.lconst 0, 1) := by decide +kernel
theorem dX12_best_96 : decode cX12_best 96 = .ok (.lstore 9, 2) := by decide +kernel
theorem dX12_best_98 : decode cX12_best 98 = .ok (.iconst 0, 1) := by decide +kernel
theorem dX12_best_99 : decode cX12_best 99 = .ok (.istore 11, 2) := by decide +kernel
theorem dX12_best_101 : decode cX12_best 101 = .ok (.iload 11, 2) := by decide +kernel
theorem dX12_best_103 : decode cX12_best 103 = .ok (.sipush 300, 3) := by decide +kernel
theorem dX12_best_106 : decode cX12_best 106 = .ok (.if_icmp .ge 43, 3) := by decide +kernel
theorem dX12_best_109 : decode cX12_best 109 = .ok (.lload 9, 2) := by decide +kernel
theorem dX12_best_111 : decode cX12_best 111 = .ok (.aload_n 0, 1) := by decide +kernel
theorem dX12_best_112 : decode cX12_best 112 = .ok (.getfield 72, 3) := by decide +kernel
theorem dX12_best_115 : decode cX12_best 115 = .ok (.iload 11, 2) := by decide +kernel
theorem dX12_best_117 : decode cX12_best 117 = .ok (.baload, 1) := by decide +kernel
theorem dX12_best_118 : decode cX12_best 118 = .ok (.ifCond .eq 21, 3) := by decide +kernel
theorem dX12_best_121 : decode cX12_best 121 = .ok (.aload_n 0, 1) := by decide +kernel
theorem dX12_best_122 : decode cX12_best 122 = .ok (.getfield 82, 3) := by decide +kernel
theorem dX12_best_125 : decode cX12_best 125 = .ok (.iload 11, 2) := by decide +kernel
theorem dX12_best_127 : decode cX12_best 127 = .ok (.laload, 1) := by decide +kernel
theorem dX12_best_128 : decode cX12_best 128 = .ok (.aload_n 0, 1) := by decide +kernel
theorem dX12_best_129 : decode cX12_best 129 = .ok (.getfield 82, 3) := by decide +kernel
theorem dX12_best_132 : decode cX12_best 132 = .ok (.iload 11, 2) := by decide +kernel
theorem dX12_best_134 : decode cX12_best 134 = .ok (.laload, 1) := by decide +kernel
theorem dX12_best_135 : decode cX12_best 135 = .ok (.lmul, 1) := by decide +kernel
theorem dX12_best_136 : decode cX12_best 136 = .ok (.goto 4, 3) := by decide +kernel
theorem dX12_best_139 : decode cX12_best 139 = .ok (.lconst 0, 1) := by decide +kernel
theorem dX12_best_140 : decode cX12_best 140 = .ok (.ladd, 1) := by decide +kernel
theorem dX12_best_141 : decode cX12_best 141 = .ok (.lstore 9, 2) := by decide +kernel
theorem dX12_best_143 : decode cX12_best 143 = .ok (.iinc 11 1, 3) := by decide +kernel
theorem dX12_best_146 : decode cX12_best 146 = .ok (.goto (-45), 3) := by decide +kernel
theorem dX12_best_149 : decode cX12_best 149 = .ok (.lload 9, 2) := by decide +kernel
theorem dX12_best_151 : decode cX12_best 151 = .ok (.ldc2_w 148, 3) := by decide +kernel
theorem dX12_best_154 : decode cX12_best 154 = .ok (.ldiv, 1) := by decide +kernel
theorem dX12_best_155 : decode cX12_best 155 = .ok (.iload_n 3, 1) := by decide +kernel
theorem dX12_best_156 : decode cX12_best 156 = .ok (.i2l, 1) := by decide +kernel
theorem dX12_best_157 : decode cX12_best 157 = .ok (.iload 8, 2) := by decide +kernel
theorem dX12_best_159 : decode cX12_best 159 = .ok (.i2l, 1) := by decide +kernel
theorem dX12_best_160 : decode cX12_best 160 = .ok (.lmul, 1) := by decide +kernel
theorem dX12_best_161 : decode cX12_best 161 = .ok (.ladd, 1) := by decide +kernel
theorem dX12_best_162 : decode cX12_best 162 = .ok (.lstore 11, 2) := by decide +kernel
theorem dX12_best_164 : decode cX12_best 164 = .ok (.iload 5, 2) := by decide +kernel
theorem dX12_best_166 : decode cX12_best 166 = .ok (.ifCond .lt 14, 3) := by decide +kernel
theorem dX12_best_169 : decode cX12_best 169 = .ok (.lload 11, 2) := by decide +kernel
theorem dX12_best_171 : decode cX12_best 171 = .ok (.lload 6, 2) := by decide +kernel
theorem dX12_best_173 : decode cX12_best 173 = .ok (.lcmp, 1) := by decide +kernel
theorem dX12_best_174 : decode cX12_best 174 = .ok (.ifCond .lt 6, 3) := by decide +kernel
theorem dX12_best_177 : decode cX12_best 177 = .ok (.goto 11, 3) := by decide +kernel
theorem dX12_best_180 : decode cX12_best 180 = .ok (.iload 8, 2) := by decide +kernel
theorem dX12_best_182 : decode cX12_best 182 = .ok (.istore 5, 2) := by decide +kernel
theorem dX12_best_184 : decode cX12_best 184 = .ok (.lload 11, 2) := by decide +kernel
theorem dX12_best_186 : decode cX12_best 186 = .ok (.lstore 6, 2) := by decide +kernel
theorem dX12_best_188 : decode cX12_best 188 = .ok (.iinc 8 1, 3) := by decide +kernel
theorem dX12_best_191 : decode cX12_best 191 = .ok (.goto (-116), 3) := by decide +kernel
theorem dX12_best_194 : decode cX12_best 194 = .ok (.iload 5, 2) := by decide +kernel
theorem dX12_best_196 : decode cX12_best 196 = .ok (.ifCond .lt 8, 3) := by decide +kernel
theorem dX12_best_199 : decode cX12_best 199 = .ok (.iload 4, 2) := by decide +kernel
theorem dX12_best_201 : decode cX12_best 201 = .ok (.ifCond .ne 9, 3) := by decide +kernel
theorem dX12_best_204 : decode cX12_best 204 = .ok (.iload 5, 2) := by decide +kernel
theorem dX12_best_206 : decode cX12_best 206 = .ok (.i2l, 1) := by decide +kernel
theorem dX12_best_207 : decode cX12_best 207 = .ok (.goto 5, 3) := by decide +kernel
theorem dX12_best_210 : decode cX12_best 210 = .ok (.lload 6, 2) := by decide +kernel
theorem dX12_best_212 : decode cX12_best 212 = .ok (.lreturn, 1) := by decide +kernel
theorem wk_1064 : Cond.constantLong RX12 469 (99999) ∈ tl_L := List.mem_filter.mpr ⟨lw_m8 (i := 95) rfl, rfl⟩
theorem dX12_apart_0 : decode cX12_apart 0 = .ok (.aload_n 0, 1) := by decide +kernel
theorem dX12_apart_1 : decode cX12_apart 1 = .ok (.iconst 1, 1) := by decide +kernel
theorem dX12_apart_2 : decode cX12_apart 2 = .ok (.iload_n 1, 1) := by decide +kernel
theorem dX12_apart_3 : decode cX12_apart 3 = .ok (.invokevirtual 382, 3) := by decide +kernel
theorem dX12_apart_6 : decode cX12_apart 6 = .ok (.ifCond .eq 31, 3) := by decide +kernel
theorem dX12_apart_9 : decode cX12_apart 9 = .ok (.aload_n 0, 1) := by decide +kernel
theorem dX12_apart_10 : decode cX12_apart 10 = .ok (.iconst 1, 1) := by decide +kernel
theorem dX12_apart_11 : decode cX12_apart 11 = .ok (.iload_n 2, 1) := by decide +kernel
theorem dX12_apart_12 : decode cX12_apart 12 = .ok (.invokevirtual 382, 3) := by decide +kernel
theorem dX12_apart_15 : decode cX12_apart 15 = .ok (.ifCond .eq 22, 3) := by decide +kernel
theorem dX12_apart_18 : decode cX12_apart 18 = .ok (.iload_n 1, 1) := by decide +kernel
theorem dX12_apart_19 : decode cX12_apart 19 = .ok (.iload_n 2, 1) := by decide +kernel
theorem dX12_apart_20 : decode cX12_apart 20 = .ok (.if_icmp .eq 17, 3) := by decide +kernel
theorem dX12_apart_23 : decode cX12_apart 23 = .ok (.iload_n 3, 1) := by decide +kernel
theorem dX12_apart_24 : decode cX12_apart 24 = .ok (.i2l, 1) := by decide +kernel
theorem dX12_apart_25 : decode cX12_apart 25 = .ok (.ldc2_w 473, 3) := by decide +kernel
theorem dX12_apart_28 : decode cX12_apart 28 = .ok (.ldc2_w 475, 3) := by decide +kernel
theorem dX12_apart_31 : decode cX12_apart 31 = .ok (.invokestatic 112, 3) := by decide +kernel
theorem dX12_apart_34 : decode cX12_apart 34 = .ok (.ifCond .ne 5, 3) := by decide +kernel
theorem dX12_apart_37 : decode cX12_apart 37 = .ok (.iconst (-1), 1) := by decide +kernel
theorem dX12_apart_38 : decode cX12_apart 38 = .ok (.ireturn, 1) := by decide +kernel
theorem dX12_apart_39 : decode cX12_apart 39 = .ok (.iconst 0, 1) := by decide +kernel
theorem dX12_apart_40 : decode cX12_apart 40 = .ok (.istore 4, 2) := by decide +kernel
theorem dX12_apart_42 : decode cX12_apart 42 = .ok (.iconst 0, 1) := by decide +kernel
theorem dX12_apart_43 : decode cX12_apart 43 = .ok (.istore 5, 2) := by decide +kernel
theorem dX12_apart_45 : decode cX12_apart 45 = .ok (.iload 5, 2) := by decide +kernel
theorem dX12_apart_47 : decode cX12_apart 47 = .ok (.aload_n 0, 1) := by decide +kernel
theorem dX12_apart_48 : decode cX12_apart 48 = .ok (.getfield 7, 3) := by decide +kernel
theorem dX12_apart_51 : decode cX12_apart 51 = .ok (.iconst 1, 1) := by decide +kernel
theorem dX12_apart_52 : decode cX12_apart 52 = .ok (.iaload, 1) := by decide +kernel
theorem dX12_apart_53 : decode cX12_apart 53 = .ok (.if_icmp .ge 58, 3) := by decide +kernel
theorem dX12_apart_56 : decode cX12_apart 56 = .ok (.iload 4, 2) := by decide +kernel
theorem dX12_apart_58 : decode cX12_apart 58 = .ok (.aload_n 0, 1) := by decide +kernel
theorem dX12_apart_59 : decode cX12_apart 59 = .ok (.iload_n 1, 1) := by decide +kernel
theorem dX12_apart_60 : decode cX12_apart 60 = .ok (.iload 5, 2) := by decide +kernel
theorem dX12_apart_62 : decode cX12_apart 62 = .ok (.invokevirtual 450, 3) := by decide +kernel
theorem dX12_apart_65 : decode cX12_apart 65 = .ok (.iload_n 3, 1) := by decide +kernel
theorem dX12_apart_66 : decode cX12_apart 66 = .ok (.i2l, 1) := by decide +kernel
theorem dX12_apart_67 : decode cX12_apart 67 = .ok (.lcmp, 1) := by decide +kernel
theorem dX12_apart_68 : decode cX12_apart 68 = .ok (.ifCond .lt 7, 3) := by decide +kernel
theorem dX12_apart_71 : decode cX12_apart 71 = .ok (.iconst 1, 1) := by decide +kernel
theorem dX12_apart_72 : decode cX12_apart 72 = .ok (.goto 4, 3) := by decide +kernel
theorem dX12_apart_75 : decode cX12_apart 75 = .ok (.iconst 0, 1) := by decide +kernel
theorem dX12_apart_76 : decode cX12_apart 76 = .ok (.aload_n 0, 1) := by decide +kernel
theorem dX12_apart_77 : decode cX12_apart 77 = .ok (.iload_n 2, 1) := by decide +kernel
theorem dX12_apart_78 : decode cX12_apart 78 = .ok (.iload 5, 2) := by decide +kernel
theorem dX12_apart_80 : decode cX12_apart 80 = .ok (.invokevirtual 450, 3) := by decide +kernel
theorem dX12_apart_83 : decode cX12_apart 83 = .ok (.iload_n 3, 1) := by decide +kernel
theorem dX12_apart_84 : decode cX12_apart 84 = .ok (.i2l, 1) := by decide +kernel
theorem dX12_apart_85 : decode cX12_apart 85 = .ok (.lcmp, 1) := by decide +kernel
theorem dX12_apart_86 : decode cX12_apart 86 = .ok (.ifCond .lt 7, 3) := by decide +kernel
theorem dX12_apart_89 : decode cX12_apart 89 = .ok (.iconst 1, 1) := by decide +kernel
theorem dX12_apart_90 : decode cX12_apart 90 = .ok (.goto 4, 3) := by decide +kernel
theorem dX12_apart_93 : decode cX12_apart 93 = .ok (.iconst 0, 1) := by decide +kernel
theorem dX12_apart_94 : decode cX12_apart 94 = .ok (.if_icmp .eq 7, 3) := by decide +kernel
theorem dX12_apart_97 : decode cX12_apart 97 = .ok (.iconst 1, 1) := by decide +kernel
theorem dX12_apart_98 : decode cX12_apart 98 = .ok (.goto 4, 3) := by decide +kernel
theorem dX12_apart_101 : decode cX12_apart 101 = .ok (.iconst 0, 1) := by decide +kernel
theorem dX12_apart_102 : decode cX12_apart 102 = .ok (.iadd, 1) := by decide +kernel
theorem dX12_apart_103 : decode cX12_apart 103 = .ok (.istore 4, 2) := by decide +kernel
theorem dX12_apart_105 : decode cX12_apart 105 = .ok (.iinc 5 1, 3) := by decide +kernel
theorem dX12_apart_108 : decode cX12_apart 108 = .ok (.goto (-63), 3) := by decide +kernel
theorem dX12_apart_111 : decode cX12_apart 111 = .ok (.iload 4, 2) := by decide +kernel
theorem dX12_apart_113 : decode cX12_apart 113 = .ok (.ireturn, 1) := by decide +kernel
set_option maxHeartbeats 4000000 in
set_option maxRecDepth 100000 in
theorem r_X12_elsewhere (l : Launch) (D : va_G) (cy : Nat → ClassId) (sz : Nat) (L : List Nat) (K : Nat → tk_K) (Γ : tk_G) (f : Nat → va_E) (o : Nat) (p0 : Int32) (p1 : Int32) (p2 : Int32) (ho : tp_r L K 39 (0) 0 o) (htx : tx_ok (Γ (43, 8800, 0)) (Γ (45, 1056, 0)) (Γ (46, 22, 0)) (Γ (47, 6, 0)) (Γ (48, 22, 0)) (Γ (49, 22, 0)) (Γ (50, 22, 0)) (Γ (51, 22, 0)) (Γ (42, 3, 0))) (hsd : ts_said (Γ (40, 7666, 0)) (Γ (42, 3, 0) 1)) : Met l yX12_elsewhere (tl_w yX12_elsewhere cX12_elsewhere 12 (some .int)) ({ frames := 7, cells := 0, slots := 0, locals := 177 }) (va_Pc [.ref o, .int p0, .int p1, .int p2] (tp_P D cy L K Γ f sz)) (va_Qi (fun (r : Int32) (u : (Nat → va_E) × tk_G) => u.2 (39, 0, 0) 0 = Γ (39, 0, 0) 0) (tp_BG D cy L K Γ f [39, 58, 57, 60, 61, 62, 63, 59]) (tp_A L sz)) 0 0 (tp_A L sz) := by
  refine Met.ofW (cc := cX12_elsewhere) (maxL := 12) (ret := (some .int)) (by decide) rfl ?_
  intro p e s m args below meth c s₁ B hml hv
  obtain ⟨rfl, hsz, hP, hK, hL, hI, hN, hU⟩ := hv
  have hx := B.exec
  have hb := B.bytes
  have hr := B.returns
  have hta := tl_hta (atoms_spec (ws := tl_w yX12_elsewhere cX12_elsewhere 12 (some .int)) B.pre)
  have hown : s.vm.findClass RX12 = some m.cls := findClass_of_methodNamed B.named
  have hlocks := B.notSynchronized
  subst hsz
  have hI0 := hI
  generalize hAe : tp_A L s.heap.size = A
  have hA : ∀ q : Nat, s.heap.size ≤ q → A q := fun q h => by rw [← hAe]; exact Or.inr h
  have hAL : ∀ q ∈ L, A q := fun q h => by rw [← hAe]; exact Or.inl h
  have hAf : ∀ (H : Heap), s.heap.size ≤ H.size → ∀ q, tp_A L H.size q → A q := fun H h q hq => hq.elim (hAL q) (fun h2 => hA q (Nat.le_trans h h2))
  have hS : va_S A s.heap s.heap [] := va_S.rf
  have hD : va_D A (va_pl L f) := tp_D hL hAL
  have hfr : ∀ b, (K b).1 ∉ ([39, 58, 57, 60, 61, 62, 63, 59] : List Nat) → f b = f b := fun _ _ => rfl
  have hgr : ∀ κ : tk_K, κ.1 ∉ ([39, 58, 57, 60, 61, 62, 63, 59] : List Nat) → Γ κ = Γ κ := fun _ _ => rfl
  have hl := lv_entry ([.ref o, .int p0, .int p1, .int p2]) (n := 12) (Nat.le_of_ble_eq_true rfl)
  rw [lg_entry_eq]
  generalize (lg_sl ([.ref o, .int p0, .int p1, .int p2]) ++ List.replicate (12 - (lg_sl ([.ref o, .int p0, .int p1, .int p2])).length) Slot.unset).toArray = ls at hl ⊢
  have hl : lv_has ls 12 [(0, .ref o), (1, .int p0), (2, .int p1), (3, .int p2)] := hl
  have hs := ts_hs hsd
  have hraw := ts_raw hsd
  have hslp := ts_slp hsd
  have htb := htx.1
  refine lv_aload_n hx hb dX12_elsewhere_0 rfl (lv_at hl 0 rfl) ?_
  refine lv_iload_n hx hb dX12_elsewhere_1 rfl (lv_at hl 1 rfl) ?_
  refine lv_iload_n hx hb dX12_elsewhere_2 rfl (lv_at hl 2 rfl) ?_
  obtain ⟨r_2, v_3, q_4, hf_1, hr_5, hv_6⟩ := (show tp_o_M L K 0 0 (Γ (39, 0, 0)) (f o) from hI.at ho)
  refine tl_si (tq_rV (As := [.int p0, .int p1]) (rest := []) ⟨hx, hb, hml, hown, hta⟩ (tp_P.pre hK hN hL hU hI hP) (tp_recv hK hP ho.1 hf_1 rfl) lk_X12_447 (r_X12_canAsk l D cy s.heap.size L K Γ f o p0 p1 ho) rfl rfl ⟨Nat.le_of_ble_eq_true rfl, Nat.le_of_ble_eq_true rfl⟩ rfl hl.1 rfl (Nat.le_of_ble_eq_true rfl) dX12_elsewhere_3 ⟨Nat.le_of_ble_eq_true rfl, Nat.le_of_ble_eq_true rfl⟩) (fun r_15 hw_14 => ?_)
  have hw_14 : tl_E r_15 ((0 ≤ p0.toInt ∧ p0.toInt < Γ (42, 3, 0) 1) ∧ 0 ≤ p1.toInt ∧ p1.toInt < Γ (40, 7666, 0) 1) 1 0 := hw_14
  refine lv_if_eq (tgt := 19) hx hb dX12_elsewhere_6 (by decide) (fun c_16 => ?_) (fun c_16 => ?_)
  · have c_16 := hw_14.f c_16
    refine lv_iconst (v := (-1)) hx hb dX12_elsewhere_19 (by decide) ?_
    have hpo9 : Γ (39, 0, 0) 0 = Γ (39, 0, 0) 0 := (by omega)
    exact W.iret (v := (-1)) hx hb hr (fun t ht hW => ⟨⟨_, (f, Γ), rfl, hpo9, by rw [ht]; exact hP, hI, hfr, hgr⟩, hS.F ht⟩) hS.2.2 dX12_elsewhere_20
  · have c_16 := hw_14.t c_16
    refine lv_iload_n hx hb dX12_elsewhere_9 rfl (lv_at hl 3 rfl) ?_
    refine lv_i2l (v := p2.toInt64) hx hb dX12_elsewhere_10 (by first | rfl | decide) ?_
    refine lv_lconst (v := 0) hx hb dX12_elsewhere_11 (by decide) ?_
    refine lv_lconst (v := 1) hx hb dX12_elsewhere_12 (by decide) ?_
    refine tl_si (tq_rS (As := [.long p2.toInt64, .long 0, .long 1]) (rest := []) ⟨hx, hb, hml, hown, hta⟩ (tp_P.pre hK hN hL hU hI hP) lk_X12_112 (r_X12_in l D cy s.heap.size L K Γ f p2.toInt64 0 1 ) rfl rfl ⟨Nat.le_of_ble_eq_true rfl, Nat.le_of_ble_eq_true rfl⟩ rfl hl.1 rfl (Nat.le_of_ble_eq_true rfl) dX12_elsewhere_13 ⟨Nat.le_of_ble_eq_true rfl, Nat.le_of_ble_eq_true rfl⟩) (fun r_18 hw_17 => ?_)
    simp only [Int32.toInt_toInt64] at hw_17
    have hw_17 : tl_E r_18 ((0 : Int) ≤ p2.toInt ∧ p2.toInt ≤ (1 : Int)) 1 0 := hw_17
    refine lv_if_ne (tgt := 21) hx hb dX12_elsewhere_16 (by decide) (fun c_19 => ?_) (fun c_19 => ?_)
    · have c_19 := hw_17.t c_19
      refine lv_aload_n hx hb dX12_elsewhere_21 rfl (lv_at hl 0 rfl) ?_
      refine lv_iload_n hx hb dX12_elsewhere_22 rfl (lv_at hl 1 rfl) ?_
      refine lv_iload_n hx hb dX12_elsewhere_23 rfl (lv_at hl 2 rfl) ?_
      refine tq_clR hS (hAf _ hS.1) (tq_rV (As := [.int p0, .int p1]) (rest := []) ⟨hx, hb, hml, hown, hta⟩ (tp_P.pre hK hN hL hU hI hP) (tp_recv hK hP ho.1 hf_1 rfl) lk_X12_450 (r_X12_scoreOf l D cy s.heap.size L K Γ f o p0 p1 ho (by first | omega | (simp only [Int32.toInt_toInt64]; omega) | decide | assumption) (by first | omega | (simp only [Int32.toInt_toInt64]; omega) | decide | assumption) (by first | omega | (simp only [Int32.toInt_toInt64]; omega) | decide | assumption) (by first | omega | (simp only [Int32.toInt_toInt64]; omega) | decide | assumption)) rfl rfl ⟨Nat.le_of_ble_eq_true rfl, Nat.le_of_ble_eq_true rfl⟩ rfl hl.1 rfl (Nat.le_of_ble_eq_true rfl) dX12_elsewhere_24 ⟨Nat.le_of_ble_eq_true rfl, Nat.le_of_ble_eq_true rfl⟩) (fun r_21 f_22 Γ_24 H locs hw_20 hP hI hc_23 hcg_25 hS => ?_)
      have hD : va_D A (va_pl L f_22) := tp_D hL hAL
      have hfr := tp_fr2 hfr hc_23 (by decide)
      have hgr : ∀ κ : tk_K, κ.1 ∉ ([39, 58, 57, 60, 61, 62, 63, 59] : List Nat) → Γ_24 κ = Γ κ := tg_fr2 hgr hcg_25 (by decide)
      have hw_20 : Γ_24 (39, 0, 0) 0 = Γ (39, 0, 0) 0 ∧ (0 ≤ Γ_24 (39, 0, 0) 11 ∧ Γ_24 (39, 0, 0) 12 ≤ 299) ∧ (Γ_24 (39, 0, 0) 11 = Γ (49, 22, 0) (6 + p0.toInt).toNat ∧ Γ_24 (39, 0, 0) 12 = Γ (50, 22, 0) (6 + p0.toInt).toNat) ∧ (Γ_24 (39, 0, 0) 15 = 0 ∨ Γ_24 (39, 0, 0) 15 = 1) ∧ (0 ≤ Γ_24 (39, 0, 0) 13 ∧ Γ_24 (39, 0, 0) 13 ≤ 42) ∧ (0 < Γ_24 (39, 0, 0) 13 → 0 < Γ_24 (39, 0, 0) 10) ∧ (Γ_24 (39, 0, 0) 15 = 1 → 0 < Γ_24 (39, 0, 0) 13 ∧ 0 < Γ_24 (39, 0, 0) 14) ∧ (Γ_24 (39, 0, 0) 15 = 1 → gex (Γ_24 (59, 300, 0)) (Γ (49, 22, 0) (6 + p0.toInt).toNat) (Γ (50, 22, 0) (6 + p0.toInt).toNat + 1)) ∧ (∀ j : Nat, (j : Int) < Γ_24 (39, 0, 0) 13 → 0 ≤ Γ_24 (61, 42, 0) j ∧ Γ_24 (61, 42, 0) j ≤ 299) ∧ (∀ j : Nat, (j : Int) + 1 < Γ_24 (39, 0, 0) 13 → Γ_24 (61, 42, 0) j < Γ_24 (61, 42, 0) (j + 1)) ∧ (∀ j : Nat, j < 300 → (Γ_24 (59, 300, 0) j = -1000000 ∨ (-500000 ≤ Γ_24 (59, 300, 0) j ∧ Γ_24 (59, 300, 0) j ≤ 500000))) := hw_20
      obtain ⟨hq0, hqb, hq11, hq15, hq13, hq10, hqd, hqg, hqk, hqr, hql⟩ := hw_20
      refine lv_lstore (lv' := [(4, .long r_21), (0, .ref o), (1, .int p0), (2, .int p1), (3, .int p2)]) hx hb dX12_elsewhere_27 hl (by decide) rfl (fun ls hl => ?_)
      refine lv_aload_n hx hb dX12_elsewhere_29 rfl (lv_at hl 1 rfl) ?_
      obtain ⟨r_27, v_28, q_29, hf_26, hr_30, hv_31⟩ := (show tp_o_M L K 0 0 (Γ_24 (39, 0, 0)) (f_22 o) from hI.at ho)
      have hx_38 : (v_28 15).toInt = Γ_24 (39, 0, 0) 15 := hv_31 15 (by decide)
      refine tp_get (cy := cy) (ci := 12) (v := .int (v_28 15)) (C := RX12) (T := TX12) (N := 49) hx hb hta inlX12 hown hK hP ho.1 hf_26 rfl 40 (by decide) (hta _ wk_924) (fun _ h9 => h9) rfl dX12_elsewhere_30 ?_
      refine lv_if_ne (tgt := 39) hx hb dX12_elsewhere_33 (by decide) (fun c_39 => ?_) (fun c_39 => ?_)
      · have c_39 : ¬ (v_28 15).toInt = (0 : Int) := tl_neq c_39
        refine lv_bipush (v := 6) hx hb dX12_elsewhere_39 (by decide) ?_
        refine lv_iload_n hx hb dX12_elsewhere_41 rfl (lv_at hl 2 rfl) ?_
        refine lv_iadd hx hb dX12_elsewhere_42 ?_
        refine lv_topi (fun z_40 ez_40 => ?_)
        try have iz_40 : z_40.toInt = (6 : Int) + p0.toInt := by rw [ez_40]; exact tl_addN 6 p0 rfl rfl (by omega) (by omega)
        refine lv_istore (lv' := [(6, .int z_40), (4, .long r_21), (0, .ref o), (1, .int p0), (2, .int p1), (3, .int p2)]) hx hb dX12_elsewhere_43 hl (by decide) rfl (fun ls hl => ?_)
        refine lv_iconst (v := 0) hx hb dX12_elsewhere_45 (by decide) ?_
        refine lv_istore (lv' := [(7, .int 0), (6, .int z_40), (4, .long r_21), (0, .ref o), (1, .int p0), (2, .int p1), (3, .int p2)]) hx hb dX12_elsewhere_46 hl (by decide) rfl (fun ls hl => ?_)
        refine lv_iconst (v := 0) hx hb dX12_elsewhere_48 (by decide) ?_
        refine lv_istore (lv' := [(8, .int 0), (7, .int 0), (6, .int z_40), (4, .long r_21), (0, .ref o), (1, .int p0), (2, .int p1), (3, .int p2)]) hx hb dX12_elsewhere_49 hl (by decide) rfl (fun ls hl => ?_)
        refine lv_iconst (v := 0) hx hb dX12_elsewhere_51 (by decide) ?_
        refine lv_istore (lv' := [(9, .int 0), (8, .int 0), (7, .int 0), (6, .int z_40), (4, .long r_21), (0, .ref o), (1, .int p0), (2, .int p1), (3, .int p2)]) hx hb dX12_elsewhere_52 hl (by decide) rfl (fun ls hl => ?_)
        refine tl_ind (G := fun H locs ls => W p l e ((headSpec (tl_w yX12_elsewhere cX12_elsewhere 12 (some .int)) ({ frames := 7, cells := 0, slots := 0, locals := 177 })).room) s m #[.ref o, .int p0, .int p1, .int p2] below meth c H locs 0 0 (MQ below (va_Qi (fun (r : Int32) (u : (Nat → va_E) × tk_G) => u.2 (39, 0, 0) 0 = Γ (39, 0, 0) 0) (tp_BG D cy L K Γ f [39, 58, 57, 60, 61, 62, 63, 59]) A) #[.ref o, .int p0, .int p1, .int p2] s 0 0 A) (F0 m 54 ls [])) (α := (Nat → va_E) × tk_G × Int32 × Int32 × Int32) (fun aq => (600 - aq.2.2.1.toInt).toNat) (fun aq H locs ls => (0 ≤ aq.2.2.1.toInt) ∧ (aq.2.1 (39, 0, 0) 0 = Γ (39, 0, 0) 0) ∧ va_P D vwCl (va_pl L aq.1) H ∧ tp_I cy L K aq.2.1 aq.1 ∧ (∀ b, (K b).1 ∉ ([39, 58, 57, 60, 61, 62, 63, 59] : List Nat) → aq.1 b = f b) ∧ (∀ κ : tk_K, κ.1 ∉ ([39, 58, 57, 60, 61, 62, 63, 59] : List Nat) → aq.2.1 κ = Γ κ) ∧ va_S A s.heap H locs ∧ lv_has ls 12 [(9, .int aq.2.2.1), (8, .int aq.2.2.2.1), (7, .int aq.2.2.2.2), (6, .int z_40), (4, .long r_21), (0, .ref o), (1, .int p0), (2, .int p1), (3, .int p2)]) ?_ (f_22, Γ_24, (0 : Int32), (0 : Int32), (0 : Int32)) H locs ls ⟨(show 0 ≤ (0 : Int) from (by omega)), (show Γ_24 (39, 0, 0) 0 = Γ (39, 0, 0) 0 from (by omega)), hP, hI, hfr, hgr, hS, lv_sub hl [0, 1, 2, 3, 4, 5, 6, 7, 8] rfl⟩
        rintro ⟨f_41, Γ_42, v9, v8, v7⟩ H locs ls ⟨hf, q0, hP, hI, hfr, hgr, hS, hl⟩ ih54
        have hgr : ∀ κ : tk_K, κ.1 ∉ ([39, 58, 57, 60, 61, 62, 63, 59] : List Nat) → Γ_42 κ = Γ κ := hgr
        have hP : va_P D vwCl (va_pl L f_41) H := hP
        have hI : tp_I cy L K Γ_42 f_41 := hI
        have hfr : ∀ b, (K b).1 ∉ ([39, 58, 57, 60, 61, 62, 63, 59] : List Nat) → f_41 b = f b := hfr
        have hD : va_D A (va_pl L f_41) := tp_D hL hAL
        have hf : 0 ≤ v9.toInt := hf
        have q0 : Γ_42 (39, 0, 0) 0 = Γ (39, 0, 0) 0 := q0
        have hl : lv_has ls 12 [(9, .int v9), (8, .int v8), (7, .int v7), (6, .int z_40), (4, .long r_21), (0, .ref o), (1, .int p0), (2, .int p1), (3, .int p2)] := hl
        refine lv_iload hx hb dX12_elsewhere_54 (lv_at hl 0 rfl) ?_
        refine lv_sipush (v := 300) hx hb dX12_elsewhere_56 (by decide) ?_
        refine lv_aload_n hx hb dX12_elsewhere_59 rfl (lv_at hl 5 rfl) ?_
        refine lv_iload_n hx hb dX12_elsewhere_60 rfl (lv_at hl 6 rfl) ?_
        obtain ⟨r_44, v_45, q_46, hf_43, hr_47, hv_48⟩ := (show tp_o_M L K 0 0 (Γ_42 (39, 0, 0)) (f_41 o) from hI.at ho)
        refine tl_si (tq_rV (As := [.int p0]) (rest := [.int 300, .int v9]) ⟨hx, hb, hml, hown, hta⟩ (tp_P.pre hK hN hL hU hI hP) (tp_recv hK hP ho.1 hf_43 rfl) lk_X12_459 (r_X12_lengthOf l D cy H.size L K Γ_42 f_41 o p0 ho (by first | omega | assumption | (rw [hgr (42, 3, 0) (by decide), hgr (43, 8800, 0) (by decide), hgr (45, 1056, 0) (by decide), hgr (46, 22, 0) (by decide), hgr (47, 6, 0) (by decide), hgr (48, 22, 0) (by decide), hgr (49, 22, 0) (by decide), hgr (50, 22, 0) (by decide), hgr (51, 22, 0) (by decide)]; first | exact htx | assumption | omega)) (by first | omega | assumption | (rw [hgr (42, 3, 0) (by decide)]; first | assumption | omega))) rfl rfl ⟨Nat.le_of_ble_eq_true rfl, Nat.le_of_ble_eq_true rfl⟩ rfl hl.1 rfl (Nat.le_of_ble_eq_true rfl) dX12_elsewhere_61 ⟨Nat.le_of_ble_eq_true rfl, Nat.le_of_ble_eq_true rfl⟩) (fun r_57 hw_56 => ?_)
        have hw_56 : r_57.toInt = Γ_42 (50, 22, 0) (6 + p0.toInt).toNat - Γ_42 (49, 22, 0) (6 + p0.toInt).toNat + 1 ∧ -298 ≤ r_57.toInt ∧ r_57.toInt ≤ 300 := hw_56
        refine lv_isub hx hb dX12_elsewhere_64 ?_
        refine lv_topi (fun z_58 ez_58 => ?_)
        try have iz_58 : z_58.toInt = (300 : Int) - r_57.toInt := by rw [ez_58]; exact tl_subN 300 r_57 rfl rfl (by omega) (by omega)
        refine lv_icmp_gt (tgt := 148) hx hb dX12_elsewhere_65 (by decide) (fun c_59 => ?_) (fun c_59 => ?_)
        · have c_59 : z_58.toInt < v9.toInt := tl_lt c_59
          refine lv_iload_n hx hb dX12_elsewhere_148 rfl (lv_at hl 8 rfl) ?_
          refine lv_if_ne (tgt := 157) hx hb dX12_elsewhere_149 (by decide) (fun c_60 => ?_) (fun c_60 => ?_)
          · have c_60 : ¬ p2.toInt = (0 : Int) := tl_neq c_60
            refine lv_iload hx hb dX12_elsewhere_157 (lv_at hl 1 rfl) ?_
            have hpo9 : Γ_42 (39, 0, 0) 0 = Γ (39, 0, 0) 0 := (by omega)
            exact W.iret (v := v8) hx hb hr (fun t ht hW => ⟨⟨_, (f_41, Γ_42), rfl, hpo9, by rw [ht]; exact hP, hI, hfr, hgr⟩, hS.F ht⟩) hS.2.2 dX12_elsewhere_159
          · have c_60 : p2.toInt = (0 : Int) := tl_eq c_60
            refine lv_iload hx hb dX12_elsewhere_152 (lv_at hl 2 rfl) ?_
            refine lv_goto (tgt := 159) hx hb dX12_elsewhere_154 (by decide) ?_
            have hpo9 : Γ_42 (39, 0, 0) 0 = Γ (39, 0, 0) 0 := (by omega)
            exact W.iret (v := v7) hx hb hr (fun t ht hW => ⟨⟨_, (f_41, Γ_42), rfl, hpo9, by rw [ht]; exact hP, hI, hfr, hgr⟩, hS.F ht⟩) hS.2.2 dX12_elsewhere_159
        · have c_59 : v9.toInt ≤ z_58.toInt := tl_nlt c_59
          refine lv_iload hx hb dX12_elsewhere_68 (lv_at hl 0 rfl) ?_
          refine lv_aload_n hx hb dX12_elsewhere_70 rfl (lv_at hl 5 rfl) ?_
          refine tp_get (cy := cy) (ci := 12) (v := .ref (r_44 14)) (C := RX12) (T := TX12) (N := 49) hx hb hta inlX12 hown hK hP ho.1 hf_43 rfl 15 (by decide) (hta _ wk_164) (fun _ h9 => h9) rfl dX12_elsewhere_71 ?_
          refine lv_iload hx hb dX12_elsewhere_74 (lv_at hl 3 rfl) ?_
          obtain ⟨g_62, hf_61, hg_63⟩ := (show tp_gi cy (22) (Γ (50, 22, 0)) (f (r_44 14)) from hI0.at (show tp_r L K 50 22 0 (r_44 14) from hr_47 14 (by decide)))
          have hn_64 : vp_in z_40 (22) := tl_in (by omega) (by omega)
          refine tp_iald (cy := cy) hx hb hK hP (show tp_r L K 50 22 0 (r_44 14) from hr_47 14 (by decide)).1 ((tp_un hfr (show tp_r L K 50 22 0 (r_44 14) from hr_47 14 (by decide)) (by decide)).trans hf_61) hn_64 dX12_elsewhere_76 ?_
          refine lv_topi (fun z_65 ez_65 => ?_)
          have iz_65 : z_65.toInt = Γ (50, 22, 0) z_40.toInt.toNat := by rw [ez_65]; exact hg_63 _ (tp_pin hn_64)
          refine lv_icmp_gt (tgt := 101) hx hb dX12_elsewhere_77 (by decide) (fun c_66 => ?_) (fun c_66 => ?_)
          · have c_66 : z_65.toInt < v9.toInt := tl_lt c_66
            refine lv_aload_n hx hb dX12_elsewhere_101 rfl (lv_at hl 5 rfl) ?_
            refine lv_iload_n hx hb dX12_elsewhere_102 rfl (lv_at hl 6 rfl) ?_
            refine lv_iload_n hx hb dX12_elsewhere_103 rfl (lv_at hl 7 rfl) ?_
            refine lv_iload hx hb dX12_elsewhere_104 (lv_at hl 0 rfl) ?_
            refine tq_clR hS (hAf _ hS.1) (tq_rV (As := [.int p0, .int p1, .int v9]) (rest := []) ⟨hx, hb, hml, hown, hta⟩ (tp_P.pre hK hN hL hU hI hP) (tp_recv hK hP ho.1 hf_43 rfl) lk_X12_462 (r_X12_movedTo l D cy H.size L K Γ_42 f_41 o p0 p1 v9 ho (by first | omega | assumption | (rw [hgr (42, 3, 0) (by decide), hgr (43, 8800, 0) (by decide), hgr (45, 1056, 0) (by decide), hgr (46, 22, 0) (by decide), hgr (47, 6, 0) (by decide), hgr (48, 22, 0) (by decide), hgr (49, 22, 0) (by decide), hgr (50, 22, 0) (by decide), hgr (51, 22, 0) (by decide)]; first | exact htx | assumption | omega)) (by first | omega | assumption | (rw [hgr (42, 3, 0) (by decide)]; first | assumption | omega)) (by first | omega | (simp only [Int32.toInt_toInt64]; omega) | decide | assumption) (by first | omega | assumption | (rw [hgr (49, 22, 0) (by decide), hgr (50, 22, 0) (by decide)]; first | assumption | omega))) rfl rfl ⟨Nat.le_of_ble_eq_true rfl, Nat.le_of_ble_eq_true rfl⟩ rfl hl.1 rfl (Nat.le_of_ble_eq_true rfl) dX12_elsewhere_106 ⟨Nat.le_of_ble_eq_true rfl, Nat.le_of_ble_eq_true rfl⟩) (fun r_68 f_69 Γ_71 H locs hw_67 hP hI hc_70 hcg_72 hS => ?_)
            have hD : va_D A (va_pl L f_69) := tp_D hL hAL
            have hfr := tp_fr2 hfr hc_70 (by decide)
            have hgr : ∀ κ : tk_K, κ.1 ∉ ([39, 58, 57, 60, 61, 62, 63, 59] : List Nat) → Γ_71 κ = Γ κ := tg_fr2 hgr hcg_72 (by decide)
            have hw_67 : Γ_71 (39, 0, 0) 0 = Γ_42 (39, 0, 0) 0 ∧ (Γ_71 (39, 0, 0) 15 = 0 ∨ Γ_71 (39, 0, 0) 15 = 1) := hw_67
            refine lv_lstore (lv' := [(10, .long r_68), (9, .int v9), (8, .int v8), (7, .int v7), (6, .int z_40), (4, .long r_21), (0, .ref o), (1, .int p0), (2, .int p1), (3, .int p2)]) hx hb dX12_elsewhere_109 hl (by decide) rfl (fun ls hl => ?_)
            refine lv_aload_n hx hb dX12_elsewhere_111 rfl (lv_at hl 6 rfl) ?_
            obtain ⟨r_74, v_75, q_76, hf_73, hr_77, hv_78⟩ := (show tp_o_M L K 0 0 (Γ_71 (39, 0, 0)) (f_69 o) from hI.at ho)
            have hx_85 : (v_75 15).toInt = Γ_71 (39, 0, 0) 15 := hv_78 15 (by decide)
            refine tp_get (cy := cy) (ci := 12) (v := .int (v_75 15)) (C := RX12) (T := TX12) (N := 49) hx hb hta inlX12 hown hK hP ho.1 hf_73 rfl 40 (by decide) (hta _ wk_924) (fun _ h9 => h9) rfl dX12_elsewhere_112 ?_
            refine lv_if_ne (tgt := 121) hx hb dX12_elsewhere_115 (by decide) (fun c_86 => ?_) (fun c_86 => ?_)
            · have c_86 : ¬ (v_75 15).toInt = (0 : Int) := tl_neq c_86
              obtain ⟨z_87, ez_87⟩ : ∃ y : Int32, y = v7 + 1 := ⟨_, rfl⟩
              refine lv_iinc (v := z_87) (lv' := [(7, .int z_87), (10, .long r_68), (9, .int v9), (8, .int v8), (6, .int z_40), (4, .long r_21), (0, .ref o), (1, .int p0), (2, .int p1), (3, .int p2)]) hx hb dX12_elsewhere_121 hl (k := 3) rfl (by rw [ez_87]; rfl) (by decide) rfl (fun ls hl => ?_)
              try have iz_87 : z_87.toInt = v7.toInt + 1 := by rw [ez_87]; exact tl_addL v7 1 (by decide) (by omega) (by omega)
              refine lv_iload hx hb dX12_elsewhere_124 (lv_at hl 3 rfl) ?_
              refine lv_lload hx hb dX12_elsewhere_126 (lv_at hl 1 rfl) ?_
              refine lv_lload hx hb dX12_elsewhere_128 (lv_at hl 5 rfl) ?_
              refine W.lcmp hx hb dX12_elsewhere_130 ?_
              refine lv_if_lt (tgt := 138) hx hb dX12_elsewhere_131 (by decide) (fun c_88 => ?_) (fun c_88 => ?_)
              · have c_88 : r_68.toInt < r_21.toInt := tl_cmp_lt c_88
                refine lv_iconst (v := 0) hx hb dX12_elsewhere_138 (by decide) ?_
                refine lv_iadd hx hb dX12_elsewhere_139 ?_
                refine lv_topi (fun z_89 ez_89 => ?_)
                try have iz_89 : z_89.toInt = v8.toInt + (0 : Int) := by rw [ez_89]; exact tl_addN v8 0 rfl rfl (by omega) (by omega)
                refine lv_istore (lv' := [(8, .int z_89), (7, .int z_87), (10, .long r_68), (9, .int v9), (6, .int z_40), (4, .long r_21), (0, .ref o), (1, .int p0), (2, .int p1), (3, .int p2)]) hx hb dX12_elsewhere_140 hl (by decide) rfl (fun ls hl => ?_)
                obtain ⟨z_90, ez_90⟩ : ∃ y : Int32, y = v9 + 1 := ⟨_, rfl⟩
                refine lv_iinc (v := z_90) (lv' := [(9, .int z_90), (8, .int z_89), (7, .int z_87), (10, .long r_68), (6, .int z_40), (4, .long r_21), (0, .ref o), (1, .int p0), (2, .int p1), (3, .int p2)]) hx hb dX12_elsewhere_142 hl (k := 3) rfl (by rw [ez_90]; rfl) (by decide) rfl (fun ls hl => ?_)
                try have iz_90 : z_90.toInt = v9.toInt + 1 := by rw [ez_90]; exact tl_addL v9 1 (by decide) (by omega) (by omega)
                refine lv_goto (tgt := 54) hx hb dX12_elsewhere_145 (by decide) ?_
                exact ih54 (f_69, Γ_71, z_90, z_89, z_87) H locs ls (by show (600 - z_90.toInt).toNat < (600 - v9.toInt).toNat; omega) ⟨(show 0 ≤ z_90.toInt from (by omega)), (show Γ_71 (39, 0, 0) 0 = Γ (39, 0, 0) 0 from (by omega)), hP, hI, hfr, hgr, hS, lv_sub hl [0, 1, 2, 4, 5, 6, 7, 8, 9] rfl⟩
              · have c_88 : r_68.toInt ≥ r_21.toInt := tl_cmp_nlt c_88
                refine lv_iconst (v := 1) hx hb dX12_elsewhere_134 (by decide) ?_
                refine lv_goto (tgt := 139) hx hb dX12_elsewhere_135 (by decide) ?_
                refine lv_iadd hx hb dX12_elsewhere_139 ?_
                refine lv_topi (fun z_91 ez_91 => ?_)
                try have iz_91 : z_91.toInt = v8.toInt + (1 : Int) := by rw [ez_91]; exact tl_addN v8 1 rfl rfl (by omega) (by omega)
                refine lv_istore (lv' := [(8, .int z_91), (7, .int z_87), (10, .long r_68), (9, .int v9), (6, .int z_40), (4, .long r_21), (0, .ref o), (1, .int p0), (2, .int p1), (3, .int p2)]) hx hb dX12_elsewhere_140 hl (by decide) rfl (fun ls hl => ?_)
                obtain ⟨z_92, ez_92⟩ : ∃ y : Int32, y = v9 + 1 := ⟨_, rfl⟩
                refine lv_iinc (v := z_92) (lv' := [(9, .int z_92), (8, .int z_91), (7, .int z_87), (10, .long r_68), (6, .int z_40), (4, .long r_21), (0, .ref o), (1, .int p0), (2, .int p1), (3, .int p2)]) hx hb dX12_elsewhere_142 hl (k := 3) rfl (by rw [ez_92]; rfl) (by decide) rfl (fun ls hl => ?_)
                try have iz_92 : z_92.toInt = v9.toInt + 1 := by rw [ez_92]; exact tl_addL v9 1 (by decide) (by omega) (by omega)
                refine lv_goto (tgt := 54) hx hb dX12_elsewhere_145 (by decide) ?_
                exact ih54 (f_69, Γ_71, z_92, z_91, z_87) H locs ls (by show (600 - z_92.toInt).toNat < (600 - v9.toInt).toNat; omega) ⟨(show 0 ≤ z_92.toInt from (by omega)), (show Γ_71 (39, 0, 0) 0 = Γ (39, 0, 0) 0 from (by omega)), hP, hI, hfr, hgr, hS, lv_sub hl [0, 1, 2, 4, 5, 6, 7, 8, 9] rfl⟩
            · have c_86 : (v_75 15).toInt = (0 : Int) := tl_eq c_86
              refine lv_goto (tgt := 142) hx hb dX12_elsewhere_118 (by decide) ?_
              obtain ⟨z_93, ez_93⟩ : ∃ y : Int32, y = v9 + 1 := ⟨_, rfl⟩
              refine lv_iinc (v := z_93) (lv' := [(9, .int z_93), (10, .long r_68), (8, .int v8), (7, .int v7), (6, .int z_40), (4, .long r_21), (0, .ref o), (1, .int p0), (2, .int p1), (3, .int p2)]) hx hb dX12_elsewhere_142 hl (k := 1) rfl (by rw [ez_93]; rfl) (by decide) rfl (fun ls hl => ?_)
              try have iz_93 : z_93.toInt = v9.toInt + 1 := by rw [ez_93]; exact tl_addL v9 1 (by decide) (by omega) (by omega)
              refine lv_goto (tgt := 54) hx hb dX12_elsewhere_145 (by decide) ?_
              exact ih54 (f_69, Γ_71, z_93, v8, v7) H locs ls (by show (600 - z_93.toInt).toNat < (600 - v9.toInt).toNat; omega) ⟨(show 0 ≤ z_93.toInt from (by omega)), (show Γ_71 (39, 0, 0) 0 = Γ (39, 0, 0) 0 from (by omega)), hP, hI, hfr, hgr, hS, lv_sub hl [0, 2, 3, 4, 5, 6, 7, 8, 9] rfl⟩
          · have c_66 : v9.toInt ≤ z_65.toInt := tl_nlt c_66
            refine lv_iload hx hb dX12_elsewhere_80 (lv_at hl 0 rfl) ?_
            refine lv_aload_n hx hb dX12_elsewhere_82 rfl (lv_at hl 5 rfl) ?_
            refine lv_iload_n hx hb dX12_elsewhere_83 rfl (lv_at hl 6 rfl) ?_
            refine tl_si (tq_rV (As := [.int p0]) (rest := [.int v9]) ⟨hx, hb, hml, hown, hta⟩ (tp_P.pre hK hN hL hU hI hP) (tp_recv hK hP ho.1 hf_43 rfl) lk_X12_459 (r_X12_lengthOf l D cy H.size L K Γ_42 f_41 o p0 ho (by first | omega | assumption | (rw [hgr (42, 3, 0) (by decide), hgr (43, 8800, 0) (by decide), hgr (45, 1056, 0) (by decide), hgr (46, 22, 0) (by decide), hgr (47, 6, 0) (by decide), hgr (48, 22, 0) (by decide), hgr (49, 22, 0) (by decide), hgr (50, 22, 0) (by decide), hgr (51, 22, 0) (by decide)]; first | exact htx | assumption | omega)) (by first | omega | assumption | (rw [hgr (42, 3, 0) (by decide)]; first | assumption | omega))) rfl rfl ⟨Nat.le_of_ble_eq_true rfl, Nat.le_of_ble_eq_true rfl⟩ rfl hl.1 rfl (Nat.le_of_ble_eq_true rfl) dX12_elsewhere_84 ⟨Nat.le_of_ble_eq_true rfl, Nat.le_of_ble_eq_true rfl⟩) (fun r_95 hw_94 => ?_)
            have hw_94 : r_95.toInt = Γ_42 (50, 22, 0) (6 + p0.toInt).toNat - Γ_42 (49, 22, 0) (6 + p0.toInt).toNat + 1 ∧ -298 ≤ r_95.toInt ∧ r_95.toInt ≤ 300 := hw_94
            refine lv_iadd hx hb dX12_elsewhere_87 ?_
            refine lv_topi (fun z_96 ez_96 => ?_)
            try have iz_96 : z_96.toInt = v9.toInt + r_95.toInt := by rw [ez_96]; exact tl_addN v9 r_95 rfl rfl (by omega) (by omega)
            refine lv_aload_n hx hb dX12_elsewhere_88 rfl (lv_at hl 5 rfl) ?_
            refine tp_get (cy := cy) (ci := 12) (v := .ref (r_44 13)) (C := RX12) (T := TX12) (N := 49) hx hb hta inlX12 hown hK hP ho.1 hf_43 rfl 14 (by decide) (hta _ wk_163) (fun _ h9 => h9) rfl dX12_elsewhere_89 ?_
            refine lv_iload hx hb dX12_elsewhere_92 (lv_at hl 3 rfl) ?_
            obtain ⟨g_98, hf_97, hg_99⟩ := (show tp_gi cy (22) (Γ (49, 22, 0)) (f (r_44 13)) from hI0.at (show tp_r L K 49 22 0 (r_44 13) from hr_47 13 (by decide)))
            have hn_100 : vp_in z_40 (22) := tl_in (by omega) (by omega)
            refine tp_iald (cy := cy) hx hb hK hP (show tp_r L K 49 22 0 (r_44 13) from hr_47 13 (by decide)).1 ((tp_un hfr (show tp_r L K 49 22 0 (r_44 13) from hr_47 13 (by decide)) (by decide)).trans hf_97) hn_100 dX12_elsewhere_94 ?_
            refine lv_topi (fun z_101 ez_101 => ?_)
            have iz_101 : z_101.toInt = Γ (49, 22, 0) z_40.toInt.toNat := by rw [ez_101]; exact hg_99 _ (tp_pin hn_100)
            refine lv_icmp_le (tgt := 101) hx hb dX12_elsewhere_95 (by decide) (fun c_102 => ?_) (fun c_102 => ?_)
            · have c_102 : z_96.toInt ≤ z_101.toInt := tl_le c_102
              refine lv_aload_n hx hb dX12_elsewhere_101 rfl (lv_at hl 5 rfl) ?_
              refine lv_iload_n hx hb dX12_elsewhere_102 rfl (lv_at hl 6 rfl) ?_
              refine lv_iload_n hx hb dX12_elsewhere_103 rfl (lv_at hl 7 rfl) ?_
              refine lv_iload hx hb dX12_elsewhere_104 (lv_at hl 0 rfl) ?_
              refine tq_clR hS (hAf _ hS.1) (tq_rV (As := [.int p0, .int p1, .int v9]) (rest := []) ⟨hx, hb, hml, hown, hta⟩ (tp_P.pre hK hN hL hU hI hP) (tp_recv hK hP ho.1 hf_43 rfl) lk_X12_462 (r_X12_movedTo l D cy H.size L K Γ_42 f_41 o p0 p1 v9 ho (by first | omega | assumption | (rw [hgr (42, 3, 0) (by decide), hgr (43, 8800, 0) (by decide), hgr (45, 1056, 0) (by decide), hgr (46, 22, 0) (by decide), hgr (47, 6, 0) (by decide), hgr (48, 22, 0) (by decide), hgr (49, 22, 0) (by decide), hgr (50, 22, 0) (by decide), hgr (51, 22, 0) (by decide)]; first | exact htx | assumption | omega)) (by first | omega | assumption | (rw [hgr (42, 3, 0) (by decide)]; first | assumption | omega)) (by first | omega | (simp only [Int32.toInt_toInt64]; omega) | decide | assumption) (by first | omega | assumption | (rw [hgr (49, 22, 0) (by decide), hgr (50, 22, 0) (by decide)]; first | assumption | omega))) rfl rfl ⟨Nat.le_of_ble_eq_true rfl, Nat.le_of_ble_eq_true rfl⟩ rfl hl.1 rfl (Nat.le_of_ble_eq_true rfl) dX12_elsewhere_106 ⟨Nat.le_of_ble_eq_true rfl, Nat.le_of_ble_eq_true rfl⟩) (fun r_104 f_105 Γ_107 H locs hw_103 hP hI hc_106 hcg_108 hS => ?_)
              have hD : va_D A (va_pl L f_105) := tp_D hL hAL
              have hfr := tp_fr2 hfr hc_106 (by decide)
              have hgr : ∀ κ : tk_K, κ.1 ∉ ([39, 58, 57, 60, 61, 62, 63, 59] : List Nat) → Γ_107 κ = Γ κ := tg_fr2 hgr hcg_108 (by decide)
              have hw_103 : Γ_107 (39, 0, 0) 0 = Γ_42 (39, 0, 0) 0 ∧ (Γ_107 (39, 0, 0) 15 = 0 ∨ Γ_107 (39, 0, 0) 15 = 1) := hw_103
              refine lv_lstore (lv' := [(10, .long r_104), (9, .int v9), (8, .int v8), (7, .int v7), (6, .int z_40), (4, .long r_21), (0, .ref o), (1, .int p0), (2, .int p1), (3, .int p2)]) hx hb dX12_elsewhere_109 hl (by decide) rfl (fun ls hl => ?_)
              refine lv_aload_n hx hb dX12_elsewhere_111 rfl (lv_at hl 6 rfl) ?_
              obtain ⟨r_110, v_111, q_112, hf_109, hr_113, hv_114⟩ := (show tp_o_M L K 0 0 (Γ_107 (39, 0, 0)) (f_105 o) from hI.at ho)
              have hx_121 : (v_111 15).toInt = Γ_107 (39, 0, 0) 15 := hv_114 15 (by decide)
              refine tp_get (cy := cy) (ci := 12) (v := .int (v_111 15)) (C := RX12) (T := TX12) (N := 49) hx hb hta inlX12 hown hK hP ho.1 hf_109 rfl 40 (by decide) (hta _ wk_924) (fun _ h9 => h9) rfl dX12_elsewhere_112 ?_
              refine lv_if_ne (tgt := 121) hx hb dX12_elsewhere_115 (by decide) (fun c_122 => ?_) (fun c_122 => ?_)
              · have c_122 : ¬ (v_111 15).toInt = (0 : Int) := tl_neq c_122
                obtain ⟨z_123, ez_123⟩ : ∃ y : Int32, y = v7 + 1 := ⟨_, rfl⟩
                refine lv_iinc (v := z_123) (lv' := [(7, .int z_123), (10, .long r_104), (9, .int v9), (8, .int v8), (6, .int z_40), (4, .long r_21), (0, .ref o), (1, .int p0), (2, .int p1), (3, .int p2)]) hx hb dX12_elsewhere_121 hl (k := 3) rfl (by rw [ez_123]; rfl) (by decide) rfl (fun ls hl => ?_)
                try have iz_123 : z_123.toInt = v7.toInt + 1 := by rw [ez_123]; exact tl_addL v7 1 (by decide) (by omega) (by omega)
                refine lv_iload hx hb dX12_elsewhere_124 (lv_at hl 3 rfl) ?_
                refine lv_lload hx hb dX12_elsewhere_126 (lv_at hl 1 rfl) ?_
                refine lv_lload hx hb dX12_elsewhere_128 (lv_at hl 5 rfl) ?_
                refine W.lcmp hx hb dX12_elsewhere_130 ?_
                refine lv_if_lt (tgt := 138) hx hb dX12_elsewhere_131 (by decide) (fun c_124 => ?_) (fun c_124 => ?_)
                · have c_124 : r_104.toInt < r_21.toInt := tl_cmp_lt c_124
                  refine lv_iconst (v := 0) hx hb dX12_elsewhere_138 (by decide) ?_
                  refine lv_iadd hx hb dX12_elsewhere_139 ?_
                  refine lv_topi (fun z_125 ez_125 => ?_)
                  try have iz_125 : z_125.toInt = v8.toInt + (0 : Int) := by rw [ez_125]; exact tl_addN v8 0 rfl rfl (by omega) (by omega)
                  refine lv_istore (lv' := [(8, .int z_125), (7, .int z_123), (10, .long r_104), (9, .int v9), (6, .int z_40), (4, .long r_21), (0, .ref o), (1, .int p0), (2, .int p1), (3, .int p2)]) hx hb dX12_elsewhere_140 hl (by decide) rfl (fun ls hl => ?_)
                  obtain ⟨z_126, ez_126⟩ : ∃ y : Int32, y = v9 + 1 := ⟨_, rfl⟩
                  refine lv_iinc (v := z_126) (lv' := [(9, .int z_126), (8, .int z_125), (7, .int z_123), (10, .long r_104), (6, .int z_40), (4, .long r_21), (0, .ref o), (1, .int p0), (2, .int p1), (3, .int p2)]) hx hb dX12_elsewhere_142 hl (k := 3) rfl (by rw [ez_126]; rfl) (by decide) rfl (fun ls hl => ?_)
                  try have iz_126 : z_126.toInt = v9.toInt + 1 := by rw [ez_126]; exact tl_addL v9 1 (by decide) (by omega) (by omega)
                  refine lv_goto (tgt := 54) hx hb dX12_elsewhere_145 (by decide) ?_
                  exact ih54 (f_105, Γ_107, z_126, z_125, z_123) H locs ls (by show (600 - z_126.toInt).toNat < (600 - v9.toInt).toNat; omega) ⟨(show 0 ≤ z_126.toInt from (by omega)), (show Γ_107 (39, 0, 0) 0 = Γ (39, 0, 0) 0 from (by omega)), hP, hI, hfr, hgr, hS, lv_sub hl [0, 1, 2, 4, 5, 6, 7, 8, 9] rfl⟩
                · have c_124 : r_104.toInt ≥ r_21.toInt := tl_cmp_nlt c_124
                  refine lv_iconst (v := 1) hx hb dX12_elsewhere_134 (by decide) ?_
                  refine lv_goto (tgt := 139) hx hb dX12_elsewhere_135 (by decide) ?_
                  refine lv_iadd hx hb dX12_elsewhere_139 ?_
                  refine lv_topi (fun z_127 ez_127 => ?_)
                  try have iz_127 : z_127.toInt = v8.toInt + (1 : Int) := by rw [ez_127]; exact tl_addN v8 1 rfl rfl (by omega) (by omega)
                  refine lv_istore (lv' := [(8, .int z_127), (7, .int z_123), (10, .long r_104), (9, .int v9), (6, .int z_40), (4, .long r_21), (0, .ref o), (1, .int p0), (2, .int p1), (3, .int p2)]) hx hb dX12_elsewhere_140 hl (by decide) rfl (fun ls hl => ?_)
                  obtain ⟨z_128, ez_128⟩ : ∃ y : Int32, y = v9 + 1 := ⟨_, rfl⟩
                  refine lv_iinc (v := z_128) (lv' := [(9, .int z_128), (8, .int z_127), (7, .int z_123), (10, .long r_104), (6, .int z_40), (4, .long r_21), (0, .ref o), (1, .int p0), (2, .int p1), (3, .int p2)]) hx hb dX12_elsewhere_142 hl (k := 3) rfl (by rw [ez_128]; rfl) (by decide) rfl (fun ls hl => ?_)
                  try have iz_128 : z_128.toInt = v9.toInt + 1 := by rw [ez_128]; exact tl_addL v9 1 (by decide) (by omega) (by omega)
                  refine lv_goto (tgt := 54) hx hb dX12_elsewhere_145 (by decide) ?_
                  exact ih54 (f_105, Γ_107, z_128, z_127, z_123) H locs ls (by show (600 - z_128.toInt).toNat < (600 - v9.toInt).toNat; omega) ⟨(show 0 ≤ z_128.toInt from (by omega)), (show Γ_107 (39, 0, 0) 0 = Γ (39, 0, 0) 0 from (by omega)), hP, hI, hfr, hgr, hS, lv_sub hl [0, 1, 2, 4, 5, 6, 7, 8, 9] rfl⟩
              · have c_122 : (v_111 15).toInt = (0 : Int) := tl_eq c_122
                refine lv_goto (tgt := 142) hx hb dX12_elsewhere_118 (by decide) ?_
                obtain ⟨z_129, ez_129⟩ : ∃ y : Int32, y = v9 + 1 := ⟨_, rfl⟩
                refine lv_iinc (v := z_129) (lv' := [(9, .int z_129), (10, .long r_104), (8, .int v8), (7, .int v7), (6, .int z_40), (4, .long r_21), (0, .ref o), (1, .int p0), (2, .int p1), (3, .int p2)]) hx hb dX12_elsewhere_142 hl (k := 1) rfl (by rw [ez_129]; rfl) (by decide) rfl (fun ls hl => ?_)
                try have iz_129 : z_129.toInt = v9.toInt + 1 := by rw [ez_129]; exact tl_addL v9 1 (by decide) (by omega) (by omega)
                refine lv_goto (tgt := 54) hx hb dX12_elsewhere_145 (by decide) ?_
                exact ih54 (f_105, Γ_107, z_129, v8, v7) H locs ls (by show (600 - z_129.toInt).toNat < (600 - v9.toInt).toNat; omega) ⟨(show 0 ≤ z_129.toInt from (by omega)), (show Γ_107 (39, 0, 0) 0 = Γ (39, 0, 0) 0 from (by omega)), hP, hI, hfr, hgr, hS, lv_sub hl [0, 2, 3, 4, 5, 6, 7, 8, 9] rfl⟩
            · have c_102 : z_101.toInt < z_96.toInt := tl_nle c_102
              refine lv_goto (tgt := 142) hx hb dX12_elsewhere_98 (by decide) ?_
              obtain ⟨z_130, ez_130⟩ : ∃ y : Int32, y = v9 + 1 := ⟨_, rfl⟩
              refine lv_iinc (v := z_130) (lv' := [(9, .int z_130), (8, .int v8), (7, .int v7), (6, .int z_40), (4, .long r_21), (0, .ref o), (1, .int p0), (2, .int p1), (3, .int p2)]) hx hb dX12_elsewhere_142 hl (k := 0) rfl (by rw [ez_130]; rfl) (by decide) rfl (fun ls hl => ?_)
              try have iz_130 : z_130.toInt = v9.toInt + 1 := by rw [ez_130]; exact tl_addL v9 1 (by decide) (by omega) (by omega)
              refine lv_goto (tgt := 54) hx hb dX12_elsewhere_145 (by decide) ?_
              exact ih54 (f_41, Γ_42, z_130, v8, v7) H locs ls (by show (600 - z_130.toInt).toNat < (600 - v9.toInt).toNat; omega) ⟨(show 0 ≤ z_130.toInt from (by omega)), (show Γ_42 (39, 0, 0) 0 = Γ (39, 0, 0) 0 from (by omega)), hP, hI, hfr, hgr, hS, lv_sub hl [0, 1, 2, 3, 4, 5, 6, 7, 8] rfl⟩
      · have c_39 : (v_28 15).toInt = (0 : Int) := tl_eq c_39
        refine lv_bipush (v := (-2)) hx hb dX12_elsewhere_36 (by decide) ?_
        have hpo9 : Γ_24 (39, 0, 0) 0 = Γ (39, 0, 0) 0 := (by omega)
        exact W.iret (v := (-2)) hx hb hr (fun t ht hW => ⟨⟨_, (f_22, Γ_24), rfl, hpo9, by rw [ht]; exact hP, hI, hfr, hgr⟩, hS.F ht⟩) hS.2.2 dX12_elsewhere_38
    · have c_19 := hw_17.f c_19
      refine lv_iconst (v := (-1)) hx hb dX12_elsewhere_19 (by decide) ?_
      have hpo9 : Γ (39, 0, 0) 0 = Γ (39, 0, 0) 0 := (by omega)
      exact W.iret (v := (-1)) hx hb hr (fun t ht hW => ⟨⟨_, (f, Γ), rfl, hpo9, by rw [ht]; exact hP, hI, hfr, hgr⟩, hS.F ht⟩) hS.2.2 dX12_elsewhere_20
set_option maxHeartbeats 4000000 in
set_option maxRecDepth 100000 in
theorem r_X12_deepest (l : Launch) (D : va_G) (cy : Nat → ClassId) (sz : Nat) (L : List Nat) (K : Nat → tk_K) (Γ : tk_G) (f : Nat → va_E) (o : Nat) (p0 : Int32) (p1 : Int32) (p2 : Int32) (ho : tp_r L K 39 (0) 0 o) (htx : tx_ok (Γ (43, 8800, 0)) (Γ (45, 1056, 0)) (Γ (46, 22, 0)) (Γ (47, 6, 0)) (Γ (48, 22, 0)) (Γ (49, 22, 0)) (Γ (50, 22, 0)) (Γ (51, 22, 0)) (Γ (42, 3, 0))) (hsd : ts_said (Γ (40, 7666, 0)) (Γ (42, 3, 0) 1)) : Met l yX12_deepest (tl_w yX12_deepest cX12_deepest 11 (some .long)) ({ frames := 6, cells := 0, slots := 0, locals := 155 }) (va_Pc [.ref o, .int p0, .int p1, .int p2] (tp_P D cy L K Γ f sz)) (va_Ql (fun (r : Int64) (u : (Nat → va_E) × tk_G) => u.2 (39, 0, 0) 0 = Γ (39, 0, 0) 0) (tp_BG D cy L K Γ f [39, 58, 57, 60, 61, 62, 63, 59]) (tp_A L sz)) 0 0 (tp_A L sz) := by
  refine Met.ofW (cc := cX12_deepest) (maxL := 11) (ret := (some .long)) (by decide) rfl ?_
  intro p e s m args below meth c s₁ B hml hv
  obtain ⟨rfl, hsz, hP, hK, hL, hI, hN, hU⟩ := hv
  have hx := B.exec
  have hb := B.bytes
  have hr := B.returns
  have hta := tl_hta (atoms_spec (ws := tl_w yX12_deepest cX12_deepest 11 (some .long)) B.pre)
  have hown : s.vm.findClass RX12 = some m.cls := findClass_of_methodNamed B.named
  have hlocks := B.notSynchronized
  subst hsz
  have hI0 := hI
  generalize hAe : tp_A L s.heap.size = A
  have hA : ∀ q : Nat, s.heap.size ≤ q → A q := fun q h => by rw [← hAe]; exact Or.inr h
  have hAL : ∀ q ∈ L, A q := fun q h => by rw [← hAe]; exact Or.inl h
  have hAf : ∀ (H : Heap), s.heap.size ≤ H.size → ∀ q, tp_A L H.size q → A q := fun H h q hq => hq.elim (hAL q) (fun h2 => hA q (Nat.le_trans h h2))
  have hS : va_S A s.heap s.heap [] := va_S.rf
  have hD : va_D A (va_pl L f) := tp_D hL hAL
  have hfr : ∀ b, (K b).1 ∉ ([39, 58, 57, 60, 61, 62, 63, 59] : List Nat) → f b = f b := fun _ _ => rfl
  have hgr : ∀ κ : tk_K, κ.1 ∉ ([39, 58, 57, 60, 61, 62, 63, 59] : List Nat) → Γ κ = Γ κ := fun _ _ => rfl
  have hl := lv_entry ([.ref o, .int p0, .int p1, .int p2]) (n := 11) (Nat.le_of_ble_eq_true rfl)
  rw [lg_entry_eq]
  generalize (lg_sl ([.ref o, .int p0, .int p1, .int p2]) ++ List.replicate (11 - (lg_sl ([.ref o, .int p0, .int p1, .int p2])).length) Slot.unset).toArray = ls at hl ⊢
  have hl : lv_has ls 11 [(0, .ref o), (1, .int p0), (2, .int p1), (3, .int p2)] := hl
  have hs := ts_hs hsd
  have hraw := ts_raw hsd
  have hslp := ts_slp hsd
  have htb := htx.1
  refine lv_aload_n hx hb dX12_deepest_0 rfl (lv_at hl 0 rfl) ?_
  refine lv_iload_n hx hb dX12_deepest_1 rfl (lv_at hl 1 rfl) ?_
  refine lv_iload_n hx hb dX12_deepest_2 rfl (lv_at hl 2 rfl) ?_
  obtain ⟨r_2, v_3, q_4, hf_1, hr_5, hv_6⟩ := (show tp_o_M L K 0 0 (Γ (39, 0, 0)) (f o) from hI.at ho)
  have hx_7 : (v_3 0).toInt = Γ (39, 0, 0) 0 := hv_6 0 (by decide)
  have hx_8 : (v_3 10).toInt = Γ (39, 0, 0) 10 := hv_6 10 (by decide)
  have hx_9 : (v_3 11).toInt = Γ (39, 0, 0) 11 := hv_6 11 (by decide)
  have hx_10 : (v_3 12).toInt = Γ (39, 0, 0) 12 := hv_6 12 (by decide)
  have hx_11 : (v_3 13).toInt = Γ (39, 0, 0) 13 := hv_6 13 (by decide)
  have hx_12 : (v_3 14).toInt = Γ (39, 0, 0) 14 := hv_6 14 (by decide)
  have hx_13 : (v_3 15).toInt = Γ (39, 0, 0) 15 := hv_6 15 (by decide)
  refine tl_si (tq_rV (As := [.int p0, .int p1]) (rest := []) ⟨hx, hb, hml, hown, hta⟩ (tp_P.pre hK hN hL hU hI hP) (tp_recv hK hP ho.1 hf_1 rfl) lk_X12_447 (r_X12_canAsk l D cy s.heap.size L K Γ f o p0 p1 ho) rfl rfl ⟨Nat.le_of_ble_eq_true rfl, Nat.le_of_ble_eq_true rfl⟩ rfl hl.1 rfl (Nat.le_of_ble_eq_true rfl) dX12_deepest_3 ⟨Nat.le_of_ble_eq_true rfl, Nat.le_of_ble_eq_true rfl⟩) (fun r_15 hw_14 => ?_)
  have hw_14 : tl_E r_15 ((0 ≤ p0.toInt ∧ p0.toInt < Γ (42, 3, 0) 1) ∧ 0 ≤ p1.toInt ∧ p1.toInt < Γ (40, 7666, 0) 1) 1 0 := hw_14
  refine lv_if_eq (tgt := 19) hx hb dX12_deepest_6 (by decide) (fun c_16 => ?_) (fun c_16 => ?_)
  · have c_16 := hw_14.f c_16
    refine lv_ldc2 (v := (-2100000000)) hx hb hown (hta _ wk_1307) dX12_deepest_19 ?_
    have hpo9 : Γ (39, 0, 0) 0 = Γ (39, 0, 0) 0 := (by omega)
    exact W.lret (v := (-2100000000)) hx hb hr (fun t ht hW => ⟨⟨_, (f, Γ), rfl, hpo9, by rw [ht]; exact hP, hI, hfr, hgr⟩, hS.F ht⟩) hS.2.2 dX12_deepest_22
  · have c_16 := hw_14.t c_16
    refine lv_iload_n hx hb dX12_deepest_9 rfl (lv_at hl 3 rfl) ?_
    refine lv_i2l (v := p2.toInt64) hx hb dX12_deepest_10 (by first | rfl | decide) ?_
    refine lv_lconst (v := 0) hx hb dX12_deepest_11 (by decide) ?_
    refine lv_lconst (v := 1) hx hb dX12_deepest_12 (by decide) ?_
    refine tl_si (tq_rS (As := [.long p2.toInt64, .long 0, .long 1]) (rest := []) ⟨hx, hb, hml, hown, hta⟩ (tp_P.pre hK hN hL hU hI hP) lk_X12_112 (r_X12_in l D cy s.heap.size L K Γ f p2.toInt64 0 1 ) rfl rfl ⟨Nat.le_of_ble_eq_true rfl, Nat.le_of_ble_eq_true rfl⟩ rfl hl.1 rfl (Nat.le_of_ble_eq_true rfl) dX12_deepest_13 ⟨Nat.le_of_ble_eq_true rfl, Nat.le_of_ble_eq_true rfl⟩) (fun r_18 hw_17 => ?_)
    simp only [Int32.toInt_toInt64] at hw_17
    have hw_17 : tl_E r_18 ((0 : Int) ≤ p2.toInt ∧ p2.toInt ≤ (1 : Int)) 1 0 := hw_17
    refine lv_if_ne (tgt := 23) hx hb dX12_deepest_16 (by decide) (fun c_19 => ?_) (fun c_19 => ?_)
    · have c_19 := hw_17.t c_19
      refine lv_aload_n hx hb dX12_deepest_23 rfl (lv_at hl 0 rfl) ?_
      refine lv_iload_n hx hb dX12_deepest_24 rfl (lv_at hl 2 rfl) ?_
      refine tq_cvR hS (hAf _ hS.1) (tq_rV (As := [.int p1]) (rest := []) ⟨hx, hb, hml, hown, hta⟩ (tp_P.pre hK hN hL hU hI hP) (tp_recv hK hP ho.1 hf_1 rfl) lk_X12_441 (r_X12_lifts l D cy s.heap.size L K Γ f o p1 ho (by first | omega | (simp only [Int32.toInt_toInt64]; omega) | decide | assumption) (by first | omega | (simp only [Int32.toInt_toInt64]; omega) | decide | assumption) (by first | omega | (simp only [Int32.toInt_toInt64]; omega) | decide | assumption) (by first | omega | (simp only [Int32.toInt_toInt64]; omega) | decide | assumption)) rfl rfl ⟨Nat.le_of_ble_eq_true rfl, Nat.le_of_ble_eq_true rfl⟩ rfl hl.1 rfl (Nat.le_of_ble_eq_true rfl) dX12_deepest_25 ⟨Nat.le_of_ble_eq_true rfl, Nat.le_of_ble_eq_true rfl⟩) (fun f_22 Γ_24 H locs hw_20 hP hI hc_23 hcg_25 hS => ?_)
      have hD : va_D A (va_pl L f_22) := tp_D hL hAL
      have hfr := tp_fr2 hfr hc_23 (by decide)
      have hgr : ∀ κ : tk_K, κ.1 ∉ ([39, 58, 57, 60, 61, 62, 63, 59] : List Nat) → Γ_24 κ = Γ κ := tg_fr2 hgr hcg_25 (by decide)
      have hf_26 := (tp_un hc_23 ho (by decide)).trans hf_1
      have hv_27 : ∀ i : Nat, i < 16 → (v_3 i).toInt = Γ_24 (39, 0, 0) i := fun i hi => by rw [hcg_25 _ (by decide)]; exact hv_6 i hi
      have hx_28 : (v_3 0).toInt = Γ_24 (39, 0, 0) 0 := hv_27 0 (by decide)
      have hx_29 : (v_3 10).toInt = Γ_24 (39, 0, 0) 10 := hv_27 10 (by decide)
      have hx_30 : (v_3 11).toInt = Γ_24 (39, 0, 0) 11 := hv_27 11 (by decide)
      have hx_31 : (v_3 12).toInt = Γ_24 (39, 0, 0) 12 := hv_27 12 (by decide)
      have hx_32 : (v_3 13).toInt = Γ_24 (39, 0, 0) 13 := hv_27 13 (by decide)
      have hx_33 : (v_3 14).toInt = Γ_24 (39, 0, 0) 14 := hv_27 14 (by decide)
      have hx_34 : (v_3 15).toInt = Γ_24 (39, 0, 0) 15 := hv_27 15 (by decide)
      have mk_24_0 : Γ_24 (39, 0, 0) 0 = Γ (39, 0, 0) 0 := congrFun (hcg_25 (39, 0, 0) (by decide)) 0
      have mk_24_10 : Γ_24 (39, 0, 0) 10 = Γ (39, 0, 0) 10 := congrFun (hcg_25 (39, 0, 0) (by decide)) 10
      have mk_24_11 : Γ_24 (39, 0, 0) 11 = Γ (39, 0, 0) 11 := congrFun (hcg_25 (39, 0, 0) (by decide)) 11
      have mk_24_12 : Γ_24 (39, 0, 0) 12 = Γ (39, 0, 0) 12 := congrFun (hcg_25 (39, 0, 0) (by decide)) 12
      have mk_24_13 : Γ_24 (39, 0, 0) 13 = Γ (39, 0, 0) 13 := congrFun (hcg_25 (39, 0, 0) (by decide)) 13
      have mk_24_14 : Γ_24 (39, 0, 0) 14 = Γ (39, 0, 0) 14 := congrFun (hcg_25 (39, 0, 0) (by decide)) 14
      have mk_24_15 : Γ_24 (39, 0, 0) 15 = Γ (39, 0, 0) 15 := congrFun (hcg_25 (39, 0, 0) (by decide)) 15
      have hw_20 : ∀ j : Nat, j < 300 → (Γ_24 (59, 300, 0) j = -1000000 ∨ (-500000 ≤ Γ_24 (59, 300, 0) j ∧ Γ_24 (59, 300, 0) j ≤ 500000)) := hw_20
      refine lv_bipush (v := 6) hx hb dX12_deepest_28 (by decide) ?_
      refine lv_iload_n hx hb dX12_deepest_30 rfl (lv_at hl 1 rfl) ?_
      refine lv_iadd hx hb dX12_deepest_31 ?_
      refine lv_topi (fun z_35 ez_35 => ?_)
      try have iz_35 : z_35.toInt = (6 : Int) + p0.toInt := by rw [ez_35]; exact tl_addN 6 p0 rfl rfl (by omega) (by omega)
      refine lv_istore (lv' := [(4, .int z_35), (0, .ref o), (1, .int p0), (2, .int p1), (3, .int p2)]) hx hb dX12_deepest_32 hl (by decide) rfl (fun ls hl => ?_)
      refine lv_iconst (v := (-1)) hx hb dX12_deepest_34 (by decide) ?_
      refine lv_istore (lv' := [(5, .int (-1)), (4, .int z_35), (0, .ref o), (1, .int p0), (2, .int p1), (3, .int p2)]) hx hb dX12_deepest_35 hl (by decide) rfl (fun ls hl => ?_)
      refine lv_lconst (v := 0) hx hb dX12_deepest_37 (by decide) ?_
      refine lv_lstore (lv' := [(6, .long 0), (5, .int (-1)), (4, .int z_35), (0, .ref o), (1, .int p0), (2, .int p1), (3, .int p2)]) hx hb dX12_deepest_38 hl (by decide) rfl (fun ls hl => ?_)
      refine lv_iconst (v := 0) hx hb dX12_deepest_40 (by decide) ?_
      refine lv_istore (lv' := [(8, .int 0), (6, .long 0), (5, .int (-1)), (4, .int z_35), (0, .ref o), (1, .int p0), (2, .int p1), (3, .int p2)]) hx hb dX12_deepest_41 hl (by decide) rfl (fun ls hl => ?_)
      refine tl_ind (G := fun H locs ls => W p l e ((headSpec (tl_w yX12_deepest cX12_deepest 11 (some .long)) ({ frames := 6, cells := 0, slots := 0, locals := 155 })).room) s m #[.ref o, .int p0, .int p1, .int p2] below meth c H locs 0 0 (MQ below (va_Ql (fun (r : Int64) (u : (Nat → va_E) × tk_G) => u.2 (39, 0, 0) 0 = Γ (39, 0, 0) 0) (tp_BG D cy L K Γ f [39, 58, 57, 60, 61, 62, 63, 59]) A) #[.ref o, .int p0, .int p1, .int p2] s 0 0 A) (F0 m 43 ls [])) (α := (Nat → va_E) × tk_G × Int32 × Int64 × Int32) (fun aq => (600 - aq.2.2.1.toInt).toNat) (fun aq H locs ls => (0 ≤ aq.2.2.1.toInt) ∧ (aq.2.1 (39, 0, 0) 0 = Γ (39, 0, 0) 0) ∧ va_P D vwCl (va_pl L aq.1) H ∧ tp_I cy L K aq.2.1 aq.1 ∧ (∀ b, (K b).1 ∉ ([39, 58, 57, 60, 61, 62, 63, 59] : List Nat) → aq.1 b = f b) ∧ (∀ κ : tk_K, κ.1 ∉ ([39, 58, 57, 60, 61, 62, 63, 59] : List Nat) → aq.2.1 κ = Γ κ) ∧ va_S A s.heap H locs ∧ lv_has ls 11 [(8, .int aq.2.2.1), (6, .long aq.2.2.2.1), (5, .int aq.2.2.2.2), (4, .int z_35), (0, .ref o), (1, .int p0), (2, .int p1), (3, .int p2)]) ?_ (f_22, Γ_24, (0 : Int32), (0 : Int64), ((-1) : Int32)) H locs ls ⟨(show 0 ≤ (0 : Int) from (by omega)), (show Γ_24 (39, 0, 0) 0 = Γ (39, 0, 0) 0 from (by omega)), hP, hI, hfr, hgr, hS, lv_sub hl [0, 1, 2, 3, 4, 5, 6, 7] rfl⟩
      rintro ⟨f_36, Γ_37, v8, v6, v5⟩ H locs ls ⟨hf, q0, hP, hI, hfr, hgr, hS, hl⟩ ih43
      have hgr : ∀ κ : tk_K, κ.1 ∉ ([39, 58, 57, 60, 61, 62, 63, 59] : List Nat) → Γ_37 κ = Γ κ := hgr
      have hP : va_P D vwCl (va_pl L f_36) H := hP
      have hI : tp_I cy L K Γ_37 f_36 := hI
      have hfr : ∀ b, (K b).1 ∉ ([39, 58, 57, 60, 61, 62, 63, 59] : List Nat) → f_36 b = f b := hfr
      have hD : va_D A (va_pl L f_36) := tp_D hL hAL
      have hf : 0 ≤ v8.toInt := hf
      have q0 : Γ_37 (39, 0, 0) 0 = Γ (39, 0, 0) 0 := q0
      have hl : lv_has ls 11 [(8, .int v8), (6, .long v6), (5, .int v5), (4, .int z_35), (0, .ref o), (1, .int p0), (2, .int p1), (3, .int p2)] := hl
      refine lv_iload hx hb dX12_deepest_43 (lv_at hl 0 rfl) ?_
      refine lv_sipush (v := 300) hx hb dX12_deepest_45 (by decide) ?_
      refine lv_aload_n hx hb dX12_deepest_48 rfl (lv_at hl 4 rfl) ?_
      refine lv_iload_n hx hb dX12_deepest_49 rfl (lv_at hl 5 rfl) ?_
      obtain ⟨r_39, v_40, q_41, hf_38, hr_42, hv_43⟩ := (show tp_o_M L K 0 0 (Γ_37 (39, 0, 0)) (f_36 o) from hI.at ho)
      refine tl_si (tq_rV (As := [.int p0]) (rest := [.int 300, .int v8]) ⟨hx, hb, hml, hown, hta⟩ (tp_P.pre hK hN hL hU hI hP) (tp_recv hK hP ho.1 hf_38 rfl) lk_X12_459 (r_X12_lengthOf l D cy H.size L K Γ_37 f_36 o p0 ho (by first | omega | assumption | (rw [hgr (42, 3, 0) (by decide), hgr (43, 8800, 0) (by decide), hgr (45, 1056, 0) (by decide), hgr (46, 22, 0) (by decide), hgr (47, 6, 0) (by decide), hgr (48, 22, 0) (by decide), hgr (49, 22, 0) (by decide), hgr (50, 22, 0) (by decide), hgr (51, 22, 0) (by decide)]; first | exact htx | assumption | omega)) (by first | omega | assumption | (rw [hgr (42, 3, 0) (by decide)]; first | assumption | omega))) rfl rfl ⟨Nat.le_of_ble_eq_true rfl, Nat.le_of_ble_eq_true rfl⟩ rfl hl.1 rfl (Nat.le_of_ble_eq_true rfl) dX12_deepest_50 ⟨Nat.le_of_ble_eq_true rfl, Nat.le_of_ble_eq_true rfl⟩) (fun r_52 hw_51 => ?_)
      have hw_51 : r_52.toInt = Γ_37 (50, 22, 0) (6 + p0.toInt).toNat - Γ_37 (49, 22, 0) (6 + p0.toInt).toNat + 1 ∧ -298 ≤ r_52.toInt ∧ r_52.toInt ≤ 300 := hw_51
      refine lv_isub hx hb dX12_deepest_53 ?_
      refine lv_topi (fun z_53 ez_53 => ?_)
      try have iz_53 : z_53.toInt = (300 : Int) - r_52.toInt := by rw [ez_53]; exact tl_subN 300 r_52 rfl rfl (by omega) (by omega)
      refine lv_icmp_gt (tgt := 137) hx hb dX12_deepest_54 (by decide) (fun c_54 => ?_) (fun c_54 => ?_)
      · have c_54 : z_53.toInt < v8.toInt := tl_lt c_54
        refine lv_iload hx hb dX12_deepest_137 (lv_at hl 2 rfl) ?_
        refine lv_if_ge (tgt := 148) hx hb dX12_deepest_139 (by decide) (fun c_55 => ?_) (fun c_55 => ?_)
        · have c_55 : (0 : Int) ≤ v5.toInt := tl_le c_55
          refine lv_iload_n hx hb dX12_deepest_148 rfl (lv_at hl 7 rfl) ?_
          refine lv_if_ne (tgt := 158) hx hb dX12_deepest_149 (by decide) (fun c_56 => ?_) (fun c_56 => ?_)
          · have c_56 : ¬ p2.toInt = (0 : Int) := tl_neq c_56
            refine lv_lload hx hb dX12_deepest_158 (lv_at hl 1 rfl) ?_
            have hpo9 : Γ_37 (39, 0, 0) 0 = Γ (39, 0, 0) 0 := (by omega)
            exact W.lret (v := v6) hx hb hr (fun t ht hW => ⟨⟨_, (f_36, Γ_37), rfl, hpo9, by rw [ht]; exact hP, hI, hfr, hgr⟩, hS.F ht⟩) hS.2.2 dX12_deepest_160
          · have c_56 : p2.toInt = (0 : Int) := tl_eq c_56
            refine lv_iload hx hb dX12_deepest_152 (lv_at hl 2 rfl) ?_
            refine lv_i2l (v := v5.toInt64) hx hb dX12_deepest_154 (by first | rfl | decide) ?_
            refine lv_goto (tgt := 160) hx hb dX12_deepest_155 (by decide) ?_
            have hpo9 : Γ_37 (39, 0, 0) 0 = Γ (39, 0, 0) 0 := (by omega)
            exact W.lret (v := v5.toInt64) hx hb hr (fun t ht hW => ⟨⟨_, (f_36, Γ_37), rfl, hpo9, by rw [ht]; exact hP, hI, hfr, hgr⟩, hS.F ht⟩) hS.2.2 dX12_deepest_160
        · have c_55 : v5.toInt < (0 : Int) := tl_nle c_55
          refine lv_ldc2 (v := (-2000000000)) hx hb hown (hta _ wk_990) dX12_deepest_142 ?_
          refine lv_goto (tgt := 160) hx hb dX12_deepest_145 (by decide) ?_
          have hpo9 : Γ_37 (39, 0, 0) 0 = Γ (39, 0, 0) 0 := (by omega)
          exact W.lret (v := (-2000000000)) hx hb hr (fun t ht hW => ⟨⟨_, (f_36, Γ_37), rfl, hpo9, by rw [ht]; exact hP, hI, hfr, hgr⟩, hS.F ht⟩) hS.2.2 dX12_deepest_160
      · have c_54 : v8.toInt ≤ z_53.toInt := tl_nlt c_54
        refine lv_iload hx hb dX12_deepest_57 (lv_at hl 0 rfl) ?_
        refine lv_aload_n hx hb dX12_deepest_59 rfl (lv_at hl 4 rfl) ?_
        refine tp_get (cy := cy) (ci := 12) (v := .ref (r_39 14)) (C := RX12) (T := TX12) (N := 49) hx hb hta inlX12 hown hK hP ho.1 hf_38 rfl 15 (by decide) (hta _ wk_164) (fun _ h9 => h9) rfl dX12_deepest_60 ?_
        refine lv_iload hx hb dX12_deepest_63 (lv_at hl 3 rfl) ?_
        obtain ⟨g_58, hf_57, hg_59⟩ := (show tp_gi cy (22) (Γ (50, 22, 0)) (f (r_39 14)) from hI0.at (show tp_r L K 50 22 0 (r_39 14) from hr_42 14 (by decide)))
        have hn_60 : vp_in z_35 (22) := tl_in (by omega) (by omega)
        refine tp_iald (cy := cy) hx hb hK hP (show tp_r L K 50 22 0 (r_39 14) from hr_42 14 (by decide)).1 ((tp_un hfr (show tp_r L K 50 22 0 (r_39 14) from hr_42 14 (by decide)) (by decide)).trans hf_57) hn_60 dX12_deepest_65 ?_
        refine lv_topi (fun z_61 ez_61 => ?_)
        have iz_61 : z_61.toInt = Γ (50, 22, 0) z_35.toInt.toNat := by rw [ez_61]; exact hg_59 _ (tp_pin hn_60)
        refine lv_icmp_gt (tgt := 90) hx hb dX12_deepest_66 (by decide) (fun c_62 => ?_) (fun c_62 => ?_)
        · have c_62 : z_61.toInt < v8.toInt := tl_lt c_62
          refine lv_aload_n hx hb dX12_deepest_90 rfl (lv_at hl 4 rfl) ?_
          refine lv_iload_n hx hb dX12_deepest_91 rfl (lv_at hl 5 rfl) ?_
          refine lv_iload_n hx hb dX12_deepest_92 rfl (lv_at hl 6 rfl) ?_
          refine lv_iload hx hb dX12_deepest_93 (lv_at hl 0 rfl) ?_
          refine tq_clR hS (hAf _ hS.1) (tq_rV (As := [.int p0, .int p1, .int v8]) (rest := []) ⟨hx, hb, hml, hown, hta⟩ (tp_P.pre hK hN hL hU hI hP) (tp_recv hK hP ho.1 hf_38 rfl) lk_X12_462 (r_X12_movedTo l D cy H.size L K Γ_37 f_36 o p0 p1 v8 ho (by first | omega | assumption | (rw [hgr (42, 3, 0) (by decide), hgr (43, 8800, 0) (by decide), hgr (45, 1056, 0) (by decide), hgr (46, 22, 0) (by decide), hgr (47, 6, 0) (by decide), hgr (48, 22, 0) (by decide), hgr (49, 22, 0) (by decide), hgr (50, 22, 0) (by decide), hgr (51, 22, 0) (by decide)]; first | exact htx | assumption | omega)) (by first | omega | assumption | (rw [hgr (42, 3, 0) (by decide)]; first | assumption | omega)) (by first | omega | (simp only [Int32.toInt_toInt64]; omega) | decide | assumption) (by first | omega | assumption | (rw [hgr (49, 22, 0) (by decide), hgr (50, 22, 0) (by decide)]; first | assumption | omega))) rfl rfl ⟨Nat.le_of_ble_eq_true rfl, Nat.le_of_ble_eq_true rfl⟩ rfl hl.1 rfl (Nat.le_of_ble_eq_true rfl) dX12_deepest_95 ⟨Nat.le_of_ble_eq_true rfl, Nat.le_of_ble_eq_true rfl⟩) (fun r_64 f_65 Γ_67 H locs hw_63 hP hI hc_66 hcg_68 hS => ?_)
          have hD : va_D A (va_pl L f_65) := tp_D hL hAL
          have hfr := tp_fr2 hfr hc_66 (by decide)
          have hgr : ∀ κ : tk_K, κ.1 ∉ ([39, 58, 57, 60, 61, 62, 63, 59] : List Nat) → Γ_67 κ = Γ κ := tg_fr2 hgr hcg_68 (by decide)
          have hw_63 : Γ_67 (39, 0, 0) 0 = Γ_37 (39, 0, 0) 0 ∧ (Γ_67 (39, 0, 0) 15 = 0 ∨ Γ_67 (39, 0, 0) 15 = 1) := hw_63
          refine lv_lstore (lv' := [(9, .long r_64), (8, .int v8), (6, .long v6), (5, .int v5), (4, .int z_35), (0, .ref o), (1, .int p0), (2, .int p1), (3, .int p2)]) hx hb dX12_deepest_98 hl (by decide) rfl (fun ls hl => ?_)
          refine lv_aload_n hx hb dX12_deepest_100 rfl (lv_at hl 5 rfl) ?_
          obtain ⟨r_70, v_71, q_72, hf_69, hr_73, hv_74⟩ := (show tp_o_M L K 0 0 (Γ_67 (39, 0, 0)) (f_65 o) from hI.at ho)
          have hx_81 : (v_71 15).toInt = Γ_67 (39, 0, 0) 15 := hv_74 15 (by decide)
          refine tp_get (cy := cy) (ci := 12) (v := .int (v_71 15)) (C := RX12) (T := TX12) (N := 49) hx hb hta inlX12 hown hK hP ho.1 hf_69 rfl 40 (by decide) (hta _ wk_924) (fun _ h9 => h9) rfl dX12_deepest_101 ?_
          refine lv_if_eq (tgt := 131) hx hb dX12_deepest_104 (by decide) (fun c_82 => ?_) (fun c_82 => ?_)
          · have c_82 : (v_71 15).toInt = (0 : Int) := tl_eq c_82
            obtain ⟨z_83, ez_83⟩ : ∃ y : Int32, y = v8 + 1 := ⟨_, rfl⟩
            refine lv_iinc (v := z_83) (lv' := [(8, .int z_83), (9, .long r_64), (6, .long v6), (5, .int v5), (4, .int z_35), (0, .ref o), (1, .int p0), (2, .int p1), (3, .int p2)]) hx hb dX12_deepest_131 hl (k := 1) rfl (by rw [ez_83]; rfl) (by decide) rfl (fun ls hl => ?_)
            try have iz_83 : z_83.toInt = v8.toInt + 1 := by rw [ez_83]; exact tl_addL v8 1 (by decide) (by omega) (by omega)
            refine lv_goto (tgt := 43) hx hb dX12_deepest_134 (by decide) ?_
            exact ih43 (f_65, Γ_67, z_83, v6, v5) H locs ls (by show (600 - z_83.toInt).toNat < (600 - v8.toInt).toNat; omega) ⟨(show 0 ≤ z_83.toInt from (by omega)), (show Γ_67 (39, 0, 0) 0 = Γ (39, 0, 0) 0 from (by omega)), hP, hI, hfr, hgr, hS, lv_sub hl [0, 2, 3, 4, 5, 6, 7, 8] rfl⟩
          · have c_82 : ¬ (v_71 15).toInt = (0 : Int) := tl_neq c_82
            refine lv_iload hx hb dX12_deepest_107 (lv_at hl 3 rfl) ?_
            refine lv_if_lt (tgt := 123) hx hb dX12_deepest_109 (by decide) (fun c_84 => ?_) (fun c_84 => ?_)
            · have c_84 : v5.toInt < (0 : Int) := tl_lt c_84
              refine lv_iload hx hb dX12_deepest_123 (lv_at hl 1 rfl) ?_
              refine lv_istore (lv' := [(5, .int v8), (9, .long r_64), (8, .int v8), (6, .long v6), (4, .int z_35), (0, .ref o), (1, .int p0), (2, .int p1), (3, .int p2)]) hx hb dX12_deepest_125 hl (by decide) rfl (fun ls hl => ?_)
              refine lv_lload hx hb dX12_deepest_127 (lv_at hl 1 rfl) ?_
              refine lv_lstore (lv' := [(6, .long r_64), (5, .int v8), (9, .long r_64), (8, .int v8), (4, .int z_35), (0, .ref o), (1, .int p0), (2, .int p1), (3, .int p2)]) hx hb dX12_deepest_129 hl (by decide) rfl (fun ls hl => ?_)
              obtain ⟨z_85, ez_85⟩ : ∃ y : Int32, y = v8 + 1 := ⟨_, rfl⟩
              refine lv_iinc (v := z_85) (lv' := [(8, .int z_85), (6, .long r_64), (5, .int v8), (9, .long r_64), (4, .int z_35), (0, .ref o), (1, .int p0), (2, .int p1), (3, .int p2)]) hx hb dX12_deepest_131 hl (k := 3) rfl (by rw [ez_85]; rfl) (by decide) rfl (fun ls hl => ?_)
              try have iz_85 : z_85.toInt = v8.toInt + 1 := by rw [ez_85]; exact tl_addL v8 1 (by decide) (by omega) (by omega)
              refine lv_goto (tgt := 43) hx hb dX12_deepest_134 (by decide) ?_
              exact ih43 (f_65, Γ_67, z_85, r_64, v8) H locs ls (by show (600 - z_85.toInt).toNat < (600 - v8.toInt).toNat; omega) ⟨(show 0 ≤ z_85.toInt from (by omega)), (show Γ_67 (39, 0, 0) 0 = Γ (39, 0, 0) 0 from (by omega)), hP, hI, hfr, hgr, hS, lv_sub hl [0, 1, 2, 4, 5, 6, 7, 8] rfl⟩
            · have c_84 : (0 : Int) ≤ v5.toInt := tl_nlt c_84
              refine lv_lload hx hb dX12_deepest_112 (lv_at hl 0 rfl) ?_
              refine lv_lload hx hb dX12_deepest_114 (lv_at hl 2 rfl) ?_
              refine W.lcmp hx hb dX12_deepest_116 ?_
              refine lv_if_gt (tgt := 123) hx hb dX12_deepest_117 (by decide) (fun c_86 => ?_) (fun c_86 => ?_)
              · have c_86 : r_64.toInt > v6.toInt := tl_cmp_gt c_86
                refine lv_iload hx hb dX12_deepest_123 (lv_at hl 1 rfl) ?_
                refine lv_istore (lv' := [(5, .int v8), (9, .long r_64), (8, .int v8), (6, .long v6), (4, .int z_35), (0, .ref o), (1, .int p0), (2, .int p1), (3, .int p2)]) hx hb dX12_deepest_125 hl (by decide) rfl (fun ls hl => ?_)
                refine lv_lload hx hb dX12_deepest_127 (lv_at hl 1 rfl) ?_
                refine lv_lstore (lv' := [(6, .long r_64), (5, .int v8), (9, .long r_64), (8, .int v8), (4, .int z_35), (0, .ref o), (1, .int p0), (2, .int p1), (3, .int p2)]) hx hb dX12_deepest_129 hl (by decide) rfl (fun ls hl => ?_)
                obtain ⟨z_87, ez_87⟩ : ∃ y : Int32, y = v8 + 1 := ⟨_, rfl⟩
                refine lv_iinc (v := z_87) (lv' := [(8, .int z_87), (6, .long r_64), (5, .int v8), (9, .long r_64), (4, .int z_35), (0, .ref o), (1, .int p0), (2, .int p1), (3, .int p2)]) hx hb dX12_deepest_131 hl (k := 3) rfl (by rw [ez_87]; rfl) (by decide) rfl (fun ls hl => ?_)
                try have iz_87 : z_87.toInt = v8.toInt + 1 := by rw [ez_87]; exact tl_addL v8 1 (by decide) (by omega) (by omega)
                refine lv_goto (tgt := 43) hx hb dX12_deepest_134 (by decide) ?_
                exact ih43 (f_65, Γ_67, z_87, r_64, v8) H locs ls (by show (600 - z_87.toInt).toNat < (600 - v8.toInt).toNat; omega) ⟨(show 0 ≤ z_87.toInt from (by omega)), (show Γ_67 (39, 0, 0) 0 = Γ (39, 0, 0) 0 from (by omega)), hP, hI, hfr, hgr, hS, lv_sub hl [0, 1, 2, 4, 5, 6, 7, 8] rfl⟩
              · have c_86 : r_64.toInt ≤ v6.toInt := tl_cmp_ngt c_86
                refine lv_goto (tgt := 131) hx hb dX12_deepest_120 (by decide) ?_
                obtain ⟨z_88, ez_88⟩ : ∃ y : Int32, y = v8 + 1 := ⟨_, rfl⟩
                refine lv_iinc (v := z_88) (lv' := [(8, .int z_88), (9, .long r_64), (6, .long v6), (5, .int v5), (4, .int z_35), (0, .ref o), (1, .int p0), (2, .int p1), (3, .int p2)]) hx hb dX12_deepest_131 hl (k := 1) rfl (by rw [ez_88]; rfl) (by decide) rfl (fun ls hl => ?_)
                try have iz_88 : z_88.toInt = v8.toInt + 1 := by rw [ez_88]; exact tl_addL v8 1 (by decide) (by omega) (by omega)
                refine lv_goto (tgt := 43) hx hb dX12_deepest_134 (by decide) ?_
                exact ih43 (f_65, Γ_67, z_88, v6, v5) H locs ls (by show (600 - z_88.toInt).toNat < (600 - v8.toInt).toNat; omega) ⟨(show 0 ≤ z_88.toInt from (by omega)), (show Γ_67 (39, 0, 0) 0 = Γ (39, 0, 0) 0 from (by omega)), hP, hI, hfr, hgr, hS, lv_sub hl [0, 2, 3, 4, 5, 6, 7, 8] rfl⟩
        · have c_62 : v8.toInt ≤ z_61.toInt := tl_nlt c_62
          refine lv_iload hx hb dX12_deepest_69 (lv_at hl 0 rfl) ?_
          refine lv_aload_n hx hb dX12_deepest_71 rfl (lv_at hl 4 rfl) ?_
          refine lv_iload_n hx hb dX12_deepest_72 rfl (lv_at hl 5 rfl) ?_
          refine tl_si (tq_rV (As := [.int p0]) (rest := [.int v8]) ⟨hx, hb, hml, hown, hta⟩ (tp_P.pre hK hN hL hU hI hP) (tp_recv hK hP ho.1 hf_38 rfl) lk_X12_459 (r_X12_lengthOf l D cy H.size L K Γ_37 f_36 o p0 ho (by first | omega | assumption | (rw [hgr (42, 3, 0) (by decide), hgr (43, 8800, 0) (by decide), hgr (45, 1056, 0) (by decide), hgr (46, 22, 0) (by decide), hgr (47, 6, 0) (by decide), hgr (48, 22, 0) (by decide), hgr (49, 22, 0) (by decide), hgr (50, 22, 0) (by decide), hgr (51, 22, 0) (by decide)]; first | exact htx | assumption | omega)) (by first | omega | assumption | (rw [hgr (42, 3, 0) (by decide)]; first | assumption | omega))) rfl rfl ⟨Nat.le_of_ble_eq_true rfl, Nat.le_of_ble_eq_true rfl⟩ rfl hl.1 rfl (Nat.le_of_ble_eq_true rfl) dX12_deepest_73 ⟨Nat.le_of_ble_eq_true rfl, Nat.le_of_ble_eq_true rfl⟩) (fun r_90 hw_89 => ?_)
          have hw_89 : r_90.toInt = Γ_37 (50, 22, 0) (6 + p0.toInt).toNat - Γ_37 (49, 22, 0) (6 + p0.toInt).toNat + 1 ∧ -298 ≤ r_90.toInt ∧ r_90.toInt ≤ 300 := hw_89
          refine lv_iadd hx hb dX12_deepest_76 ?_
          refine lv_topi (fun z_91 ez_91 => ?_)
          try have iz_91 : z_91.toInt = v8.toInt + r_90.toInt := by rw [ez_91]; exact tl_addN v8 r_90 rfl rfl (by omega) (by omega)
          refine lv_aload_n hx hb dX12_deepest_77 rfl (lv_at hl 4 rfl) ?_
          refine tp_get (cy := cy) (ci := 12) (v := .ref (r_39 13)) (C := RX12) (T := TX12) (N := 49) hx hb hta inlX12 hown hK hP ho.1 hf_38 rfl 14 (by decide) (hta _ wk_163) (fun _ h9 => h9) rfl dX12_deepest_78 ?_
          refine lv_iload hx hb dX12_deepest_81 (lv_at hl 3 rfl) ?_
          obtain ⟨g_93, hf_92, hg_94⟩ := (show tp_gi cy (22) (Γ (49, 22, 0)) (f (r_39 13)) from hI0.at (show tp_r L K 49 22 0 (r_39 13) from hr_42 13 (by decide)))
          have hn_95 : vp_in z_35 (22) := tl_in (by omega) (by omega)
          refine tp_iald (cy := cy) hx hb hK hP (show tp_r L K 49 22 0 (r_39 13) from hr_42 13 (by decide)).1 ((tp_un hfr (show tp_r L K 49 22 0 (r_39 13) from hr_42 13 (by decide)) (by decide)).trans hf_92) hn_95 dX12_deepest_83 ?_
          refine lv_topi (fun z_96 ez_96 => ?_)
          have iz_96 : z_96.toInt = Γ (49, 22, 0) z_35.toInt.toNat := by rw [ez_96]; exact hg_94 _ (tp_pin hn_95)
          refine lv_icmp_le (tgt := 90) hx hb dX12_deepest_84 (by decide) (fun c_97 => ?_) (fun c_97 => ?_)
          · have c_97 : z_91.toInt ≤ z_96.toInt := tl_le c_97
            refine lv_aload_n hx hb dX12_deepest_90 rfl (lv_at hl 4 rfl) ?_
            refine lv_iload_n hx hb dX12_deepest_91 rfl (lv_at hl 5 rfl) ?_
            refine lv_iload_n hx hb dX12_deepest_92 rfl (lv_at hl 6 rfl) ?_
            refine lv_iload hx hb dX12_deepest_93 (lv_at hl 0 rfl) ?_
            refine tq_clR hS (hAf _ hS.1) (tq_rV (As := [.int p0, .int p1, .int v8]) (rest := []) ⟨hx, hb, hml, hown, hta⟩ (tp_P.pre hK hN hL hU hI hP) (tp_recv hK hP ho.1 hf_38 rfl) lk_X12_462 (r_X12_movedTo l D cy H.size L K Γ_37 f_36 o p0 p1 v8 ho (by first | omega | assumption | (rw [hgr (42, 3, 0) (by decide), hgr (43, 8800, 0) (by decide), hgr (45, 1056, 0) (by decide), hgr (46, 22, 0) (by decide), hgr (47, 6, 0) (by decide), hgr (48, 22, 0) (by decide), hgr (49, 22, 0) (by decide), hgr (50, 22, 0) (by decide), hgr (51, 22, 0) (by decide)]; first | exact htx | assumption | omega)) (by first | omega | assumption | (rw [hgr (42, 3, 0) (by decide)]; first | assumption | omega)) (by first | omega | (simp only [Int32.toInt_toInt64]; omega) | decide | assumption) (by first | omega | assumption | (rw [hgr (49, 22, 0) (by decide), hgr (50, 22, 0) (by decide)]; first | assumption | omega))) rfl rfl ⟨Nat.le_of_ble_eq_true rfl, Nat.le_of_ble_eq_true rfl⟩ rfl hl.1 rfl (Nat.le_of_ble_eq_true rfl) dX12_deepest_95 ⟨Nat.le_of_ble_eq_true rfl, Nat.le_of_ble_eq_true rfl⟩) (fun r_99 f_100 Γ_102 H locs hw_98 hP hI hc_101 hcg_103 hS => ?_)
            have hD : va_D A (va_pl L f_100) := tp_D hL hAL
            have hfr := tp_fr2 hfr hc_101 (by decide)
            have hgr : ∀ κ : tk_K, κ.1 ∉ ([39, 58, 57, 60, 61, 62, 63, 59] : List Nat) → Γ_102 κ = Γ κ := tg_fr2 hgr hcg_103 (by decide)
            have hw_98 : Γ_102 (39, 0, 0) 0 = Γ_37 (39, 0, 0) 0 ∧ (Γ_102 (39, 0, 0) 15 = 0 ∨ Γ_102 (39, 0, 0) 15 = 1) := hw_98
            refine lv_lstore (lv' := [(9, .long r_99), (8, .int v8), (6, .long v6), (5, .int v5), (4, .int z_35), (0, .ref o), (1, .int p0), (2, .int p1), (3, .int p2)]) hx hb dX12_deepest_98 hl (by decide) rfl (fun ls hl => ?_)
            refine lv_aload_n hx hb dX12_deepest_100 rfl (lv_at hl 5 rfl) ?_
            obtain ⟨r_105, v_106, q_107, hf_104, hr_108, hv_109⟩ := (show tp_o_M L K 0 0 (Γ_102 (39, 0, 0)) (f_100 o) from hI.at ho)
            have hx_116 : (v_106 15).toInt = Γ_102 (39, 0, 0) 15 := hv_109 15 (by decide)
            refine tp_get (cy := cy) (ci := 12) (v := .int (v_106 15)) (C := RX12) (T := TX12) (N := 49) hx hb hta inlX12 hown hK hP ho.1 hf_104 rfl 40 (by decide) (hta _ wk_924) (fun _ h9 => h9) rfl dX12_deepest_101 ?_
            refine lv_if_eq (tgt := 131) hx hb dX12_deepest_104 (by decide) (fun c_117 => ?_) (fun c_117 => ?_)
            · have c_117 : (v_106 15).toInt = (0 : Int) := tl_eq c_117
              obtain ⟨z_118, ez_118⟩ : ∃ y : Int32, y = v8 + 1 := ⟨_, rfl⟩
              refine lv_iinc (v := z_118) (lv' := [(8, .int z_118), (9, .long r_99), (6, .long v6), (5, .int v5), (4, .int z_35), (0, .ref o), (1, .int p0), (2, .int p1), (3, .int p2)]) hx hb dX12_deepest_131 hl (k := 1) rfl (by rw [ez_118]; rfl) (by decide) rfl (fun ls hl => ?_)
              try have iz_118 : z_118.toInt = v8.toInt + 1 := by rw [ez_118]; exact tl_addL v8 1 (by decide) (by omega) (by omega)
              refine lv_goto (tgt := 43) hx hb dX12_deepest_134 (by decide) ?_
              exact ih43 (f_100, Γ_102, z_118, v6, v5) H locs ls (by show (600 - z_118.toInt).toNat < (600 - v8.toInt).toNat; omega) ⟨(show 0 ≤ z_118.toInt from (by omega)), (show Γ_102 (39, 0, 0) 0 = Γ (39, 0, 0) 0 from (by omega)), hP, hI, hfr, hgr, hS, lv_sub hl [0, 2, 3, 4, 5, 6, 7, 8] rfl⟩
            · have c_117 : ¬ (v_106 15).toInt = (0 : Int) := tl_neq c_117
              refine lv_iload hx hb dX12_deepest_107 (lv_at hl 3 rfl) ?_
              refine lv_if_lt (tgt := 123) hx hb dX12_deepest_109 (by decide) (fun c_119 => ?_) (fun c_119 => ?_)
              · have c_119 : v5.toInt < (0 : Int) := tl_lt c_119
                refine lv_iload hx hb dX12_deepest_123 (lv_at hl 1 rfl) ?_
                refine lv_istore (lv' := [(5, .int v8), (9, .long r_99), (8, .int v8), (6, .long v6), (4, .int z_35), (0, .ref o), (1, .int p0), (2, .int p1), (3, .int p2)]) hx hb dX12_deepest_125 hl (by decide) rfl (fun ls hl => ?_)
                refine lv_lload hx hb dX12_deepest_127 (lv_at hl 1 rfl) ?_
                refine lv_lstore (lv' := [(6, .long r_99), (5, .int v8), (9, .long r_99), (8, .int v8), (4, .int z_35), (0, .ref o), (1, .int p0), (2, .int p1), (3, .int p2)]) hx hb dX12_deepest_129 hl (by decide) rfl (fun ls hl => ?_)
                obtain ⟨z_120, ez_120⟩ : ∃ y : Int32, y = v8 + 1 := ⟨_, rfl⟩
                refine lv_iinc (v := z_120) (lv' := [(8, .int z_120), (6, .long r_99), (5, .int v8), (9, .long r_99), (4, .int z_35), (0, .ref o), (1, .int p0), (2, .int p1), (3, .int p2)]) hx hb dX12_deepest_131 hl (k := 3) rfl (by rw [ez_120]; rfl) (by decide) rfl (fun ls hl => ?_)
                try have iz_120 : z_120.toInt = v8.toInt + 1 := by rw [ez_120]; exact tl_addL v8 1 (by decide) (by omega) (by omega)
                refine lv_goto (tgt := 43) hx hb dX12_deepest_134 (by decide) ?_
                exact ih43 (f_100, Γ_102, z_120, r_99, v8) H locs ls (by show (600 - z_120.toInt).toNat < (600 - v8.toInt).toNat; omega) ⟨(show 0 ≤ z_120.toInt from (by omega)), (show Γ_102 (39, 0, 0) 0 = Γ (39, 0, 0) 0 from (by omega)), hP, hI, hfr, hgr, hS, lv_sub hl [0, 1, 2, 4, 5, 6, 7, 8] rfl⟩
              · have c_119 : (0 : Int) ≤ v5.toInt := tl_nlt c_119
                refine lv_lload hx hb dX12_deepest_112 (lv_at hl 0 rfl) ?_
                refine lv_lload hx hb dX12_deepest_114 (lv_at hl 2 rfl) ?_
                refine W.lcmp hx hb dX12_deepest_116 ?_
                refine lv_if_gt (tgt := 123) hx hb dX12_deepest_117 (by decide) (fun c_121 => ?_) (fun c_121 => ?_)
                · have c_121 : r_99.toInt > v6.toInt := tl_cmp_gt c_121
                  refine lv_iload hx hb dX12_deepest_123 (lv_at hl 1 rfl) ?_
                  refine lv_istore (lv' := [(5, .int v8), (9, .long r_99), (8, .int v8), (6, .long v6), (4, .int z_35), (0, .ref o), (1, .int p0), (2, .int p1), (3, .int p2)]) hx hb dX12_deepest_125 hl (by decide) rfl (fun ls hl => ?_)
                  refine lv_lload hx hb dX12_deepest_127 (lv_at hl 1 rfl) ?_
                  refine lv_lstore (lv' := [(6, .long r_99), (5, .int v8), (9, .long r_99), (8, .int v8), (4, .int z_35), (0, .ref o), (1, .int p0), (2, .int p1), (3, .int p2)]) hx hb dX12_deepest_129 hl (by decide) rfl (fun ls hl => ?_)
                  obtain ⟨z_122, ez_122⟩ : ∃ y : Int32, y = v8 + 1 := ⟨_, rfl⟩
                  refine lv_iinc (v := z_122) (lv' := [(8, .int z_122), (6, .long r_99), (5, .int v8), (9, .long r_99), (4, .int z_35), (0, .ref o), (1, .int p0), (2, .int p1), (3, .int p2)]) hx hb dX12_deepest_131 hl (k := 3) rfl (by rw [ez_122]; rfl) (by decide) rfl (fun ls hl => ?_)
                  try have iz_122 : z_122.toInt = v8.toInt + 1 := by rw [ez_122]; exact tl_addL v8 1 (by decide) (by omega) (by omega)
                  refine lv_goto (tgt := 43) hx hb dX12_deepest_134 (by decide) ?_
                  exact ih43 (f_100, Γ_102, z_122, r_99, v8) H locs ls (by show (600 - z_122.toInt).toNat < (600 - v8.toInt).toNat; omega) ⟨(show 0 ≤ z_122.toInt from (by omega)), (show Γ_102 (39, 0, 0) 0 = Γ (39, 0, 0) 0 from (by omega)), hP, hI, hfr, hgr, hS, lv_sub hl [0, 1, 2, 4, 5, 6, 7, 8] rfl⟩
                · have c_121 : r_99.toInt ≤ v6.toInt := tl_cmp_ngt c_121
                  refine lv_goto (tgt := 131) hx hb dX12_deepest_120 (by decide) ?_
                  obtain ⟨z_123, ez_123⟩ : ∃ y : Int32, y = v8 + 1 := ⟨_, rfl⟩
                  refine lv_iinc (v := z_123) (lv' := [(8, .int z_123), (9, .long r_99), (6, .long v6), (5, .int v5), (4, .int z_35), (0, .ref o), (1, .int p0), (2, .int p1), (3, .int p2)]) hx hb dX12_deepest_131 hl (k := 1) rfl (by rw [ez_123]; rfl) (by decide) rfl (fun ls hl => ?_)
                  try have iz_123 : z_123.toInt = v8.toInt + 1 := by rw [ez_123]; exact tl_addL v8 1 (by decide) (by omega) (by omega)
                  refine lv_goto (tgt := 43) hx hb dX12_deepest_134 (by decide) ?_
                  exact ih43 (f_100, Γ_102, z_123, v6, v5) H locs ls (by show (600 - z_123.toInt).toNat < (600 - v8.toInt).toNat; omega) ⟨(show 0 ≤ z_123.toInt from (by omega)), (show Γ_102 (39, 0, 0) 0 = Γ (39, 0, 0) 0 from (by omega)), hP, hI, hfr, hgr, hS, lv_sub hl [0, 2, 3, 4, 5, 6, 7, 8] rfl⟩
          · have c_97 : z_96.toInt < z_91.toInt := tl_nle c_97
            refine lv_goto (tgt := 131) hx hb dX12_deepest_87 (by decide) ?_
            obtain ⟨z_124, ez_124⟩ : ∃ y : Int32, y = v8 + 1 := ⟨_, rfl⟩
            refine lv_iinc (v := z_124) (lv' := [(8, .int z_124), (6, .long v6), (5, .int v5), (4, .int z_35), (0, .ref o), (1, .int p0), (2, .int p1), (3, .int p2)]) hx hb dX12_deepest_131 hl (k := 0) rfl (by rw [ez_124]; rfl) (by decide) rfl (fun ls hl => ?_)
            try have iz_124 : z_124.toInt = v8.toInt + 1 := by rw [ez_124]; exact tl_addL v8 1 (by decide) (by omega) (by omega)
            refine lv_goto (tgt := 43) hx hb dX12_deepest_134 (by decide) ?_
            exact ih43 (f_36, Γ_37, z_124, v6, v5) H locs ls (by show (600 - z_124.toInt).toNat < (600 - v8.toInt).toNat; omega) ⟨(show 0 ≤ z_124.toInt from (by omega)), (show Γ_37 (39, 0, 0) 0 = Γ (39, 0, 0) 0 from (by omega)), hP, hI, hfr, hgr, hS, lv_sub hl [0, 1, 2, 3, 4, 5, 6, 7] rfl⟩
    · have c_19 := hw_17.f c_19
      refine lv_ldc2 (v := (-2100000000)) hx hb hown (hta _ wk_1307) dX12_deepest_19 ?_
      have hpo9 : Γ (39, 0, 0) 0 = Γ (39, 0, 0) 0 := (by omega)
      exact W.lret (v := (-2100000000)) hx hb hr (fun t ht hW => ⟨⟨_, (f, Γ), rfl, hpo9, by rw [ht]; exact hP, hI, hfr, hgr⟩, hS.F ht⟩) hS.2.2 dX12_deepest_22
set_option maxHeartbeats 4000000 in
set_option maxRecDepth 100000 in
theorem r_X12_best (l : Launch) (D : va_G) (cy : Nat → ClassId) (sz : Nat) (L : List Nat) (K : Nat → tk_K) (Γ : tk_G) (f : Nat → va_E) (o : Nat) (p0 : Int32) (p1 : Int32) (p2 : Int32) (p3 : Int32) (ho : tp_r L K 39 (0) 0 o) (htx : tx_ok (Γ (43, 8800, 0)) (Γ (45, 1056, 0)) (Γ (46, 22, 0)) (Γ (47, 6, 0)) (Γ (48, 22, 0)) (Γ (49, 22, 0)) (Γ (50, 22, 0)) (Γ (51, 22, 0)) (Γ (42, 3, 0))) (hsd : ts_said (Γ (40, 7666, 0)) (Γ (42, 3, 0) 1)) : Met l yX12_best (tl_w yX12_best cX12_best 13 (some .long)) ({ frames := 4, cells := 0, slots := 0, locals := 105 }) (va_Pc [.ref o, .int p0, .int p1, .int p2, .int p3] (tp_P D cy L K Γ f sz)) (va_Ql (fun (r : Int64) (u : (Nat → va_E) × tk_G) => u.2 (39, 0, 0) 0 = Γ (39, 0, 0) 0) (tp_BG D cy L K Γ f [39, 58, 57, 60, 61, 62, 63, 59]) (tp_A L sz)) 0 0 (tp_A L sz) := by
  refine Met.ofW (cc := cX12_best) (maxL := 13) (ret := (some .long)) (by decide) rfl ?_
  intro p e s m args below meth c s₁ B hml hv
  obtain ⟨rfl, hsz, hP, hK, hL, hI, hN, hU⟩ := hv
  have hx := B.exec
  have hb := B.bytes
  have hr := B.returns
  have hta := tl_hta (atoms_spec (ws := tl_w yX12_best cX12_best 13 (some .long)) B.pre)
  have hown : s.vm.findClass RX12 = some m.cls := findClass_of_methodNamed B.named
  have hlocks := B.notSynchronized
  subst hsz
  have hI0 := hI
  generalize hAe : tp_A L s.heap.size = A
  have hA : ∀ q : Nat, s.heap.size ≤ q → A q := fun q h => by rw [← hAe]; exact Or.inr h
  have hAL : ∀ q ∈ L, A q := fun q h => by rw [← hAe]; exact Or.inl h
  have hAf : ∀ (H : Heap), s.heap.size ≤ H.size → ∀ q, tp_A L H.size q → A q := fun H h q hq => hq.elim (hAL q) (fun h2 => hA q (Nat.le_trans h h2))
  have hS : va_S A s.heap s.heap [] := va_S.rf
  have hD : va_D A (va_pl L f) := tp_D hL hAL
  have hfr : ∀ b, (K b).1 ∉ ([39, 58, 57, 60, 61, 62, 63, 59] : List Nat) → f b = f b := fun _ _ => rfl
  have hgr : ∀ κ : tk_K, κ.1 ∉ ([39, 58, 57, 60, 61, 62, 63, 59] : List Nat) → Γ κ = Γ κ := fun _ _ => rfl
  have hl := lv_entry ([.ref o, .int p0, .int p1, .int p2, .int p3]) (n := 13) (Nat.le_of_ble_eq_true rfl)
  rw [lg_entry_eq]
  generalize (lg_sl ([.ref o, .int p0, .int p1, .int p2, .int p3]) ++ List.replicate (13 - (lg_sl ([.ref o, .int p0, .int p1, .int p2, .int p3])).length) Slot.unset).toArray = ls at hl ⊢
  have hl : lv_has ls 13 [(0, .ref o), (1, .int p0), (2, .int p1), (3, .int p2), (4, .int p3)] := hl
  have hs := ts_hs hsd
  have hraw := ts_raw hsd
  have hslp := ts_slp hsd
  have htb := htx.1
  refine lv_aload_n hx hb dX12_best_0 rfl (lv_at hl 0 rfl) ?_
  refine lv_iload_n hx hb dX12_best_1 rfl (lv_at hl 1 rfl) ?_
  refine lv_iload_n hx hb dX12_best_2 rfl (lv_at hl 2 rfl) ?_
  obtain ⟨r_2, v_3, q_4, hf_1, hr_5, hv_6⟩ := (show tp_o_M L K 0 0 (Γ (39, 0, 0)) (f o) from hI.at ho)
  have hx_7 : (v_3 0).toInt = Γ (39, 0, 0) 0 := hv_6 0 (by decide)
  have hx_8 : (v_3 10).toInt = Γ (39, 0, 0) 10 := hv_6 10 (by decide)
  have hx_9 : (v_3 11).toInt = Γ (39, 0, 0) 11 := hv_6 11 (by decide)
  have hx_10 : (v_3 12).toInt = Γ (39, 0, 0) 12 := hv_6 12 (by decide)
  have hx_11 : (v_3 13).toInt = Γ (39, 0, 0) 13 := hv_6 13 (by decide)
  have hx_12 : (v_3 14).toInt = Γ (39, 0, 0) 14 := hv_6 14 (by decide)
  have hx_13 : (v_3 15).toInt = Γ (39, 0, 0) 15 := hv_6 15 (by decide)
  refine tl_si (tq_rV (As := [.int p0, .int p1]) (rest := []) ⟨hx, hb, hml, hown, hta⟩ (tp_P.pre hK hN hL hU hI hP) (tp_recv hK hP ho.1 hf_1 rfl) lk_X12_447 (r_X12_canAsk l D cy s.heap.size L K Γ f o p0 p1 ho) rfl rfl ⟨Nat.le_of_ble_eq_true rfl, Nat.le_of_ble_eq_true rfl⟩ rfl hl.1 rfl (Nat.le_of_ble_eq_true rfl) dX12_best_3 ⟨Nat.le_of_ble_eq_true rfl, Nat.le_of_ble_eq_true rfl⟩) (fun r_15 hw_14 => ?_)
  have hw_14 : tl_E r_15 ((0 ≤ p0.toInt ∧ p0.toInt < Γ (42, 3, 0) 1) ∧ 0 ≤ p1.toInt ∧ p1.toInt < Γ (40, 7666, 0) 1) 1 0 := hw_14
  refine lv_if_eq (tgt := 32) hx hb dX12_best_6 (by decide) (fun c_16 => ?_) (fun c_16 => ?_)
  · have c_16 := hw_14.f c_16
    refine lv_ldc2 (v := (-1)) hx hb hown (hta _ wk_991) dX12_best_32 ?_
    have hpo9 : Γ (39, 0, 0) 0 = Γ (39, 0, 0) 0 := (by omega)
    exact W.lret (v := (-1)) hx hb hr (fun t ht hW => ⟨⟨_, (f, Γ), rfl, hpo9, by rw [ht]; exact hP, hI, hfr, hgr⟩, hS.F ht⟩) hS.2.2 dX12_best_35
  · have c_16 := hw_14.t c_16
    refine lv_iload_n hx hb dX12_best_9 rfl (lv_at hl 3 rfl) ?_
    refine lv_i2l (v := p2.toInt64) hx hb dX12_best_10 (by first | rfl | decide) ?_
    refine lv_lconst (v := 0) hx hb dX12_best_11 (by decide) ?_
    refine lv_ldc2 (v := 99999) hx hb hown (hta _ wk_1064) dX12_best_12 ?_
    refine tl_si (tq_rS (As := [.long p2.toInt64, .long 0, .long 99999]) (rest := []) ⟨hx, hb, hml, hown, hta⟩ (tp_P.pre hK hN hL hU hI hP) lk_X12_112 (r_X12_in l D cy s.heap.size L K Γ f p2.toInt64 0 99999 ) rfl rfl ⟨Nat.le_of_ble_eq_true rfl, Nat.le_of_ble_eq_true rfl⟩ rfl hl.1 rfl (Nat.le_of_ble_eq_true rfl) dX12_best_15 ⟨Nat.le_of_ble_eq_true rfl, Nat.le_of_ble_eq_true rfl⟩) (fun r_18 hw_17 => ?_)
    simp only [Int32.toInt_toInt64] at hw_17
    have hw_17 : tl_E r_18 ((0 : Int) ≤ p2.toInt ∧ p2.toInt ≤ (99999 : Int)) 1 0 := hw_17
    refine lv_if_eq (tgt := 32) hx hb dX12_best_18 (by decide) (fun c_19 => ?_) (fun c_19 => ?_)
    · have c_19 := hw_17.f c_19
      refine lv_ldc2 (v := (-1)) hx hb hown (hta _ wk_991) dX12_best_32 ?_
      have hpo9 : Γ (39, 0, 0) 0 = Γ (39, 0, 0) 0 := (by omega)
      exact W.lret (v := (-1)) hx hb hr (fun t ht hW => ⟨⟨_, (f, Γ), rfl, hpo9, by rw [ht]; exact hP, hI, hfr, hgr⟩, hS.F ht⟩) hS.2.2 dX12_best_35
    · have c_19 := hw_17.t c_19
      refine lv_iload hx hb dX12_best_21 (lv_at hl 4 rfl) ?_
      refine lv_i2l (v := p3.toInt64) hx hb dX12_best_23 (by first | rfl | decide) ?_
      refine lv_lconst (v := 0) hx hb dX12_best_24 (by decide) ?_
      refine lv_lconst (v := 1) hx hb dX12_best_25 (by decide) ?_
      refine tl_si (tq_rS (As := [.long p3.toInt64, .long 0, .long 1]) (rest := []) ⟨hx, hb, hml, hown, hta⟩ (tp_P.pre hK hN hL hU hI hP) lk_X12_112 (r_X12_in l D cy s.heap.size L K Γ f p3.toInt64 0 1 ) rfl rfl ⟨Nat.le_of_ble_eq_true rfl, Nat.le_of_ble_eq_true rfl⟩ rfl hl.1 rfl (Nat.le_of_ble_eq_true rfl) dX12_best_26 ⟨Nat.le_of_ble_eq_true rfl, Nat.le_of_ble_eq_true rfl⟩) (fun r_21 hw_20 => ?_)
      simp only [Int32.toInt_toInt64] at hw_20
      have hw_20 : tl_E r_21 ((0 : Int) ≤ p3.toInt ∧ p3.toInt ≤ (1 : Int)) 1 0 := hw_20
      refine lv_if_ne (tgt := 36) hx hb dX12_best_29 (by decide) (fun c_22 => ?_) (fun c_22 => ?_)
      · have c_22 := hw_20.t c_22
        obtain ⟨hnc, htst, _, _, hbd, hgp, hwi⟩ := htx.2 (6 + p0.toInt) (by omega)
        refine lv_aload_n hx hb dX12_best_36 rfl (lv_at hl 0 rfl) ?_
        refine lv_iload_n hx hb dX12_best_37 rfl (lv_at hl 2 rfl) ?_
        refine tq_cvR hS (hAf _ hS.1) (tq_rV (As := [.int p1]) (rest := []) ⟨hx, hb, hml, hown, hta⟩ (tp_P.pre hK hN hL hU hI hP) (tp_recv hK hP ho.1 hf_1 rfl) lk_X12_441 (r_X12_lifts l D cy s.heap.size L K Γ f o p1 ho (by first | omega | (simp only [Int32.toInt_toInt64]; omega) | decide | assumption) (by first | omega | (simp only [Int32.toInt_toInt64]; omega) | decide | assumption) (by first | omega | (simp only [Int32.toInt_toInt64]; omega) | decide | assumption) (by first | omega | (simp only [Int32.toInt_toInt64]; omega) | decide | assumption)) rfl rfl ⟨Nat.le_of_ble_eq_true rfl, Nat.le_of_ble_eq_true rfl⟩ rfl hl.1 rfl (Nat.le_of_ble_eq_true rfl) dX12_best_38 ⟨Nat.le_of_ble_eq_true rfl, Nat.le_of_ble_eq_true rfl⟩) (fun f_25 Γ_27 H locs hw_23 hP hI hc_26 hcg_28 hS => ?_)
        have hD : va_D A (va_pl L f_25) := tp_D hL hAL
        have hfr := tp_fr2 hfr hc_26 (by decide)
        have hgr : ∀ κ : tk_K, κ.1 ∉ ([39, 58, 57, 60, 61, 62, 63, 59] : List Nat) → Γ_27 κ = Γ κ := tg_fr2 hgr hcg_28 (by decide)
        have hf_29 := (tp_un hc_26 ho (by decide)).trans hf_1
        have hv_30 : ∀ i : Nat, i < 16 → (v_3 i).toInt = Γ_27 (39, 0, 0) i := fun i hi => by rw [hcg_28 _ (by decide)]; exact hv_6 i hi
        have hx_31 : (v_3 0).toInt = Γ_27 (39, 0, 0) 0 := hv_30 0 (by decide)
        have hx_32 : (v_3 10).toInt = Γ_27 (39, 0, 0) 10 := hv_30 10 (by decide)
        have hx_33 : (v_3 11).toInt = Γ_27 (39, 0, 0) 11 := hv_30 11 (by decide)
        have hx_34 : (v_3 12).toInt = Γ_27 (39, 0, 0) 12 := hv_30 12 (by decide)
        have hx_35 : (v_3 13).toInt = Γ_27 (39, 0, 0) 13 := hv_30 13 (by decide)
        have hx_36 : (v_3 14).toInt = Γ_27 (39, 0, 0) 14 := hv_30 14 (by decide)
        have hx_37 : (v_3 15).toInt = Γ_27 (39, 0, 0) 15 := hv_30 15 (by decide)
        have mk_27_0 : Γ_27 (39, 0, 0) 0 = Γ (39, 0, 0) 0 := congrFun (hcg_28 (39, 0, 0) (by decide)) 0
        have mk_27_10 : Γ_27 (39, 0, 0) 10 = Γ (39, 0, 0) 10 := congrFun (hcg_28 (39, 0, 0) (by decide)) 10
        have mk_27_11 : Γ_27 (39, 0, 0) 11 = Γ (39, 0, 0) 11 := congrFun (hcg_28 (39, 0, 0) (by decide)) 11
        have mk_27_12 : Γ_27 (39, 0, 0) 12 = Γ (39, 0, 0) 12 := congrFun (hcg_28 (39, 0, 0) (by decide)) 12
        have mk_27_13 : Γ_27 (39, 0, 0) 13 = Γ (39, 0, 0) 13 := congrFun (hcg_28 (39, 0, 0) (by decide)) 13
        have mk_27_14 : Γ_27 (39, 0, 0) 14 = Γ (39, 0, 0) 14 := congrFun (hcg_28 (39, 0, 0) (by decide)) 14
        have mk_27_15 : Γ_27 (39, 0, 0) 15 = Γ (39, 0, 0) 15 := congrFun (hcg_28 (39, 0, 0) (by decide)) 15
        have hw_23 : ∀ j : Nat, j < 300 → (Γ_27 (59, 300, 0) j = -1000000 ∨ (-500000 ≤ Γ_27 (59, 300, 0) j ∧ Γ_27 (59, 300, 0) j ≤ 500000)) := hw_23
        refine lv_aload_n hx hb dX12_best_41 rfl (lv_at hl 0 rfl) ?_
        refine lv_iload_n hx hb dX12_best_42 rfl (lv_at hl 1 rfl) ?_
        refine lv_iload_n hx hb dX12_best_43 rfl (lv_at hl 2 rfl) ?_
        refine lv_aload_n hx hb dX12_best_44 rfl (lv_at hl 0 rfl) ?_
        refine tp_get (cy := cy) (ci := 12) (v := .ref (r_2 13)) (C := RX12) (T := TX12) (N := 49) hx hb hta inlX12 hown hK hP ho.1 hf_29 rfl 14 (by decide) (hta _ wk_163) (fun _ h9 => h9) rfl dX12_best_45 ?_
        refine lv_bipush (v := 6) hx hb dX12_best_48 (by decide) ?_
        refine lv_iload_n hx hb dX12_best_50 rfl (lv_at hl 1 rfl) ?_
        refine lv_iadd hx hb dX12_best_51 ?_
        refine lv_topi (fun z_38 ez_38 => ?_)
        try have iz_38 : z_38.toInt = (6 : Int) + p0.toInt := by rw [ez_38]; exact tl_addN 6 p0 rfl rfl (by omega) (by omega)
        obtain ⟨g_40, hf_39, hg_41⟩ := (show tp_gi cy (22) (Γ (49, 22, 0)) (f (r_2 13)) from hI0.at (show tp_r L K 49 22 0 (r_2 13) from hr_5 13 (by decide)))
        have hn_42 : vp_in z_38 (22) := tl_in (by omega) (by omega)
        refine tp_iald (cy := cy) hx hb hK hP (show tp_r L K 49 22 0 (r_2 13) from hr_5 13 (by decide)).1 ((tp_un hfr (show tp_r L K 49 22 0 (r_2 13) from hr_5 13 (by decide)) (by decide)).trans hf_39) hn_42 dX12_best_52 ?_
        refine lv_topi (fun z_43 ez_43 => ?_)
        have iz_43 : z_43.toInt = Γ (49, 22, 0) z_38.toInt.toNat := by rw [ez_43]; exact hg_41 _ (tp_pin hn_42)
        have kz_43 : z_43.toInt = Γ (49, 22, 0) (6 + p0.toInt).toNat := iz_43.trans (congrArg _ (by omega))
        refine lv_aload_n hx hb dX12_best_53 rfl (lv_at hl 0 rfl) ?_
        refine tp_get (cy := cy) (ci := 12) (v := .ref (r_2 14)) (C := RX12) (T := TX12) (N := 49) hx hb hta inlX12 hown hK hP ho.1 hf_29 rfl 15 (by decide) (hta _ wk_164) (fun _ h9 => h9) rfl dX12_best_54 ?_
        refine lv_bipush (v := 6) hx hb dX12_best_57 (by decide) ?_
        refine lv_iload_n hx hb dX12_best_59 rfl (lv_at hl 1 rfl) ?_
        refine lv_iadd hx hb dX12_best_60 ?_
        refine lv_topi (fun z_44 ez_44 => ?_)
        try have iz_44 : z_44.toInt = (6 : Int) + p0.toInt := by rw [ez_44]; exact tl_addN 6 p0 rfl rfl (by omega) (by omega)
        obtain ⟨g_46, hf_45, hg_47⟩ := (show tp_gi cy (22) (Γ (50, 22, 0)) (f (r_2 14)) from hI0.at (show tp_r L K 50 22 0 (r_2 14) from hr_5 14 (by decide)))
        have hn_48 : vp_in z_44 (22) := tl_in (by omega) (by omega)
        refine tp_iald (cy := cy) hx hb hK hP (show tp_r L K 50 22 0 (r_2 14) from hr_5 14 (by decide)).1 ((tp_un hfr (show tp_r L K 50 22 0 (r_2 14) from hr_5 14 (by decide)) (by decide)).trans hf_45) hn_48 dX12_best_61 ?_
        refine lv_topi (fun z_49 ez_49 => ?_)
        have iz_49 : z_49.toInt = Γ (50, 22, 0) z_44.toInt.toNat := by rw [ez_49]; exact hg_47 _ (tp_pin hn_48)
        have kz_49 : z_49.toInt = Γ (50, 22, 0) (6 + p0.toInt).toNat := iz_49.trans (congrArg _ (by omega))
        refine tq_cvR hS (hAf _ hS.1) (tq_rV (As := [.int p0, .int p1, .int z_43, .int z_49]) (rest := []) ⟨hx, hb, hml, hown, hta⟩ (tp_P.pre hK hN hL hU hI hP) (tp_recv hK hP ho.1 hf_29 rfl) lk_X12_418 (r_X12_uses l D cy H.size L K Γ_27 f_25 o p0 p1 z_43 z_49 (6 + p0.toInt) ho (by first | omega | (simp only [Int32.toInt_toInt64]; omega) | decide | assumption) (by first | omega | assumption | (rw [hgr (46, 22, 0) (by decide)]; first | assumption | omega)) (by rw [hgr (45, 1056, 0) (by decide), hgr (46, 22, 0) (by decide), hgr (43, 8800, 0) (by decide)]; exact htst) (by first | omega | (simp only [Int32.toInt_toInt64]; omega) | decide | assumption)) rfl rfl ⟨Nat.le_of_ble_eq_true rfl, Nat.le_of_ble_eq_true rfl⟩ rfl hl.1 rfl (Nat.le_of_ble_eq_true rfl) dX12_best_62 ⟨Nat.le_of_ble_eq_true rfl, Nat.le_of_ble_eq_true rfl⟩) (fun f_52 Γ_54 H locs hw_50 hP hI hc_53 hcg_55 hS => ?_)
        have hD : va_D A (va_pl L f_52) := tp_D hL hAL
        have hfr := tp_fr2 hfr hc_53 (by decide)
        have hgr : ∀ κ : tk_K, κ.1 ∉ ([39, 58, 57, 60, 61, 62, 63, 59] : List Nat) → Γ_54 κ = Γ κ := tg_fr2 hgr hcg_55 (by decide)
        have hw_50 : 0 ≤ Γ_54 (39, 0, 0) 10 ∧ (Γ_54 (39, 0, 0) 11 = z_43.toInt ∧ Γ_54 (39, 0, 0) 12 = z_49.toInt) ∧ Γ_54 (39, 0, 0) 0 = Γ_27 (39, 0, 0) 0 ∧ Γ_54 (39, 0, 0) 13 = Γ_27 (39, 0, 0) 13 ∧ Γ_54 (39, 0, 0) 14 = Γ_27 (39, 0, 0) 14 ∧ Γ_54 (39, 0, 0) 15 = Γ_27 (39, 0, 0) 15 ∧ (∀ j : Nat, j < 300 → ¬ Γ_54 (60, 300, 0) j = 0 → 0 < Γ_54 (39, 0, 0) 10) := hw_50
        have hus9 := hw_50.2.2.2.2.2.2
        refine lv_bipush (v := (-2)) hx hb dX12_best_65 (by decide) ?_
        refine lv_istore (lv' := [(5, .int (-2)), (0, .ref o), (1, .int p0), (2, .int p1), (3, .int p2), (4, .int p3)]) hx hb dX12_best_67 hl (by decide) rfl (fun ls hl => ?_)
        refine lv_lconst (v := 0) hx hb dX12_best_69 (by decide) ?_
        refine lv_lstore (lv' := [(6, .long 0), (5, .int (-2)), (0, .ref o), (1, .int p0), (2, .int p1), (3, .int p2), (4, .int p3)]) hx hb dX12_best_70 hl (by decide) rfl (fun ls hl => ?_)
        refine lv_iconst (v := 0) hx hb dX12_best_72 (by decide) ?_
        refine lv_istore (lv' := [(8, .int 0), (6, .long 0), (5, .int (-2)), (0, .ref o), (1, .int p0), (2, .int p1), (3, .int p2), (4, .int p3)]) hx hb dX12_best_73 hl (by decide) rfl (fun ls hl => ?_)
        refine tl_ind (G := fun H locs ls => W p l e ((headSpec (tl_w yX12_best cX12_best 13 (some .long)) ({ frames := 4, cells := 0, slots := 0, locals := 105 })).room) s m #[.ref o, .int p0, .int p1, .int p2, .int p3] below meth c H locs 0 0 (MQ below (va_Ql (fun (r : Int64) (u : (Nat → va_E) × tk_G) => u.2 (39, 0, 0) 0 = Γ (39, 0, 0) 0) (tp_BG D cy L K Γ f [39, 58, 57, 60, 61, 62, 63, 59]) A) #[.ref o, .int p0, .int p1, .int p2, .int p3] s 0 0 A) (F0 m 75 ls [])) (α := (Nat → va_E) × tk_G × Int32 × Int64 × Int32) (fun aq => (41 - aq.2.2.1.toInt).toNat) (fun aq H locs ls => (0 ≤ aq.2.2.1.toInt ∧ aq.2.2.1.toInt ≤ 41) ∧ (∀ j : Nat, j < 300 → ¬ aq.2.1 (60, 300, 0) j = 0 → 0 < aq.2.1 (39, 0, 0) 10) ∧ (aq.2.1 (39, 0, 0) 0 = Γ (39, 0, 0) 0) ∧ va_P D vwCl (va_pl L aq.1) H ∧ tp_I cy L K aq.2.1 aq.1 ∧ (∀ b, (K b).1 ∉ ([39, 58, 57, 60, 61, 62, 63, 59] : List Nat) → aq.1 b = f b) ∧ (∀ κ : tk_K, κ.1 ∉ ([39, 58, 57, 60, 61, 62, 63, 59] : List Nat) → aq.2.1 κ = Γ κ) ∧ va_S A s.heap H locs ∧ lv_has ls 13 [(8, .int aq.2.2.1), (6, .long aq.2.2.2.1), (5, .int aq.2.2.2.2), (0, .ref o), (1, .int p0), (2, .int p1), (3, .int p2), (4, .int p3)]) ?_ (f_52, Γ_54, (0 : Int32), (0 : Int64), ((-2) : Int32)) H locs ls ⟨(show 0 ≤ (0 : Int) ∧ (0 : Int) ≤ 41 from (by omega)), (show ∀ j : Nat, j < 300 → ¬ Γ_54 (60, 300, 0) j = 0 → 0 < Γ_54 (39, 0, 0) 10 from hus9), (show Γ_54 (39, 0, 0) 0 = Γ (39, 0, 0) 0 from (by omega)), hP, hI, hfr, hgr, hS, lv_sub hl [0, 1, 2, 3, 4, 5, 6, 7] rfl⟩
        rintro ⟨f_56, Γ_57, v8, v6, v5⟩ H locs ls ⟨hb8, hus, q0, hP, hI, hfr, hgr, hS, hl⟩ ih75
        have hgr : ∀ κ : tk_K, κ.1 ∉ ([39, 58, 57, 60, 61, 62, 63, 59] : List Nat) → Γ_57 κ = Γ κ := hgr
        have hP : va_P D vwCl (va_pl L f_56) H := hP
        have hI : tp_I cy L K Γ_57 f_56 := hI
        have hfr : ∀ b, (K b).1 ∉ ([39, 58, 57, 60, 61, 62, 63, 59] : List Nat) → f_56 b = f b := hfr
        have hD : va_D A (va_pl L f_56) := tp_D hL hAL
        have hb8 : 0 ≤ v8.toInt ∧ v8.toInt ≤ 41 := hb8
        have hus : ∀ j : Nat, j < 300 → ¬ Γ_57 (60, 300, 0) j = 0 → 0 < Γ_57 (39, 0, 0) 10 := hus
        have q0 : Γ_57 (39, 0, 0) 0 = Γ (39, 0, 0) 0 := q0
        have hl : lv_has ls 13 [(8, .int v8), (6, .long v6), (5, .int v5), (0, .ref o), (1, .int p0), (2, .int p1), (3, .int p2), (4, .int p3)] := hl
        refine lv_iload hx hb dX12_best_75 (lv_at hl 0 rfl) ?_
        refine lv_bipush (v := 40) hx hb dX12_best_77 (by decide) ?_
        refine lv_icmp_gt (tgt := 194) hx hb dX12_best_79 (by decide) (fun c_58 => ?_) (fun c_58 => ?_)
        · have c_58 : (40 : Int) < v8.toInt := tl_lt c_58
          refine lv_iload hx hb dX12_best_194 (lv_at hl 2 rfl) ?_
          refine lv_if_lt (tgt := 204) hx hb dX12_best_196 (by decide) (fun c_59 => ?_) (fun c_59 => ?_)
          · have c_59 : v5.toInt < (0 : Int) := tl_lt c_59
            refine lv_iload hx hb dX12_best_204 (lv_at hl 2 rfl) ?_
            refine lv_i2l (v := v5.toInt64) hx hb dX12_best_206 (by first | rfl | decide) ?_
            refine lv_goto (tgt := 212) hx hb dX12_best_207 (by decide) ?_
            have hpo9 : Γ_57 (39, 0, 0) 0 = Γ (39, 0, 0) 0 := (by omega)
            exact W.lret (v := v5.toInt64) hx hb hr (fun t ht hW => ⟨⟨_, (f_56, Γ_57), rfl, hpo9, by rw [ht]; exact hP, hI, hfr, hgr⟩, hS.F ht⟩) hS.2.2 dX12_best_212
          · have c_59 : (0 : Int) ≤ v5.toInt := tl_nlt c_59
            refine lv_iload hx hb dX12_best_199 (lv_at hl 7 rfl) ?_
            refine lv_if_ne (tgt := 210) hx hb dX12_best_201 (by decide) (fun c_60 => ?_) (fun c_60 => ?_)
            · have c_60 : ¬ p3.toInt = (0 : Int) := tl_neq c_60
              refine lv_lload hx hb dX12_best_210 (lv_at hl 1 rfl) ?_
              have hpo9 : Γ_57 (39, 0, 0) 0 = Γ (39, 0, 0) 0 := (by omega)
              exact W.lret (v := v6) hx hb hr (fun t ht hW => ⟨⟨_, (f_56, Γ_57), rfl, hpo9, by rw [ht]; exact hP, hI, hfr, hgr⟩, hS.F ht⟩) hS.2.2 dX12_best_212
            · have c_60 : p3.toInt = (0 : Int) := tl_eq c_60
              refine lv_iload hx hb dX12_best_204 (lv_at hl 2 rfl) ?_
              refine lv_i2l (v := v5.toInt64) hx hb dX12_best_206 (by first | rfl | decide) ?_
              refine lv_goto (tgt := 212) hx hb dX12_best_207 (by decide) ?_
              have hpo9 : Γ_57 (39, 0, 0) 0 = Γ (39, 0, 0) 0 := (by omega)
              exact W.lret (v := v5.toInt64) hx hb hr (fun t ht hW => ⟨⟨_, (f_56, Γ_57), rfl, hpo9, by rw [ht]; exact hP, hI, hfr, hgr⟩, hS.F ht⟩) hS.2.2 dX12_best_212
        · have c_58 : v8.toInt ≤ (40 : Int) := tl_nlt c_58
          refine lv_aload_n hx hb dX12_best_82 rfl (lv_at hl 3 rfl) ?_
          refine lv_iload_n hx hb dX12_best_83 rfl (lv_at hl 4 rfl) ?_
          refine lv_iload hx hb dX12_best_84 (lv_at hl 0 rfl) ?_
          obtain ⟨r_62, v_63, q_64, hf_61, hr_65, hv_66⟩ := (show tp_o_M L K 0 0 (Γ_57 (39, 0, 0)) (f_56 o) from hI.at ho)
          refine tq_ciR hS (hAf _ hS.1) (tq_rV (As := [.int p0, .int v8]) (rest := []) ⟨hx, hb, hml, hown, hta⟩ (tp_P.pre hK hN hL hU hI hP) (tp_recv hK hP ho.1 hf_61 rfl) lk_X12_422 (r_X12_bows l D cy H.size L K Γ_57 f_56 o p0 v8 (6 + p0.toInt) ho (by first | omega | (simp only [Int32.toInt_toInt64]; omega) | decide | assumption) (by first | omega | assumption | (rw [hgr (51, 22, 0) (by decide)]; first | assumption | omega)) hus (by first | omega | (simp only [Int32.toInt_toInt64]; omega) | decide | assumption)) rfl rfl ⟨Nat.le_of_ble_eq_true rfl, Nat.le_of_ble_eq_true rfl⟩ rfl hl.1 rfl (Nat.le_of_ble_eq_true rfl) dX12_best_86 ⟨Nat.le_of_ble_eq_true rfl, Nat.le_of_ble_eq_true rfl⟩) (fun r_75 f_76 Γ_78 H locs hw_74 hP hI hc_77 hcg_79 hS => ?_)
          have hD : va_D A (va_pl L f_76) := tp_D hL hAL
          have hfr := tp_fr2 hfr hc_77 (by decide)
          have hgr : ∀ κ : tk_K, κ.1 ∉ ([39, 58, 57, 60, 61, 62, 63, 59] : List Nat) → Γ_78 κ = Γ κ := tg_fr2 hgr hcg_79 (by decide)
          obtain ⟨hE_80, hw_74⟩ := hw_74
          have hE_80 : tl_E r_75 (0 < Γ_78 (39, 0, 0) 13) 1 0 := hE_80
          have hw_74 : (0 ≤ Γ_78 (39, 0, 0) 13 ∧ Γ_78 (39, 0, 0) 13 ≤ 42) ∧ (0 < Γ_78 (39, 0, 0) 13 → 0 < Γ_57 (39, 0, 0) 10) ∧ Γ_78 (39, 0, 0) 0 = Γ_57 (39, 0, 0) 0 ∧ Γ_78 (39, 0, 0) 10 = Γ_57 (39, 0, 0) 10 ∧ Γ_78 (39, 0, 0) 11 = Γ_57 (39, 0, 0) 11 ∧ Γ_78 (39, 0, 0) 12 = Γ_57 (39, 0, 0) 12 ∧ Γ_78 (39, 0, 0) 14 = Γ_57 (39, 0, 0) 14 ∧ Γ_78 (39, 0, 0) 15 = Γ_57 (39, 0, 0) 15 ∧ (∀ j : Nat, (j : Int) < Γ_78 (39, 0, 0) 13 → 0 ≤ Γ_78 (61, 42, 0) j ∧ Γ_78 (61, 42, 0) j ≤ 299) ∧ (∀ j : Nat, (j : Int) + 1 < Γ_78 (39, 0, 0) 13 → Γ_78 (61, 42, 0) j < Γ_78 (61, 42, 0) (j + 1)) := hw_74
          refine lv_if_ne (tgt := 95) hx hb dX12_best_89 (by decide) (fun c_81 => ?_) (fun c_81 => ?_)
          · have c_81 := hE_80.t c_81
            refine lv_lconst (v := 0) hx hb dX12_best_95 (by decide) ?_
            refine lv_lstore (lv' := [(9, .long 0), (8, .int v8), (6, .long v6), (5, .int v5), (0, .ref o), (1, .int p0), (2, .int p1), (3, .int p2), (4, .int p3)]) hx hb dX12_best_96 hl (by decide) rfl (fun ls hl => ?_)
            refine lv_iconst (v := 0) hx hb dX12_best_98 (by decide) ?_
            refine lv_istore (lv' := [(11, .int 0), (9, .long 0), (8, .int v8), (6, .long v6), (5, .int v5), (0, .ref o), (1, .int p0), (2, .int p1), (3, .int p2), (4, .int p3)]) hx hb dX12_best_99 hl (by decide) rfl (fun ls hl => ?_)
            refine tl_ind (G := fun H locs ls => W p l e ((headSpec (tl_w yX12_best cX12_best 13 (some .long)) ({ frames := 4, cells := 0, slots := 0, locals := 105 })).room) s m #[.ref o, .int p0, .int p1, .int p2, .int p3] below meth c H locs 0 0 (MQ below (va_Ql (fun (r : Int64) (u : (Nat → va_E) × tk_G) => u.2 (39, 0, 0) 0 = Γ (39, 0, 0) 0) (tp_BG D cy L K Γ f [39, 58, 57, 60, 61, 62, 63, 59]) A) #[.ref o, .int p0, .int p1, .int p2, .int p3] s 0 0 A) (F0 m 101 ls [])) (α := (Nat → va_E) × Int32 × Int64) (fun aq => (300 - aq.2.1.toInt).toNat) (fun aq H locs ls => (0 ≤ aq.2.1.toInt) ∧ (aq.2.1.toInt ≤ 300) ∧ va_P D vwCl (va_pl L aq.1) H ∧ tp_I cy L K Γ_78 aq.1 ∧ (∀ b, (K b).1 ∉ ([39, 58, 57, 60, 61, 62, 63, 59] : List Nat) → aq.1 b = f b) ∧ va_S A s.heap H locs ∧ lv_has ls 13 [(11, .int aq.2.1), (9, .long aq.2.2), (8, .int v8), (6, .long v6), (5, .int v5), (0, .ref o), (1, .int p0), (2, .int p1), (3, .int p2), (4, .int p3)]) ?_ (f_76, (0 : Int32), (0 : Int64)) H locs ls ⟨(show 0 ≤ (0 : Int) from (by omega)), (show (0 : Int) ≤ 300 from (by omega)), hP, hI, hfr, hS, lv_sub hl [0, 1, 2, 3, 4, 5, 6, 7, 8, 9] rfl⟩
            rintro ⟨f_82, v11, v9⟩ H locs ls ⟨h0, h1, hP, hI, hfr, hS, hl⟩ ih101
            have hP : va_P D vwCl (va_pl L f_82) H := hP
            have hI : tp_I cy L K Γ_78 f_82 := hI
            have hfr : ∀ b, (K b).1 ∉ ([39, 58, 57, 60, 61, 62, 63, 59] : List Nat) → f_82 b = f b := hfr
            have hD : va_D A (va_pl L f_82) := tp_D hL hAL
            have h0 : 0 ≤ v11.toInt := h0
            have h1 : v11.toInt ≤ 300 := h1
            have hl : lv_has ls 13 [(11, .int v11), (9, .long v9), (8, .int v8), (6, .long v6), (5, .int v5), (0, .ref o), (1, .int p0), (2, .int p1), (3, .int p2), (4, .int p3)] := hl
            refine lv_iload hx hb dX12_best_101 (lv_at hl 0 rfl) ?_
            refine lv_sipush (v := 300) hx hb dX12_best_103 (by decide) ?_
            refine lv_icmp_ge (tgt := 149) hx hb dX12_best_106 (by decide) (fun c_83 => ?_) (fun c_83 => ?_)
            · have c_83 : (300 : Int) ≤ v11.toInt := tl_le c_83
              refine lv_lload hx hb dX12_best_149 (lv_at hl 1 rfl) ?_
              refine lv_ldc2 (v := 1000) hx hb hown (hta _ wk_326) dX12_best_151 ?_
              refine lv_ldiv hx hb dX12_best_154 (by decide) ?_
              refine lv_topl (fun z_84 ez_84 => ?_)
              refine lv_iload_n hx hb dX12_best_155 rfl (lv_at hl 8 rfl) ?_
              refine lv_i2l (v := p2.toInt64) hx hb dX12_best_156 (by first | rfl | decide) ?_
              refine lv_iload hx hb dX12_best_157 (lv_at hl 2 rfl) ?_
              refine lv_i2l (v := v8.toInt64) hx hb dX12_best_159 (by first | rfl | decide) ?_
              refine lv_lmul hx hb dX12_best_160 ?_
              refine lv_topl (fun z_85 ez_85 => ?_)
              refine lv_ladd hx hb dX12_best_161 ?_
              refine lv_topl (fun z_86 ez_86 => ?_)
              refine lv_lstore (lv' := [(11, .long z_86), (9, .long v9), (8, .int v8), (6, .long v6), (5, .int v5), (0, .ref o), (1, .int p0), (2, .int p1), (3, .int p2), (4, .int p3)]) hx hb dX12_best_162 hl (by decide) rfl (fun ls hl => ?_)
              refine lv_iload hx hb dX12_best_164 (lv_at hl 4 rfl) ?_
              refine lv_if_lt (tgt := 180) hx hb dX12_best_166 (by decide) (fun c_87 => ?_) (fun c_87 => ?_)
              · have c_87 : v5.toInt < (0 : Int) := tl_lt c_87
                refine lv_iload hx hb dX12_best_180 (lv_at hl 2 rfl) ?_
                refine lv_istore (lv' := [(5, .int v8), (11, .long z_86), (9, .long v9), (8, .int v8), (6, .long v6), (0, .ref o), (1, .int p0), (2, .int p1), (3, .int p2), (4, .int p3)]) hx hb dX12_best_182 hl (by decide) rfl (fun ls hl => ?_)
                refine lv_lload hx hb dX12_best_184 (lv_at hl 1 rfl) ?_
                refine lv_lstore (lv' := [(6, .long z_86), (5, .int v8), (11, .long z_86), (9, .long v9), (8, .int v8), (0, .ref o), (1, .int p0), (2, .int p1), (3, .int p2), (4, .int p3)]) hx hb dX12_best_186 hl (by decide) rfl (fun ls hl => ?_)
                obtain ⟨z_88, ez_88⟩ : ∃ y : Int32, y = v8 + 1 := ⟨_, rfl⟩
                refine lv_iinc (v := z_88) (lv' := [(8, .int z_88), (6, .long z_86), (5, .int v8), (11, .long z_86), (9, .long v9), (0, .ref o), (1, .int p0), (2, .int p1), (3, .int p2), (4, .int p3)]) hx hb dX12_best_188 hl (k := 4) rfl (by rw [ez_88]; rfl) (by decide) rfl (fun ls hl => ?_)
                try have iz_88 : z_88.toInt = v8.toInt + 1 := by rw [ez_88]; exact tl_addL v8 1 (by decide) (by omega) (by omega)
                refine lv_goto (tgt := 75) hx hb dX12_best_191 (by decide) ?_
                exact ih75 (f_82, Γ_78, z_88, z_86, v8) H locs ls (by show (41 - z_88.toInt).toNat < (41 - v8.toInt).toNat; omega) ⟨(show 0 ≤ z_88.toInt ∧ z_88.toInt ≤ 41 from (by omega)), (show ∀ j : Nat, j < 300 → ¬ Γ_78 (60, 300, 0) j = 0 → 0 < Γ_78 (39, 0, 0) 10 from (by rw [hcg_79 (60, 300, 0) (by decide), show Γ_78 (39, 0, 0) 10 = Γ_57 (39, 0, 0) 10 from by omega]; exact hus)), (show Γ_78 (39, 0, 0) 0 = Γ (39, 0, 0) 0 from (by omega)), hP, hI, hfr, hgr, hS, lv_sub hl [0, 1, 2, 5, 6, 7, 8, 9] rfl⟩
              · have c_87 : (0 : Int) ≤ v5.toInt := tl_nlt c_87
                refine lv_lload hx hb dX12_best_169 (lv_at hl 0 rfl) ?_
                refine lv_lload hx hb dX12_best_171 (lv_at hl 3 rfl) ?_
                refine W.lcmp hx hb dX12_best_173 ?_
                refine lv_if_lt (tgt := 180) hx hb dX12_best_174 (by decide) (fun c_89 => ?_) (fun c_89 => ?_)
                · have c_89 : z_86.toInt < v6.toInt := tl_cmp_lt c_89
                  refine lv_iload hx hb dX12_best_180 (lv_at hl 2 rfl) ?_
                  refine lv_istore (lv' := [(5, .int v8), (11, .long z_86), (9, .long v9), (8, .int v8), (6, .long v6), (0, .ref o), (1, .int p0), (2, .int p1), (3, .int p2), (4, .int p3)]) hx hb dX12_best_182 hl (by decide) rfl (fun ls hl => ?_)
                  refine lv_lload hx hb dX12_best_184 (lv_at hl 1 rfl) ?_
                  refine lv_lstore (lv' := [(6, .long z_86), (5, .int v8), (11, .long z_86), (9, .long v9), (8, .int v8), (0, .ref o), (1, .int p0), (2, .int p1), (3, .int p2), (4, .int p3)]) hx hb dX12_best_186 hl (by decide) rfl (fun ls hl => ?_)
                  obtain ⟨z_90, ez_90⟩ : ∃ y : Int32, y = v8 + 1 := ⟨_, rfl⟩
                  refine lv_iinc (v := z_90) (lv' := [(8, .int z_90), (6, .long z_86), (5, .int v8), (11, .long z_86), (9, .long v9), (0, .ref o), (1, .int p0), (2, .int p1), (3, .int p2), (4, .int p3)]) hx hb dX12_best_188 hl (k := 4) rfl (by rw [ez_90]; rfl) (by decide) rfl (fun ls hl => ?_)
                  try have iz_90 : z_90.toInt = v8.toInt + 1 := by rw [ez_90]; exact tl_addL v8 1 (by decide) (by omega) (by omega)
                  refine lv_goto (tgt := 75) hx hb dX12_best_191 (by decide) ?_
                  exact ih75 (f_82, Γ_78, z_90, z_86, v8) H locs ls (by show (41 - z_90.toInt).toNat < (41 - v8.toInt).toNat; omega) ⟨(show 0 ≤ z_90.toInt ∧ z_90.toInt ≤ 41 from (by omega)), (show ∀ j : Nat, j < 300 → ¬ Γ_78 (60, 300, 0) j = 0 → 0 < Γ_78 (39, 0, 0) 10 from (by rw [hcg_79 (60, 300, 0) (by decide), show Γ_78 (39, 0, 0) 10 = Γ_57 (39, 0, 0) 10 from by omega]; exact hus)), (show Γ_78 (39, 0, 0) 0 = Γ (39, 0, 0) 0 from (by omega)), hP, hI, hfr, hgr, hS, lv_sub hl [0, 1, 2, 5, 6, 7, 8, 9] rfl⟩
                · have c_89 : z_86.toInt ≥ v6.toInt := tl_cmp_nlt c_89
                  refine lv_goto (tgt := 188) hx hb dX12_best_177 (by decide) ?_
                  obtain ⟨z_91, ez_91⟩ : ∃ y : Int32, y = v8 + 1 := ⟨_, rfl⟩
                  refine lv_iinc (v := z_91) (lv' := [(8, .int z_91), (11, .long z_86), (9, .long v9), (6, .long v6), (5, .int v5), (0, .ref o), (1, .int p0), (2, .int p1), (3, .int p2), (4, .int p3)]) hx hb dX12_best_188 hl (k := 2) rfl (by rw [ez_91]; rfl) (by decide) rfl (fun ls hl => ?_)
                  try have iz_91 : z_91.toInt = v8.toInt + 1 := by rw [ez_91]; exact tl_addL v8 1 (by decide) (by omega) (by omega)
                  refine lv_goto (tgt := 75) hx hb dX12_best_191 (by decide) ?_
                  exact ih75 (f_82, Γ_78, z_91, v6, v5) H locs ls (by show (41 - z_91.toInt).toNat < (41 - v8.toInt).toNat; omega) ⟨(show 0 ≤ z_91.toInt ∧ z_91.toInt ≤ 41 from (by omega)), (show ∀ j : Nat, j < 300 → ¬ Γ_78 (60, 300, 0) j = 0 → 0 < Γ_78 (39, 0, 0) 10 from (by rw [hcg_79 (60, 300, 0) (by decide), show Γ_78 (39, 0, 0) 10 = Γ_57 (39, 0, 0) 10 from by omega]; exact hus)), (show Γ_78 (39, 0, 0) 0 = Γ (39, 0, 0) 0 from (by omega)), hP, hI, hfr, hgr, hS, lv_sub hl [0, 3, 4, 5, 6, 7, 8, 9] rfl⟩
            · have c_83 : v11.toInt < (300 : Int) := tl_nle c_83
              refine lv_lload hx hb dX12_best_109 (lv_at hl 1 rfl) ?_
              refine lv_aload_n hx hb dX12_best_111 rfl (lv_at hl 5 rfl) ?_
              obtain ⟨r_93, v_94, q_95, hf_92, hr_96, hv_97⟩ := (show tp_o_M L K 0 0 (Γ_78 (39, 0, 0)) (f_82 o) from hI.at ho)
              refine tp_get (cy := cy) (ci := 12) (v := .ref (r_93 20)) (C := RX12) (T := TX12) (N := 49) hx hb hta inlX12 hown hK hP ho.1 hf_92 rfl 31 (by decide) (hta _ wk_170) (fun _ h9 => h9) rfl dX12_best_112 ?_
              refine lv_iload hx hb dX12_best_115 (lv_at hl 0 rfl) ?_
              obtain ⟨g_106, hf_105, hg_107⟩ := (show tp_gz cy (300) (Γ_78 (60, 300, 0)) (f_82 (r_93 20)) from hI.at (show tp_r L K 60 300 0 (r_93 20) from hr_96 20 (by decide)))
              have hn_108 : vp_in v11 (300) := tl_in (by omega) (by omega)
              refine tp_zald (cy := cy) hx hb hK hP (show tp_r L K 60 300 0 (r_93 20) from hr_96 20 (by decide)).1 hf_105 hn_108 dX12_best_117 ?_
              refine lv_topi (fun z_109 ez_109 => ?_)
              have iz_109 : z_109.toInt = Γ_78 (60, 300, 0) v11.toInt.toNat := by rw [ez_109]; exact hg_107 _ (tp_pin hn_108)
              refine lv_if_eq (tgt := 139) hx hb dX12_best_118 (by decide) (fun c_110 => ?_) (fun c_110 => ?_)
              · have c_110 : z_109.toInt = (0 : Int) := tl_eq c_110
                refine lv_lconst (v := 0) hx hb dX12_best_139 (by decide) ?_
                refine lv_ladd hx hb dX12_best_140 ?_
                refine lv_topl (fun z_111 ez_111 => ?_)
                refine lv_lstore (lv' := [(9, .long z_111), (11, .int v11), (8, .int v8), (6, .long v6), (5, .int v5), (0, .ref o), (1, .int p0), (2, .int p1), (3, .int p2), (4, .int p3)]) hx hb dX12_best_141 hl (by decide) rfl (fun ls hl => ?_)
                obtain ⟨z_112, ez_112⟩ : ∃ y : Int32, y = v11 + 1 := ⟨_, rfl⟩
                refine lv_iinc (v := z_112) (lv' := [(11, .int z_112), (9, .long z_111), (8, .int v8), (6, .long v6), (5, .int v5), (0, .ref o), (1, .int p0), (2, .int p1), (3, .int p2), (4, .int p3)]) hx hb dX12_best_143 hl (k := 1) rfl (by rw [ez_112]; rfl) (by decide) rfl (fun ls hl => ?_)
                try have iz_112 : z_112.toInt = v11.toInt + 1 := by rw [ez_112]; exact tl_addL v11 1 (by decide) (by omega) (by omega)
                refine lv_goto (tgt := 101) hx hb dX12_best_146 (by decide) ?_
                exact ih101 (f_82, z_112, z_111) H locs ls (by show (300 - z_112.toInt).toNat < (300 - v11.toInt).toNat; omega) ⟨(show 0 ≤ z_112.toInt from (by omega)), (show z_112.toInt ≤ 300 from (by omega)), hP, hI, hfr, hS, lv_sub hl [0, 1, 2, 3, 4, 5, 6, 7, 8, 9] rfl⟩
              · have c_110 : ¬ z_109.toInt = (0 : Int) := tl_neq c_110
                refine lv_aload_n hx hb dX12_best_121 rfl (lv_at hl 5 rfl) ?_
                refine tp_get (cy := cy) (ci := 12) (v := .ref (r_93 23)) (C := RX12) (T := TX12) (N := 49) hx hb hta inlX12 hown hK hP ho.1 hf_92 rfl 38 (by decide) (hta _ wk_173) (fun _ h9 => h9) rfl dX12_best_122 ?_
                refine lv_iload hx hb dX12_best_125 (lv_at hl 0 rfl) ?_
                obtain ⟨g_114, hf_113⟩ := (show tp_aj cy (300) (f_82 (r_93 23)) from hI.at (show tp_r L K 63 300 0 (r_93 23) from hr_96 23 (by decide)))
                have hn_116 : vp_in v11 (300) := tl_in (by omega) (by omega)
                refine tp_lald (cy := cy) hx hb hK hP (show tp_r L K 63 300 0 (r_93 23) from hr_96 23 (by decide)).1 hf_113 hn_116 dX12_best_127 ?_
                refine lv_topl (fun z_117 ez_117 => ?_)
                refine lv_aload_n hx hb dX12_best_128 rfl (lv_at hl 5 rfl) ?_
                refine tp_get (cy := cy) (ci := 12) (v := .ref (r_93 23)) (C := RX12) (T := TX12) (N := 49) hx hb hta inlX12 hown hK hP ho.1 hf_92 rfl 38 (by decide) (hta _ wk_173) (fun _ h9 => h9) rfl dX12_best_129 ?_
                refine lv_iload hx hb dX12_best_132 (lv_at hl 0 rfl) ?_
                have hn_118 : vp_in v11 (300) := tl_in (by omega) (by omega)
                refine tp_lald (cy := cy) hx hb hK hP (show tp_r L K 63 300 0 (r_93 23) from hr_96 23 (by decide)).1 hf_113 hn_118 dX12_best_134 ?_
                refine lv_topl (fun z_119 ez_119 => ?_)
                obtain rfl : z_117 = z_119 := ez_117.trans ez_119.symm
                refine lv_lmul hx hb dX12_best_135 ?_
                refine lv_topl (fun z_120 ez_120 => ?_)
                refine lv_goto (tgt := 140) hx hb dX12_best_136 (by decide) ?_
                refine lv_ladd hx hb dX12_best_140 ?_
                refine lv_topl (fun z_121 ez_121 => ?_)
                refine lv_lstore (lv' := [(9, .long z_121), (11, .int v11), (8, .int v8), (6, .long v6), (5, .int v5), (0, .ref o), (1, .int p0), (2, .int p1), (3, .int p2), (4, .int p3)]) hx hb dX12_best_141 hl (by decide) rfl (fun ls hl => ?_)
                obtain ⟨z_122, ez_122⟩ : ∃ y : Int32, y = v11 + 1 := ⟨_, rfl⟩
                refine lv_iinc (v := z_122) (lv' := [(11, .int z_122), (9, .long z_121), (8, .int v8), (6, .long v6), (5, .int v5), (0, .ref o), (1, .int p0), (2, .int p1), (3, .int p2), (4, .int p3)]) hx hb dX12_best_143 hl (k := 1) rfl (by rw [ez_122]; rfl) (by decide) rfl (fun ls hl => ?_)
                try have iz_122 : z_122.toInt = v11.toInt + 1 := by rw [ez_122]; exact tl_addL v11 1 (by decide) (by omega) (by omega)
                refine lv_goto (tgt := 101) hx hb dX12_best_146 (by decide) ?_
                exact ih101 (f_82, z_122, z_121) H locs ls (by show (300 - z_122.toInt).toNat < (300 - v11.toInt).toNat; omega) ⟨(show 0 ≤ z_122.toInt from (by omega)), (show z_122.toInt ≤ 300 from (by omega)), hP, hI, hfr, hS, lv_sub hl [0, 1, 2, 3, 4, 5, 6, 7, 8, 9] rfl⟩
          · have c_81 := hE_80.f c_81
            refine lv_goto (tgt := 188) hx hb dX12_best_92 (by decide) ?_
            obtain ⟨z_123, ez_123⟩ : ∃ y : Int32, y = v8 + 1 := ⟨_, rfl⟩
            refine lv_iinc (v := z_123) (lv' := [(8, .int z_123), (6, .long v6), (5, .int v5), (0, .ref o), (1, .int p0), (2, .int p1), (3, .int p2), (4, .int p3)]) hx hb dX12_best_188 hl (k := 0) rfl (by rw [ez_123]; rfl) (by decide) rfl (fun ls hl => ?_)
            try have iz_123 : z_123.toInt = v8.toInt + 1 := by rw [ez_123]; exact tl_addL v8 1 (by decide) (by omega) (by omega)
            refine lv_goto (tgt := 75) hx hb dX12_best_191 (by decide) ?_
            exact ih75 (f_76, Γ_78, z_123, v6, v5) H locs ls (by show (41 - z_123.toInt).toNat < (41 - v8.toInt).toNat; omega) ⟨(show 0 ≤ z_123.toInt ∧ z_123.toInt ≤ 41 from (by omega)), (show ∀ j : Nat, j < 300 → ¬ Γ_78 (60, 300, 0) j = 0 → 0 < Γ_78 (39, 0, 0) 10 from (by rw [hcg_79 (60, 300, 0) (by decide), show Γ_78 (39, 0, 0) 10 = Γ_57 (39, 0, 0) 10 from by omega]; exact hus)), (show Γ_78 (39, 0, 0) 0 = Γ (39, 0, 0) 0 from (by omega)), hP, hI, hfr, hgr, hS, lv_sub hl [0, 1, 2, 3, 4, 5, 6, 7] rfl⟩
      · have c_22 := hw_20.f c_22
        refine lv_ldc2 (v := (-1)) hx hb hown (hta _ wk_991) dX12_best_32 ?_
        have hpo9 : Γ (39, 0, 0) 0 = Γ (39, 0, 0) 0 := (by omega)
        exact W.lret (v := (-1)) hx hb hr (fun t ht hW => ⟨⟨_, (f, Γ), rfl, hpo9, by rw [ht]; exact hP, hI, hfr, hgr⟩, hS.F ht⟩) hS.2.2 dX12_best_35
set_option maxHeartbeats 4000000 in
set_option maxRecDepth 100000 in
theorem r_X12_apart (l : Launch) (D : va_G) (cy : Nat → ClassId) (sz : Nat) (L : List Nat) (K : Nat → tk_K) (Γ : tk_G) (f : Nat → va_E) (o : Nat) (p0 : Int32) (p1 : Int32) (p2 : Int32) (ho : tp_r L K 39 (0) 0 o) (htx : tx_ok (Γ (43, 8800, 0)) (Γ (45, 1056, 0)) (Γ (46, 22, 0)) (Γ (47, 6, 0)) (Γ (48, 22, 0)) (Γ (49, 22, 0)) (Γ (50, 22, 0)) (Γ (51, 22, 0)) (Γ (42, 3, 0))) (hsd : ts_said (Γ (40, 7666, 0)) (Γ (42, 3, 0) 1)) : Met l yX12_apart (tl_w yX12_apart cX12_apart 6 (some .int)) ({ frames := 7, cells := 0, slots := 0, locals := 177 }) (va_Pc [.ref o, .int p0, .int p1, .int p2] (tp_P D cy L K Γ f sz)) (va_Qi (fun (r : Int32) (u : (Nat → va_E) × tk_G) => u.2 (39, 0, 0) 0 = Γ (39, 0, 0) 0) (tp_BG D cy L K Γ f [39, 58, 57, 60, 61, 62, 63, 59]) (tp_A L sz)) 0 0 (tp_A L sz) := by
  refine Met.ofW (cc := cX12_apart) (maxL := 6) (ret := (some .int)) (by decide) rfl ?_
  intro p e s m args below meth c s₁ B hml hv
  obtain ⟨rfl, hsz, hP, hK, hL, hI, hN, hU⟩ := hv
  have hx := B.exec
  have hb := B.bytes
  have hr := B.returns
  have hta := tl_hta (atoms_spec (ws := tl_w yX12_apart cX12_apart 6 (some .int)) B.pre)
  have hown : s.vm.findClass RX12 = some m.cls := findClass_of_methodNamed B.named
  have hlocks := B.notSynchronized
  subst hsz
  have hI0 := hI
  generalize hAe : tp_A L s.heap.size = A
  have hA : ∀ q : Nat, s.heap.size ≤ q → A q := fun q h => by rw [← hAe]; exact Or.inr h
  have hAL : ∀ q ∈ L, A q := fun q h => by rw [← hAe]; exact Or.inl h
  have hAf : ∀ (H : Heap), s.heap.size ≤ H.size → ∀ q, tp_A L H.size q → A q := fun H h q hq => hq.elim (hAL q) (fun h2 => hA q (Nat.le_trans h h2))
  have hS : va_S A s.heap s.heap [] := va_S.rf
  have hD : va_D A (va_pl L f) := tp_D hL hAL
  have hfr : ∀ b, (K b).1 ∉ ([39, 58, 57, 60, 61, 62, 63, 59] : List Nat) → f b = f b := fun _ _ => rfl
  have hgr : ∀ κ : tk_K, κ.1 ∉ ([39, 58, 57, 60, 61, 62, 63, 59] : List Nat) → Γ κ = Γ κ := fun _ _ => rfl
  have hl := lv_entry ([.ref o, .int p0, .int p1, .int p2]) (n := 6) (Nat.le_of_ble_eq_true rfl)
  rw [lg_entry_eq]
  generalize (lg_sl ([.ref o, .int p0, .int p1, .int p2]) ++ List.replicate (6 - (lg_sl ([.ref o, .int p0, .int p1, .int p2])).length) Slot.unset).toArray = ls at hl ⊢
  have hl : lv_has ls 6 [(0, .ref o), (1, .int p0), (2, .int p1), (3, .int p2)] := hl
  have hs := ts_hs hsd
  have hraw := ts_raw hsd
  have hslp := ts_slp hsd
  have htb := htx.1
  refine lv_aload_n hx hb dX12_apart_0 rfl (lv_at hl 0 rfl) ?_
  refine lv_iconst (v := 1) hx hb dX12_apart_1 (by decide) ?_
  refine lv_iload_n hx hb dX12_apart_2 rfl (lv_at hl 1 rfl) ?_
  obtain ⟨r_2, v_3, q_4, hf_1, hr_5, hv_6⟩ := (show tp_o_M L K 0 0 (Γ (39, 0, 0)) (f o) from hI.at ho)
  refine tl_si (tq_rV (As := [.int 1, .int p0]) (rest := []) ⟨hx, hb, hml, hown, hta⟩ (tp_P.pre hK hN hL hU hI hP) (tp_recv hK hP ho.1 hf_1 rfl) lk_X12_382 (r_isText_1 l D cy s.heap.size L K Γ f o p0 ho) rfl rfl ⟨Nat.le_of_ble_eq_true rfl, Nat.le_of_ble_eq_true rfl⟩ rfl hl.1 rfl (Nat.le_of_ble_eq_true rfl) dX12_apart_3 ⟨Nat.le_of_ble_eq_true rfl, Nat.le_of_ble_eq_true rfl⟩) (fun r_15 hw_14 => ?_)
  have hw_14 : tl_E r_15 (0 ≤ p0.toInt ∧ p0.toInt < Γ (42, 3, 0) 1) 1 0 := hw_14
  refine lv_if_eq (tgt := 37) hx hb dX12_apart_6 (by decide) (fun c_16 => ?_) (fun c_16 => ?_)
  · have c_16 := hw_14.f c_16
    refine lv_iconst (v := (-1)) hx hb dX12_apart_37 (by decide) ?_
    have hpo9 : Γ (39, 0, 0) 0 = Γ (39, 0, 0) 0 := (by omega)
    exact W.iret (v := (-1)) hx hb hr (fun t ht hW => ⟨⟨_, (f, Γ), rfl, hpo9, by rw [ht]; exact hP, hI, hfr, hgr⟩, hS.F ht⟩) hS.2.2 dX12_apart_38
  · have c_16 := hw_14.t c_16
    refine lv_aload_n hx hb dX12_apart_9 rfl (lv_at hl 0 rfl) ?_
    refine lv_iconst (v := 1) hx hb dX12_apart_10 (by decide) ?_
    refine lv_iload_n hx hb dX12_apart_11 rfl (lv_at hl 2 rfl) ?_
    refine tl_si (tq_rV (As := [.int 1, .int p1]) (rest := []) ⟨hx, hb, hml, hown, hta⟩ (tp_P.pre hK hN hL hU hI hP) (tp_recv hK hP ho.1 hf_1 rfl) lk_X12_382 (r_isText_1 l D cy s.heap.size L K Γ f o p1 ho) rfl rfl ⟨Nat.le_of_ble_eq_true rfl, Nat.le_of_ble_eq_true rfl⟩ rfl hl.1 rfl (Nat.le_of_ble_eq_true rfl) dX12_apart_12 ⟨Nat.le_of_ble_eq_true rfl, Nat.le_of_ble_eq_true rfl⟩) (fun r_18 hw_17 => ?_)
    have hw_17 : tl_E r_18 (0 ≤ p1.toInt ∧ p1.toInt < Γ (42, 3, 0) 1) 1 0 := hw_17
    refine lv_if_eq (tgt := 37) hx hb dX12_apart_15 (by decide) (fun c_19 => ?_) (fun c_19 => ?_)
    · have c_19 := hw_17.f c_19
      refine lv_iconst (v := (-1)) hx hb dX12_apart_37 (by decide) ?_
      have hpo9 : Γ (39, 0, 0) 0 = Γ (39, 0, 0) 0 := (by omega)
      exact W.iret (v := (-1)) hx hb hr (fun t ht hW => ⟨⟨_, (f, Γ), rfl, hpo9, by rw [ht]; exact hP, hI, hfr, hgr⟩, hS.F ht⟩) hS.2.2 dX12_apart_38
    · have c_19 := hw_17.t c_19
      refine lv_iload_n hx hb dX12_apart_18 rfl (lv_at hl 1 rfl) ?_
      refine lv_iload_n hx hb dX12_apart_19 rfl (lv_at hl 2 rfl) ?_
      refine lv_icmp_eq (tgt := 37) hx hb dX12_apart_20 (by decide) (fun c_20 => ?_) (fun c_20 => ?_)
      · have c_20 : p0.toInt = p1.toInt := tl_eq c_20
        refine lv_iconst (v := (-1)) hx hb dX12_apart_37 (by decide) ?_
        have hpo9 : Γ (39, 0, 0) 0 = Γ (39, 0, 0) 0 := (by omega)
        exact W.iret (v := (-1)) hx hb hr (fun t ht hW => ⟨⟨_, (f, Γ), rfl, hpo9, by rw [ht]; exact hP, hI, hfr, hgr⟩, hS.F ht⟩) hS.2.2 dX12_apart_38
      · have c_20 : ¬ p0.toInt = p1.toInt := tl_neq c_20
        refine lv_iload_n hx hb dX12_apart_23 rfl (lv_at hl 3 rfl) ?_
        refine lv_i2l (v := p2.toInt64) hx hb dX12_apart_24 (by first | rfl | decide) ?_
        refine lv_ldc2 (v := (-999999)) hx hb hown (hta _ wk_1091) dX12_apart_25 ?_
        refine lv_ldc2 (v := 999999) hx hb hown (hta _ wk_1092) dX12_apart_28 ?_
        refine tl_si (tq_rS (As := [.long p2.toInt64, .long (-999999), .long 999999]) (rest := []) ⟨hx, hb, hml, hown, hta⟩ (tp_P.pre hK hN hL hU hI hP) lk_X12_112 (r_X12_in l D cy s.heap.size L K Γ f p2.toInt64 (-999999) 999999 ) rfl rfl ⟨Nat.le_of_ble_eq_true rfl, Nat.le_of_ble_eq_true rfl⟩ rfl hl.1 rfl (Nat.le_of_ble_eq_true rfl) dX12_apart_31 ⟨Nat.le_of_ble_eq_true rfl, Nat.le_of_ble_eq_true rfl⟩) (fun r_22 hw_21 => ?_)
        simp only [Int32.toInt_toInt64] at hw_21
        have hw_21 : tl_E r_22 ((-999999 : Int) ≤ p2.toInt ∧ p2.toInt ≤ (999999 : Int)) 1 0 := hw_21
        refine lv_if_ne (tgt := 39) hx hb dX12_apart_34 (by decide) (fun c_23 => ?_) (fun c_23 => ?_)
        · have c_23 := hw_21.t c_23
          refine lv_iconst (v := 0) hx hb dX12_apart_39 (by decide) ?_
          refine lv_istore (lv' := [(4, .int 0), (0, .ref o), (1, .int p0), (2, .int p1), (3, .int p2)]) hx hb dX12_apart_40 hl (by decide) rfl (fun ls hl => ?_)
          refine lv_iconst (v := 0) hx hb dX12_apart_42 (by decide) ?_
          refine lv_istore (lv' := [(5, .int 0), (4, .int 0), (0, .ref o), (1, .int p0), (2, .int p1), (3, .int p2)]) hx hb dX12_apart_43 hl (by decide) rfl (fun ls hl => ?_)
          refine tq_start hP hS (fun H locs hP hS => ?_)
          refine tl_ind (G := fun H locs ls => W p l e ((headSpec (tl_w yX12_apart cX12_apart 6 (some .int)) ({ frames := 7, cells := 0, slots := 0, locals := 177 })).room) s m #[.ref o, .int p0, .int p1, .int p2] below meth c H locs 0 0 (MQ below (va_Qi (fun (r : Int32) (u : (Nat → va_E) × tk_G) => u.2 (39, 0, 0) 0 = Γ (39, 0, 0) 0) (tp_BG D cy L K Γ f [39, 58, 57, 60, 61, 62, 63, 59]) A) #[.ref o, .int p0, .int p1, .int p2] s 0 0 A) (F0 m 45 ls [])) (α := (Nat → va_E) × tk_G × Int32 × Int32) (fun aq => (24 - aq.2.2.1.toInt).toNat) (fun aq H locs ls => (0 ≤ aq.2.2.1.toInt) ∧ (aq.2.1 (39, 0, 0) 0 = Γ (39, 0, 0) 0) ∧ va_P D vwCl (va_pl L aq.1) H ∧ tp_I cy L K aq.2.1 aq.1 ∧ (∀ b, (K b).1 ∉ ([39, 58, 57, 60, 61, 62, 63, 59] : List Nat) → aq.1 b = f b) ∧ (∀ κ : tk_K, κ.1 ∉ ([39, 58, 57, 60, 61, 62, 63, 59] : List Nat) → aq.2.1 κ = Γ κ) ∧ va_S A s.heap H locs ∧ lv_has ls 6 [(5, .int aq.2.2.1), (4, .int aq.2.2.2), (0, .ref o), (1, .int p0), (2, .int p1), (3, .int p2)]) ?_ (f, Γ, (0 : Int32), (0 : Int32)) H locs ls ⟨(show 0 ≤ (0 : Int) from (by omega)), (show Γ (39, 0, 0) 0 = Γ (39, 0, 0) 0 from (by omega)), hP, hI, hfr, hgr, hS, lv_sub hl [0, 1, 2, 3, 4, 5] rfl⟩
          rintro ⟨f_24, Γ_25, v5, v4⟩ H locs ls ⟨hr5, q0, hP, hI, hfr, hgr, hS, hl⟩ ih45
          have hgr : ∀ κ : tk_K, κ.1 ∉ ([39, 58, 57, 60, 61, 62, 63, 59] : List Nat) → Γ_25 κ = Γ κ := hgr
          have hP : va_P D vwCl (va_pl L f_24) H := hP
          have hI : tp_I cy L K Γ_25 f_24 := hI
          have hfr : ∀ b, (K b).1 ∉ ([39, 58, 57, 60, 61, 62, 63, 59] : List Nat) → f_24 b = f b := hfr
          have hD : va_D A (va_pl L f_24) := tp_D hL hAL
          have hr5 : 0 ≤ v5.toInt := hr5
          have q0 : Γ_25 (39, 0, 0) 0 = Γ (39, 0, 0) 0 := q0
          have hl : lv_has ls 6 [(5, .int v5), (4, .int v4), (0, .ref o), (1, .int p0), (2, .int p1), (3, .int p2)] := hl
          refine lv_iload hx hb dX12_apart_45 (lv_at hl 0 rfl) ?_
          refine lv_aload_n hx hb dX12_apart_47 rfl (lv_at hl 2 rfl) ?_
          obtain ⟨r_27, v_28, q_29, hf_26, hr_30, hv_31⟩ := (show tp_o_M L K 0 0 (Γ_25 (39, 0, 0)) (f_24 o) from hI.at ho)
          refine tp_get (cy := cy) (ci := 12) (v := .ref (r_27 0)) (C := RX12) (T := TX12) (N := 49) hx hb hta inlX12 hown hK hP ho.1 hf_26 rfl 0 (by decide) (hta _ wk_149) (fun _ h9 => h9) rfl dX12_apart_48 ?_
          refine lv_iconst (v := 1) hx hb dX12_apart_51 (by decide) ?_
          obtain ⟨g_40, hf_39, hg_41⟩ := (show tp_gi cy (7666) (Γ (40, 7666, 0)) (f (r_27 0)) from hI0.at (show tp_r L K 40 7666 0 (r_27 0) from hr_30 0 (by decide)))
          have hn_42 : vp_in 1 (7666) := tl_in (by decide) (by decide)
          refine tp_iald (cy := cy) hx hb hK hP (show tp_r L K 40 7666 0 (r_27 0) from hr_30 0 (by decide)).1 ((tp_un hfr (show tp_r L K 40 7666 0 (r_27 0) from hr_30 0 (by decide)) (by decide)).trans hf_39) hn_42 dX12_apart_52 ?_
          refine lv_topi (fun z_43 ez_43 => ?_)
          have iz_43 : z_43.toInt = Γ (40, 7666, 0) 1 := by rw [ez_43]; exact hg_41 _ (tp_pin hn_42)
          refine lv_icmp_ge (tgt := 111) hx hb dX12_apart_53 (by decide) (fun c_44 => ?_) (fun c_44 => ?_)
          · have c_44 : z_43.toInt ≤ v5.toInt := tl_le c_44
            refine lv_iload hx hb dX12_apart_111 (lv_at hl 1 rfl) ?_
            have hpo9 : Γ_25 (39, 0, 0) 0 = Γ (39, 0, 0) 0 := (by omega)
            exact W.iret (v := v4) hx hb hr (fun t ht hW => ⟨⟨_, (f_24, Γ_25), rfl, hpo9, by rw [ht]; exact hP, hI, hfr, hgr⟩, hS.F ht⟩) hS.2.2 dX12_apart_113
          · have c_44 : v5.toInt < z_43.toInt := tl_nle c_44
            refine lv_iload hx hb dX12_apart_56 (lv_at hl 1 rfl) ?_
            refine lv_aload_n hx hb dX12_apart_58 rfl (lv_at hl 2 rfl) ?_
            refine lv_iload_n hx hb dX12_apart_59 rfl (lv_at hl 3 rfl) ?_
            refine lv_iload hx hb dX12_apart_60 (lv_at hl 0 rfl) ?_
            refine tq_clR hS (hAf _ hS.1) (tq_rV (As := [.int p0, .int v5]) (rest := [.int v4]) ⟨hx, hb, hml, hown, hta⟩ (tp_P.pre hK hN hL hU hI hP) (tp_recv hK hP ho.1 hf_26 rfl) lk_X12_450 (r_X12_scoreOf l D cy H.size L K Γ_25 f_24 o p0 v5 ho (by first | omega | assumption | (rw [hgr (42, 3, 0) (by decide), hgr (43, 8800, 0) (by decide), hgr (45, 1056, 0) (by decide), hgr (46, 22, 0) (by decide), hgr (47, 6, 0) (by decide), hgr (48, 22, 0) (by decide), hgr (49, 22, 0) (by decide), hgr (50, 22, 0) (by decide), hgr (51, 22, 0) (by decide)]; first | exact htx | assumption | omega)) (by first | omega | assumption | (rw [hgr (40, 7666, 0) (by decide), hgr (42, 3, 0) (by decide)]; first | exact hsd | assumption | omega)) (by first | omega | assumption | (rw [hgr (42, 3, 0) (by decide)]; first | assumption | omega)) (by first | omega | (simp only [Int32.toInt_toInt64]; omega) | decide | assumption)) rfl rfl ⟨Nat.le_of_ble_eq_true rfl, Nat.le_of_ble_eq_true rfl⟩ rfl hl.1 rfl (Nat.le_of_ble_eq_true rfl) dX12_apart_62 ⟨Nat.le_of_ble_eq_true rfl, Nat.le_of_ble_eq_true rfl⟩) (fun r_46 f_47 Γ_49 H locs hw_45 hP hI hc_48 hcg_50 hS => ?_)
            have hD : va_D A (va_pl L f_47) := tp_D hL hAL
            have hfr := tp_fr2 hfr hc_48 (by decide)
            have hgr : ∀ κ : tk_K, κ.1 ∉ ([39, 58, 57, 60, 61, 62, 63, 59] : List Nat) → Γ_49 κ = Γ κ := tg_fr2 hgr hcg_50 (by decide)
            have hw_45 : Γ_49 (39, 0, 0) 0 = Γ_25 (39, 0, 0) 0 ∧ (0 ≤ Γ_49 (39, 0, 0) 11 ∧ Γ_49 (39, 0, 0) 12 ≤ 299) ∧ (Γ_49 (39, 0, 0) 11 = Γ_25 (49, 22, 0) (6 + p0.toInt).toNat ∧ Γ_49 (39, 0, 0) 12 = Γ_25 (50, 22, 0) (6 + p0.toInt).toNat) ∧ (Γ_49 (39, 0, 0) 15 = 0 ∨ Γ_49 (39, 0, 0) 15 = 1) ∧ (0 ≤ Γ_49 (39, 0, 0) 13 ∧ Γ_49 (39, 0, 0) 13 ≤ 42) ∧ (0 < Γ_49 (39, 0, 0) 13 → 0 < Γ_49 (39, 0, 0) 10) ∧ (Γ_49 (39, 0, 0) 15 = 1 → 0 < Γ_49 (39, 0, 0) 13 ∧ 0 < Γ_49 (39, 0, 0) 14) ∧ (Γ_49 (39, 0, 0) 15 = 1 → gex (Γ_49 (59, 300, 0)) (Γ_25 (49, 22, 0) (6 + p0.toInt).toNat) (Γ_25 (50, 22, 0) (6 + p0.toInt).toNat + 1)) ∧ (∀ j : Nat, (j : Int) < Γ_49 (39, 0, 0) 13 → 0 ≤ Γ_49 (61, 42, 0) j ∧ Γ_49 (61, 42, 0) j ≤ 299) ∧ (∀ j : Nat, (j : Int) + 1 < Γ_49 (39, 0, 0) 13 → Γ_49 (61, 42, 0) j < Γ_49 (61, 42, 0) (j + 1)) ∧ (∀ j : Nat, j < 300 → (Γ_49 (59, 300, 0) j = -1000000 ∨ (-500000 ≤ Γ_49 (59, 300, 0) j ∧ Γ_49 (59, 300, 0) j ≤ 500000))) := hw_45
            obtain ⟨hq0, hqb, hq11, hq15, hq13, hq10, hqd, hqg, hqk, hqr, hql⟩ := hw_45
            refine lv_iload_n hx hb dX12_apart_65 rfl (lv_at hl 5 rfl) ?_
            refine lv_i2l (v := p2.toInt64) hx hb dX12_apart_66 (by first | rfl | decide) ?_
            refine W.lcmp hx hb dX12_apart_67 ?_
            refine lv_if_lt (tgt := 75) hx hb dX12_apart_68 (by decide) (fun c_51 => ?_) (fun c_51 => ?_)
            · have c_51 : r_46.toInt < p2.toInt := by have h9 := tl_cmp_lt c_51; simp only [Int32.toInt_toInt64] at h9; exact h9
              refine lv_iconst (v := 0) hx hb dX12_apart_75 (by decide) ?_
              refine lv_aload_n hx hb dX12_apart_76 rfl (lv_at hl 2 rfl) ?_
              refine lv_iload_n hx hb dX12_apart_77 rfl (lv_at hl 4 rfl) ?_
              refine lv_iload hx hb dX12_apart_78 (lv_at hl 0 rfl) ?_
              obtain ⟨r_53, v_54, q_55, hf_52, hr_56, hv_57⟩ := (show tp_o_M L K 0 0 (Γ_49 (39, 0, 0)) (f_47 o) from hI.at ho)
              refine tq_clR hS (hAf _ hS.1) (tq_rV (As := [.int p1, .int v5]) (rest := [.int 0, .int v4]) ⟨hx, hb, hml, hown, hta⟩ (tp_P.pre hK hN hL hU hI hP) (tp_recv hK hP ho.1 hf_52 rfl) lk_X12_450 (r_X12_scoreOf l D cy H.size L K Γ_49 f_47 o p1 v5 ho (by first | omega | assumption | (rw [hgr (42, 3, 0) (by decide), hgr (43, 8800, 0) (by decide), hgr (45, 1056, 0) (by decide), hgr (46, 22, 0) (by decide), hgr (47, 6, 0) (by decide), hgr (48, 22, 0) (by decide), hgr (49, 22, 0) (by decide), hgr (50, 22, 0) (by decide), hgr (51, 22, 0) (by decide)]; first | exact htx | assumption | omega)) (by first | omega | assumption | (rw [hgr (40, 7666, 0) (by decide), hgr (42, 3, 0) (by decide)]; first | exact hsd | assumption | omega)) (by first | omega | assumption | (rw [hgr (42, 3, 0) (by decide)]; first | assumption | omega)) (by first | omega | (simp only [Int32.toInt_toInt64]; omega) | decide | assumption)) rfl rfl ⟨Nat.le_of_ble_eq_true rfl, Nat.le_of_ble_eq_true rfl⟩ rfl hl.1 rfl (Nat.le_of_ble_eq_true rfl) dX12_apart_80 ⟨Nat.le_of_ble_eq_true rfl, Nat.le_of_ble_eq_true rfl⟩) (fun r_66 f_67 Γ_69 H locs hw_65 hP hI hc_68 hcg_70 hS => ?_)
              have hD : va_D A (va_pl L f_67) := tp_D hL hAL
              have hfr := tp_fr2 hfr hc_68 (by decide)
              have hgr : ∀ κ : tk_K, κ.1 ∉ ([39, 58, 57, 60, 61, 62, 63, 59] : List Nat) → Γ_69 κ = Γ κ := tg_fr2 hgr hcg_70 (by decide)
              have hw_65 : Γ_69 (39, 0, 0) 0 = Γ_49 (39, 0, 0) 0 ∧ (0 ≤ Γ_69 (39, 0, 0) 11 ∧ Γ_69 (39, 0, 0) 12 ≤ 299) ∧ (Γ_69 (39, 0, 0) 11 = Γ_49 (49, 22, 0) (6 + p1.toInt).toNat ∧ Γ_69 (39, 0, 0) 12 = Γ_49 (50, 22, 0) (6 + p1.toInt).toNat) ∧ (Γ_69 (39, 0, 0) 15 = 0 ∨ Γ_69 (39, 0, 0) 15 = 1) ∧ (0 ≤ Γ_69 (39, 0, 0) 13 ∧ Γ_69 (39, 0, 0) 13 ≤ 42) ∧ (0 < Γ_69 (39, 0, 0) 13 → 0 < Γ_69 (39, 0, 0) 10) ∧ (Γ_69 (39, 0, 0) 15 = 1 → 0 < Γ_69 (39, 0, 0) 13 ∧ 0 < Γ_69 (39, 0, 0) 14) ∧ (Γ_69 (39, 0, 0) 15 = 1 → gex (Γ_69 (59, 300, 0)) (Γ_49 (49, 22, 0) (6 + p1.toInt).toNat) (Γ_49 (50, 22, 0) (6 + p1.toInt).toNat + 1)) ∧ (∀ j : Nat, (j : Int) < Γ_69 (39, 0, 0) 13 → 0 ≤ Γ_69 (61, 42, 0) j ∧ Γ_69 (61, 42, 0) j ≤ 299) ∧ (∀ j : Nat, (j : Int) + 1 < Γ_69 (39, 0, 0) 13 → Γ_69 (61, 42, 0) j < Γ_69 (61, 42, 0) (j + 1)) ∧ (∀ j : Nat, j < 300 → (Γ_69 (59, 300, 0) j = -1000000 ∨ (-500000 ≤ Γ_69 (59, 300, 0) j ∧ Γ_69 (59, 300, 0) j ≤ 500000))) := hw_65
              obtain ⟨hq0, hqb, hq11, hq15, hq13, hq10, hqd, hqg, hqk, hqr, hql⟩ := hw_65
              refine lv_iload_n hx hb dX12_apart_83 rfl (lv_at hl 5 rfl) ?_
              refine lv_i2l (v := p2.toInt64) hx hb dX12_apart_84 (by first | rfl | decide) ?_
              refine W.lcmp hx hb dX12_apart_85 ?_
              refine lv_if_lt (tgt := 93) hx hb dX12_apart_86 (by decide) (fun c_71 => ?_) (fun c_71 => ?_)
              · have c_71 : r_66.toInt < p2.toInt := by have h9 := tl_cmp_lt c_71; simp only [Int32.toInt_toInt64] at h9; exact h9
                refine lv_iconst (v := 0) hx hb dX12_apart_93 (by decide) ?_
                refine lv_icmp_eq (tgt := 101) hx hb dX12_apart_94 (by decide) (fun _ => ?_) (fun c => absurd c (by decide))
                refine lv_iconst (v := 0) hx hb dX12_apart_101 (by decide) ?_
                refine lv_iadd hx hb dX12_apart_102 ?_
                refine lv_topi (fun z_72 ez_72 => ?_)
                try have iz_72 : z_72.toInt = v4.toInt + (0 : Int) := by rw [ez_72]; exact tl_addN v4 0 rfl rfl (by omega) (by omega)
                refine lv_istore (lv' := [(4, .int z_72), (5, .int v5), (0, .ref o), (1, .int p0), (2, .int p1), (3, .int p2)]) hx hb dX12_apart_103 hl (by decide) rfl (fun ls hl => ?_)
                obtain ⟨z_73, ez_73⟩ : ∃ y : Int32, y = v5 + 1 := ⟨_, rfl⟩
                refine lv_iinc (v := z_73) (lv' := [(5, .int z_73), (4, .int z_72), (0, .ref o), (1, .int p0), (2, .int p1), (3, .int p2)]) hx hb dX12_apart_105 hl (k := 1) rfl (by rw [ez_73]; rfl) (by decide) rfl (fun ls hl => ?_)
                try have iz_73 : z_73.toInt = v5.toInt + 1 := by rw [ez_73]; exact tl_addL v5 1 (by decide) (by omega) (by omega)
                refine lv_goto (tgt := 45) hx hb dX12_apart_108 (by decide) ?_
                exact ih45 (f_67, Γ_69, z_73, z_72) H locs ls (by show (24 - z_73.toInt).toNat < (24 - v5.toInt).toNat; omega) ⟨(show 0 ≤ z_73.toInt from (by omega)), (show Γ_69 (39, 0, 0) 0 = Γ (39, 0, 0) 0 from (by omega)), hP, hI, hfr, hgr, hS, lv_sub hl [0, 1, 2, 3, 4, 5] rfl⟩
              · have c_71 : r_66.toInt ≥ p2.toInt := by have h9 := tl_cmp_nlt c_71; simp only [Int32.toInt_toInt64] at h9; exact h9
                refine lv_iconst (v := 1) hx hb dX12_apart_89 (by decide) ?_
                refine lv_goto (tgt := 94) hx hb dX12_apart_90 (by decide) ?_
                refine lv_icmp_eq (tgt := 101) hx hb dX12_apart_94 (by decide) (fun c => absurd c (by decide)) (fun _ => ?_)
                refine lv_iconst (v := 1) hx hb dX12_apart_97 (by decide) ?_
                refine lv_goto (tgt := 102) hx hb dX12_apart_98 (by decide) ?_
                refine lv_iadd hx hb dX12_apart_102 ?_
                refine lv_topi (fun z_74 ez_74 => ?_)
                try have iz_74 : z_74.toInt = v4.toInt + (1 : Int) := by rw [ez_74]; exact tl_addN v4 1 rfl rfl (by omega) (by omega)
                refine lv_istore (lv' := [(4, .int z_74), (5, .int v5), (0, .ref o), (1, .int p0), (2, .int p1), (3, .int p2)]) hx hb dX12_apart_103 hl (by decide) rfl (fun ls hl => ?_)
                obtain ⟨z_75, ez_75⟩ : ∃ y : Int32, y = v5 + 1 := ⟨_, rfl⟩
                refine lv_iinc (v := z_75) (lv' := [(5, .int z_75), (4, .int z_74), (0, .ref o), (1, .int p0), (2, .int p1), (3, .int p2)]) hx hb dX12_apart_105 hl (k := 1) rfl (by rw [ez_75]; rfl) (by decide) rfl (fun ls hl => ?_)
                try have iz_75 : z_75.toInt = v5.toInt + 1 := by rw [ez_75]; exact tl_addL v5 1 (by decide) (by omega) (by omega)
                refine lv_goto (tgt := 45) hx hb dX12_apart_108 (by decide) ?_
                exact ih45 (f_67, Γ_69, z_75, z_74) H locs ls (by show (24 - z_75.toInt).toNat < (24 - v5.toInt).toNat; omega) ⟨(show 0 ≤ z_75.toInt from (by omega)), (show Γ_69 (39, 0, 0) 0 = Γ (39, 0, 0) 0 from (by omega)), hP, hI, hfr, hgr, hS, lv_sub hl [0, 1, 2, 3, 4, 5] rfl⟩
            · have c_51 : r_46.toInt ≥ p2.toInt := by have h9 := tl_cmp_nlt c_51; simp only [Int32.toInt_toInt64] at h9; exact h9
              refine lv_iconst (v := 1) hx hb dX12_apart_71 (by decide) ?_
              refine lv_goto (tgt := 76) hx hb dX12_apart_72 (by decide) ?_
              refine lv_aload_n hx hb dX12_apart_76 rfl (lv_at hl 2 rfl) ?_
              refine lv_iload_n hx hb dX12_apart_77 rfl (lv_at hl 4 rfl) ?_
              refine lv_iload hx hb dX12_apart_78 (lv_at hl 0 rfl) ?_
              obtain ⟨r_77, v_78, q_79, hf_76, hr_80, hv_81⟩ := (show tp_o_M L K 0 0 (Γ_49 (39, 0, 0)) (f_47 o) from hI.at ho)
              refine tq_clR hS (hAf _ hS.1) (tq_rV (As := [.int p1, .int v5]) (rest := [.int 1, .int v4]) ⟨hx, hb, hml, hown, hta⟩ (tp_P.pre hK hN hL hU hI hP) (tp_recv hK hP ho.1 hf_76 rfl) lk_X12_450 (r_X12_scoreOf l D cy H.size L K Γ_49 f_47 o p1 v5 ho (by first | omega | assumption | (rw [hgr (42, 3, 0) (by decide), hgr (43, 8800, 0) (by decide), hgr (45, 1056, 0) (by decide), hgr (46, 22, 0) (by decide), hgr (47, 6, 0) (by decide), hgr (48, 22, 0) (by decide), hgr (49, 22, 0) (by decide), hgr (50, 22, 0) (by decide), hgr (51, 22, 0) (by decide)]; first | exact htx | assumption | omega)) (by first | omega | assumption | (rw [hgr (40, 7666, 0) (by decide), hgr (42, 3, 0) (by decide)]; first | exact hsd | assumption | omega)) (by first | omega | assumption | (rw [hgr (42, 3, 0) (by decide)]; first | assumption | omega)) (by first | omega | (simp only [Int32.toInt_toInt64]; omega) | decide | assumption)) rfl rfl ⟨Nat.le_of_ble_eq_true rfl, Nat.le_of_ble_eq_true rfl⟩ rfl hl.1 rfl (Nat.le_of_ble_eq_true rfl) dX12_apart_80 ⟨Nat.le_of_ble_eq_true rfl, Nat.le_of_ble_eq_true rfl⟩) (fun r_90 f_91 Γ_93 H locs hw_89 hP hI hc_92 hcg_94 hS => ?_)
              have hD : va_D A (va_pl L f_91) := tp_D hL hAL
              have hfr := tp_fr2 hfr hc_92 (by decide)
              have hgr : ∀ κ : tk_K, κ.1 ∉ ([39, 58, 57, 60, 61, 62, 63, 59] : List Nat) → Γ_93 κ = Γ κ := tg_fr2 hgr hcg_94 (by decide)
              have hw_89 : Γ_93 (39, 0, 0) 0 = Γ_49 (39, 0, 0) 0 ∧ (0 ≤ Γ_93 (39, 0, 0) 11 ∧ Γ_93 (39, 0, 0) 12 ≤ 299) ∧ (Γ_93 (39, 0, 0) 11 = Γ_49 (49, 22, 0) (6 + p1.toInt).toNat ∧ Γ_93 (39, 0, 0) 12 = Γ_49 (50, 22, 0) (6 + p1.toInt).toNat) ∧ (Γ_93 (39, 0, 0) 15 = 0 ∨ Γ_93 (39, 0, 0) 15 = 1) ∧ (0 ≤ Γ_93 (39, 0, 0) 13 ∧ Γ_93 (39, 0, 0) 13 ≤ 42) ∧ (0 < Γ_93 (39, 0, 0) 13 → 0 < Γ_93 (39, 0, 0) 10) ∧ (Γ_93 (39, 0, 0) 15 = 1 → 0 < Γ_93 (39, 0, 0) 13 ∧ 0 < Γ_93 (39, 0, 0) 14) ∧ (Γ_93 (39, 0, 0) 15 = 1 → gex (Γ_93 (59, 300, 0)) (Γ_49 (49, 22, 0) (6 + p1.toInt).toNat) (Γ_49 (50, 22, 0) (6 + p1.toInt).toNat + 1)) ∧ (∀ j : Nat, (j : Int) < Γ_93 (39, 0, 0) 13 → 0 ≤ Γ_93 (61, 42, 0) j ∧ Γ_93 (61, 42, 0) j ≤ 299) ∧ (∀ j : Nat, (j : Int) + 1 < Γ_93 (39, 0, 0) 13 → Γ_93 (61, 42, 0) j < Γ_93 (61, 42, 0) (j + 1)) ∧ (∀ j : Nat, j < 300 → (Γ_93 (59, 300, 0) j = -1000000 ∨ (-500000 ≤ Γ_93 (59, 300, 0) j ∧ Γ_93 (59, 300, 0) j ≤ 500000))) := hw_89
              obtain ⟨hq0, hqb, hq11, hq15, hq13, hq10, hqd, hqg, hqk, hqr, hql⟩ := hw_89
              refine lv_iload_n hx hb dX12_apart_83 rfl (lv_at hl 5 rfl) ?_
              refine lv_i2l (v := p2.toInt64) hx hb dX12_apart_84 (by first | rfl | decide) ?_
              refine W.lcmp hx hb dX12_apart_85 ?_
              refine lv_if_lt (tgt := 93) hx hb dX12_apart_86 (by decide) (fun c_95 => ?_) (fun c_95 => ?_)
              · have c_95 : r_90.toInt < p2.toInt := by have h9 := tl_cmp_lt c_95; simp only [Int32.toInt_toInt64] at h9; exact h9
                refine lv_iconst (v := 0) hx hb dX12_apart_93 (by decide) ?_
                refine lv_icmp_eq (tgt := 101) hx hb dX12_apart_94 (by decide) (fun c => absurd c (by decide)) (fun _ => ?_)
                refine lv_iconst (v := 1) hx hb dX12_apart_97 (by decide) ?_
                refine lv_goto (tgt := 102) hx hb dX12_apart_98 (by decide) ?_
                refine lv_iadd hx hb dX12_apart_102 ?_
                refine lv_topi (fun z_96 ez_96 => ?_)
                try have iz_96 : z_96.toInt = v4.toInt + (1 : Int) := by rw [ez_96]; exact tl_addN v4 1 rfl rfl (by omega) (by omega)
                refine lv_istore (lv' := [(4, .int z_96), (5, .int v5), (0, .ref o), (1, .int p0), (2, .int p1), (3, .int p2)]) hx hb dX12_apart_103 hl (by decide) rfl (fun ls hl => ?_)
                obtain ⟨z_97, ez_97⟩ : ∃ y : Int32, y = v5 + 1 := ⟨_, rfl⟩
                refine lv_iinc (v := z_97) (lv' := [(5, .int z_97), (4, .int z_96), (0, .ref o), (1, .int p0), (2, .int p1), (3, .int p2)]) hx hb dX12_apart_105 hl (k := 1) rfl (by rw [ez_97]; rfl) (by decide) rfl (fun ls hl => ?_)
                try have iz_97 : z_97.toInt = v5.toInt + 1 := by rw [ez_97]; exact tl_addL v5 1 (by decide) (by omega) (by omega)
                refine lv_goto (tgt := 45) hx hb dX12_apart_108 (by decide) ?_
                exact ih45 (f_91, Γ_93, z_97, z_96) H locs ls (by show (24 - z_97.toInt).toNat < (24 - v5.toInt).toNat; omega) ⟨(show 0 ≤ z_97.toInt from (by omega)), (show Γ_93 (39, 0, 0) 0 = Γ (39, 0, 0) 0 from (by omega)), hP, hI, hfr, hgr, hS, lv_sub hl [0, 1, 2, 3, 4, 5] rfl⟩
              · have c_95 : r_90.toInt ≥ p2.toInt := by have h9 := tl_cmp_nlt c_95; simp only [Int32.toInt_toInt64] at h9; exact h9
                refine lv_iconst (v := 1) hx hb dX12_apart_89 (by decide) ?_
                refine lv_goto (tgt := 94) hx hb dX12_apart_90 (by decide) ?_
                refine lv_icmp_eq (tgt := 101) hx hb dX12_apart_94 (by decide) (fun _ => ?_) (fun c => absurd c (by decide))
                refine lv_iconst (v := 0) hx hb dX12_apart_101 (by decide) ?_
                refine lv_iadd hx hb dX12_apart_102 ?_
                refine lv_topi (fun z_98 ez_98 => ?_)
                try have iz_98 : z_98.toInt = v4.toInt + (0 : Int) := by rw [ez_98]; exact tl_addN v4 0 rfl rfl (by omega) (by omega)
                refine lv_istore (lv' := [(4, .int z_98), (5, .int v5), (0, .ref o), (1, .int p0), (2, .int p1), (3, .int p2)]) hx hb dX12_apart_103 hl (by decide) rfl (fun ls hl => ?_)
                obtain ⟨z_99, ez_99⟩ : ∃ y : Int32, y = v5 + 1 := ⟨_, rfl⟩
                refine lv_iinc (v := z_99) (lv' := [(5, .int z_99), (4, .int z_98), (0, .ref o), (1, .int p0), (2, .int p1), (3, .int p2)]) hx hb dX12_apart_105 hl (k := 1) rfl (by rw [ez_99]; rfl) (by decide) rfl (fun ls hl => ?_)
                try have iz_99 : z_99.toInt = v5.toInt + 1 := by rw [ez_99]; exact tl_addL v5 1 (by decide) (by omega) (by omega)
                refine lv_goto (tgt := 45) hx hb dX12_apart_108 (by decide) ?_
                exact ih45 (f_91, Γ_93, z_99, z_98) H locs ls (by show (24 - z_99.toInt).toNat < (24 - v5.toInt).toNat; omega) ⟨(show 0 ≤ z_99.toInt from (by omega)), (show Γ_93 (39, 0, 0) 0 = Γ (39, 0, 0) 0 from (by omega)), hP, hI, hfr, hgr, hS, lv_sub hl [0, 1, 2, 3, 4, 5] rfl⟩
        · have c_23 := hw_21.f c_23
          refine lv_iconst (v := (-1)) hx hb dX12_apart_37 (by decide) ?_
          have hpo9 : Γ (39, 0, 0) 0 = Γ (39, 0, 0) 0 := (by omega)
          exact W.iret (v := (-1)) hx hb hr (fun t ht hW => ⟨⟨_, (f, Γ), rfl, hpo9, by rw [ht]; exact hP, hI, hfr, hgr⟩, hS.F ht⟩) hS.2.2 dX12_apart_38
