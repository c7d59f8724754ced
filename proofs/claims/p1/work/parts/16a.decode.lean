theorem dX12_agreed_0 : decode cX12_agreed 0 = .ok (.iload_n 1, 1) := by decide +kernel
theorem dX12_agreed_1 : decode cX12_agreed 1 = .ok (.invokestatic 496, 3) := by decide +kernel
theorem dX12_agreed_4 : decode cX12_agreed 4 = .ok (.ifCond .ne 5, 3) := by decide +kernel
theorem dX12_agreed_7 : decode cX12_agreed 7 = .ok (.iconst (-1), 1) := by decide +kernel
theorem dX12_agreed_8 : decode cX12_agreed 8 = .ok (.ireturn, 1) := by decide +kernel
theorem dX12_agreed_9 : decode cX12_agreed 9 = .ok (.aload_n 0, 1) := by decide +kernel
theorem dX12_agreed_10 : decode cX12_agreed 10 = .ok (.invokevirtual 526, 3) := by decide +kernel
theorem dX12_agreed_13 : decode cX12_agreed 13 = .ok (.iconst 0, 1) := by decide +kernel
theorem dX12_agreed_14 : decode cX12_agreed 14 = .ok (.istore_n 2, 1) := by decide +kernel
theorem dX12_agreed_15 : decode cX12_agreed 15 = .ok (.iload_n 2, 1) := by decide +kernel
theorem dX12_agreed_16 : decode cX12_agreed 16 = .ok (.iload_n 1, 1) := by decide +kernel
theorem dX12_agreed_17 : decode cX12_agreed 17 = .ok (.if_icmp .gt 29, 3) := by decide +kernel
theorem dX12_agreed_20 : decode cX12_agreed 20 = .ok (.iconst 2, 1) := by decide +kernel
theorem dX12_agreed_21 : decode cX12_agreed 21 = .ok (.aload_n 0, 1) := by decide +kernel
theorem dX12_agreed_22 : decode cX12_agreed 22 = .ok (.iload_n 2, 1) := by decide +kernel
theorem dX12_agreed_23 : decode cX12_agreed 23 = .ok (.invokevirtual 529, 3) := by decide +kernel
theorem dX12_agreed_26 : decode cX12_agreed 26 = .ok (.imul, 1) := by decide +kernel
theorem dX12_agreed_27 : decode cX12_agreed 27 = .ok (.aload_n 0, 1) := by decide +kernel
theorem dX12_agreed_28 : decode cX12_agreed 28 = .ok (.getfield 7, 3) := by decide +kernel
theorem dX12_agreed_31 : decode cX12_agreed 31 = .ok (.sipush 7665, 3) := by decide +kernel
theorem dX12_agreed_34 : decode cX12_agreed 34 = .ok (.iaload, 1) := by decide +kernel
theorem dX12_agreed_35 : decode cX12_agreed 35 = .ok (.if_icmp .le 5, 3) := by decide +kernel
theorem dX12_agreed_40 : decode cX12_agreed 40 = .ok (.iinc 2 1, 3) := by decide +kernel
theorem dX12_agreed_43 : decode cX12_agreed 43 = .ok (.goto (-28), 3) := by decide +kernel
theorem dX12_agreed_46 : decode cX12_agreed 46 = .ok (.bipush (-2), 2) := by decide +kernel
theorem dX12_agreed_48 : decode cX12_agreed 48 = .ok (.ireturn, 1) := by decide +kernel
theorem dX12_alone_0 : decode cX12_alone 0 = .ok (.iload_n 1, 1) := by decide +kernel
theorem dX12_alone_1 : decode cX12_alone 1 = .ok (.invokestatic 496, 3) := by decide +kernel
theorem dX12_alone_4 : decode cX12_alone 4 = .ok (.ifCond .ne 5, 3) := by decide +kernel
theorem dX12_alone_7 : decode cX12_alone 7 = .ok (.iconst (-1), 1) := by decide +kernel
theorem dX12_alone_8 : decode cX12_alone 8 = .ok (.ireturn, 1) := by decide +kernel
theorem dX12_alone_9 : decode cX12_alone 9 = .ok (.aload_n 0, 1) := by decide +kernel
theorem dX12_alone_10 : decode cX12_alone 10 = .ok (.invokevirtual 526, 3) := by decide +kernel
theorem dX12_alone_13 : decode cX12_alone 13 = .ok (.aload_n 0, 1) := by decide +kernel
theorem dX12_alone_14 : decode cX12_alone 14 = .ok (.iload_n 1, 1) := by decide +kernel
theorem dX12_alone_15 : decode cX12_alone 15 = .ok (.invokevirtual 529, 3) := by decide +kernel
theorem dX12_alone_18 : decode cX12_alone 18 = .ok (.iconst 1, 1) := by decide +kernel
theorem dX12_alone_19 : decode cX12_alone 19 = .ok (.if_icmp .eq 6, 3) := by decide +kernel
theorem dX12_alone_22 : decode cX12_alone 22 = .ok (.bipush (-2), 2) := by decide +kernel
theorem dX12_alone_24 : decode cX12_alone 24 = .ok (.ireturn, 1) := by decide +kernel
theorem dX12_anew_0 : decode cX12_anew 0 = .ok (.iload_n 1, 1) := by decide +kernel
theorem dX12_anew_1 : decode cX12_anew 1 = .ok (.i2l, 1) := by decide +kernel
theorem dX12_anew_2 : decode cX12_anew 2 = .ok (.lconst 0, 1) := by decide +kernel
theorem dX12_anew_3 : decode cX12_anew 3 = .ok (.aload_n 0, 1) := by decide +kernel
theorem dX12_anew_4 : decode cX12_anew 4 = .ok (.getfield 7, 3) := by decide +kernel
theorem dX12_anew_7 : decode cX12_anew 7 = .ok (.iconst 2, 1) := by decide +kernel
theorem dX12_anew_8 : decode cX12_anew 8 = .ok (.iaload, 1) := by decide +kernel
theorem dX12_anew_9 : decode cX12_anew 9 = .ok (.iconst 1, 1) := by decide +kernel
theorem dX12_anew_10 : decode cX12_anew 10 = .ok (.isub, 1) := by decide +kernel
theorem dX12_anew_11 : decode cX12_anew 11 = .ok (.i2l, 1) := by decide +kernel
theorem dX12_anew_12 : decode cX12_anew 12 = .ok (.invokestatic 112, 3) := by decide +kernel
theorem dX12_anew_15 : decode cX12_anew 15 = .ok (.ifCond .eq 17, 3) := by decide +kernel
theorem dX12_anew_32 : decode cX12_anew 32 = .ok (.ldc 131, 2) := by decide +kernel
theorem dX12_anew_34 : decode cX12_anew 34 = .ok (.ireturn, 1) := by decide +kernel
theorem dX12_apart_0 : decode cX12_apart 0 = .ok (.aload_n 0, 1) := by decide +kernel
theorem dX12_apart_1 : decode cX12_apart 1 = .ok (.iconst 1, 1) := by decide +kernel
theorem dX12_apart_2 : decode cX12_apart 2 = .ok (.iload_n 1, 1) := by decide +kernel
theorem dX12_apart_3 : decode cX12_apart 3 = .ok (.invokevirtual 382, 3) := by decide +kernel
theorem dX12_apart_6 : decode cX12_apart 6 = .ok (.ifCond .eq 31, 3) := by decide +kernel
theorem dX12_apart_37 : decode cX12_apart 37 = .ok (.iconst (-1), 1) := by decide +kernel
theorem dX12_apart_38 : decode cX12_apart 38 = .ok (.ireturn, 1) := by decide +kernel
theorem dX12_back_0 : decode cX12_back 0 = .ok (.iload_n 1, 1) := by decide +kernel
theorem dX12_back_1 : decode cX12_back 1 = .ok (.i2l, 1) := by decide +kernel
theorem dX12_back_2 : decode cX12_back 2 = .ok (.lconst 0, 1) := by decide +kernel
theorem dX12_back_3 : decode cX12_back 3 = .ok (.ldc2_w 116, 3) := by decide +kernel
theorem dX12_back_6 : decode cX12_back 6 = .ok (.invokestatic 112, 3) := by decide +kernel
theorem dX12_back_9 : decode cX12_back 9 = .ok (.ifCond .eq 12, 3) := by decide +kernel
theorem dX12_back_12 : decode cX12_back 12 = .ok (.aload_n 0, 1) := by decide +kernel
theorem dX12_back_13 : decode cX12_back 13 = .ok (.getfield 106, 3) := by decide +kernel
theorem dX12_back_16 : decode cX12_back 16 = .ok (.iload_n 1, 1) := by decide +kernel
theorem dX12_back_17 : decode cX12_back 17 = .ok (.baload, 1) := by decide +kernel
theorem dX12_back_18 : decode cX12_back 18 = .ok (.ifCond .ne 5, 3) := by decide +kernel
theorem dX12_back_21 : decode cX12_back 21 = .ok (.iconst (-1), 1) := by decide +kernel
theorem dX12_back_22 : decode cX12_back 22 = .ok (.ireturn, 1) := by decide +kernel
theorem dX12_bent_0 : decode cX12_bent 0 = .ok (.aload_n 0, 1) := by decide +kernel
theorem dX12_bent_1 : decode cX12_bent 1 = .ok (.iload_n 1, 1) := by decide +kernel
theorem dX12_bent_2 : decode cX12_bent 2 = .ok (.iload_n 2, 1) := by decide +kernel
theorem dX12_bent_3 : decode cX12_bent 3 = .ok (.invokevirtual 447, 3) := by decide +kernel
theorem dX12_bent_6 : decode cX12_bent 6 = .ok (.ifCond .eq 15, 3) := by decide +kernel
theorem dX12_bent_21 : decode cX12_bent 21 = .ok (.ldc2_w 455, 3) := by decide +kernel
theorem dX12_bent_24 : decode cX12_bent 24 = .ok (.lreturn, 1) := by decide +kernel
theorem dX12_best_0 : decode cX12_best 0 = .ok (.aload_n 0, 1) := by decide +kernel
theorem dX12_best_1 : decode cX12_best 1 = .ok (.iload_n 1, 1) := by decide +kernel
theorem dX12_best_2 : decode cX12_best 2 = .ok (.iload_n 2, 1) := by decide +kernel
theorem dX12_best_3 : decode cX12_best 3 = .ok (.invokevirtual 447, 3) := by decide +kernel
theorem dX12_best_6 : decode cX12_best 6 = .ok (.ifCond .eq 26, 3) := by decide +kernel
theorem dX12_best_32 : decode cX12_best 32 = .ok (.ldc2_w 457, 3) := by decide +kernel
theorem dX12_best_35 : decode cX12_best 35 = .ok (.lreturn, 1) := by decide +kernel
theorem dX12_bits_0 : decode cX12_bits 0 = .ok (.iconst 0, 1) := by decide +kernel
theorem dX12_bits_1 : decode cX12_bits 1 = .ok (.istore_n 1, 1) := by decide +kernel
theorem dX12_bits_2 : decode cX12_bits 2 = .ok (.iload_n 0, 1) := by decide +kernel
theorem dX12_bits_3 : decode cX12_bits 3 = .ok (.istore_n 2, 1) := by decide +kernel
theorem dX12_bits_4 : decode cX12_bits 4 = .ok (.iload_n 2, 1) := by decide +kernel
theorem dX12_bits_5 : decode cX12_bits 5 = .ok (.ifCond .eq 15, 3) := by decide +kernel
theorem dX12_bits_20 : decode cX12_bits 20 = .ok (.iload_n 1, 1) := by decide +kernel
theorem dX12_bits_21 : decode cX12_bits 21 = .ok (.ireturn, 1) := by decide +kernel
theorem dX12_brief_0 : decode cX12_brief 0 = .ok (.iload_n 1, 1) := by decide +kernel
theorem dX12_brief_1 : decode cX12_brief 1 = .ok (.i2l, 1) := by decide +kernel
theorem dX12_brief_2 : decode cX12_brief 2 = .ok (.lconst 0, 1) := by decide +kernel
theorem dX12_brief_3 : decode cX12_brief 3 = .ok (.ldc2_w 545, 3) := by decide +kernel
theorem dX12_brief_6 : decode cX12_brief 6 = .ok (.invokestatic 112, 3) := by decide +kernel
theorem dX12_brief_9 : decode cX12_brief 9 = .ok (.ifCond .ne 5, 3) := by decide +kernel
theorem dX12_brief_12 : decode cX12_brief 12 = .ok (.iconst (-1), 1) := by decide +kernel
theorem dX12_brief_13 : decode cX12_brief 13 = .ok (.ireturn, 1) := by decide +kernel
theorem dX12_brief_14 : decode cX12_brief 14 = .ok (.iload_n 1, 1) := by decide +kernel
theorem dX12_brief_15 : decode cX12_brief 15 = .ok (.aload_n 0, 1) := by decide +kernel
theorem dX12_brief_16 : decode cX12_brief 16 = .ok (.sipush 255, 3) := by decide +kernel
theorem dX12_brief_19 : decode cX12_brief 19 = .ok (.invokevirtual 547, 3) := by decide +kernel
theorem dX12_brief_22 : decode cX12_brief 22 = .ok (.isub, 1) := by decide +kernel
theorem dX12_brief_23 : decode cX12_brief 23 = .ok (.istore_n 2, 1) := by decide +kernel
theorem dX12_brief_24 : decode cX12_brief 24 = .ok (.iload_n 2, 1) := by decide +kernel
theorem dX12_brief_25 : decode cX12_brief 25 = .ok (.ifCond .ge 7, 3) := by decide +kernel
theorem dX12_brief_32 : decode cX12_brief 32 = .ok (.iload_n 2, 1) := by decide +kernel
theorem dX12_brief_33 : decode cX12_brief 33 = .ok (.ireturn, 1) := by decide +kernel
theorem dX12_canAsk_0 : decode cX12_canAsk 0 = .ok (.aload_n 0, 1) := by decide +kernel
theorem dX12_canAsk_1 : decode cX12_canAsk 1 = .ok (.iconst 1, 1) := by decide +kernel
theorem dX12_canAsk_2 : decode cX12_canAsk 2 = .ok (.iload_n 1, 1) := by decide +kernel
theorem dX12_canAsk_3 : decode cX12_canAsk 3 = .ok (.invokevirtual 382, 3) := by decide +kernel
theorem dX12_canAsk_6 : decode cX12_canAsk 6 = .ok (.ifCond .eq 15, 3) := by decide +kernel
theorem dX12_canAsk_21 : decode cX12_canAsk 21 = .ok (.iconst 0, 1) := by decide +kernel
theorem dX12_canAsk_22 : decode cX12_canAsk 22 = .ok (.ireturn, 1) := by decide +kernel
theorem dX12_count_0 : decode cX12_count 0 = .ok (.iconst 0, 1) := by decide +kernel
theorem dX12_count_1 : decode cX12_count 1 = .ok (.istore_n 2, 1) := by decide +kernel
theorem dX12_count_2 : decode cX12_count 2 = .ok (.iload_n 1, 1) := by decide +kernel
theorem dX12_count_3 : decode cX12_count 3 = .ok (.tableswitch 174 0 10 #[57, 64, 71, 78, 85, 92, 99, 106, 113, 160, 165], 57) := by decide +kernel
theorem dX12_count_60 : decode cX12_count 60 = .ok (.aload_n 0, 1) := by decide +kernel
theorem dX12_count_61 : decode cX12_count 61 = .ok (.getfield 7, 3) := by decide +kernel
theorem dX12_count_64 : decode cX12_count 64 = .ok (.iconst 0, 1) := by decide +kernel
theorem dX12_count_65 : decode cX12_count 65 = .ok (.iaload, 1) := by decide +kernel
theorem dX12_count_66 : decode cX12_count 66 = .ok (.ireturn, 1) := by decide +kernel
theorem dX12_count_67 : decode cX12_count 67 = .ok (.aload_n 0, 1) := by decide +kernel
theorem dX12_count_68 : decode cX12_count 68 = .ok (.getfield 7, 3) := by decide +kernel
theorem dX12_count_71 : decode cX12_count 71 = .ok (.iconst 1, 1) := by decide +kernel
theorem dX12_count_72 : decode cX12_count 72 = .ok (.iaload, 1) := by decide +kernel
theorem dX12_count_73 : decode cX12_count 73 = .ok (.ireturn, 1) := by decide +kernel
theorem dX12_count_74 : decode cX12_count 74 = .ok (.aload_n 0, 1) := by decide +kernel
theorem dX12_count_75 : decode cX12_count 75 = .ok (.getfield 7, 3) := by decide +kernel
theorem dX12_count_78 : decode cX12_count 78 = .ok (.iconst 2, 1) := by decide +kernel
theorem dX12_count_79 : decode cX12_count 79 = .ok (.iaload, 1) := by decide +kernel
theorem dX12_count_80 : decode cX12_count 80 = .ok (.ireturn, 1) := by decide +kernel
theorem dX12_count_81 : decode cX12_count 81 = .ok (.aload_n 0, 1) := by decide +kernel
theorem dX12_count_82 : decode cX12_count 82 = .ok (.getfield 7, 3) := by decide +kernel
theorem dX12_count_85 : decode cX12_count 85 = .ok (.iconst 3, 1) := by decide +kernel
theorem dX12_count_86 : decode cX12_count 86 = .ok (.iaload, 1) := by decide +kernel
theorem dX12_count_87 : decode cX12_count 87 = .ok (.ireturn, 1) := by decide +kernel
theorem dX12_count_88 : decode cX12_count 88 = .ok (.aload_n 0, 1) := by decide +kernel
theorem dX12_count_89 : decode cX12_count 89 = .ok (.getfield 17, 3) := by decide +kernel
theorem dX12_count_92 : decode cX12_count 92 = .ok (.iconst 0, 1) := by decide +kernel
theorem dX12_count_93 : decode cX12_count 93 = .ok (.iaload, 1) := by decide +kernel
theorem dX12_count_94 : decode cX12_count 94 = .ok (.ireturn, 1) := by decide +kernel
theorem dX12_count_95 : decode cX12_count 95 = .ok (.aload_n 0, 1) := by decide +kernel
theorem dX12_count_96 : decode cX12_count 96 = .ok (.getfield 17, 3) := by decide +kernel
theorem dX12_count_99 : decode cX12_count 99 = .ok (.iconst 1, 1) := by decide +kernel
theorem dX12_count_100 : decode cX12_count 100 = .ok (.iaload, 1) := by decide +kernel
theorem dX12_count_101 : decode cX12_count 101 = .ok (.ireturn, 1) := by decide +kernel
theorem dX12_count_102 : decode cX12_count 102 = .ok (.aload_n 0, 1) := by decide +kernel
theorem dX12_count_103 : decode cX12_count 103 = .ok (.getfield 17, 3) := by decide +kernel
theorem dX12_count_106 : decode cX12_count 106 = .ok (.iconst 2, 1) := by decide +kernel
theorem dX12_count_107 : decode cX12_count 107 = .ok (.iaload, 1) := by decide +kernel
theorem dX12_count_108 : decode cX12_count 108 = .ok (.ireturn, 1) := by decide +kernel
theorem dX12_count_109 : decode cX12_count 109 = .ok (.aload_n 0, 1) := by decide +kernel
theorem dX12_count_110 : decode cX12_count 110 = .ok (.getfield 7, 3) := by decide +kernel
theorem dX12_count_113 : decode cX12_count 113 = .ok (.iconst 4, 1) := by decide +kernel
theorem dX12_count_114 : decode cX12_count 114 = .ok (.iaload, 1) := by decide +kernel
theorem dX12_count_115 : decode cX12_count 115 = .ok (.ireturn, 1) := by decide +kernel
theorem dX12_count_116 : decode cX12_count 116 = .ok (.iconst 0, 1) := by decide +kernel
theorem dX12_count_117 : decode cX12_count 117 = .ok (.istore_n 3, 1) := by decide +kernel
theorem dX12_count_118 : decode cX12_count 118 = .ok (.iload_n 3, 1) := by decide +kernel
theorem dX12_count_119 : decode cX12_count 119 = .ok (.sipush 300, 3) := by decide +kernel
theorem dX12_count_122 : decode cX12_count 122 = .ok (.aload_n 0, 1) := by decide +kernel
theorem dX12_count_123 : decode cX12_count 123 = .ok (.getfield 7, 3) := by decide +kernel
theorem dX12_count_126 : decode cX12_count 126 = .ok (.iconst 1, 1) := by decide +kernel
theorem dX12_count_127 : decode cX12_count 127 = .ok (.iaload, 1) := by decide +kernel
theorem dX12_count_128 : decode cX12_count 128 = .ok (.imul, 1) := by decide +kernel
theorem dX12_count_129 : decode cX12_count 129 = .ok (.if_icmp .ge 32, 3) := by decide +kernel
theorem dX12_count_161 : decode cX12_count 161 = .ok (.iload_n 2, 1) := by decide +kernel
theorem dX12_count_162 : decode cX12_count 162 = .ok (.ireturn, 1) := by decide +kernel
theorem dX12_count_163 : decode cX12_count 163 = .ok (.aload_n 0, 1) := by decide +kernel
theorem dX12_count_164 : decode cX12_count 164 = .ok (.getfield 153, 3) := by decide +kernel
theorem dX12_count_167 : decode cX12_count 167 = .ok (.ireturn, 1) := by decide +kernel
theorem dX12_count_168 : decode cX12_count 168 = .ok (.aload_n 0, 1) := by decide +kernel
theorem dX12_count_169 : decode cX12_count 169 = .ok (.getfield 7, 3) := by decide +kernel
theorem dX12_count_172 : decode cX12_count 172 = .ok (.sipush 7665, 3) := by decide +kernel
theorem dX12_count_175 : decode cX12_count 175 = .ok (.iaload, 1) := by decide +kernel
theorem dX12_count_176 : decode cX12_count 176 = .ok (.ireturn, 1) := by decide +kernel
theorem dX12_count_177 : decode cX12_count 177 = .ok (.iconst (-1), 1) := by decide +kernel
theorem dX12_count_178 : decode cX12_count 178 = .ok (.ireturn, 1) := by decide +kernel
theorem dX12_curve_0 : decode cX12_curve 0 = .ok (.aload_n 0, 1) := by decide +kernel
theorem dX12_curve_1 : decode cX12_curve 1 = .ok (.iload_n 1, 1) := by decide +kernel
theorem dX12_curve_2 : decode cX12_curve 2 = .ok (.iload_n 2, 1) := by decide +kernel
theorem dX12_curve_3 : decode cX12_curve 3 = .ok (.invokevirtual 447, 3) := by decide +kernel
theorem dX12_curve_6 : decode cX12_curve 6 = .ok (.ifCond .eq 23, 3) := by decide +kernel
theorem dX12_curve_29 : decode cX12_curve 29 = .ok (.ldc 131, 2) := by decide +kernel
theorem dX12_curve_31 : decode cX12_curve 31 = .ok (.ireturn, 1) := by decide +kernel
theorem dX12_deep_0 : decode cX12_deep 0 = .ok (.aload_n 0, 1) := by decide +kernel
theorem dX12_deep_1 : decode cX12_deep 1 = .ok (.iload_n 1, 1) := by decide +kernel
theorem dX12_deep_2 : decode cX12_deep 2 = .ok (.iload_n 2, 1) := by decide +kernel
theorem dX12_deep_3 : decode cX12_deep 3 = .ok (.invokevirtual 447, 3) := by decide +kernel
theorem dX12_deep_6 : decode cX12_deep 6 = .ok (.ifCond .eq 15, 3) := by decide +kernel
theorem dX12_deep_21 : decode cX12_deep 21 = .ok (.ldc2_w 455, 3) := by decide +kernel
theorem dX12_deep_24 : decode cX12_deep 24 = .ok (.lreturn, 1) := by decide +kernel
theorem dX12_deepest_0 : decode cX12_deepest 0 = .ok (.aload_n 0, 1) := by decide +kernel
theorem dX12_deepest_1 : decode cX12_deepest 1 = .ok (.iload_n 1, 1) := by decide +kernel
theorem dX12_deepest_2 : decode cX12_deepest 2 = .ok (.iload_n 2, 1) := by decide +kernel
theorem dX12_deepest_3 : decode cX12_deepest 3 = .ok (.invokevirtual 447, 3) := by decide +kernel
theorem dX12_deepest_6 : decode cX12_deepest 6 = .ok (.ifCond .eq 13, 3) := by decide +kernel
theorem dX12_deepest_19 : decode cX12_deepest 19 = .ok (.ldc2_w 524, 3) := by decide +kernel
theorem dX12_deepest_22 : decode cX12_deepest 22 = .ok (.lreturn, 1) := by decide +kernel
theorem dX12_drawn_0 : decode cX12_drawn 0 = .ok (.aload_n 0, 1) := by decide +kernel
theorem dX12_drawn_1 : decode cX12_drawn 1 = .ok (.iconst 0, 1) := by decide +kernel
theorem dX12_drawn_2 : decode cX12_drawn 2 = .ok (.iload_n 1, 1) := by decide +kernel
theorem dX12_drawn_3 : decode cX12_drawn 3 = .ok (.invokevirtual 382, 3) := by decide +kernel
theorem dX12_drawn_6 : decode cX12_drawn 6 = .ok (.ifCond .eq 30, 3) := by decide +kernel
theorem dX12_drawn_36 : decode cX12_drawn 36 = .ok (.iconst (-1), 1) := by decide +kernel
theorem dX12_drawn_37 : decode cX12_drawn 37 = .ok (.ireturn, 1) := by decide +kernel
theorem dX12_elsewhere_0 : decode cX12_elsewhere 0 = .ok (.aload_n 0, 1) := by decide +kernel
theorem dX12_elsewhere_1 : decode cX12_elsewhere 1 = .ok (.iload_n 1, 1) := by decide +kernel
theorem dX12_elsewhere_2 : decode cX12_elsewhere 2 = .ok (.iload_n 2, 1) := by decide +kernel
theorem dX12_elsewhere_3 : decode cX12_elsewhere 3 = .ok (.invokevirtual 447, 3) := by decide +kernel
theorem dX12_elsewhere_6 : decode cX12_elsewhere 6 = .ok (.ifCond .eq 13, 3) := by decide +kernel
theorem dX12_elsewhere_19 : decode cX12_elsewhere 19 = .ok (.iconst (-1), 1) := by decide +kernel
theorem dX12_elsewhere_20 : decode cX12_elsewhere 20 = .ok (.ireturn, 1) := by decide +kernel
theorem dX12_fewest_0 : decode cX12_fewest 0 = .ok (.iload_n 1, 1) := by decide +kernel
theorem dX12_fewest_1 : decode cX12_fewest 1 = .ok (.i2l, 1) := by decide +kernel
theorem dX12_fewest_2 : decode cX12_fewest 2 = .ok (.lconst 0, 1) := by decide +kernel
theorem dX12_fewest_3 : decode cX12_fewest 3 = .ok (.ldc2_w 545, 3) := by decide +kernel
theorem dX12_fewest_6 : decode cX12_fewest 6 = .ok (.invokestatic 112, 3) := by decide +kernel
theorem dX12_fewest_9 : decode cX12_fewest 9 = .ok (.ifCond .eq 13, 3) := by decide +kernel
theorem dX12_fewest_12 : decode cX12_fewest 12 = .ok (.iload_n 2, 1) := by decide +kernel
theorem dX12_fewest_13 : decode cX12_fewest 13 = .ok (.i2l, 1) := by decide +kernel
theorem dX12_fewest_14 : decode cX12_fewest 14 = .ok (.lconst 0, 1) := by decide +kernel
theorem dX12_fewest_15 : decode cX12_fewest 15 = .ok (.lconst 1, 1) := by decide +kernel
theorem dX12_fewest_16 : decode cX12_fewest 16 = .ok (.invokestatic 112, 3) := by decide +kernel
theorem dX12_fewest_19 : decode cX12_fewest 19 = .ok (.ifCond .ne 5, 3) := by decide +kernel
theorem dX12_fewest_22 : decode cX12_fewest 22 = .ok (.iconst (-1), 1) := by decide +kernel
theorem dX12_fewest_23 : decode cX12_fewest 23 = .ok (.ireturn, 1) := by decide +kernel
theorem dX12_fewest_24 : decode cX12_fewest 24 = .ok (.bipush (-2), 2) := by decide +kernel
theorem dX12_fewest_26 : decode cX12_fewest 26 = .ok (.istore_n 3, 1) := by decide +kernel
theorem dX12_fewest_27 : decode cX12_fewest 27 = .ok (.iconst 0, 1) := by decide +kernel
theorem dX12_fewest_28 : decode cX12_fewest 28 = .ok (.istore 4, 2) := by decide +kernel
theorem dX12_fewest_30 : decode cX12_fewest 30 = .ok (.iconst 0, 1) := by decide +kernel
theorem dX12_fewest_31 : decode cX12_fewest 31 = .ok (.istore 5, 2) := by decide +kernel
theorem dX12_fewest_33 : decode cX12_fewest 33 = .ok (.iload 5, 2) := by decide +kernel
theorem dX12_fewest_35 : decode cX12_fewest 35 = .ok (.iconst 1, 1) := by decide +kernel
theorem dX12_fewest_36 : decode cX12_fewest 36 = .ok (.aload_n 0, 1) := by decide +kernel
theorem dX12_fewest_37 : decode cX12_fewest 37 = .ok (.getfield 17, 3) := by decide +kernel
theorem dX12_fewest_40 : decode cX12_fewest 40 = .ok (.iconst 2, 1) := by decide +kernel
theorem dX12_fewest_41 : decode cX12_fewest 41 = .ok (.iaload, 1) := by decide +kernel
theorem dX12_fewest_42 : decode cX12_fewest 42 = .ok (.ishl, 1) := by decide +kernel
theorem dX12_fewest_43 : decode cX12_fewest 43 = .ok (.if_icmp .ge 68, 3) := by decide +kernel
theorem dX12_fewest_46 : decode cX12_fewest 46 = .ok (.aload_n 0, 1) := by decide +kernel
theorem dX12_fewest_47 : decode cX12_fewest 47 = .ok (.iload 5, 2) := by decide +kernel
theorem dX12_fewest_49 : decode cX12_fewest 49 = .ok (.invokevirtual 547, 3) := by decide +kernel
theorem dX12_fewest_52 : decode cX12_fewest 52 = .ok (.istore 6, 2) := by decide +kernel
theorem dX12_fewest_54 : decode cX12_fewest 54 = .ok (.iload 6, 2) := by decide +kernel
theorem dX12_fewest_56 : decode cX12_fewest 56 = .ok (.iload_n 1, 1) := by decide +kernel
theorem dX12_fewest_57 : decode cX12_fewest 57 = .ok (.if_icmp .lt 48, 3) := by decide +kernel
theorem dX12_fewest_60 : decode cX12_fewest 60 = .ok (.iload_n 3, 1) := by decide +kernel
theorem dX12_fewest_61 : decode cX12_fewest 61 = .ok (.ifCond .lt 37, 3) := by decide +kernel
theorem dX12_fewest_98 : decode cX12_fewest 98 = .ok (.iload 5, 2) := by decide +kernel
theorem dX12_fewest_100 : decode cX12_fewest 100 = .ok (.istore_n 3, 1) := by decide +kernel
theorem dX12_fewest_101 : decode cX12_fewest 101 = .ok (.iload 6, 2) := by decide +kernel
theorem dX12_fewest_103 : decode cX12_fewest 103 = .ok (.istore 4, 2) := by decide +kernel
theorem dX12_fewest_105 : decode cX12_fewest 105 = .ok (.iinc 5 1, 3) := by decide +kernel
theorem dX12_fewest_108 : decode cX12_fewest 108 = .ok (.goto (-75), 3) := by decide +kernel
theorem dX12_fewest_111 : decode cX12_fewest 111 = .ok (.iload_n 3, 1) := by decide +kernel
theorem dX12_fewest_112 : decode cX12_fewest 112 = .ok (.ifCond .ge 8, 3) := by decide +kernel
theorem dX12_fewest_115 : decode cX12_fewest 115 = .ok (.bipush (-2), 2) := by decide +kernel
theorem dX12_fewest_117 : decode cX12_fewest 117 = .ok (.goto 15, 3) := by decide +kernel
theorem dX12_fewest_120 : decode cX12_fewest 120 = .ok (.iload_n 2, 1) := by decide +kernel
theorem dX12_fewest_121 : decode cX12_fewest 121 = .ok (.ifCond .ne 10, 3) := by decide +kernel
theorem dX12_fewest_124 : decode cX12_fewest 124 = .ok (.iload_n 3, 1) := by decide +kernel
theorem dX12_fewest_125 : decode cX12_fewest 125 = .ok (.invokestatic 550, 3) := by decide +kernel
theorem dX12_fewest_128 : decode cX12_fewest 128 = .ok (.goto 4, 3) := by decide +kernel
theorem dX12_fewest_131 : decode cX12_fewest 131 = .ok (.iload_n 3, 1) := by decide +kernel
theorem dX12_fewest_132 : decode cX12_fewest 132 = .ok (.ireturn, 1) := by decide +kernel
theorem dX12_firsts_0 : decode cX12_firsts 0 = .ok (.iconst 0, 1) := by decide +kernel
theorem dX12_firsts_1 : decode cX12_firsts 1 = .ok (.istore_n 1, 1) := by decide +kernel
theorem dX12_firsts_2 : decode cX12_firsts 2 = .ok (.iload_n 1, 1) := by decide +kernel
theorem dX12_firsts_3 : decode cX12_firsts 3 = .ok (.aload_n 0, 1) := by decide +kernel
theorem dX12_firsts_4 : decode cX12_firsts 4 = .ok (.getfield 7, 3) := by decide +kernel
theorem dX12_firsts_7 : decode cX12_firsts 7 = .ok (.sipush 7665, 3) := by decide +kernel
theorem dX12_firsts_10 : decode cX12_firsts 10 = .ok (.iaload, 1) := by decide +kernel
theorem dX12_firsts_11 : decode cX12_firsts 11 = .ok (.if_icmp .ge 138, 3) := by decide +kernel
theorem dX12_firsts_149 : decode cX12_firsts 149 = .ok (.return_, 1) := by decide +kernel
theorem dX12_givenBy_0 : decode cX12_givenBy 0 = .ok (.iconst 0, 1) := by decide +kernel
theorem dX12_givenBy_1 : decode cX12_givenBy 1 = .ok (.istore_n 2, 1) := by decide +kernel
theorem dX12_givenBy_2 : decode cX12_givenBy 2 = .ok (.iconst 0, 1) := by decide +kernel
theorem dX12_givenBy_3 : decode cX12_givenBy 3 = .ok (.istore_n 3, 1) := by decide +kernel
theorem dX12_givenBy_4 : decode cX12_givenBy 4 = .ok (.iload_n 3, 1) := by decide +kernel
theorem dX12_givenBy_5 : decode cX12_givenBy 5 = .ok (.aload_n 0, 1) := by decide +kernel
theorem dX12_givenBy_6 : decode cX12_givenBy 6 = .ok (.getfield 17, 3) := by decide +kernel
theorem dX12_givenBy_9 : decode cX12_givenBy 9 = .ok (.iconst 2, 1) := by decide +kernel
theorem dX12_givenBy_10 : decode cX12_givenBy 10 = .ok (.iaload, 1) := by decide +kernel
theorem dX12_givenBy_11 : decode cX12_givenBy 11 = .ok (.if_icmp .ge 30, 3) := by decide +kernel
theorem dX12_givenBy_41 : decode cX12_givenBy 41 = .ok (.iload_n 2, 1) := by decide +kernel
theorem dX12_givenBy_42 : decode cX12_givenBy 42 = .ok (.ireturn, 1) := by decide +kernel
theorem dX12_gives_0 : decode cX12_gives 0 = .ok (.aload_n 0, 1) := by decide +kernel
theorem dX12_gives_1 : decode cX12_gives 1 = .ok (.iconst 2, 1) := by decide +kernel
theorem dX12_gives_2 : decode cX12_gives 2 = .ok (.iload_n 1, 1) := by decide +kernel
theorem dX12_gives_3 : decode cX12_gives 3 = .ok (.invokevirtual 382, 3) := by decide +kernel
theorem dX12_gives_6 : decode cX12_gives 6 = .ok (.ifCond .eq 11, 3) := by decide +kernel
theorem dX12_gives_17 : decode cX12_gives 17 = .ok (.iconst (-1), 1) := by decide +kernel
theorem dX12_gives_18 : decode cX12_gives 18 = .ok (.ireturn, 1) := by decide +kernel
theorem dX12_hour_0 : decode cX12_hour 0 = .ok (.aload_n 0, 1) := by decide +kernel
theorem dX12_hour_1 : decode cX12_hour 1 = .ok (.iconst 1, 1) := by decide +kernel
theorem dX12_hour_2 : decode cX12_hour 2 = .ok (.iload_n 1, 1) := by decide +kernel
theorem dX12_hour_3 : decode cX12_hour 3 = .ok (.invokevirtual 382, 3) := by decide +kernel
theorem dX12_hour_6 : decode cX12_hour 6 = .ok (.ifCond .eq 20, 3) := by decide +kernel
theorem dX12_hour_26 : decode cX12_hour 26 = .ok (.iconst (-1), 1) := by decide +kernel
theorem dX12_hour_27 : decode cX12_hour 27 = .ok (.ireturn, 1) := by decide +kernel
theorem dX12_house_0 : decode cX12_house 0 = .ok (.aload_n 0, 1) := by decide +kernel
theorem dX12_house_1 : decode cX12_house 1 = .ok (.getfield 7, 3) := by decide +kernel
theorem dX12_house_4 : decode cX12_house 4 = .ok (.sipush 7665, 3) := by decide +kernel
theorem dX12_house_7 : decode cX12_house 7 = .ok (.iaload, 1) := by decide +kernel
theorem dX12_house_8 : decode cX12_house 8 = .ok (.bipush 8, 2) := by decide +kernel
theorem dX12_house_10 : decode cX12_house 10 = .ok (.if_icmp .eq 38, 3) := by decide +kernel
theorem dX12_house_13 : decode cX12_house 13 = .ok (.aload_n 0, 1) := by decide +kernel
theorem dX12_house_14 : decode cX12_house 14 = .ok (.iconst 1, 1) := by decide +kernel
theorem dX12_house_15 : decode cX12_house 15 = .ok (.iload_n 1, 1) := by decide +kernel
theorem dX12_house_16 : decode cX12_house 16 = .ok (.invokevirtual 382, 3) := by decide +kernel
theorem dX12_house_19 : decode cX12_house 19 = .ok (.ifCond .eq 29, 3) := by decide +kernel
theorem dX12_house_48 : decode cX12_house 48 = .ok (.iconst (-1), 1) := by decide +kernel
theorem dX12_house_49 : decode cX12_house 49 = .ok (.ireturn, 1) := by decide +kernel
theorem dX12_isColour_0 : decode cX12_isColour 0 = .ok (.iload_n 0, 1) := by decide +kernel
theorem dX12_isColour_1 : decode cX12_isColour 1 = .ok (.ifCond .lt 14, 3) := by decide +kernel
theorem dX12_isColour_4 : decode cX12_isColour 4 = .ok (.iload_n 0, 1) := by decide +kernel
theorem dX12_isColour_5 : decode cX12_isColour 5 = .ok (.sipush 300, 3) := by decide +kernel
theorem dX12_isColour_8 : decode cX12_isColour 8 = .ok (.if_icmp .ge 7, 3) := by decide +kernel
theorem dX12_isColour_11 : decode cX12_isColour 11 = .ok (.iconst 1, 1) := by decide +kernel
theorem dX12_isColour_12 : decode cX12_isColour 12 = .ok (.goto 4, 3) := by decide +kernel
theorem dX12_isColour_15 : decode cX12_isColour 15 = .ok (.iconst 0, 1) := by decide +kernel
theorem dX12_isColour_16 : decode cX12_isColour 16 = .ok (.ireturn, 1) := by decide +kernel
theorem dX12_isRow_0 : decode cX12_isRow 0 = .ok (.iload_n 1, 1) := by decide +kernel
theorem dX12_isRow_1 : decode cX12_isRow 1 = .ok (.ifCond .lt 17, 3) := by decide +kernel
theorem dX12_isRow_4 : decode cX12_isRow 4 = .ok (.iload_n 1, 1) := by decide +kernel
theorem dX12_isRow_5 : decode cX12_isRow 5 = .ok (.aload_n 0, 1) := by decide +kernel
theorem dX12_isRow_6 : decode cX12_isRow 6 = .ok (.getfield 7, 3) := by decide +kernel
theorem dX12_isRow_9 : decode cX12_isRow 9 = .ok (.iconst 1, 1) := by decide +kernel
theorem dX12_isRow_10 : decode cX12_isRow 10 = .ok (.iaload, 1) := by decide +kernel
theorem dX12_isRow_11 : decode cX12_isRow 11 = .ok (.if_icmp .ge 7, 3) := by decide +kernel
theorem dX12_isRow_18 : decode cX12_isRow 18 = .ok (.iconst 0, 1) := by decide +kernel
theorem dX12_isRow_19 : decode cX12_isRow 19 = .ok (.ireturn, 1) := by decide +kernel
theorem dX12_isText_0 : decode cX12_isText 0 = .ok (.iload_n 2, 1) := by decide +kernel
theorem dX12_isText_1 : decode cX12_isText 1 = .ok (.ifCond .lt 17, 3) := by decide +kernel
theorem dX12_isText_4 : decode cX12_isText 4 = .ok (.iload_n 2, 1) := by decide +kernel
theorem dX12_isText_5 : decode cX12_isText 5 = .ok (.aload_n 0, 1) := by decide +kernel
theorem dX12_isText_6 : decode cX12_isText 6 = .ok (.getfield 17, 3) := by decide +kernel
theorem dX12_isText_9 : decode cX12_isText 9 = .ok (.iload_n 1, 1) := by decide +kernel
theorem dX12_isText_10 : decode cX12_isText 10 = .ok (.iaload, 1) := by decide +kernel
theorem dX12_isText_11 : decode cX12_isText 11 = .ok (.if_icmp .ge 7, 3) := by decide +kernel
theorem dX12_isText_18 : decode cX12_isText 18 = .ok (.iconst 0, 1) := by decide +kernel
theorem dX12_isText_19 : decode cX12_isText 19 = .ok (.ireturn, 1) := by decide +kernel
theorem dX12_isWeek_0 : decode cX12_isWeek 0 = .ok (.iload_n 0, 1) := by decide +kernel
theorem dX12_isWeek_1 : decode cX12_isWeek 1 = .ok (.ifCond .lt 14, 3) := by decide +kernel
theorem dX12_isWeek_4 : decode cX12_isWeek 4 = .ok (.iload_n 0, 1) := by decide +kernel
theorem dX12_isWeek_5 : decode cX12_isWeek 5 = .ok (.sipush 400, 3) := by decide +kernel
theorem dX12_isWeek_8 : decode cX12_isWeek 8 = .ok (.if_icmp .ge 7, 3) := by decide +kernel
theorem dX12_isWeek_11 : decode cX12_isWeek 11 = .ok (.iconst 1, 1) := by decide +kernel
theorem dX12_isWeek_12 : decode cX12_isWeek 12 = .ok (.goto 4, 3) := by decide +kernel
theorem dX12_isWeek_15 : decode cX12_isWeek 15 = .ok (.iconst 0, 1) := by decide +kernel
theorem dX12_isWeek_16 : decode cX12_isWeek 16 = .ok (.ireturn, 1) := by decide +kernel
theorem dX12_likeliest_0 : decode cX12_likeliest 0 = .ok (.aload_n 0, 1) := by decide +kernel
theorem dX12_likeliest_1 : decode cX12_likeliest 1 = .ok (.iload_n 1, 1) := by decide +kernel
theorem dX12_likeliest_2 : decode cX12_likeliest 2 = .ok (.iload_n 2, 1) := by decide +kernel
theorem dX12_likeliest_3 : decode cX12_likeliest 3 = .ok (.invokevirtual 447, 3) := by decide +kernel
theorem dX12_likeliest_6 : decode cX12_likeliest 6 = .ok (.ifCond .ne 5, 3) := by decide +kernel
theorem dX12_likeliest_9 : decode cX12_likeliest 9 = .ok (.iconst (-1), 1) := by decide +kernel
theorem dX12_likeliest_10 : decode cX12_likeliest 10 = .ok (.ireturn, 1) := by decide +kernel
theorem dX12_make_0 : decode cX12_make 0 = .ok (.aload_n 0, 1) := by decide +kernel
theorem dX12_make_1 : decode cX12_make 1 = .ok (.iconst 0, 1) := by decide +kernel
theorem dX12_make_2 : decode cX12_make 2 = .ok (.iload_n 1, 1) := by decide +kernel
theorem dX12_make_3 : decode cX12_make 3 = .ok (.invokevirtual 382, 3) := by decide +kernel
theorem dX12_make_6 : decode cX12_make 6 = .ok (.ifCond .eq 38, 3) := by decide +kernel
theorem dX12_make_44 : decode cX12_make 44 = .ok (.iconst (-1), 1) := by decide +kernel
theorem dX12_make_45 : decode cX12_make 45 = .ok (.ireturn, 1) := by decide +kernel
theorem dX12_moved_0 : decode cX12_moved 0 = .ok (.aload_n 0, 1) := by decide +kernel
theorem dX12_moved_1 : decode cX12_moved 1 = .ok (.iload_n 1, 1) := by decide +kernel
theorem dX12_moved_2 : decode cX12_moved 2 = .ok (.iload_n 2, 1) := by decide +kernel
theorem dX12_moved_3 : decode cX12_moved 3 = .ok (.invokevirtual 447, 3) := by decide +kernel
theorem dX12_moved_6 : decode cX12_moved 6 = .ok (.ifCond .eq 22, 3) := by decide +kernel
theorem dX12_moved_28 : decode cX12_moved 28 = .ok (.ldc2_w 455, 3) := by decide +kernel
theorem dX12_moved_31 : decode cX12_moved 31 = .ok (.lreturn, 1) := by decide +kernel
theorem dX12_next_0 : decode cX12_next 0 = .ok (.aload_n 0, 1) := by decide +kernel
theorem dX12_next_1 : decode cX12_next 1 = .ok (.iconst 1, 1) := by decide +kernel
theorem dX12_next_2 : decode cX12_next 2 = .ok (.iload_n 1, 1) := by decide +kernel
theorem dX12_next_3 : decode cX12_next 3 = .ok (.invokevirtual 382, 3) := by decide +kernel
theorem dX12_next_6 : decode cX12_next 6 = .ok (.ifCond .eq 25, 3) := by decide +kernel
theorem dX12_next_31 : decode cX12_next 31 = .ok (.ldc2_w 457, 3) := by decide +kernel
theorem dX12_next_34 : decode cX12_next 34 = .ok (.lreturn, 1) := by decide +kernel
theorem dX12_odd_0 : decode cX12_odd 0 = .ok (.aload_n 0, 1) := by decide +kernel
theorem dX12_odd_1 : decode cX12_odd 1 = .ok (.iconst 1, 1) := by decide +kernel
theorem dX12_odd_2 : decode cX12_odd 2 = .ok (.iload_n 1, 1) := by decide +kernel
theorem dX12_odd_3 : decode cX12_odd 3 = .ok (.invokevirtual 382, 3) := by decide +kernel
theorem dX12_odd_6 : decode cX12_odd 6 = .ok (.ifCond .eq 15, 3) := by decide +kernel
theorem dX12_odd_21 : decode cX12_odd 21 = .ok (.iconst (-1), 1) := by decide +kernel
theorem dX12_odd_22 : decode cX12_odd 22 = .ok (.ireturn, 1) := by decide +kernel
theorem dX12_raw_0 : decode cX12_raw 0 = .ok (.aload_n 0, 1) := by decide +kernel
theorem dX12_raw_1 : decode cX12_raw 1 = .ok (.iload_n 1, 1) := by decide +kernel
theorem dX12_raw_2 : decode cX12_raw 2 = .ok (.invokevirtual 120, 3) := by decide +kernel
theorem dX12_raw_5 : decode cX12_raw 5 = .ok (.ifCond .eq 30, 3) := by decide +kernel
theorem dX12_raw_35 : decode cX12_raw 35 = .ok (.ldc 131, 2) := by decide +kernel
theorem dX12_raw_37 : decode cX12_raw 37 = .ok (.ireturn, 1) := by decide +kernel
theorem dX12_read_0 : decode cX12_read 0 = .ok (.aload_n 0, 1) := by decide +kernel
theorem dX12_read_1 : decode cX12_read 1 = .ok (.iload_n 1, 1) := by decide +kernel
theorem dX12_read_2 : decode cX12_read 2 = .ok (.invokevirtual 120, 3) := by decide +kernel
theorem dX12_read_5 : decode cX12_read 5 = .ok (.ifCond .eq 19, 3) := by decide +kernel
theorem dX12_read_24 : decode cX12_read 24 = .ok (.ldc 131, 2) := by decide +kernel
theorem dX12_read_26 : decode cX12_read 26 = .ok (.ireturn, 1) := by decide +kernel
theorem dX12_ripple_0 : decode cX12_ripple 0 = .ok (.aload_n 0, 1) := by decide +kernel
theorem dX12_ripple_1 : decode cX12_ripple 1 = .ok (.iload_n 1, 1) := by decide +kernel
theorem dX12_ripple_2 : decode cX12_ripple 2 = .ok (.iload_n 2, 1) := by decide +kernel
theorem dX12_ripple_3 : decode cX12_ripple 3 = .ok (.invokevirtual 447, 3) := by decide +kernel
theorem dX12_ripple_6 : decode cX12_ripple 6 = .ok (.ifCond .eq 13, 3) := by decide +kernel
theorem dX12_ripple_19 : decode cX12_ripple 19 = .ok (.ldc2_w 483, 3) := by decide +kernel
theorem dX12_ripple_22 : decode cX12_ripple 22 = .ok (.lreturn, 1) := by decide +kernel
theorem dX12_said_0 : decode cX12_said 0 = .ok (.aload_n 0, 1) := by decide +kernel
theorem dX12_said_1 : decode cX12_said 1 = .ok (.iconst 1, 1) := by decide +kernel
theorem dX12_said_2 : decode cX12_said 2 = .ok (.iload_n 1, 1) := by decide +kernel
theorem dX12_said_3 : decode cX12_said 3 = .ok (.invokevirtual 382, 3) := by decide +kernel
theorem dX12_said_6 : decode cX12_said 6 = .ok (.ifCond .eq 24, 3) := by decide +kernel
theorem dX12_said_30 : decode cX12_said 30 = .ok (.iconst (-1), 1) := by decide +kernel
theorem dX12_said_31 : decode cX12_said 31 = .ok (.ireturn, 1) := by decide +kernel
theorem dX12_sayers_0 : decode cX12_sayers 0 = .ok (.iconst 0, 1) := by decide +kernel
theorem dX12_sayers_1 : decode cX12_sayers 1 = .ok (.istore_n 2, 1) := by decide +kernel
theorem dX12_sayers_2 : decode cX12_sayers 2 = .ok (.iconst 0, 1) := by decide +kernel
theorem dX12_sayers_3 : decode cX12_sayers 3 = .ok (.istore_n 3, 1) := by decide +kernel
theorem dX12_sayers_4 : decode cX12_sayers 4 = .ok (.iload_n 3, 1) := by decide +kernel
theorem dX12_sayers_5 : decode cX12_sayers 5 = .ok (.aload_n 0, 1) := by decide +kernel
theorem dX12_sayers_6 : decode cX12_sayers 6 = .ok (.getfield 7, 3) := by decide +kernel
theorem dX12_sayers_9 : decode cX12_sayers 9 = .ok (.sipush 7665, 3) := by decide +kernel
theorem dX12_sayers_12 : decode cX12_sayers 12 = .ok (.iaload, 1) := by decide +kernel
theorem dX12_sayers_13 : decode cX12_sayers 13 = .ok (.if_icmp .ge 27, 3) := by decide +kernel
theorem dX12_sayers_40 : decode cX12_sayers 40 = .ok (.iload_n 2, 1) := by decide +kernel
theorem dX12_sayers_41 : decode cX12_sayers 41 = .ok (.ireturn, 1) := by decide +kernel
theorem dX12_says_0 : decode cX12_says 0 = .ok (.iload_n 1, 1) := by decide +kernel
theorem dX12_says_1 : decode cX12_says 1 = .ok (.i2l, 1) := by decide +kernel
theorem dX12_says_2 : decode cX12_says 2 = .ok (.lconst 0, 1) := by decide +kernel
theorem dX12_says_3 : decode cX12_says 3 = .ok (.aload_n 0, 1) := by decide +kernel
theorem dX12_says_4 : decode cX12_says 4 = .ok (.getfield 7, 3) := by decide +kernel
theorem dX12_says_7 : decode cX12_says 7 = .ok (.sipush 7665, 3) := by decide +kernel
theorem dX12_says_10 : decode cX12_says 10 = .ok (.iaload, 1) := by decide +kernel
theorem dX12_says_11 : decode cX12_says 11 = .ok (.iconst 1, 1) := by decide +kernel
theorem dX12_says_12 : decode cX12_says 12 = .ok (.isub, 1) := by decide +kernel
theorem dX12_says_13 : decode cX12_says 13 = .ok (.i2l, 1) := by decide +kernel
theorem dX12_says_14 : decode cX12_says 14 = .ok (.invokestatic 112, 3) := by decide +kernel
theorem dX12_says_17 : decode cX12_says 17 = .ok (.ifCond .eq 10, 3) := by decide +kernel
theorem dX12_says_27 : decode cX12_says 27 = .ok (.iconst (-1), 1) := by decide +kernel
theorem dX12_says_28 : decode cX12_says 28 = .ok (.ireturn, 1) := by decide +kernel
theorem dX12_smooth_0 : decode cX12_smooth 0 = .ok (.aload_n 0, 1) := by decide +kernel
theorem dX12_smooth_1 : decode cX12_smooth 1 = .ok (.iload_n 1, 1) := by decide +kernel
theorem dX12_smooth_2 : decode cX12_smooth 2 = .ok (.iload_n 2, 1) := by decide +kernel
theorem dX12_smooth_3 : decode cX12_smooth 3 = .ok (.invokevirtual 447, 3) := by decide +kernel
theorem dX12_smooth_6 : decode cX12_smooth 6 = .ok (.ifCond .ne 6, 3) := by decide +kernel
theorem dX12_smooth_9 : decode cX12_smooth 9 = .ok (.ldc 131, 2) := by decide +kernel
theorem dX12_smooth_11 : decode cX12_smooth 11 = .ok (.ireturn, 1) := by decide +kernel
theorem dX12_stuff_0 : decode cX12_stuff 0 = .ok (.aload_n 0, 1) := by decide +kernel
theorem dX12_stuff_1 : decode cX12_stuff 1 = .ok (.iload_n 1, 1) := by decide +kernel
theorem dX12_stuff_2 : decode cX12_stuff 2 = .ok (.iload_n 2, 1) := by decide +kernel
theorem dX12_stuff_3 : decode cX12_stuff 3 = .ok (.invokevirtual 447, 3) := by decide +kernel
theorem dX12_stuff_6 : decode cX12_stuff 6 = .ok (.ifCond .eq 28, 3) := by decide +kernel
theorem dX12_stuff_34 : decode cX12_stuff 34 = .ok (.ldc2_w 483, 3) := by decide +kernel
theorem dX12_stuff_37 : decode cX12_stuff 37 = .ok (.lreturn, 1) := by decide +kernel
theorem dX12_taken_0 : decode cX12_taken 0 = .ok (.aload_n 0, 1) := by decide +kernel
theorem dX12_taken_1 : decode cX12_taken 1 = .ok (.iload_n 1, 1) := by decide +kernel
theorem dX12_taken_2 : decode cX12_taken 2 = .ok (.iload_n 2, 1) := by decide +kernel
theorem dX12_taken_3 : decode cX12_taken 3 = .ok (.invokevirtual 447, 3) := by decide +kernel
theorem dX12_taken_6 : decode cX12_taken 6 = .ok (.ifCond .eq 28, 3) := by decide +kernel
theorem dX12_taken_34 : decode cX12_taken 34 = .ok (.ldc 131, 2) := by decide +kernel
theorem dX12_taken_36 : decode cX12_taken 36 = .ok (.ireturn, 1) := by decide +kernel
theorem dX12_together_0 : decode cX12_together 0 = .ok (.aload_n 0, 1) := by decide +kernel
theorem dX12_together_1 : decode cX12_together 1 = .ok (.iconst 1, 1) := by decide +kernel
theorem dX12_together_2 : decode cX12_together 2 = .ok (.iload_n 1, 1) := by decide +kernel
theorem dX12_together_3 : decode cX12_together 3 = .ok (.invokevirtual 382, 3) := by decide +kernel
theorem dX12_together_6 : decode cX12_together 6 = .ok (.ifCond .eq 35, 3) := by decide +kernel
theorem dX12_together_41 : decode cX12_together 41 = .ok (.ldc_w 499, 3) := by decide +kernel
theorem dX12_together_44 : decode cX12_together 44 = .ok (.ireturn, 1) := by decide +kernel
theorem dX12_weeks_0 : decode cX12_weeks 0 = .ok (.aload_n 0, 1) := by decide +kernel
theorem dX12_weeks_1 : decode cX12_weeks 1 = .ok (.iconst 1, 1) := by decide +kernel
theorem dX12_weeks_2 : decode cX12_weeks 2 = .ok (.iload_n 1, 1) := by decide +kernel
theorem dX12_weeks_3 : decode cX12_weeks 3 = .ok (.invokevirtual 382, 3) := by decide +kernel
theorem dX12_weeks_6 : decode cX12_weeks 6 = .ok (.ifCond .eq 69, 3) := by decide +kernel
theorem dX12_weeks_75 : decode cX12_weeks 75 = .ok (.iconst (-1), 1) := by decide +kernel
theorem dX12_weeks_76 : decode cX12_weeks 76 = .ok (.ireturn, 1) := by decide +kernel
theorem dX12_weightiest_0 : decode cX12_weightiest 0 = .ok (.aload_n 0, 1) := by decide +kernel
theorem dX12_weightiest_1 : decode cX12_weightiest 1 = .ok (.iload_n 1, 1) := by decide +kernel
theorem dX12_weightiest_2 : decode cX12_weightiest 2 = .ok (.iload_n 2, 1) := by decide +kernel
theorem dX12_weightiest_3 : decode cX12_weightiest 3 = .ok (.invokevirtual 447, 3) := by decide +kernel
theorem dX12_weightiest_6 : decode cX12_weightiest 6 = .ok (.ifCond .ne 5, 3) := by decide +kernel
theorem dX12_weightiest_9 : decode cX12_weightiest 9 = .ok (.iconst (-1), 1) := by decide +kernel
theorem dX12_weightiest_10 : decode cX12_weightiest 10 = .ok (.ireturn, 1) := by decide +kernel
theorem dX12_without_0 : decode cX12_without 0 = .ok (.aload_n 0, 1) := by decide +kernel
theorem dX12_without_1 : decode cX12_without 1 = .ok (.iload_n 1, 1) := by decide +kernel
theorem dX12_without_2 : decode cX12_without 2 = .ok (.iload_n 2, 1) := by decide +kernel
theorem dX12_without_3 : decode cX12_without 3 = .ok (.invokevirtual 447, 3) := by decide +kernel
theorem dX12_without_6 : decode cX12_without 6 = .ok (.ifCond .eq 32, 3) := by decide +kernel
theorem dX12_without_38 : decode cX12_without 38 = .ok (.ldc 131, 2) := by decide +kernel
theorem dX12_without_40 : decode cX12_without 40 = .ok (.ireturn, 1) := by decide +kernel
