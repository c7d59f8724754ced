theorem dX12_noises_0 : decode cX12_noises 0 = .ok (.iconst 0, 1) := by decide +kernel
theorem dX12_noises_1 : decode cX12_noises 1 = .ok (.istore_n 2, 1) := by decide +kernel
theorem dX12_noises_2 : decode cX12_noises 2 = .ok (.iload_n 2, 1) := by decide +kernel
theorem dX12_noises_3 : decode cX12_noises 3 = .ok (.iconst 4, 1) := by decide +kernel
theorem dX12_noises_4 : decode cX12_noises 4 = .ok (.if_icmp .ge 23, 3) := by decide +kernel
theorem dX12_noises_7 : decode cX12_noises 7 = .ok (.aload_n 0, 1) := by decide +kernel
theorem dX12_noises_8 : decode cX12_noises 8 = .ok (.getfield 97, 3) := by decide +kernel
theorem dX12_noises_11 : decode cX12_noises 11 = .ok (.iload_n 2, 1) := by decide +kernel
theorem dX12_noises_12 : decode cX12_noises 12 = .ok (.lconst 0, 1) := by decide +kernel
theorem dX12_noises_13 : decode cX12_noises 13 = .ok (.lastore, 1) := by decide +kernel
theorem dX12_noises_14 : decode cX12_noises 14 = .ok (.aload_n 0, 1) := by decide +kernel
theorem dX12_noises_15 : decode cX12_noises 15 = .ok (.getfield 100, 3) := by decide +kernel
theorem dX12_noises_18 : decode cX12_noises 18 = .ok (.iload_n 2, 1) := by decide +kernel
theorem dX12_noises_19 : decode cX12_noises 19 = .ok (.iconst 0, 1) := by decide +kernel
theorem dX12_noises_20 : decode cX12_noises 20 = .ok (.iastore, 1) := by decide +kernel
theorem dX12_noises_21 : decode cX12_noises 21 = .ok (.iinc 2 1, 3) := by decide +kernel
theorem dX12_noises_24 : decode cX12_noises 24 = .ok (.goto (-22), 3) := by decide +kernel
theorem dX12_noises_27 : decode cX12_noises 27 = .ok (.iconst 0, 1) := by decide +kernel
theorem dX12_noises_28 : decode cX12_noises 28 = .ok (.istore_n 2, 1) := by decide +kernel
theorem dX12_noises_29 : decode cX12_noises 29 = .ok (.iload_n 2, 1) := by decide +kernel
theorem dX12_noises_30 : decode cX12_noises 30 = .ok (.aload_n 0, 1) := by decide +kernel
theorem dX12_noises_31 : decode cX12_noises 31 = .ok (.getfield 7, 3) := by decide +kernel
theorem dX12_noises_34 : decode cX12_noises 34 = .ok (.iconst 1, 1) := by decide +kernel
theorem dX12_noises_35 : decode cX12_noises 35 = .ok (.iaload, 1) := by decide +kernel
theorem dX12_noises_36 : decode cX12_noises 36 = .ok (.if_icmp .ge 59, 3) := by decide +kernel
theorem dX12_noises_39 : decode cX12_noises 39 = .ok (.aload_n 0, 1) := by decide +kernel
theorem dX12_noises_40 : decode cX12_noises 40 = .ok (.iload_n 1, 1) := by decide +kernel
theorem dX12_noises_41 : decode cX12_noises 41 = .ok (.iload_n 2, 1) := by decide +kernel
theorem dX12_noises_42 : decode cX12_noises 42 = .ok (.invokevirtual 450, 3) := by decide +kernel
theorem dX12_noises_45 : decode cX12_noises 45 = .ok (.pop2, 1) := by decide +kernel
theorem dX12_noises_46 : decode cX12_noises 46 = .ok (.aload_n 0, 1) := by decide +kernel
theorem dX12_noises_47 : decode cX12_noises 47 = .ok (.getfield 398, 3) := by decide +kernel
theorem dX12_noises_50 : decode cX12_noises 50 = .ok (.ifCond .ne 6, 3) := by decide +kernel
theorem dX12_noises_53 : decode cX12_noises 53 = .ok (.goto 36, 3) := by decide +kernel
theorem dX12_noises_56 : decode cX12_noises 56 = .ok (.aload_n 0, 1) := by decide +kernel
theorem dX12_noises_57 : decode cX12_noises 57 = .ok (.getfield 97, 3) := by decide +kernel
theorem dX12_noises_60 : decode cX12_noises 60 = .ok (.aload_n 0, 1) := by decide +kernel
theorem dX12_noises_61 : decode cX12_noises 61 = .ok (.iload_n 2, 1) := by decide +kernel
theorem dX12_noises_62 : decode cX12_noises 62 = .ok (.iconst 0, 1) := by decide +kernel
theorem dX12_noises_63 : decode cX12_noises 63 = .ok (.invokevirtual 132, 3) := by decide +kernel
theorem dX12_noises_66 : decode cX12_noises 66 = .ok (.dup2, 1) := by decide +kernel
theorem dX12_noises_67 : decode cX12_noises 67 = .ok (.laload, 1) := by decide +kernel
theorem dX12_noises_68 : decode cX12_noises 68 = .ok (.aload_n 0, 1) := by decide +kernel
theorem dX12_noises_69 : decode cX12_noises 69 = .ok (.invokevirtual 434, 3) := by decide +kernel
theorem dX12_noises_72 : decode cX12_noises 72 = .ok (.ladd, 1) := by decide +kernel
theorem dX12_noises_73 : decode cX12_noises 73 = .ok (.lastore, 1) := by decide +kernel
theorem dX12_noises_74 : decode cX12_noises 74 = .ok (.aload_n 0, 1) := by decide +kernel
theorem dX12_noises_75 : decode cX12_noises 75 = .ok (.getfield 100, 3) := by decide +kernel
theorem dX12_noises_78 : decode cX12_noises 78 = .ok (.aload_n 0, 1) := by decide +kernel
theorem dX12_noises_79 : decode cX12_noises 79 = .ok (.iload_n 2, 1) := by decide +kernel
theorem dX12_noises_80 : decode cX12_noises 80 = .ok (.iconst 0, 1) := by decide +kernel
theorem dX12_noises_81 : decode cX12_noises 81 = .ok (.invokevirtual 132, 3) := by decide +kernel
theorem dX12_noises_84 : decode cX12_noises 84 = .ok (.dup2, 1) := by decide +kernel
theorem dX12_noises_85 : decode cX12_noises 85 = .ok (.iaload, 1) := by decide +kernel
theorem dX12_noises_86 : decode cX12_noises 86 = .ok (.iconst 1, 1) := by decide +kernel
theorem dX12_noises_87 : decode cX12_noises 87 = .ok (.iadd, 1) := by decide +kernel
theorem dX12_noises_88 : decode cX12_noises 88 = .ok (.iastore, 1) := by decide +kernel
theorem dX12_noises_89 : decode cX12_noises 89 = .ok (.iinc 2 1, 3) := by decide +kernel
theorem dX12_noises_92 : decode cX12_noises 92 = .ok (.goto (-63), 3) := by decide +kernel
theorem dX12_noises_95 : decode cX12_noises 95 = .ok (.iconst 0, 1) := by decide +kernel
theorem dX12_noises_96 : decode cX12_noises 96 = .ok (.istore_n 2, 1) := by decide +kernel
theorem dX12_noises_97 : decode cX12_noises 97 = .ok (.iload_n 2, 1) := by decide +kernel
theorem dX12_noises_98 : decode cX12_noises 98 = .ok (.iconst 4, 1) := by decide +kernel
theorem dX12_noises_99 : decode cX12_noises 99 = .ok (.if_icmp .ge 42, 3) := by decide +kernel
theorem dX12_noises_102 : decode cX12_noises 102 = .ok (.aload_n 0, 1) := by decide +kernel
theorem dX12_noises_103 : decode cX12_noises 103 = .ok (.getfield 97, 3) := by decide +kernel
theorem dX12_noises_106 : decode cX12_noises 106 = .ok (.iload_n 2, 1) := by decide +kernel
theorem dX12_noises_107 : decode cX12_noises 107 = .ok (.aload_n 0, 1) := by decide +kernel
theorem dX12_noises_108 : decode cX12_noises 108 = .ok (.getfield 100, 3) := by decide +kernel
theorem dX12_noises_111 : decode cX12_noises 111 = .ok (.iload_n 2, 1) := by decide +kernel
theorem dX12_noises_112 : decode cX12_noises 112 = .ok (.iaload, 1) := by decide +kernel
theorem dX12_noises_113 : decode cX12_noises 113 = .ok (.ifCond .ne 7, 3) := by decide +kernel
theorem dX12_noises_116 : decode cX12_noises 116 = .ok (.lconst 0, 1) := by decide +kernel
theorem dX12_noises_117 : decode cX12_noises 117 = .ok (.goto 17, 3) := by decide +kernel
theorem dX12_noises_120 : decode cX12_noises 120 = .ok (.aload_n 0, 1) := by decide +kernel
theorem dX12_noises_121 : decode cX12_noises 121 = .ok (.getfield 97, 3) := by decide +kernel
theorem dX12_noises_124 : decode cX12_noises 124 = .ok (.iload_n 2, 1) := by decide +kernel
theorem dX12_noises_125 : decode cX12_noises 125 = .ok (.laload, 1) := by decide +kernel
theorem dX12_noises_126 : decode cX12_noises 126 = .ok (.aload_n 0, 1) := by decide +kernel
theorem dX12_noises_127 : decode cX12_noises 127 = .ok (.getfield 100, 3) := by decide +kernel
theorem dX12_noises_130 : decode cX12_noises 130 = .ok (.iload_n 2, 1) := by decide +kernel
theorem dX12_noises_131 : decode cX12_noises 131 = .ok (.iaload, 1) := by decide +kernel
theorem dX12_noises_132 : decode cX12_noises 132 = .ok (.i2l, 1) := by decide +kernel
theorem dX12_noises_133 : decode cX12_noises 133 = .ok (.ldiv, 1) := by decide +kernel
theorem dX12_noises_134 : decode cX12_noises 134 = .ok (.lastore, 1) := by decide +kernel
theorem dX12_noises_135 : decode cX12_noises 135 = .ok (.iinc 2 1, 3) := by decide +kernel
theorem dX12_noises_138 : decode cX12_noises 138 = .ok (.goto (-41), 3) := by decide +kernel
theorem dX12_noises_141 : decode cX12_noises 141 = .ok (.return_, 1) := by decide +kernel
theorem wk_178 : Cond.fieldLink RX12 97 "ThinLineModel" "noiseOf" "[J" ∈ tl_L := List.mem_filter.mpr ⟨lw_m6 (i := 110) rfl, rfl⟩
theorem wk_179 : Cond.fieldLink RX12 100 "ThinLineModel" "noiseMany" "[I" ∈ tl_L := List.mem_filter.mpr ⟨lw_m6 (i := 111) rfl, rfl⟩
theorem dX12_worthOf_0 : decode cX12_worthOf 0 = .ok (.aload_n 0, 1) := by decide +kernel
theorem dX12_worthOf_1 : decode cX12_worthOf 1 = .ok (.getfield 97, 3) := by decide +kernel
theorem dX12_worthOf_4 : decode cX12_worthOf 4 = .ok (.aload_n 0, 1) := by decide +kernel
theorem dX12_worthOf_5 : decode cX12_worthOf 5 = .ok (.getfield 7, 3) := by decide +kernel
theorem dX12_worthOf_8 : decode cX12_worthOf 8 = .ok (.sipush 421, 3) := by decide +kernel
theorem dX12_worthOf_11 : decode cX12_worthOf 11 = .ok (.iconst 2, 1) := by decide +kernel
theorem dX12_worthOf_12 : decode cX12_worthOf 12 = .ok (.iload_n 1, 1) := by decide +kernel
theorem dX12_worthOf_13 : decode cX12_worthOf 13 = .ok (.imul, 1) := by decide +kernel
theorem dX12_worthOf_14 : decode cX12_worthOf 14 = .ok (.iadd, 1) := by decide +kernel
theorem dX12_worthOf_15 : decode cX12_worthOf 15 = .ok (.iaload, 1) := by decide +kernel
theorem dX12_worthOf_16 : decode cX12_worthOf 16 = .ok (.laload, 1) := by decide +kernel
theorem dX12_worthOf_17 : decode cX12_worthOf 17 = .ok (.lstore_n 2, 1) := by decide +kernel
theorem dX12_worthOf_18 : decode cX12_worthOf 18 = .ok (.lload_n 2, 1) := by decide +kernel
theorem dX12_worthOf_19 : decode cX12_worthOf 19 = .ok (.lconst 0, 1) := by decide +kernel
theorem dX12_worthOf_20 : decode cX12_worthOf 20 = .ok (.lcmp, 1) := by decide +kernel
theorem dX12_worthOf_21 : decode cX12_worthOf 21 = .ok (.ifCond .ne 7, 3) := by decide +kernel
theorem dX12_worthOf_24 : decode cX12_worthOf 24 = .ok (.lconst 0, 1) := by decide +kernel
theorem dX12_worthOf_25 : decode cX12_worthOf 25 = .ok (.goto 24, 3) := by decide +kernel
theorem dX12_worthOf_28 : decode cX12_worthOf 28 = .ok (.aload_n 0, 1) := by decide +kernel
theorem dX12_worthOf_29 : decode cX12_worthOf 29 = .ok (.getfield 7, 3) := by decide +kernel
theorem dX12_worthOf_32 : decode cX12_worthOf 32 = .ok (.sipush 421, 3) := by decide +kernel
theorem dX12_worthOf_35 : decode cX12_worthOf 35 = .ok (.iconst 2, 1) := by decide +kernel
theorem dX12_worthOf_36 : decode cX12_worthOf 36 = .ok (.iload_n 1, 1) := by decide +kernel
theorem dX12_worthOf_37 : decode cX12_worthOf 37 = .ok (.imul, 1) := by decide +kernel
theorem dX12_worthOf_38 : decode cX12_worthOf 38 = .ok (.iadd, 1) := by decide +kernel
theorem dX12_worthOf_39 : decode cX12_worthOf 39 = .ok (.iconst 1, 1) := by decide +kernel
theorem dX12_worthOf_40 : decode cX12_worthOf 40 = .ok (.iadd, 1) := by decide +kernel
theorem dX12_worthOf_41 : decode cX12_worthOf 41 = .ok (.iaload, 1) := by decide +kernel
theorem dX12_worthOf_42 : decode cX12_worthOf 42 = .ok (.i2l, 1) := by decide +kernel
theorem dX12_worthOf_43 : decode cX12_worthOf 43 = .ok (.ldc2_w 532, 3) := by decide +kernel
theorem dX12_worthOf_46 : decode cX12_worthOf 46 = .ok (.lmul, 1) := by decide +kernel
theorem dX12_worthOf_47 : decode cX12_worthOf 47 = .ok (.lload_n 2, 1) := by decide +kernel
theorem dX12_worthOf_48 : decode cX12_worthOf 48 = .ok (.ldiv, 1) := by decide +kernel
theorem dX12_worthOf_49 : decode cX12_worthOf 49 = .ok (.lreturn, 1) := by decide +kernel
theorem wk_1413 : Cond.constantLong RX12 532 (1000000) ∈ tl_L := List.mem_filter.mpr ⟨lw_m9 (i := 13) rfl, rfl⟩
theorem dX12_next_0 : decode cX12_next 0 = .ok (.aload_n 0, 1) := by decide +kernel
theorem dX12_next_1 : decode cX12_next 1 = .ok (.iconst 1, 1) := by decide +kernel
theorem dX12_next_2 : decode cX12_next 2 = .ok (.iload_n 1, 1) := by decide +kernel
theorem dX12_next_3 : decode cX12_next 3 = .ok (.invokevirtual 382, 3) := by decide +kernel
theorem dX12_next_6 : decode cX12_next 6 = .ok (.ifCond .eq 25, 3) := by decide +kernel
theorem dX12_next_9 : decode cX12_next 9 = .ok (.iload_n 2, 1) := by decide +kernel
theorem dX12_next_10 : decode cX12_next 10 = .ok (.i2l, 1) := by decide +kernel
theorem dX12_next_11 : decode cX12_next 11 = .ok (.lconst 0, 1) := by decide +kernel
theorem dX12_next_12 : decode cX12_next 12 = .ok (.ldc2_w 118, 3) := by decide +kernel
theorem dX12_next_15 : decode cX12_next 15 = .ok (.invokestatic 112, 3) := by decide +kernel
theorem dX12_next_18 : decode cX12_next 18 = .ok (.ifCond .eq 13, 3) := by decide +kernel
theorem dX12_next_21 : decode cX12_next 21 = .ok (.iload_n 3, 1) := by decide +kernel
theorem dX12_next_22 : decode cX12_next 22 = .ok (.i2l, 1) := by decide +kernel
theorem dX12_next_23 : decode cX12_next 23 = .ok (.lconst 0, 1) := by decide +kernel
theorem dX12_next_24 : decode cX12_next 24 = .ok (.lconst 1, 1) := by decide +kernel
theorem dX12_next_25 : decode cX12_next 25 = .ok (.invokestatic 112, 3) := by decide +kernel
theorem dX12_next_28 : decode cX12_next 28 = .ok (.ifCond .ne 7, 3) := by decide +kernel
theorem dX12_next_31 : decode cX12_next 31 = .ok (.ldc2_w 457, 3) := by decide +kernel
theorem dX12_next_34 : decode cX12_next 34 = .ok (.lreturn, 1) := by decide +kernel
theorem dX12_next_35 : decode cX12_next 35 = .ok (.aload_n 0, 1) := by decide +kernel
theorem dX12_next_36 : decode cX12_next 36 = .ok (.iload_n 1, 1) := by decide +kernel
theorem dX12_next_37 : decode cX12_next 37 = .ok (.invokevirtual 534, 3) := by decide +kernel
theorem dX12_next_40 : decode cX12_next 40 = .ok (.iconst 0, 1) := by decide +kernel
theorem dX12_next_41 : decode cX12_next 41 = .ok (.istore 4, 2) := by decide +kernel
theorem dX12_next_43 : decode cX12_next 43 = .ok (.lconst 0, 1) := by decide +kernel
theorem dX12_next_44 : decode cX12_next 44 = .ok (.lstore 5, 2) := by decide +kernel
theorem dX12_next_46 : decode cX12_next 46 = .ok (.iconst 0, 1) := by decide +kernel
theorem dX12_next_47 : decode cX12_next 47 = .ok (.istore 7, 2) := by decide +kernel
theorem dX12_next_49 : decode cX12_next 49 = .ok (.iconst 1, 1) := by decide +kernel
theorem dX12_next_50 : decode cX12_next 50 = .ok (.istore 8, 2) := by decide +kernel
theorem dX12_next_52 : decode cX12_next 52 = .ok (.iload 8, 2) := by decide +kernel
theorem dX12_next_54 : decode cX12_next 54 = .ok (.iconst 1, 1) := by decide +kernel
theorem dX12_next_55 : decode cX12_next 55 = .ok (.aload_n 0, 1) := by decide +kernel
theorem dX12_next_56 : decode cX12_next 56 = .ok (.getfield 7, 3) := by decide +kernel
theorem dX12_next_59 : decode cX12_next 59 = .ok (.iconst 4, 1) := by decide +kernel
theorem dX12_next_60 : decode cX12_next 60 = .ok (.iaload, 1) := by decide +kernel
theorem dX12_next_61 : decode cX12_next 61 = .ok (.ishl, 1) := by decide +kernel
theorem dX12_next_62 : decode cX12_next 62 = .ok (.if_icmp .ge 123, 3) := by decide +kernel
theorem dX12_next_65 : decode cX12_next 65 = .ok (.lconst 0, 1) := by decide +kernel
theorem dX12_next_66 : decode cX12_next 66 = .ok (.lstore 9, 2) := by decide +kernel
theorem dX12_next_68 : decode cX12_next 68 = .ok (.iconst 0, 1) := by decide +kernel
theorem dX12_next_69 : decode cX12_next 69 = .ok (.istore 11, 2) := by decide +kernel
theorem dX12_next_71 : decode cX12_next 71 = .ok (.iconst 0, 1) := by decide +kernel
theorem dX12_next_72 : decode cX12_next 72 = .ok (.istore 12, 2) := by decide +kernel
theorem dX12_next_74 : decode cX12_next 74 = .ok (.iload 12, 2) := by decide +kernel
theorem dX12_next_76 : decode cX12_next 76 = .ok (.aload_n 0, 1) := by decide +kernel
theorem dX12_next_77 : decode cX12_next 77 = .ok (.getfield 7, 3) := by decide +kernel
theorem dX12_next_80 : decode cX12_next 80 = .ok (.iconst 4, 1) := by decide +kernel
theorem dX12_next_81 : decode cX12_next 81 = .ok (.iaload, 1) := by decide +kernel
theorem dX12_next_82 : decode cX12_next 82 = .ok (.if_icmp .ge 53, 3) := by decide +kernel
theorem dX12_next_85 : decode cX12_next 85 = .ok (.iload 8, 2) := by decide +kernel
theorem dX12_next_87 : decode cX12_next 87 = .ok (.iload 12, 2) := by decide +kernel
theorem dX12_next_89 : decode cX12_next 89 = .ok (.ishr, 1) := by decide +kernel
theorem dX12_next_90 : decode cX12_next 90 = .ok (.iconst 1, 1) := by decide +kernel
theorem dX12_next_91 : decode cX12_next 91 = .ok (.iand, 1) := by decide +kernel
theorem dX12_next_92 : decode cX12_next 92 = .ok (.ifCond .ne 6, 3) := by decide +kernel
theorem dX12_next_95 : decode cX12_next 95 = .ok (.goto 34, 3) := by decide +kernel
theorem dX12_next_98 : decode cX12_next 98 = .ok (.lload 9, 2) := by decide +kernel
theorem dX12_next_100 : decode cX12_next 100 = .ok (.aload_n 0, 1) := by decide +kernel
theorem dX12_next_101 : decode cX12_next 101 = .ok (.iload 12, 2) := by decide +kernel
theorem dX12_next_103 : decode cX12_next 103 = .ok (.invokevirtual 537, 3) := by decide +kernel
theorem dX12_next_106 : decode cX12_next 106 = .ok (.ladd, 1) := by decide +kernel
theorem dX12_next_107 : decode cX12_next 107 = .ok (.lstore 9, 2) := by decide +kernel
theorem dX12_next_109 : decode cX12_next 109 = .ok (.iload 11, 2) := by decide +kernel
theorem dX12_next_111 : decode cX12_next 111 = .ok (.aload_n 0, 1) := by decide +kernel
theorem dX12_next_112 : decode cX12_next 112 = .ok (.getfield 7, 3) := by decide +kernel
theorem dX12_next_115 : decode cX12_next 115 = .ok (.sipush 421, 3) := by decide +kernel
theorem dX12_next_118 : decode cX12_next 118 = .ok (.iconst 2, 1) := by decide +kernel
theorem dX12_next_119 : decode cX12_next 119 = .ok (.iload 12, 2) := by decide +kernel
theorem dX12_next_121 : decode cX12_next 121 = .ok (.imul, 1) := by decide +kernel
theorem dX12_next_122 : decode cX12_next 122 = .ok (.iadd, 1) := by decide +kernel
theorem dX12_next_123 : decode cX12_next 123 = .ok (.iconst 1, 1) := by decide +kernel
theorem dX12_next_124 : decode cX12_next 124 = .ok (.iadd, 1) := by decide +kernel
theorem dX12_next_125 : decode cX12_next 125 = .ok (.iaload, 1) := by decide +kernel
theorem dX12_next_126 : decode cX12_next 126 = .ok (.iadd, 1) := by decide +kernel
theorem dX12_next_127 : decode cX12_next 127 = .ok (.istore 11, 2) := by decide +kernel
theorem dX12_next_129 : decode cX12_next 129 = .ok (.iinc 12 1, 3) := by decide +kernel
theorem dX12_next_132 : decode cX12_next 132 = .ok (.goto (-58), 3) := by decide +kernel
theorem dX12_next_135 : decode cX12_next 135 = .ok (.iload 11, 2) := by decide +kernel
theorem dX12_next_137 : decode cX12_next 137 = .ok (.iload_n 2, 1) := by decide +kernel
theorem dX12_next_138 : decode cX12_next 138 = .ok (.if_icmp .gt 41, 3) := by decide +kernel
theorem dX12_next_141 : decode cX12_next 141 = .ok (.lload 9, 2) := by decide +kernel
theorem dX12_next_143 : decode cX12_next 143 = .ok (.lload 5, 2) := by decide +kernel
theorem dX12_next_145 : decode cX12_next 145 = .ok (.lcmp, 1) := by decide +kernel
theorem dX12_next_146 : decode cX12_next 146 = .ok (.ifCond .lt 33, 3) := by decide +kernel
theorem dX12_next_149 : decode cX12_next 149 = .ok (.lload 9, 2) := by decide +kernel
theorem dX12_next_151 : decode cX12_next 151 = .ok (.lload 5, 2) := by decide +kernel
theorem dX12_next_153 : decode cX12_next 153 = .ok (.lcmp, 1) := by decide +kernel
theorem dX12_next_154 : decode cX12_next 154 = .ok (.ifCond .ne 13, 3) := by decide +kernel
theorem dX12_next_157 : decode cX12_next 157 = .ok (.iload 11, 2) := by decide +kernel
theorem dX12_next_159 : decode cX12_next 159 = .ok (.iload 7, 2) := by decide +kernel
theorem dX12_next_161 : decode cX12_next 161 = .ok (.if_icmp .lt 6, 3) := by decide +kernel
theorem dX12_next_164 : decode cX12_next 164 = .ok (.goto 15, 3) := by decide +kernel
theorem dX12_next_167 : decode cX12_next 167 = .ok (.iload 8, 2) := by decide +kernel
theorem dX12_next_169 : decode cX12_next 169 = .ok (.istore 4, 2) := by decide +kernel
theorem dX12_next_171 : decode cX12_next 171 = .ok (.lload 9, 2) := by decide +kernel
theorem dX12_next_173 : decode cX12_next 173 = .ok (.lstore 5, 2) := by decide +kernel
theorem dX12_next_175 : decode cX12_next 175 = .ok (.iload 11, 2) := by decide +kernel
theorem dX12_next_177 : decode cX12_next 177 = .ok (.istore 7, 2) := by decide +kernel
theorem dX12_next_179 : decode cX12_next 179 = .ok (.iinc 8 1, 3) := by decide +kernel
theorem dX12_next_182 : decode cX12_next 182 = .ok (.goto (-130), 3) := by decide +kernel
theorem dX12_next_185 : decode cX12_next 185 = .ok (.iload_n 3, 1) := by decide +kernel
theorem dX12_next_186 : decode cX12_next 186 = .ok (.ifCond .ne 9, 3) := by decide +kernel
theorem dX12_next_189 : decode cX12_next 189 = .ok (.iload 4, 2) := by decide +kernel
theorem dX12_next_191 : decode cX12_next 191 = .ok (.i2l, 1) := by decide +kernel
theorem dX12_next_192 : decode cX12_next 192 = .ok (.goto 5, 3) := by decide +kernel
theorem dX12_next_195 : decode cX12_next 195 = .ok (.lload 5, 2) := by decide +kernel
theorem dX12_next_197 : decode cX12_next 197 = .ok (.lreturn, 1) := by decide +kernel
theorem wk_1405 : Cond.methodLink RX12 534 yX12_noises ∈ tl_L := List.mem_filter.mpr ⟨lw_m9 (i := 5) rfl, rfl⟩
theorem wk_1406 : Cond.instanceMethod yX12_noises ∈ tl_L := List.mem_filter.mpr ⟨lw_m9 (i := 7) rfl, rfl⟩
theorem wk_1407 : Cond.selects RX12 yX12_noises yX12_noises ∈ tl_L := List.mem_filter.mpr ⟨lw_s11 (i := 12) (q := (yX12_noises, 49)) rfl, rfl⟩
theorem wk_1408 : Cond.code yX12_noises cX12_noises 3 none ∈ tl_L := List.mem_filter.mpr ⟨lw_m9 (i := 8) rfl, rfl⟩
theorem wk_1409 : Cond.methodLink RX12 537 yX12_worthOf ∈ tl_L := List.mem_filter.mpr ⟨lw_m9 (i := 9) rfl, rfl⟩
theorem wk_1410 : Cond.instanceMethod yX12_worthOf ∈ tl_L := List.mem_filter.mpr ⟨lw_m9 (i := 11) rfl, rfl⟩
theorem wk_1411 : Cond.selects RX12 yX12_worthOf yX12_worthOf ∈ tl_L := List.mem_filter.mpr ⟨lw_s11 (i := 13) (q := (yX12_worthOf, 49)) rfl, rfl⟩
theorem wk_1412 : Cond.code yX12_worthOf cX12_worthOf 4 (some .long) ∈ tl_L := List.mem_filter.mpr ⟨lw_m9 (i := 12) rfl, rfl⟩
theorem lk_X12_534 : tl_kV RX12 534 RX12 yX12_noises cX12_noises 3 none 1 := ⟨wk_1408, wk_1405, wk_1406, wk_1407, wk_5, ⟨by decide +kernel, by decide +kernel, by decide +kernel⟩⟩
theorem lk_X12_537 : tl_kV RX12 537 RX12 yX12_worthOf cX12_worthOf 4 (some .long) 1 := ⟨wk_1412, wk_1409, wk_1410, wk_1411, wk_5, ⟨by decide +kernel, by decide +kernel, by decide +kernel⟩⟩
set_option maxHeartbeats 4000000 in
set_option maxRecDepth 100000 in
theorem r_X12_noises (l : Launch) (D : va_G) (cy : Nat → ClassId) (sz : Nat) (L : List Nat) (K : Nat → tk_K) (Γ : tk_G) (f : Nat → va_E) (o : Nat) (p0 : Int32) (ho : tp_r L K 39 (0) 0 o) (htx : tx_ok (Γ (43, 8800, 0)) (Γ (45, 1056, 0)) (Γ (46, 22, 0)) (Γ (47, 6, 0)) (Γ (48, 22, 0)) (Γ (49, 22, 0)) (Γ (50, 22, 0)) (Γ (51, 22, 0)) (Γ (42, 3, 0))) (hsd : ts_said (Γ (40, 7666, 0)) (Γ (42, 3, 0) 1)) (hcan : 0 ≤ p0.toInt ∧ p0.toInt < Γ (42, 3, 0) 1) : Met l yX12_noises (tl_w yX12_noises cX12_noises 3 none) ({ frames := 7, cells := 0, slots := 0, locals := 177 }) (va_Pc [.ref o, .int p0] (tp_P D cy L K Γ f sz)) (va_Qv (fun (u : (Nat → va_E) × tk_G) => u.2 (39, 0, 0) 0 = Γ (39, 0, 0) 0) (tp_BG D cy L K Γ f [39, 58, 57, 60, 61, 62, 63, 59, 68, 69]) (tp_A L sz)) 0 0 (tp_A L sz) := by
  refine Met.ofW (cc := cX12_noises) (maxL := 3) (ret := none) (by decide) rfl ?_
  intro p e s m args below meth c s₁ B hml hv
  obtain ⟨rfl, hsz, hP, hK, hL, hI, hN, hU⟩ := hv
  have hx := B.exec
  have hb := B.bytes
  have hr := B.returns
  have hta := tl_hta (atoms_spec (ws := tl_w yX12_noises cX12_noises 3 none) B.pre)
  have hown : s.vm.findClass RX12 = some m.cls := findClass_of_methodNamed B.named
  have hlocks := B.notSynchronized
  subst hsz
  have hI0 := hI
  generalize hAe : tp_A L s.heap.size = A
  have hA : ∀ q : Nat, s.heap.size ≤ q → A q := fun q h => by rw [← hAe]; exact Or.inr h
  have hAL : ∀ q ∈ L, A q := fun q h => by rw [← hAe]; exact Or.inl h
  have hAf : ∀ (H : Heap), s.heap.size ≤ H.size → ∀ q, tp_A L H.size q → A q := fun H h q hq => hq.elim (hAL q) (fun h2 => hA q (Nat.le_trans h h2))
  have hS : va_S A s.heap s.heap [] := va_S.rf
  have hD : va_D A (va_pl L f) := tp_D hL hAL
  have hfr : ∀ b, (K b).1 ∉ ([39, 58, 57, 60, 61, 62, 63, 59, 68, 69] : List Nat) → f b = f b := fun _ _ => rfl
  have hgr : ∀ κ : tk_K, κ.1 ∉ ([39, 58, 57, 60, 61, 62, 63, 59, 68, 69] : List Nat) → Γ κ = Γ κ := fun _ _ => rfl
  have hl := lv_entry ([.ref o, .int p0]) (n := 3) (Nat.le_of_ble_eq_true rfl)
  rw [lg_entry_eq]
  generalize (lg_sl ([.ref o, .int p0]) ++ List.replicate (3 - (lg_sl ([.ref o, .int p0])).length) Slot.unset).toArray = ls at hl ⊢
  have hl : lv_has ls 3 [(0, .ref o), (1, .int p0)] := hl
  have hs := ts_hs hsd
  have hraw := ts_raw hsd
  have hslp := ts_slp hsd
  have htb := htx.1
  refine lv_iconst (v := 0) hx hb dX12_noises_0 (by decide) ?_
  refine lv_istore_n (lv' := [(2, .int 0), (0, .ref o), (1, .int p0)]) hx hb dX12_noises_1 rfl hl (by decide) rfl (fun ls hl => ?_)
  refine tq_start hP hS (fun H locs hP hS => ?_)
  refine tl_ind (G := fun H locs ls => W p l e ((headSpec (tl_w yX12_noises cX12_noises 3 none) ({ frames := 7, cells := 0, slots := 0, locals := 177 })).room) s m #[.ref o, .int p0] below meth c H locs 0 0 (MQ below (va_Qv (fun (u : (Nat → va_E) × tk_G) => u.2 (39, 0, 0) 0 = Γ (39, 0, 0) 0) (tp_BG D cy L K Γ f [39, 58, 57, 60, 61, 62, 63, 59, 68, 69]) A) #[.ref o, .int p0] s 0 0 A) (F0 m 2 ls [])) (α := (Nat → va_E) × Int32) (fun aq => (4 - aq.2.toInt).toNat) (fun aq H locs ls => (0 ≤ aq.2.toInt) ∧ va_P D vwCl (va_pl L aq.1) H ∧ tp_I cy L K Γ aq.1 ∧ (∀ b, (K b).1 ∉ ([39, 58, 57, 60, 61, 62, 63, 59, 68, 69] : List Nat) → aq.1 b = f b) ∧ va_S A s.heap H locs ∧ lv_has ls 3 [(2, .int aq.2), (0, .ref o), (1, .int p0)]) ?_ (f, (0 : Int32)) H locs ls ⟨(show 0 ≤ (0 : Int) from (by omega)), hP, hI, hfr, hS, lv_sub hl [0, 1, 2] rfl⟩
  rintro ⟨f_1, v2⟩ H locs ls ⟨hr2, hP, hI, hfr, hS, hl⟩ ih2
  have hP : va_P D vwCl (va_pl L f_1) H := hP
  have hI : tp_I cy L K Γ f_1 := hI
  have hfr : ∀ b, (K b).1 ∉ ([39, 58, 57, 60, 61, 62, 63, 59, 68, 69] : List Nat) → f_1 b = f b := hfr
  have hD : va_D A (va_pl L f_1) := tp_D hL hAL
  have hr2 : 0 ≤ v2.toInt := hr2
  have hl : lv_has ls 3 [(2, .int v2), (0, .ref o), (1, .int p0)] := hl
  refine lv_iload_n hx hb dX12_noises_2 rfl (lv_at hl 0 rfl) ?_
  refine lv_iconst (v := 4) hx hb dX12_noises_3 (by decide) ?_
  refine lv_icmp_ge (tgt := 27) hx hb dX12_noises_4 (by decide) (fun c_2 => ?_) (fun c_2 => ?_)
  · have c_2 : (4 : Int) ≤ v2.toInt := tl_le c_2
    refine lv_iconst (v := 0) hx hb dX12_noises_27 (by decide) ?_
    refine lv_istore_n (lv' := [(2, .int 0), (0, .ref o), (1, .int p0)]) hx hb dX12_noises_28 rfl hl (by decide) rfl (fun ls hl => ?_)
    refine tl_ind (G := fun H locs ls => W p l e ((headSpec (tl_w yX12_noises cX12_noises 3 none) ({ frames := 7, cells := 0, slots := 0, locals := 177 })).room) s m #[.ref o, .int p0] below meth c H locs 0 0 (MQ below (va_Qv (fun (u : (Nat → va_E) × tk_G) => u.2 (39, 0, 0) 0 = Γ (39, 0, 0) 0) (tp_BG D cy L K Γ f [39, 58, 57, 60, 61, 62, 63, 59, 68, 69]) A) #[.ref o, .int p0] s 0 0 A) (F0 m 29 ls [])) (α := (Nat → va_E) × tk_G × Int32) (fun aq => (24 - aq.2.2.toInt).toNat) (fun aq H locs ls => (0 ≤ aq.2.2.toInt) ∧ (aq.2.1 (39, 0, 0) 0 = Γ (39, 0, 0) 0) ∧ va_P D vwCl (va_pl L aq.1) H ∧ tp_I cy L K aq.2.1 aq.1 ∧ (∀ b, (K b).1 ∉ ([39, 58, 57, 60, 61, 62, 63, 59, 68, 69] : List Nat) → aq.1 b = f b) ∧ (∀ κ : tk_K, κ.1 ∉ ([39, 58, 57, 60, 61, 62, 63, 59, 68, 69] : List Nat) → aq.2.1 κ = Γ κ) ∧ va_S A s.heap H locs ∧ lv_has ls 3 [(2, .int aq.2.2), (0, .ref o), (1, .int p0)]) ?_ (f_1, Γ, (0 : Int32)) H locs ls ⟨(show 0 ≤ (0 : Int) from (by omega)), (show Γ (39, 0, 0) 0 = Γ (39, 0, 0) 0 from (by omega)), hP, hI, hfr, hgr, hS, lv_sub hl [0, 1, 2] rfl⟩
    rintro ⟨f_3, Γ_4, v2⟩ H locs ls ⟨hr2, q0, hP, hI, hfr, hgr, hS, hl⟩ ih29
    have hgr : ∀ κ : tk_K, κ.1 ∉ ([39, 58, 57, 60, 61, 62, 63, 59, 68, 69] : List Nat) → Γ_4 κ = Γ κ := hgr
    have hP : va_P D vwCl (va_pl L f_3) H := hP
    have hI : tp_I cy L K Γ_4 f_3 := hI
    have hfr : ∀ b, (K b).1 ∉ ([39, 58, 57, 60, 61, 62, 63, 59, 68, 69] : List Nat) → f_3 b = f b := hfr
    have hD : va_D A (va_pl L f_3) := tp_D hL hAL
    have hr2 : 0 ≤ v2.toInt := hr2
    have q0 : Γ_4 (39, 0, 0) 0 = Γ (39, 0, 0) 0 := q0
    have hl : lv_has ls 3 [(2, .int v2), (0, .ref o), (1, .int p0)] := hl
    refine lv_iload_n hx hb dX12_noises_29 rfl (lv_at hl 0 rfl) ?_
    refine lv_aload_n hx hb dX12_noises_30 rfl (lv_at hl 1 rfl) ?_
    obtain ⟨r_6, v_7, q_8, hf_5, hr_9, hv_10⟩ := (show tp_o_M L K 0 0 (Γ_4 (39, 0, 0)) (f_3 o) from hI.at ho)
    refine tp_get (cy := cy) (ci := 12) (v := .ref (r_6 0)) (C := RX12) (T := TX12) (N := 49) hx hb hta inlX12 hown hK hP ho.1 hf_5 rfl 0 (by decide) (hta _ wk_149) (fun _ h9 => h9) rfl dX12_noises_31 ?_
    refine lv_iconst (v := 1) hx hb dX12_noises_34 (by decide) ?_
    obtain ⟨g_19, hf_18, hg_20⟩ := (show tp_gi cy (7666) (Γ (40, 7666, 0)) (f (r_6 0)) from hI0.at (show tp_r L K 40 7666 0 (r_6 0) from hr_9 0 (by decide)))
    have hn_21 : vp_in 1 (7666) := tl_in (by decide) (by decide)
    refine tp_iald (cy := cy) hx hb hK hP (show tp_r L K 40 7666 0 (r_6 0) from hr_9 0 (by decide)).1 ((tp_un hfr (show tp_r L K 40 7666 0 (r_6 0) from hr_9 0 (by decide)) (by decide)).trans hf_18) hn_21 dX12_noises_35 ?_
    refine lv_topi (fun z_22 ez_22 => ?_)
    have iz_22 : z_22.toInt = Γ (40, 7666, 0) 1 := by rw [ez_22]; exact hg_20 _ (tp_pin hn_21)
    refine lv_icmp_ge (tgt := 95) hx hb dX12_noises_36 (by decide) (fun c_23 => ?_) (fun c_23 => ?_)
    · have c_23 : z_22.toInt ≤ v2.toInt := tl_le c_23
      refine lv_iconst (v := 0) hx hb dX12_noises_95 (by decide) ?_
      refine lv_istore_n (lv' := [(2, .int 0), (0, .ref o), (1, .int p0)]) hx hb dX12_noises_96 rfl hl (by decide) rfl (fun ls hl => ?_)
      refine tl_ind (G := fun H locs ls => W p l e ((headSpec (tl_w yX12_noises cX12_noises 3 none) ({ frames := 7, cells := 0, slots := 0, locals := 177 })).room) s m #[.ref o, .int p0] below meth c H locs 0 0 (MQ below (va_Qv (fun (u : (Nat → va_E) × tk_G) => u.2 (39, 0, 0) 0 = Γ (39, 0, 0) 0) (tp_BG D cy L K Γ f [39, 58, 57, 60, 61, 62, 63, 59, 68, 69]) A) #[.ref o, .int p0] s 0 0 A) (F0 m 97 ls [])) (α := (Nat → va_E) × Int32) (fun aq => (4 - aq.2.toInt).toNat) (fun aq H locs ls => (0 ≤ aq.2.toInt) ∧ va_P D vwCl (va_pl L aq.1) H ∧ tp_I cy L K Γ_4 aq.1 ∧ (∀ b, (K b).1 ∉ ([39, 58, 57, 60, 61, 62, 63, 59, 68, 69] : List Nat) → aq.1 b = f b) ∧ va_S A s.heap H locs ∧ lv_has ls 3 [(2, .int aq.2), (0, .ref o), (1, .int p0)]) ?_ (f_3, (0 : Int32)) H locs ls ⟨(show 0 ≤ (0 : Int) from (by omega)), hP, hI, hfr, hS, lv_sub hl [0, 1, 2] rfl⟩
      rintro ⟨f_24, v2⟩ H locs ls ⟨hr2, hP, hI, hfr, hS, hl⟩ ih97
      have hP : va_P D vwCl (va_pl L f_24) H := hP
      have hI : tp_I cy L K Γ_4 f_24 := hI
      have hfr : ∀ b, (K b).1 ∉ ([39, 58, 57, 60, 61, 62, 63, 59, 68, 69] : List Nat) → f_24 b = f b := hfr
      have hD : va_D A (va_pl L f_24) := tp_D hL hAL
      have hr2 : 0 ≤ v2.toInt := hr2
      have hl : lv_has ls 3 [(2, .int v2), (0, .ref o), (1, .int p0)] := hl
      refine lv_iload_n hx hb dX12_noises_97 rfl (lv_at hl 0 rfl) ?_
      refine lv_iconst (v := 4) hx hb dX12_noises_98 (by decide) ?_
      refine lv_icmp_ge (tgt := 141) hx hb dX12_noises_99 (by decide) (fun c_25 => ?_) (fun c_25 => ?_)
      · have c_25 : (4 : Int) ≤ v2.toInt := tl_le c_25
        have hpo9 : Γ_4 (39, 0, 0) 0 = Γ (39, 0, 0) 0 := (by omega)
        exact W.vret hx hb hr (fun t ht hW => ⟨⟨(f_24, Γ_4), rfl, hpo9, by rw [ht]; exact hP, hI, hfr, hgr⟩, hS.F ht⟩) hS.2.2 dX12_noises_141
      · have c_25 : v2.toInt < (4 : Int) := tl_nle c_25
        refine lv_aload_n hx hb dX12_noises_102 rfl (lv_at hl 1 rfl) ?_
        obtain ⟨r_27, v_28, q_29, hf_26, hr_30, hv_31⟩ := (show tp_o_M L K 0 0 (Γ_4 (39, 0, 0)) (f_24 o) from hI.at ho)
        refine tp_get (cy := cy) (ci := 12) (v := .ref (r_27 28)) (C := RX12) (T := TX12) (N := 49) hx hb hta inlX12 hown hK hP ho.1 hf_26 rfl 45 (by decide) (hta _ wk_178) (fun _ h9 => h9) rfl dX12_noises_103 ?_
        refine lv_iload_n hx hb dX12_noises_106 rfl (lv_at hl 0 rfl) ?_
        refine lv_aload_n hx hb dX12_noises_107 rfl (lv_at hl 1 rfl) ?_
        refine tp_get (cy := cy) (ci := 12) (v := .ref (r_27 29)) (C := RX12) (T := TX12) (N := 49) hx hb hta inlX12 hown hK hP ho.1 hf_26 rfl 46 (by decide) (hta _ wk_179) (fun _ h9 => h9) rfl dX12_noises_108 ?_
        refine lv_iload_n hx hb dX12_noises_111 rfl (lv_at hl 0 rfl) ?_
        obtain ⟨g_40, hf_39, hg_41⟩ := (show tp_ai cy 69 (4) (f_24 (r_27 29)) from hI.at (show tp_r L K 69 4 0 (r_27 29) from hr_30 29 (by decide)))
        have hn_42 : vp_in v2 (4) := tl_in (by omega) (by omega)
        refine tp_iald (cy := cy) hx hb hK hP (show tp_r L K 69 4 0 (r_27 29) from hr_30 29 (by decide)).1 hf_39 hn_42 dX12_noises_112 ?_
        refine lv_topi (fun z_43 ez_43 => ?_)
        refine lv_if_ne (tgt := 120) hx hb dX12_noises_113 (by decide) (fun c_44 => ?_) (fun c_44 => ?_)
        · have c_44 : ¬ z_43.toInt = (0 : Int) := tl_neq c_44
          refine lv_aload_n hx hb dX12_noises_120 rfl (lv_at hl 1 rfl) ?_
          refine tp_get (cy := cy) (ci := 12) (v := .ref (r_27 28)) (C := RX12) (T := TX12) (N := 49) hx hb hta inlX12 hown hK hP ho.1 hf_26 rfl 45 (by decide) (hta _ wk_178) (fun _ h9 => h9) rfl dX12_noises_121 ?_
          refine lv_iload_n hx hb dX12_noises_124 rfl (lv_at hl 0 rfl) ?_
          obtain ⟨g_46, hf_45⟩ := (show tp_aj cy (4) (f_24 (r_27 28)) from hI.at (show tp_r L K 68 4 0 (r_27 28) from hr_30 28 (by decide)))
          have hn_48 : vp_in v2 (4) := tl_in (by omega) (by omega)
          refine tp_lald (cy := cy) hx hb hK hP (show tp_r L K 68 4 0 (r_27 28) from hr_30 28 (by decide)).1 hf_45 hn_48 dX12_noises_125 ?_
          refine lv_topl (fun z_49 ez_49 => ?_)
          refine lv_aload_n hx hb dX12_noises_126 rfl (lv_at hl 1 rfl) ?_
          refine tp_get (cy := cy) (ci := 12) (v := .ref (r_27 29)) (C := RX12) (T := TX12) (N := 49) hx hb hta inlX12 hown hK hP ho.1 hf_26 rfl 46 (by decide) (hta _ wk_179) (fun _ h9 => h9) rfl dX12_noises_127 ?_
          refine lv_iload_n hx hb dX12_noises_130 rfl (lv_at hl 0 rfl) ?_
          have hn_50 : vp_in v2 (4) := tl_in (by omega) (by omega)
          refine tp_iald (cy := cy) hx hb hK hP (show tp_r L K 69 4 0 (r_27 29) from hr_30 29 (by decide)).1 hf_39 hn_50 dX12_noises_131 ?_
          refine lv_topi (fun z_51 ez_51 => ?_)
          obtain rfl : z_43 = z_51 := ez_43.trans ez_51.symm
          refine lv_i2l (v := z_43.toInt64) hx hb dX12_noises_132 (by first | rfl | decide) ?_
          refine lv_ldiv hx hb dX12_noises_133 (tl_ne0LI (by omega)) ?_
          refine lv_topl (fun z_52 ez_52 => ?_)
          have hn_53 : vp_in v2 (4) := tl_in (by omega) (by omega)
          have hI9 : tp_I cy L K Γ_4 (va_up f_24 (r_27 28) (.inl (cy 1, 4, .inr (.inl (vp_updL g_46 v2.toNatClampNeg z_52))))) := hI.set (show tp_r L K 68 4 0 (r_27 28) from hr_30 28 (by decide)) (show tp_aj cy (4) _ from ⟨_, rfl⟩)
          have hfr9 : ∀ b, (K b).1 ∉ ([39, 58, 57, 60, 61, 62, 63, 59, 68, 69] : List Nat) → va_up f_24 (r_27 28) (.inl (cy 1, 4, .inr (.inl (vp_updL g_46 v2.toNatClampNeg z_52)))) b = f b := tp_fr hfr (show tp_r L K 68 4 0 (r_27 28) from hr_30 28 (by decide)) (by decide)
          refine tp_last (cy := cy) hx hb hK hP hD hS (show tp_r L K 68 4 0 (r_27 28) from hr_30 28 (by decide)).1 hf_45 hn_53 dX12_noises_134 (fun H locs hP hD hS => ?_)
          have hP : va_P D vwCl (va_pl L (va_up f_24 (r_27 28) (.inl (cy 1, 4, .inr (.inl (vp_updL g_46 v2.toNatClampNeg z_52)))))) H := hP
          generalize hfe : va_up f_24 (r_27 28) (.inl (cy 1, 4, .inr (.inl (vp_updL g_46 v2.toNatClampNeg z_52)))) = f_54 at hP hI9 hfr9
          have hD : va_D A (va_pl L f_54) := tp_D hL hAL
          have hf_55 := (show f_54 o = _ from by rw [← hfe, va_up_ne _ _ (tp_ne ho (show tp_r L K 68 4 0 (r_27 28) from hr_30 28 (by decide)) (by decide))]).trans hf_26
          have hf_56 := (show f_54 (r_27 29) = _ from by rw [← hfe, va_up_ne _ _ (tp_ne (show tp_r L K 69 4 0 (r_27 29) from hr_30 29 (by decide)) (show tp_r L K 68 4 0 (r_27 28) from hr_30 28 (by decide)) (by decide))]).trans hf_39
          have hf_57 : f_54 (r_27 28) = .inl (cy 1, 4, .inr (.inl (vp_updL g_46 v2.toNatClampNeg z_52))) := by rw [← hfe]; exact va_up_self _ _ _
          clear hfe
          have hI := hI9
          have hfr := hfr9
          clear hI9 hfr9
          obtain ⟨z_58, ez_58⟩ : ∃ y : Int32, y = v2 + 1 := ⟨_, rfl⟩
          refine lv_iinc (v := z_58) (lv' := [(2, .int z_58), (0, .ref o), (1, .int p0)]) hx hb dX12_noises_135 hl (k := 0) rfl (by rw [ez_58]; rfl) (by decide) rfl (fun ls hl => ?_)
          try have iz_58 : z_58.toInt = v2.toInt + 1 := by rw [ez_58]; exact tl_addL v2 1 (by decide) (by omega) (by omega)
          refine lv_goto (tgt := 97) hx hb dX12_noises_138 (by decide) ?_
          exact ih97 (f_54, z_58) H locs ls (by show (4 - z_58.toInt).toNat < (4 - v2.toInt).toNat; omega) ⟨(show 0 ≤ z_58.toInt from (by omega)), hP, hI, hfr, hS, lv_sub hl [0, 1, 2] rfl⟩
        · have c_44 : z_43.toInt = (0 : Int) := tl_eq c_44
          refine lv_lconst (v := 0) hx hb dX12_noises_116 (by decide) ?_
          refine lv_goto (tgt := 134) hx hb dX12_noises_117 (by decide) ?_
          obtain ⟨g_60, hf_59⟩ := (show tp_aj cy (4) (f_24 (r_27 28)) from hI.at (show tp_r L K 68 4 0 (r_27 28) from hr_30 28 (by decide)))
          have hn_62 : vp_in v2 (4) := tl_in (by omega) (by omega)
          have hI9 : tp_I cy L K Γ_4 (va_up f_24 (r_27 28) (.inl (cy 1, 4, .inr (.inl (vp_updL g_60 v2.toNatClampNeg 0))))) := hI.set (show tp_r L K 68 4 0 (r_27 28) from hr_30 28 (by decide)) (show tp_aj cy (4) _ from ⟨_, rfl⟩)
          have hfr9 : ∀ b, (K b).1 ∉ ([39, 58, 57, 60, 61, 62, 63, 59, 68, 69] : List Nat) → va_up f_24 (r_27 28) (.inl (cy 1, 4, .inr (.inl (vp_updL g_60 v2.toNatClampNeg 0)))) b = f b := tp_fr hfr (show tp_r L K 68 4 0 (r_27 28) from hr_30 28 (by decide)) (by decide)
          refine tp_last (cy := cy) hx hb hK hP hD hS (show tp_r L K 68 4 0 (r_27 28) from hr_30 28 (by decide)).1 hf_59 hn_62 dX12_noises_134 (fun H locs hP hD hS => ?_)
          have hP : va_P D vwCl (va_pl L (va_up f_24 (r_27 28) (.inl (cy 1, 4, .inr (.inl (vp_updL g_60 v2.toNatClampNeg 0)))))) H := hP
          generalize hfe : va_up f_24 (r_27 28) (.inl (cy 1, 4, .inr (.inl (vp_updL g_60 v2.toNatClampNeg 0)))) = f_63 at hP hI9 hfr9
          have hD : va_D A (va_pl L f_63) := tp_D hL hAL
          have hf_64 := (show f_63 o = _ from by rw [← hfe, va_up_ne _ _ (tp_ne ho (show tp_r L K 68 4 0 (r_27 28) from hr_30 28 (by decide)) (by decide))]).trans hf_26
          have hf_65 := (show f_63 (r_27 29) = _ from by rw [← hfe, va_up_ne _ _ (tp_ne (show tp_r L K 69 4 0 (r_27 29) from hr_30 29 (by decide)) (show tp_r L K 68 4 0 (r_27 28) from hr_30 28 (by decide)) (by decide))]).trans hf_39
          have hf_66 : f_63 (r_27 28) = .inl (cy 1, 4, .inr (.inl (vp_updL g_60 v2.toNatClampNeg 0))) := by rw [← hfe]; exact va_up_self _ _ _
          clear hfe
          have hI := hI9
          have hfr := hfr9
          clear hI9 hfr9
          obtain ⟨z_67, ez_67⟩ : ∃ y : Int32, y = v2 + 1 := ⟨_, rfl⟩
          refine lv_iinc (v := z_67) (lv' := [(2, .int z_67), (0, .ref o), (1, .int p0)]) hx hb dX12_noises_135 hl (k := 0) rfl (by rw [ez_67]; rfl) (by decide) rfl (fun ls hl => ?_)
          try have iz_67 : z_67.toInt = v2.toInt + 1 := by rw [ez_67]; exact tl_addL v2 1 (by decide) (by omega) (by omega)
          refine lv_goto (tgt := 97) hx hb dX12_noises_138 (by decide) ?_
          exact ih97 (f_63, z_67) H locs ls (by show (4 - z_67.toInt).toNat < (4 - v2.toInt).toNat; omega) ⟨(show 0 ≤ z_67.toInt from (by omega)), hP, hI, hfr, hS, lv_sub hl [0, 1, 2] rfl⟩
    · have c_23 : v2.toInt < z_22.toInt := tl_nle c_23
      refine lv_aload_n hx hb dX12_noises_39 rfl (lv_at hl 1 rfl) ?_
      refine lv_iload_n hx hb dX12_noises_40 rfl (lv_at hl 2 rfl) ?_
      refine lv_iload_n hx hb dX12_noises_41 rfl (lv_at hl 0 rfl) ?_
      refine tq_clR hS (hAf _ hS.1) (tq_rV (As := [.int p0, .int v2]) (rest := []) ⟨hx, hb, hml, hown, hta⟩ (tp_P.pre hK hN hL hU hI hP) (tp_recv hK hP ho.1 hf_5 rfl) lk_X12_450 (r_X12_scoreOf l D cy H.size L K Γ_4 f_3 o p0 v2 ho (by first | omega | assumption | (rw [hgr (42, 3, 0) (by decide), hgr (43, 8800, 0) (by decide), hgr (45, 1056, 0) (by decide), hgr (46, 22, 0) (by decide), hgr (47, 6, 0) (by decide), hgr (48, 22, 0) (by decide), hgr (49, 22, 0) (by decide), hgr (50, 22, 0) (by decide), hgr (51, 22, 0) (by decide)]; first | exact htx | assumption | omega)) (by first | omega | assumption | (rw [hgr (40, 7666, 0) (by decide), hgr (42, 3, 0) (by decide)]; first | exact hsd | assumption | omega)) (by first | omega | assumption | (rw [hgr (42, 3, 0) (by decide)]; first | exact hcan | assumption | omega)) (by first | omega | (simp only [Int32.toInt_toInt64]; omega) | decide | assumption)) rfl rfl ⟨Nat.le_of_ble_eq_true rfl, Nat.le_of_ble_eq_true rfl⟩ rfl hl.1 rfl (Nat.le_of_ble_eq_true rfl) dX12_noises_42 ⟨Nat.le_of_ble_eq_true rfl, Nat.le_of_ble_eq_true rfl⟩) (fun r_69 f_70 Γ_72 H locs hw_68 hP hI hc_71 hcg_73 hS => ?_)
      have hD : va_D A (va_pl L f_70) := tp_D hL hAL
      have hfr := tp_fr2 hfr hc_71 (by decide)
      have hgr : ∀ κ : tk_K, κ.1 ∉ ([39, 58, 57, 60, 61, 62, 63, 59, 68, 69] : List Nat) → Γ_72 κ = Γ κ := tg_fr2 hgr hcg_73 (by decide)
      have hw_68 : Γ_72 (39, 0, 0) 0 = Γ_4 (39, 0, 0) 0 ∧ (0 ≤ Γ_72 (39, 0, 0) 11 ∧ Γ_72 (39, 0, 0) 12 ≤ 299) ∧ (Γ_72 (39, 0, 0) 11 = Γ_4 (49, 22, 0) (6 + p0.toInt).toNat ∧ Γ_72 (39, 0, 0) 12 = Γ_4 (50, 22, 0) (6 + p0.toInt).toNat) ∧ (Γ_72 (39, 0, 0) 15 = 0 ∨ Γ_72 (39, 0, 0) 15 = 1) ∧ (0 ≤ Γ_72 (39, 0, 0) 13 ∧ Γ_72 (39, 0, 0) 13 ≤ 42) ∧ (0 < Γ_72 (39, 0, 0) 13 → 0 < Γ_72 (39, 0, 0) 10) ∧ (Γ_72 (39, 0, 0) 15 = 1 → 0 < Γ_72 (39, 0, 0) 13 ∧ 0 < Γ_72 (39, 0, 0) 14) ∧ (Γ_72 (39, 0, 0) 15 = 1 → gex (Γ_72 (59, 300, 0)) (Γ_4 (49, 22, 0) (6 + p0.toInt).toNat) (Γ_4 (50, 22, 0) (6 + p0.toInt).toNat + 1)) ∧ (∀ j : Nat, (j : Int) < Γ_72 (39, 0, 0) 13 → 0 ≤ Γ_72 (61, 42, 0) j ∧ Γ_72 (61, 42, 0) j ≤ 299) ∧ (∀ j : Nat, (j : Int) + 1 < Γ_72 (39, 0, 0) 13 → Γ_72 (61, 42, 0) j < Γ_72 (61, 42, 0) (j + 1)) ∧ (∀ j : Nat, j < 300 → (Γ_72 (59, 300, 0) j = -1000000 ∨ (-500000 ≤ Γ_72 (59, 300, 0) j ∧ Γ_72 (59, 300, 0) j ≤ 500000))) := hw_68
      obtain ⟨hq0, hqb, hq11, hq15, hq13, hq10, hqd, hqg, hqk, hqr, hql⟩ := hw_68
      refine lv_pop2_2 hx hb dX12_noises_45 rfl ?_
      refine lv_aload_n hx hb dX12_noises_46 rfl (lv_at hl 1 rfl) ?_
      obtain ⟨r_75, v_76, q_77, hf_74, hr_78, hv_79⟩ := (show tp_o_M L K 0 0 (Γ_72 (39, 0, 0)) (f_70 o) from hI.at ho)
      have hx_84 : (v_76 13).toInt = Γ_72 (39, 0, 0) 13 := hv_79 13 (by decide)
      refine tp_get (cy := cy) (ci := 12) (v := .int (v_76 13)) (C := RX12) (T := TX12) (N := 49) hx hb hta inlX12 hown hK hP ho.1 hf_74 rfl 37 (by decide) (hta _ wk_903) (fun _ h9 => h9) rfl dX12_noises_47 ?_
      refine lv_if_ne (tgt := 56) hx hb dX12_noises_50 (by decide) (fun c_87 => ?_) (fun c_87 => ?_)
      · have c_87 : ¬ (v_76 13).toInt = (0 : Int) := tl_neq c_87
        refine lv_aload_n hx hb dX12_noises_56 rfl (lv_at hl 1 rfl) ?_
        refine tp_get (cy := cy) (ci := 12) (v := .ref (r_75 28)) (C := RX12) (T := TX12) (N := 49) hx hb hta inlX12 hown hK hP ho.1 hf_74 rfl 45 (by decide) (hta _ wk_178) (fun _ h9 => h9) rfl dX12_noises_57 ?_
        refine lv_aload_n hx hb dX12_noises_60 rfl (lv_at hl 1 rfl) ?_
        refine lv_iload_n hx hb dX12_noises_61 rfl (lv_at hl 0 rfl) ?_
        refine lv_iconst (v := 0) hx hb dX12_noises_62 (by decide) ?_
        refine tl_si (tq_rV (As := [.int v2, .int 0]) (rest := [.ref (r_75 28)]) ⟨hx, hb, hml, hown, hta⟩ (tp_P.pre hK hN hL hU hI hP) (tp_recv hK hP ho.1 hf_74 rfl) lk_X12_132 (r_X12_rowOf l D cy H.size L K Γ_72 f_70 o v2 0 ho (by first | omega | (simp only [Int32.toInt_toInt64]; omega) | decide | assumption) (by first | omega | (simp only [Int32.toInt_toInt64]; omega) | decide | assumption)) rfl rfl ⟨Nat.le_of_ble_eq_true rfl, Nat.le_of_ble_eq_true rfl⟩ rfl hl.1 rfl (Nat.le_of_ble_eq_true rfl) dX12_noises_63 ⟨Nat.le_of_ble_eq_true rfl, Nat.le_of_ble_eq_true rfl⟩) (fun r_89 hw_88 => ?_)
        have hw_88 : r_89.toInt = Γ_72 (40, 7666, 0) (9 + 3 * v2.toInt + (0 : Int)).toNat := hw_88
        have hglr_89 : 0 ≤ r_89.toInt ∧ r_89.toInt ≤ 3 := by have q9 := ts_gl hsd v2.toInt.toNat (by omega); rw [show Γ (40, 7666, 0) (9 + 3 * v2.toInt.toNat) = r_89.toInt from (((hw_88.trans (congrFun (hgr (40, 7666, 0) (by decide)) _))).trans (congrArg _ (by omega))).symm] at q9; exact q9
        refine lv_dup2_11 hx hb dX12_noises_66 rfl rfl ?_
        obtain ⟨g_91, hf_90⟩ := (show tp_aj cy (4) (f_70 (r_75 28)) from hI.at (show tp_r L K 68 4 0 (r_75 28) from hr_78 28 (by decide)))
        have hn_93 : vp_in r_89 (4) := tl_in (by omega) (by omega)
        refine tp_lald (cy := cy) hx hb hK hP (show tp_r L K 68 4 0 (r_75 28) from hr_78 28 (by decide)).1 hf_90 hn_93 dX12_noises_67 ?_
        refine lv_topl (fun z_94 ez_94 => ?_)
        refine lv_aload_n hx hb dX12_noises_68 rfl (lv_at hl 1 rfl) ?_
        refine tl_sl (tq_rV (As := []) (rest := [.long z_94, .int r_89, .ref (r_75 28)]) ⟨hx, hb, hml, hown, hta⟩ (tp_P.pre hK hN hL hU hI hP) (tp_recv hK hP ho.1 hf_74 rfl) lk_X12_434 (r_X12_noiseNow l D cy H.size L K Γ_72 f_70 o ho (by first | omega | (simp only [Int32.toInt_toInt64]; omega) | decide | assumption)) rfl rfl ⟨Nat.le_of_ble_eq_true rfl, Nat.le_of_ble_eq_true rfl⟩ rfl hl.1 rfl (Nat.le_of_ble_eq_true rfl) dX12_noises_69 ⟨Nat.le_of_ble_eq_true rfl, Nat.le_of_ble_eq_true rfl⟩) (fun r_96 hw_95 => ?_)
        have hw_95 : 1 ≤ r_96.toInt := hw_95
        refine lv_ladd hx hb dX12_noises_72 ?_
        refine lv_topl (fun z_97 ez_97 => ?_)
        have hn_98 : vp_in r_89 (4) := tl_in (by omega) (by omega)
        have hI9 : tp_I cy L K Γ_72 (va_up f_70 (r_75 28) (.inl (cy 1, 4, .inr (.inl (vp_updL g_91 r_89.toNatClampNeg z_97))))) := hI.set (show tp_r L K 68 4 0 (r_75 28) from hr_78 28 (by decide)) (show tp_aj cy (4) _ from ⟨_, rfl⟩)
        have hfr9 : ∀ b, (K b).1 ∉ ([39, 58, 57, 60, 61, 62, 63, 59, 68, 69] : List Nat) → va_up f_70 (r_75 28) (.inl (cy 1, 4, .inr (.inl (vp_updL g_91 r_89.toNatClampNeg z_97)))) b = f b := tp_fr hfr (show tp_r L K 68 4 0 (r_75 28) from hr_78 28 (by decide)) (by decide)
        refine tp_last (cy := cy) hx hb hK hP hD hS (show tp_r L K 68 4 0 (r_75 28) from hr_78 28 (by decide)).1 hf_90 hn_98 dX12_noises_73 (fun H locs hP hD hS => ?_)
        have hP : va_P D vwCl (va_pl L (va_up f_70 (r_75 28) (.inl (cy 1, 4, .inr (.inl (vp_updL g_91 r_89.toNatClampNeg z_97)))))) H := hP
        generalize hfe : va_up f_70 (r_75 28) (.inl (cy 1, 4, .inr (.inl (vp_updL g_91 r_89.toNatClampNeg z_97)))) = f_99 at hP hI9 hfr9
        have hD : va_D A (va_pl L f_99) := tp_D hL hAL
        have hf_100 := (show f_99 o = _ from by rw [← hfe, va_up_ne _ _ (tp_ne ho (show tp_r L K 68 4 0 (r_75 28) from hr_78 28 (by decide)) (by decide))]).trans hf_74
        have hf_101 : f_99 (r_75 28) = .inl (cy 1, 4, .inr (.inl (vp_updL g_91 r_89.toNatClampNeg z_97))) := by rw [← hfe]; exact va_up_self _ _ _
        clear hfe
        have hI := hI9
        have hfr := hfr9
        clear hI9 hfr9
        refine lv_aload_n hx hb dX12_noises_74 rfl (lv_at hl 1 rfl) ?_
        refine tp_get (cy := cy) (ci := 12) (v := .ref (r_75 29)) (C := RX12) (T := TX12) (N := 49) hx hb hta inlX12 hown hK hP ho.1 hf_100 rfl 46 (by decide) (hta _ wk_179) (fun _ h9 => h9) rfl dX12_noises_75 ?_
        refine lv_aload_n hx hb dX12_noises_78 rfl (lv_at hl 1 rfl) ?_
        refine lv_iload_n hx hb dX12_noises_79 rfl (lv_at hl 0 rfl) ?_
        refine lv_iconst (v := 0) hx hb dX12_noises_80 (by decide) ?_
        refine tl_si (tq_rV (As := [.int v2, .int 0]) (rest := [.ref (r_75 29)]) ⟨hx, hb, hml, hown, hta⟩ (tp_P.pre hK hN hL hU hI hP) (tp_recv hK hP ho.1 hf_100 rfl) lk_X12_132 (r_X12_rowOf l D cy H.size L K Γ_72 f_99 o v2 0 ho (by first | omega | (simp only [Int32.toInt_toInt64]; omega) | decide | assumption) (by first | omega | (simp only [Int32.toInt_toInt64]; omega) | decide | assumption)) rfl rfl ⟨Nat.le_of_ble_eq_true rfl, Nat.le_of_ble_eq_true rfl⟩ rfl hl.1 rfl (Nat.le_of_ble_eq_true rfl) dX12_noises_81 ⟨Nat.le_of_ble_eq_true rfl, Nat.le_of_ble_eq_true rfl⟩) (fun r_103 hw_102 => ?_)
        have hw_102 : r_103.toInt = Γ_72 (40, 7666, 0) (9 + 3 * v2.toInt + (0 : Int)).toNat := hw_102
        have hglr_103 : 0 ≤ r_103.toInt ∧ r_103.toInt ≤ 3 := by have q9 := ts_gl hsd v2.toInt.toNat (by omega); rw [show Γ (40, 7666, 0) (9 + 3 * v2.toInt.toNat) = r_103.toInt from (((hw_102.trans (congrFun (hgr (40, 7666, 0) (by decide)) _))).trans (congrArg _ (by omega))).symm] at q9; exact q9
        refine lv_dup2_11 hx hb dX12_noises_84 rfl rfl ?_
        obtain ⟨g_105, hf_104, hg_106⟩ := (show tp_ai cy 69 (4) (f_99 (r_75 29)) from hI.at (show tp_r L K 69 4 0 (r_75 29) from hr_78 29 (by decide)))
        have hn_107 : vp_in r_103 (4) := tl_in (by omega) (by omega)
        refine tp_iald (cy := cy) hx hb hK hP (show tp_r L K 69 4 0 (r_75 29) from hr_78 29 (by decide)).1 hf_104 hn_107 dX12_noises_85 ?_
        refine lv_topi (fun z_108 ez_108 => ?_)
        refine lv_iconst (v := 1) hx hb dX12_noises_86 (by decide) ?_
        refine lv_iadd hx hb dX12_noises_87 ?_
        refine lv_topi (fun z_109 ez_109 => ?_)
        try have iz_109 : z_109.toInt = z_108.toInt + (1 : Int) := by rw [ez_109]; exact tl_addN z_108 1 rfl rfl (by omega) (by omega)
        have hn_110 : vp_in r_103 (4) := tl_in (by omega) (by omega)
        have hI9 : tp_I cy L K Γ_72 (va_up f_99 (r_75 29) (.inl (cy 0, 4, .inl (upd g_105 r_103.toNatClampNeg z_109)))) := hI.set (show tp_r L K 69 4 0 (r_75 29) from hr_78 29 (by decide)) (show tp_ai cy 69 (4) _ from ⟨_, rfl, tp_pi_upd hg_106 trivial⟩)
        have hfr9 : ∀ b, (K b).1 ∉ ([39, 58, 57, 60, 61, 62, 63, 59, 68, 69] : List Nat) → va_up f_99 (r_75 29) (.inl (cy 0, 4, .inl (upd g_105 r_103.toNatClampNeg z_109))) b = f b := tp_fr hfr (show tp_r L K 69 4 0 (r_75 29) from hr_78 29 (by decide)) (by decide)
        refine tp_iast (cy := cy) hx hb hK hP hD hS (show tp_r L K 69 4 0 (r_75 29) from hr_78 29 (by decide)).1 hf_104 hn_110 dX12_noises_88 (fun H locs hP hD hS => ?_)
        have hP : va_P D vwCl (va_pl L (va_up f_99 (r_75 29) (.inl (cy 0, 4, .inl (upd g_105 r_103.toNatClampNeg z_109))))) H := hP
        generalize hfe : va_up f_99 (r_75 29) (.inl (cy 0, 4, .inl (upd g_105 r_103.toNatClampNeg z_109))) = f_111 at hP hI9 hfr9
        have hD : va_D A (va_pl L f_111) := tp_D hL hAL
        have hf_112 := (show f_111 o = _ from by rw [← hfe, va_up_ne _ _ (tp_ne ho (show tp_r L K 69 4 0 (r_75 29) from hr_78 29 (by decide)) (by decide))]).trans hf_100
        have hf_113 : f_111 (r_75 29) = .inl (cy 0, 4, .inl (upd g_105 r_103.toNatClampNeg z_109)) := by rw [← hfe]; exact va_up_self _ _ _
        clear hfe
        have hI := hI9
        have hfr := hfr9
        clear hI9 hfr9
        obtain ⟨z_114, ez_114⟩ : ∃ y : Int32, y = v2 + 1 := ⟨_, rfl⟩
        refine lv_iinc (v := z_114) (lv' := [(2, .int z_114), (0, .ref o), (1, .int p0)]) hx hb dX12_noises_89 hl (k := 0) rfl (by rw [ez_114]; rfl) (by decide) rfl (fun ls hl => ?_)
        try have iz_114 : z_114.toInt = v2.toInt + 1 := by rw [ez_114]; exact tl_addL v2 1 (by decide) (by omega) (by omega)
        refine lv_goto (tgt := 29) hx hb dX12_noises_92 (by decide) ?_
        exact ih29 (f_111, Γ_72, z_114) H locs ls (by show (24 - z_114.toInt).toNat < (24 - v2.toInt).toNat; omega) ⟨(show 0 ≤ z_114.toInt from (by omega)), (show Γ_72 (39, 0, 0) 0 = Γ (39, 0, 0) 0 from (by omega)), hP, hI, hfr, hgr, hS, lv_sub hl [0, 1, 2] rfl⟩
      · have c_87 : (v_76 13).toInt = (0 : Int) := tl_eq c_87
        refine lv_goto (tgt := 89) hx hb dX12_noises_53 (by decide) ?_
        obtain ⟨z_115, ez_115⟩ : ∃ y : Int32, y = v2 + 1 := ⟨_, rfl⟩
        refine lv_iinc (v := z_115) (lv' := [(2, .int z_115), (0, .ref o), (1, .int p0)]) hx hb dX12_noises_89 hl (k := 0) rfl (by rw [ez_115]; rfl) (by decide) rfl (fun ls hl => ?_)
        try have iz_115 : z_115.toInt = v2.toInt + 1 := by rw [ez_115]; exact tl_addL v2 1 (by decide) (by omega) (by omega)
        refine lv_goto (tgt := 29) hx hb dX12_noises_92 (by decide) ?_
        exact ih29 (f_70, Γ_72, z_115) H locs ls (by show (24 - z_115.toInt).toNat < (24 - v2.toInt).toNat; omega) ⟨(show 0 ≤ z_115.toInt from (by omega)), (show Γ_72 (39, 0, 0) 0 = Γ (39, 0, 0) 0 from (by omega)), hP, hI, hfr, hgr, hS, lv_sub hl [0, 1, 2] rfl⟩
  · have c_2 : v2.toInt < (4 : Int) := tl_nle c_2
    refine lv_aload_n hx hb dX12_noises_7 rfl (lv_at hl 1 rfl) ?_
    obtain ⟨r_117, v_118, q_119, hf_116, hr_120, hv_121⟩ := (show tp_o_M L K 0 0 (Γ (39, 0, 0)) (f_1 o) from hI.at ho)
    refine tp_get (cy := cy) (ci := 12) (v := .ref (r_117 28)) (C := RX12) (T := TX12) (N := 49) hx hb hta inlX12 hown hK hP ho.1 hf_116 rfl 45 (by decide) (hta _ wk_178) (fun _ h9 => h9) rfl dX12_noises_8 ?_
    refine lv_iload_n hx hb dX12_noises_11 rfl (lv_at hl 0 rfl) ?_
    refine lv_lconst (v := 0) hx hb dX12_noises_12 (by decide) ?_
    obtain ⟨g_130, hf_129⟩ := (show tp_aj cy (4) (f_1 (r_117 28)) from hI.at (show tp_r L K 68 4 0 (r_117 28) from hr_120 28 (by decide)))
    have hn_132 : vp_in v2 (4) := tl_in (by omega) (by omega)
    have hI9 : tp_I cy L K Γ (va_up f_1 (r_117 28) (.inl (cy 1, 4, .inr (.inl (vp_updL g_130 v2.toNatClampNeg 0))))) := hI.set (show tp_r L K 68 4 0 (r_117 28) from hr_120 28 (by decide)) (show tp_aj cy (4) _ from ⟨_, rfl⟩)
    have hfr9 : ∀ b, (K b).1 ∉ ([39, 58, 57, 60, 61, 62, 63, 59, 68, 69] : List Nat) → va_up f_1 (r_117 28) (.inl (cy 1, 4, .inr (.inl (vp_updL g_130 v2.toNatClampNeg 0)))) b = f b := tp_fr hfr (show tp_r L K 68 4 0 (r_117 28) from hr_120 28 (by decide)) (by decide)
    refine tp_last (cy := cy) hx hb hK hP hD hS (show tp_r L K 68 4 0 (r_117 28) from hr_120 28 (by decide)).1 hf_129 hn_132 dX12_noises_13 (fun H locs hP hD hS => ?_)
    have hP : va_P D vwCl (va_pl L (va_up f_1 (r_117 28) (.inl (cy 1, 4, .inr (.inl (vp_updL g_130 v2.toNatClampNeg 0)))))) H := hP
    generalize hfe : va_up f_1 (r_117 28) (.inl (cy 1, 4, .inr (.inl (vp_updL g_130 v2.toNatClampNeg 0)))) = f_133 at hP hI9 hfr9
    have hD : va_D A (va_pl L f_133) := tp_D hL hAL
    have hf_134 := (show f_133 o = _ from by rw [← hfe, va_up_ne _ _ (tp_ne ho (show tp_r L K 68 4 0 (r_117 28) from hr_120 28 (by decide)) (by decide))]).trans hf_116
    have hf_135 : f_133 (r_117 28) = .inl (cy 1, 4, .inr (.inl (vp_updL g_130 v2.toNatClampNeg 0))) := by rw [← hfe]; exact va_up_self _ _ _
    clear hfe
    have hI := hI9
    have hfr := hfr9
    clear hI9 hfr9
    refine lv_aload_n hx hb dX12_noises_14 rfl (lv_at hl 1 rfl) ?_
    refine tp_get (cy := cy) (ci := 12) (v := .ref (r_117 29)) (C := RX12) (T := TX12) (N := 49) hx hb hta inlX12 hown hK hP ho.1 hf_134 rfl 46 (by decide) (hta _ wk_179) (fun _ h9 => h9) rfl dX12_noises_15 ?_
    refine lv_iload_n hx hb dX12_noises_18 rfl (lv_at hl 0 rfl) ?_
    refine lv_iconst (v := 0) hx hb dX12_noises_19 (by decide) ?_
    obtain ⟨g_137, hf_136, hg_138⟩ := (show tp_ai cy 69 (4) (f_133 (r_117 29)) from hI.at (show tp_r L K 69 4 0 (r_117 29) from hr_120 29 (by decide)))
    have hn_139 : vp_in v2 (4) := tl_in (by omega) (by omega)
    have hI9 : tp_I cy L K Γ (va_up f_133 (r_117 29) (.inl (cy 0, 4, .inl (upd g_137 v2.toNatClampNeg 0)))) := hI.set (show tp_r L K 69 4 0 (r_117 29) from hr_120 29 (by decide)) (show tp_ai cy 69 (4) _ from ⟨_, rfl, tp_pi_upd hg_138 trivial⟩)
    have hfr9 : ∀ b, (K b).1 ∉ ([39, 58, 57, 60, 61, 62, 63, 59, 68, 69] : List Nat) → va_up f_133 (r_117 29) (.inl (cy 0, 4, .inl (upd g_137 v2.toNatClampNeg 0))) b = f b := tp_fr hfr (show tp_r L K 69 4 0 (r_117 29) from hr_120 29 (by decide)) (by decide)
    refine tp_iast (cy := cy) hx hb hK hP hD hS (show tp_r L K 69 4 0 (r_117 29) from hr_120 29 (by decide)).1 hf_136 hn_139 dX12_noises_20 (fun H locs hP hD hS => ?_)
    have hP : va_P D vwCl (va_pl L (va_up f_133 (r_117 29) (.inl (cy 0, 4, .inl (upd g_137 v2.toNatClampNeg 0))))) H := hP
    generalize hfe : va_up f_133 (r_117 29) (.inl (cy 0, 4, .inl (upd g_137 v2.toNatClampNeg 0))) = f_140 at hP hI9 hfr9
    have hD : va_D A (va_pl L f_140) := tp_D hL hAL
    have hf_141 := (show f_140 o = _ from by rw [← hfe, va_up_ne _ _ (tp_ne ho (show tp_r L K 69 4 0 (r_117 29) from hr_120 29 (by decide)) (by decide))]).trans hf_134
    have hf_142 : f_140 (r_117 29) = .inl (cy 0, 4, .inl (upd g_137 v2.toNatClampNeg 0)) := by rw [← hfe]; exact va_up_self _ _ _
    clear hfe
    have hI := hI9
    have hfr := hfr9
    clear hI9 hfr9
    obtain ⟨z_143, ez_143⟩ : ∃ y : Int32, y = v2 + 1 := ⟨_, rfl⟩
    refine lv_iinc (v := z_143) (lv' := [(2, .int z_143), (0, .ref o), (1, .int p0)]) hx hb dX12_noises_21 hl (k := 0) rfl (by rw [ez_143]; rfl) (by decide) rfl (fun ls hl => ?_)
    try have iz_143 : z_143.toInt = v2.toInt + 1 := by rw [ez_143]; exact tl_addL v2 1 (by decide) (by omega) (by omega)
    refine lv_goto (tgt := 2) hx hb dX12_noises_24 (by decide) ?_
    exact ih2 (f_140, z_143) H locs ls (by show (4 - z_143.toInt).toNat < (4 - v2.toInt).toNat; omega) ⟨(show 0 ≤ z_143.toInt from (by omega)), hP, hI, hfr, hS, lv_sub hl [0, 1, 2] rfl⟩
set_option maxHeartbeats 4000000 in
set_option maxRecDepth 100000 in
theorem r_X12_worthOf (l : Launch) (D : va_G) (cy : Nat → ClassId) (sz : Nat) (L : List Nat) (K : Nat → tk_K) (Γ : tk_G) (f : Nat → va_E) (o : Nat) (p0 : Int32) (ho : tp_r L K 39 (0) 0 o) (hsd : ts_said (Γ (40, 7666, 0)) (Γ (42, 3, 0) 1)) (h0 : 0 ≤ p0.toInt ∧ p0.toInt ≤ 9) : Met l yX12_worthOf (tl_w yX12_worthOf cX12_worthOf 4 (some .long)) ({ frames := 0, cells := 0, slots := 0, locals := 0 }) (va_Pc [.ref o, .int p0] (tp_P D cy L K Γ f sz)) (vp_Sl (fun r : Int64 => True)) 0 0 (fun _ => False) := by
  refine Met.ofW (cc := cX12_worthOf) (maxL := 4) (ret := (some .long)) (by decide) rfl ?_
  intro p e s m args below meth c s₁ B hml hv
  obtain ⟨rfl, hsz, hP, hK, hL, hI, hN, hU⟩ := hv
  have hx := B.exec
  have hb := B.bytes
  have hr := B.returns
  have hta := tl_hta (atoms_spec (ws := tl_w yX12_worthOf cX12_worthOf 4 (some .long)) B.pre)
  have hown : s.vm.findClass RX12 = some m.cls := findClass_of_methodNamed B.named
  have hlocks := B.notSynchronized
  subst hsz
  have hI0 := hI
  have hl := lv_entry ([.ref o, .int p0]) (n := 4) (Nat.le_of_ble_eq_true rfl)
  rw [lg_entry_eq]
  generalize (lg_sl ([.ref o, .int p0]) ++ List.replicate (4 - (lg_sl ([.ref o, .int p0])).length) Slot.unset).toArray = ls at hl ⊢
  have hl : lv_has ls 4 [(0, .ref o), (1, .int p0)] := hl
  refine lv_aload_n hx hb dX12_worthOf_0 rfl (lv_at hl 0 rfl) ?_
  obtain ⟨r_2, v_3, q_4, hf_1, hr_5, hv_6⟩ := (show tp_o_M L K 0 0 (Γ (39, 0, 0)) (f o) from hI0.at ho)
  refine tp_get (cy := cy) (ci := 12) (v := .ref (r_2 28)) (C := RX12) (T := TX12) (N := 49) hx hb hta inlX12 hown hK hP ho.1 hf_1 rfl 45 (by decide) (hta _ wk_178) (fun _ h9 => h9) rfl dX12_worthOf_1 ?_
  refine lv_aload_n hx hb dX12_worthOf_4 rfl (lv_at hl 0 rfl) ?_
  refine tp_get (cy := cy) (ci := 12) (v := .ref (r_2 0)) (C := RX12) (T := TX12) (N := 49) hx hb hta inlX12 hown hK hP ho.1 hf_1 rfl 0 (by decide) (hta _ wk_149) (fun _ h9 => h9) rfl dX12_worthOf_5 ?_
  refine lv_sipush (v := 421) hx hb dX12_worthOf_8 (by decide) ?_
  refine lv_iconst (v := 2) hx hb dX12_worthOf_11 (by decide) ?_
  refine lv_iload_n hx hb dX12_worthOf_12 rfl (lv_at hl 1 rfl) ?_
  refine lv_imul hx hb dX12_worthOf_13 ?_
  refine lv_topi (fun z_7 ez_7 => ?_)
  try have iz_7 : z_7.toInt = (2 : Int) * p0.toInt := by rw [ez_7]; exact tl_mulN 2 p0 rfl rfl (by omega) (by omega)
  refine lv_iadd hx hb dX12_worthOf_14 ?_
  refine lv_topi (fun z_8 ez_8 => ?_)
  try have iz_8 : z_8.toInt = (421 : Int) + z_7.toInt := by rw [ez_8]; exact tl_addN 421 z_7 rfl rfl (by omega) (by omega)
  obtain ⟨g_10, hf_9, hg_11⟩ := (show tp_gi cy (7666) (Γ (40, 7666, 0)) (f (r_2 0)) from hI0.at (show tp_r L K 40 7666 0 (r_2 0) from hr_5 0 (by decide)))
  have hn_12 : vp_in z_8 (7666) := tl_in (by omega) (by omega)
  refine tp_iald (cy := cy) hx hb hK hP (show tp_r L K 40 7666 0 (r_2 0) from hr_5 0 (by decide)).1 hf_9 hn_12 dX12_worthOf_15 ?_
  refine lv_topi (fun z_13 ez_13 => ?_)
  have iz_13 : z_13.toInt = Γ (40, 7666, 0) z_8.toInt.toNat := by rw [ez_13]; exact hg_11 _ (tp_pin hn_12)
  have hcd := ts_cd hsd p0.toInt.toNat (by omega)
  rw [show Γ (40, 7666, 0) (421 + 2 * p0.toInt.toNat) = z_13.toInt from (iz_13.trans (congrArg _ (by omega))).symm] at hcd
  obtain ⟨g_15, hf_14⟩ := (show tp_aj cy (4) (f (r_2 28)) from hI0.at (show tp_r L K 68 4 0 (r_2 28) from hr_5 28 (by decide)))
  have hn_17 : vp_in z_13 (4) := tl_in (by omega) (by omega)
  refine tp_lald (cy := cy) hx hb hK hP (show tp_r L K 68 4 0 (r_2 28) from hr_5 28 (by decide)).1 hf_14 hn_17 dX12_worthOf_16 ?_
  refine lv_topl (fun z_18 ez_18 => ?_)
  refine lv_lstore_n (lv' := [(2, .long z_18), (0, .ref o), (1, .int p0)]) hx hb dX12_worthOf_17 rfl hl (by decide) rfl (fun ls hl => ?_)
  refine lv_lload_n hx hb dX12_worthOf_18 rfl (lv_at hl 0 rfl) ?_
  refine lv_lconst (v := 0) hx hb dX12_worthOf_19 (by decide) ?_
  refine W.lcmp hx hb dX12_worthOf_20 ?_
  refine lv_if_ne (tgt := 28) hx hb dX12_worthOf_21 (by decide) (fun c_19 => ?_) (fun c_19 => ?_)
  · have c_19 : ¬ z_18.toInt = (0 : Int) := tl_cmp_ne c_19
    refine lv_aload_n hx hb dX12_worthOf_28 rfl (lv_at hl 1 rfl) ?_
    refine tp_get (cy := cy) (ci := 12) (v := .ref (r_2 0)) (C := RX12) (T := TX12) (N := 49) hx hb hta inlX12 hown hK hP ho.1 hf_1 rfl 0 (by decide) (hta _ wk_149) (fun _ h9 => h9) rfl dX12_worthOf_29 ?_
    refine lv_sipush (v := 421) hx hb dX12_worthOf_32 (by decide) ?_
    refine lv_iconst (v := 2) hx hb dX12_worthOf_35 (by decide) ?_
    refine lv_iload_n hx hb dX12_worthOf_36 rfl (lv_at hl 2 rfl) ?_
    refine lv_imul hx hb dX12_worthOf_37 ?_
    refine lv_topi (fun z_20 ez_20 => ?_)
    try have iz_20 : z_20.toInt = (2 : Int) * p0.toInt := by rw [ez_20]; exact tl_mulN 2 p0 rfl rfl (by omega) (by omega)
    refine lv_iadd hx hb dX12_worthOf_38 ?_
    refine lv_topi (fun z_21 ez_21 => ?_)
    try have iz_21 : z_21.toInt = (421 : Int) + z_20.toInt := by rw [ez_21]; exact tl_addN 421 z_20 rfl rfl (by omega) (by omega)
    refine lv_iconst (v := 1) hx hb dX12_worthOf_39 (by decide) ?_
    refine lv_iadd hx hb dX12_worthOf_40 ?_
    refine lv_topi (fun z_22 ez_22 => ?_)
    try have iz_22 : z_22.toInt = z_21.toInt + (1 : Int) := by rw [ez_22]; exact tl_addN z_21 1 rfl rfl (by omega) (by omega)
    have hn_23 : vp_in z_22 (7666) := tl_in (by omega) (by omega)
    refine tp_iald (cy := cy) hx hb hK hP (show tp_r L K 40 7666 0 (r_2 0) from hr_5 0 (by decide)).1 hf_9 hn_23 dX12_worthOf_41 ?_
    refine lv_topi (fun z_24 ez_24 => ?_)
    have iz_24 : z_24.toInt = Γ (40, 7666, 0) z_22.toInt.toNat := by rw [ez_24]; exact hg_11 _ (tp_pin hn_23)
    refine lv_i2l (v := z_24.toInt64) hx hb dX12_worthOf_42 (by first | rfl | decide) ?_
    refine lv_ldc2 (v := 1000000) hx hb hown (hta _ wk_1413) dX12_worthOf_43 ?_
    refine lv_lmul hx hb dX12_worthOf_46 ?_
    refine lv_topl (fun z_25 ez_25 => ?_)
    refine lv_lload_n hx hb dX12_worthOf_47 rfl (lv_at hl 0 rfl) ?_
    refine lv_ldiv hx hb dX12_worthOf_48 (tl_ne0L (by omega)) ?_
    refine lv_topl (fun z_26 ez_26 => ?_)
    exact W.lret (v := z_26) hx hb hr (fun t ht hW => ⟨_, rfl, trivial, ht⟩) (fun q h => by cases h) dX12_worthOf_49
  · have c_19 : z_18.toInt = (0 : Int) := tl_cmp_nne c_19
    refine lv_lconst (v := 0) hx hb dX12_worthOf_24 (by decide) ?_
    refine lv_goto (tgt := 49) hx hb dX12_worthOf_25 (by decide) ?_
    exact W.lret (v := 0) hx hb hr (fun t ht hW => ⟨_, rfl, trivial, ht⟩) (fun q h => by cases h) dX12_worthOf_49
set_option maxHeartbeats 4000000 in
set_option maxRecDepth 100000 in
theorem r_X12_next (l : Launch) (D : va_G) (cy : Nat → ClassId) (sz : Nat) (L : List Nat) (K : Nat → tk_K) (Γ : tk_G) (f : Nat → va_E) (o : Nat) (p0 : Int32) (p1 : Int32) (p2 : Int32) (ho : tp_r L K 39 (0) 0 o) (htx : tx_ok (Γ (43, 8800, 0)) (Γ (45, 1056, 0)) (Γ (46, 22, 0)) (Γ (47, 6, 0)) (Γ (48, 22, 0)) (Γ (49, 22, 0)) (Γ (50, 22, 0)) (Γ (51, 22, 0)) (Γ (42, 3, 0))) (hsd : ts_said (Γ (40, 7666, 0)) (Γ (42, 3, 0) 1)) : Met l yX12_next (tl_w yX12_next cX12_next 13 (some .long)) ({ frames := 8, cells := 0, slots := 0, locals := 199 }) (va_Pc [.ref o, .int p0, .int p1, .int p2] (tp_P D cy L K Γ f sz)) (va_Ql (fun (r : Int64) (u : (Nat → va_E) × tk_G) => u.2 (39, 0, 0) 0 = Γ (39, 0, 0) 0) (tp_BG D cy L K Γ f [39, 58, 57, 60, 61, 62, 63, 59, 68, 69]) (tp_A L sz)) 0 0 (tp_A L sz) := by
  refine Met.ofW (cc := cX12_next) (maxL := 13) (ret := (some .long)) (by decide) rfl ?_
  intro p e s m args below meth c s₁ B hml hv
  obtain ⟨rfl, hsz, hP, hK, hL, hI, hN, hU⟩ := hv
  have hx := B.exec
  have hb := B.bytes
  have hr := B.returns
  have hta := tl_hta (atoms_spec (ws := tl_w yX12_next cX12_next 13 (some .long)) B.pre)
  have hown : s.vm.findClass RX12 = some m.cls := findClass_of_methodNamed B.named
  have hlocks := B.notSynchronized
  subst hsz
  have hI0 := hI
  generalize hAe : tp_A L s.heap.size = A
  have hA : ∀ q : Nat, s.heap.size ≤ q → A q := fun q h => by rw [← hAe]; exact Or.inr h
  have hAL : ∀ q ∈ L, A q := fun q h => by rw [← hAe]; exact Or.inl h
  have hAf : ∀ (H : Heap), s.heap.size ≤ H.size → ∀ q, tp_A L H.size q → A q := fun H h q hq => hq.elim (hAL q) (fun h2 => hA q (Nat.le_trans h h2))
  have hS : va_S A s.heap s.heap [] := va_S.rf
  have hD : va_D A (va_pl L f) := tp_D hL hAL
  have hfr : ∀ b, (K b).1 ∉ ([39, 58, 57, 60, 61, 62, 63, 59, 68, 69] : List Nat) → f b = f b := fun _ _ => rfl
  have hgr : ∀ κ : tk_K, κ.1 ∉ ([39, 58, 57, 60, 61, 62, 63, 59, 68, 69] : List Nat) → Γ κ = Γ κ := fun _ _ => rfl
  have hl := lv_entry ([.ref o, .int p0, .int p1, .int p2]) (n := 13) (Nat.le_of_ble_eq_true rfl)
  rw [lg_entry_eq]
  generalize (lg_sl ([.ref o, .int p0, .int p1, .int p2]) ++ List.replicate (13 - (lg_sl ([.ref o, .int p0, .int p1, .int p2])).length) Slot.unset).toArray = ls at hl ⊢
  have hl : lv_has ls 13 [(0, .ref o), (1, .int p0), (2, .int p1), (3, .int p2)] := hl
  have hs := ts_hs hsd
  have hraw := ts_raw hsd
  have hslp := ts_slp hsd
  have htb := htx.1
  refine lv_aload_n hx hb dX12_next_0 rfl (lv_at hl 0 rfl) ?_
  refine lv_iconst (v := 1) hx hb dX12_next_1 (by decide) ?_
  refine lv_iload_n hx hb dX12_next_2 rfl (lv_at hl 1 rfl) ?_
  obtain ⟨r_2, v_3, q_4, hf_1, hr_5, hv_6⟩ := (show tp_o_M L K 0 0 (Γ (39, 0, 0)) (f o) from hI.at ho)
  refine tl_si (tq_rV (As := [.int 1, .int p0]) (rest := []) ⟨hx, hb, hml, hown, hta⟩ (tp_P.pre hK hN hL hU hI hP) (tp_recv hK hP ho.1 hf_1 rfl) lk_X12_382 (r_isText_1 l D cy s.heap.size L K Γ f o p0 ho) rfl rfl ⟨Nat.le_of_ble_eq_true rfl, Nat.le_of_ble_eq_true rfl⟩ rfl hl.1 rfl (Nat.le_of_ble_eq_true rfl) dX12_next_3 ⟨Nat.le_of_ble_eq_true rfl, Nat.le_of_ble_eq_true rfl⟩) (fun r_15 hw_14 => ?_)
  have hw_14 : tl_E r_15 (0 ≤ p0.toInt ∧ p0.toInt < Γ (42, 3, 0) 1) 1 0 := hw_14
  refine lv_if_eq (tgt := 31) hx hb dX12_next_6 (by decide) (fun c_16 => ?_) (fun c_16 => ?_)
  · have c_16 := hw_14.f c_16
    refine lv_ldc2 (v := (-1)) hx hb hown (hta _ wk_991) dX12_next_31 ?_
    have hpo9 : Γ (39, 0, 0) 0 = Γ (39, 0, 0) 0 := (by omega)
    exact W.lret (v := (-1)) hx hb hr (fun t ht hW => ⟨⟨_, (f, Γ), rfl, hpo9, by rw [ht]; exact hP, hI, hfr, hgr⟩, hS.F ht⟩) hS.2.2 dX12_next_34
  · have c_16 := hw_14.t c_16
    refine lv_iload_n hx hb dX12_next_9 rfl (lv_at hl 2 rfl) ?_
    refine lv_i2l (v := p1.toInt64) hx hb dX12_next_10 (by first | rfl | decide) ?_
    refine lv_lconst (v := 0) hx hb dX12_next_11 (by decide) ?_
    refine lv_ldc2 (v := 999) hx hb hown (hta _ wk_222) dX12_next_12 ?_
    refine tl_si (tq_rS (As := [.long p1.toInt64, .long 0, .long 999]) (rest := []) ⟨hx, hb, hml, hown, hta⟩ (tp_P.pre hK hN hL hU hI hP) lk_X12_112 (r_X12_in l D cy s.heap.size L K Γ f p1.toInt64 0 999 ) rfl rfl ⟨Nat.le_of_ble_eq_true rfl, Nat.le_of_ble_eq_true rfl⟩ rfl hl.1 rfl (Nat.le_of_ble_eq_true rfl) dX12_next_15 ⟨Nat.le_of_ble_eq_true rfl, Nat.le_of_ble_eq_true rfl⟩) (fun r_18 hw_17 => ?_)
    simp only [Int32.toInt_toInt64] at hw_17
    have hw_17 : tl_E r_18 ((0 : Int) ≤ p1.toInt ∧ p1.toInt ≤ (999 : Int)) 1 0 := hw_17
    refine lv_if_eq (tgt := 31) hx hb dX12_next_18 (by decide) (fun c_19 => ?_) (fun c_19 => ?_)
    · have c_19 := hw_17.f c_19
      refine lv_ldc2 (v := (-1)) hx hb hown (hta _ wk_991) dX12_next_31 ?_
      have hpo9 : Γ (39, 0, 0) 0 = Γ (39, 0, 0) 0 := (by omega)
      exact W.lret (v := (-1)) hx hb hr (fun t ht hW => ⟨⟨_, (f, Γ), rfl, hpo9, by rw [ht]; exact hP, hI, hfr, hgr⟩, hS.F ht⟩) hS.2.2 dX12_next_34
    · have c_19 := hw_17.t c_19
      refine lv_iload_n hx hb dX12_next_21 rfl (lv_at hl 3 rfl) ?_
      refine lv_i2l (v := p2.toInt64) hx hb dX12_next_22 (by first | rfl | decide) ?_
      refine lv_lconst (v := 0) hx hb dX12_next_23 (by decide) ?_
      refine lv_lconst (v := 1) hx hb dX12_next_24 (by decide) ?_
      refine tl_si (tq_rS (As := [.long p2.toInt64, .long 0, .long 1]) (rest := []) ⟨hx, hb, hml, hown, hta⟩ (tp_P.pre hK hN hL hU hI hP) lk_X12_112 (r_X12_in l D cy s.heap.size L K Γ f p2.toInt64 0 1 ) rfl rfl ⟨Nat.le_of_ble_eq_true rfl, Nat.le_of_ble_eq_true rfl⟩ rfl hl.1 rfl (Nat.le_of_ble_eq_true rfl) dX12_next_25 ⟨Nat.le_of_ble_eq_true rfl, Nat.le_of_ble_eq_true rfl⟩) (fun r_21 hw_20 => ?_)
      simp only [Int32.toInt_toInt64] at hw_20
      have hw_20 : tl_E r_21 ((0 : Int) ≤ p2.toInt ∧ p2.toInt ≤ (1 : Int)) 1 0 := hw_20
      refine lv_if_ne (tgt := 35) hx hb dX12_next_28 (by decide) (fun c_22 => ?_) (fun c_22 => ?_)
      · have c_22 := hw_20.t c_22
        refine lv_aload_n hx hb dX12_next_35 rfl (lv_at hl 0 rfl) ?_
        refine lv_iload_n hx hb dX12_next_36 rfl (lv_at hl 1 rfl) ?_
        refine tq_cvR hS (hAf _ hS.1) (tq_rV (As := [.int p0]) (rest := []) ⟨hx, hb, hml, hown, hta⟩ (tp_P.pre hK hN hL hU hI hP) (tp_recv hK hP ho.1 hf_1 rfl) lk_X12_534 (r_X12_noises l D cy s.heap.size L K Γ f o p0 ho (by first | omega | (simp only [Int32.toInt_toInt64]; omega) | decide | assumption) (by first | omega | (simp only [Int32.toInt_toInt64]; omega) | decide | assumption) (by first | omega | (simp only [Int32.toInt_toInt64]; omega) | decide | assumption)) rfl rfl ⟨Nat.le_of_ble_eq_true rfl, Nat.le_of_ble_eq_true rfl⟩ rfl hl.1 rfl (Nat.le_of_ble_eq_true rfl) dX12_next_37 ⟨Nat.le_of_ble_eq_true rfl, Nat.le_of_ble_eq_true rfl⟩) (fun f_25 Γ_27 H locs hw_23 hP hI hc_26 hcg_28 hS => ?_)
        have hD : va_D A (va_pl L f_25) := tp_D hL hAL
        have hfr := tp_fr2 hfr hc_26 (by decide)
        have hgr : ∀ κ : tk_K, κ.1 ∉ ([39, 58, 57, 60, 61, 62, 63, 59, 68, 69] : List Nat) → Γ_27 κ = Γ κ := tg_fr2 hgr hcg_28 (by decide)
        have hw_23 : Γ_27 (39, 0, 0) 0 = Γ (39, 0, 0) 0 := hw_23
        refine lv_iconst (v := 0) hx hb dX12_next_40 (by decide) ?_
        refine lv_istore (lv' := [(4, .int 0), (0, .ref o), (1, .int p0), (2, .int p1), (3, .int p2)]) hx hb dX12_next_41 hl (by decide) rfl (fun ls hl => ?_)
        refine lv_lconst (v := 0) hx hb dX12_next_43 (by decide) ?_
        refine lv_lstore (lv' := [(5, .long 0), (4, .int 0), (0, .ref o), (1, .int p0), (2, .int p1), (3, .int p2)]) hx hb dX12_next_44 hl (by decide) rfl (fun ls hl => ?_)
        refine lv_iconst (v := 0) hx hb dX12_next_46 (by decide) ?_
        refine lv_istore (lv' := [(7, .int 0), (5, .long 0), (4, .int 0), (0, .ref o), (1, .int p0), (2, .int p1), (3, .int p2)]) hx hb dX12_next_47 hl (by decide) rfl (fun ls hl => ?_)
        refine lv_iconst (v := 1) hx hb dX12_next_49 (by decide) ?_
        refine lv_istore (lv' := [(8, .int 1), (7, .int 0), (5, .long 0), (4, .int 0), (0, .ref o), (1, .int p0), (2, .int p1), (3, .int p2)]) hx hb dX12_next_50 hl (by decide) rfl (fun ls hl => ?_)
        refine tl_ind (G := fun H locs ls => W p l e ((headSpec (tl_w yX12_next cX12_next 13 (some .long)) ({ frames := 8, cells := 0, slots := 0, locals := 199 })).room) s m #[.ref o, .int p0, .int p1, .int p2] below meth c H locs 0 0 (MQ below (va_Ql (fun (r : Int64) (u : (Nat → va_E) × tk_G) => u.2 (39, 0, 0) 0 = Γ (39, 0, 0) 0) (tp_BG D cy L K Γ f [39, 58, 57, 60, 61, 62, 63, 59, 68, 69]) A) #[.ref o, .int p0, .int p1, .int p2] s 0 0 A) (F0 m 52 ls [])) (α := (Nat → va_E) × Int32 × Int32 × Int64 × Int32) (fun aq => (2147483647 - aq.2.1.toInt).toNat) (fun aq H locs ls => (1 ≤ aq.2.1.toInt) ∧ va_P D vwCl (va_pl L aq.1) H ∧ tp_I cy L K Γ_27 aq.1 ∧ (∀ b, (K b).1 ∉ ([39, 58, 57, 60, 61, 62, 63, 59, 68, 69] : List Nat) → aq.1 b = f b) ∧ va_S A s.heap H locs ∧ lv_has ls 13 [(8, .int aq.2.1), (7, .int aq.2.2.1), (5, .long aq.2.2.2.1), (4, .int aq.2.2.2.2), (0, .ref o), (1, .int p0), (2, .int p1), (3, .int p2)]) ?_ (f_25, (1 : Int32), (0 : Int32), (0 : Int64), (0 : Int32)) H locs ls ⟨(show 1 ≤ (1 : Int) from (by decide)), hP, hI, hfr, hS, lv_sub hl [0, 1, 2, 3, 4, 5, 6, 7] rfl⟩
        rintro ⟨f_29, v8, v7, v5, v4⟩ H locs ls ⟨hr8, hP, hI, hfr, hS, hl⟩ ih52
        have hP : va_P D vwCl (va_pl L f_29) H := hP
        have hI : tp_I cy L K Γ_27 f_29 := hI
        have hfr : ∀ b, (K b).1 ∉ ([39, 58, 57, 60, 61, 62, 63, 59, 68, 69] : List Nat) → f_29 b = f b := hfr
        have hD : va_D A (va_pl L f_29) := tp_D hL hAL
        have hr8 : 1 ≤ v8.toInt := hr8
        have hl : lv_has ls 13 [(8, .int v8), (7, .int v7), (5, .long v5), (4, .int v4), (0, .ref o), (1, .int p0), (2, .int p1), (3, .int p2)] := hl
        refine lv_iload hx hb dX12_next_52 (lv_at hl 0 rfl) ?_
        refine lv_iconst (v := 1) hx hb dX12_next_54 (by decide) ?_
        refine lv_aload_n hx hb dX12_next_55 rfl (lv_at hl 4 rfl) ?_
        obtain ⟨r_31, v_32, q_33, hf_30, hr_34, hv_35⟩ := (show tp_o_M L K 0 0 (Γ_27 (39, 0, 0)) (f_29 o) from hI.at ho)
        refine tp_get (cy := cy) (ci := 12) (v := .ref (r_31 0)) (C := RX12) (T := TX12) (N := 49) hx hb hta inlX12 hown hK hP ho.1 hf_30 rfl 0 (by decide) (hta _ wk_149) (fun _ h9 => h9) rfl dX12_next_56 ?_
        refine lv_iconst (v := 4) hx hb dX12_next_59 (by decide) ?_
        obtain ⟨g_44, hf_43, hg_45⟩ := (show tp_gi cy (7666) (Γ (40, 7666, 0)) (f (r_31 0)) from hI0.at (show tp_r L K 40 7666 0 (r_31 0) from hr_34 0 (by decide)))
        have hn_46 : vp_in 4 (7666) := tl_in (by decide) (by decide)
        refine tp_iald (cy := cy) hx hb hK hP (show tp_r L K 40 7666 0 (r_31 0) from hr_34 0 (by decide)).1 ((tp_un hfr (show tp_r L K 40 7666 0 (r_31 0) from hr_34 0 (by decide)) (by decide)).trans hf_43) hn_46 dX12_next_60 ?_
        refine lv_topi (fun z_47 ez_47 => ?_)
        have iz_47 : z_47.toInt = Γ (40, 7666, 0) 4 := by rw [ez_47]; exact hg_45 _ (tp_pin hn_46)
        refine lv_ishl hx hb dX12_next_61 ?_
        refine lv_topi (fun z_48 ez_48 => ?_)
        have rz_48 := tl_rng z_48
        refine lv_icmp_ge (tgt := 185) hx hb dX12_next_62 (by decide) (fun c_49 => ?_) (fun c_49 => ?_)
        · have c_49 : z_48.toInt ≤ v8.toInt := tl_le c_49
          refine lv_iload_n hx hb dX12_next_185 rfl (lv_at hl 7 rfl) ?_
          refine lv_if_ne (tgt := 195) hx hb dX12_next_186 (by decide) (fun c_50 => ?_) (fun c_50 => ?_)
          · have c_50 : ¬ p2.toInt = (0 : Int) := tl_neq c_50
            refine lv_lload hx hb dX12_next_195 (lv_at hl 2 rfl) ?_
            have hpo9 : Γ_27 (39, 0, 0) 0 = Γ (39, 0, 0) 0 := (by omega)
            exact W.lret (v := v5) hx hb hr (fun t ht hW => ⟨⟨_, (f_29, Γ_27), rfl, hpo9, by rw [ht]; exact hP, hI, hfr, hgr⟩, hS.F ht⟩) hS.2.2 dX12_next_197
          · have c_50 : p2.toInt = (0 : Int) := tl_eq c_50
            refine lv_iload hx hb dX12_next_189 (lv_at hl 3 rfl) ?_
            refine lv_i2l (v := v4.toInt64) hx hb dX12_next_191 (by first | rfl | decide) ?_
            refine lv_goto (tgt := 197) hx hb dX12_next_192 (by decide) ?_
            have hpo9 : Γ_27 (39, 0, 0) 0 = Γ (39, 0, 0) 0 := (by omega)
            exact W.lret (v := v4.toInt64) hx hb hr (fun t ht hW => ⟨⟨_, (f_29, Γ_27), rfl, hpo9, by rw [ht]; exact hP, hI, hfr, hgr⟩, hS.F ht⟩) hS.2.2 dX12_next_197
        · have c_49 : v8.toInt < z_48.toInt := tl_nle c_49
          refine lv_lconst (v := 0) hx hb dX12_next_65 (by decide) ?_
          refine lv_lstore (lv' := [(9, .long 0), (8, .int v8), (7, .int v7), (5, .long v5), (4, .int v4), (0, .ref o), (1, .int p0), (2, .int p1), (3, .int p2)]) hx hb dX12_next_66 hl (by decide) rfl (fun ls hl => ?_)
          refine lv_iconst (v := 0) hx hb dX12_next_68 (by decide) ?_
          refine lv_istore (lv' := [(11, .int 0), (9, .long 0), (8, .int v8), (7, .int v7), (5, .long v5), (4, .int v4), (0, .ref o), (1, .int p0), (2, .int p1), (3, .int p2)]) hx hb dX12_next_69 hl (by decide) rfl (fun ls hl => ?_)
          refine lv_iconst (v := 0) hx hb dX12_next_71 (by decide) ?_
          refine lv_istore (lv' := [(12, .int 0), (11, .int 0), (9, .long 0), (8, .int v8), (7, .int v7), (5, .long v5), (4, .int v4), (0, .ref o), (1, .int p0), (2, .int p1), (3, .int p2)]) hx hb dX12_next_72 hl (by decide) rfl (fun ls hl => ?_)
          refine tl_ind (G := fun H locs ls => W p l e ((headSpec (tl_w yX12_next cX12_next 13 (some .long)) ({ frames := 8, cells := 0, slots := 0, locals := 199 })).room) s m #[.ref o, .int p0, .int p1, .int p2] below meth c H locs 0 0 (MQ below (va_Ql (fun (r : Int64) (u : (Nat → va_E) × tk_G) => u.2 (39, 0, 0) 0 = Γ (39, 0, 0) 0) (tp_BG D cy L K Γ f [39, 58, 57, 60, 61, 62, 63, 59, 68, 69]) A) #[.ref o, .int p0, .int p1, .int p2] s 0 0 A) (F0 m 74 ls [])) (α := (Nat → va_E) × Int32 × Int32 × Int64) (fun aq => (10 - aq.2.1.toInt).toNat) (fun aq H locs ls => (0 ≤ aq.2.1.toInt) ∧ va_P D vwCl (va_pl L aq.1) H ∧ tp_I cy L K Γ_27 aq.1 ∧ (∀ b, (K b).1 ∉ ([39, 58, 57, 60, 61, 62, 63, 59, 68, 69] : List Nat) → aq.1 b = f b) ∧ va_S A s.heap H locs ∧ lv_has ls 13 [(12, .int aq.2.1), (11, .int aq.2.2.1), (9, .long aq.2.2.2), (8, .int v8), (7, .int v7), (5, .long v5), (4, .int v4), (0, .ref o), (1, .int p0), (2, .int p1), (3, .int p2)]) ?_ (f_29, (0 : Int32), (0 : Int32), (0 : Int64)) H locs ls ⟨(show 0 ≤ (0 : Int) from (by omega)), hP, hI, hfr, hS, lv_sub hl [0, 1, 2, 3, 4, 5, 6, 7, 8, 9, 10] rfl⟩
          rintro ⟨f_51, v12, v11, v9⟩ H locs ls ⟨hr12, hP, hI, hfr, hS, hl⟩ ih74
          have hP : va_P D vwCl (va_pl L f_51) H := hP
          have hI : tp_I cy L K Γ_27 f_51 := hI
          have hfr : ∀ b, (K b).1 ∉ ([39, 58, 57, 60, 61, 62, 63, 59, 68, 69] : List Nat) → f_51 b = f b := hfr
          have hD : va_D A (va_pl L f_51) := tp_D hL hAL
          have hr12 : 0 ≤ v12.toInt := hr12
          have hl : lv_has ls 13 [(12, .int v12), (11, .int v11), (9, .long v9), (8, .int v8), (7, .int v7), (5, .long v5), (4, .int v4), (0, .ref o), (1, .int p0), (2, .int p1), (3, .int p2)] := hl
          refine lv_iload hx hb dX12_next_74 (lv_at hl 0 rfl) ?_
          refine lv_aload_n hx hb dX12_next_76 rfl (lv_at hl 7 rfl) ?_
          obtain ⟨r_53, v_54, q_55, hf_52, hr_56, hv_57⟩ := (show tp_o_M L K 0 0 (Γ_27 (39, 0, 0)) (f_51 o) from hI.at ho)
          refine tp_get (cy := cy) (ci := 12) (v := .ref (r_53 0)) (C := RX12) (T := TX12) (N := 49) hx hb hta inlX12 hown hK hP ho.1 hf_52 rfl 0 (by decide) (hta _ wk_149) (fun _ h9 => h9) rfl dX12_next_77 ?_
          refine lv_iconst (v := 4) hx hb dX12_next_80 (by decide) ?_
          obtain ⟨g_66, hf_65, hg_67⟩ := (show tp_gi cy (7666) (Γ (40, 7666, 0)) (f (r_53 0)) from hI0.at (show tp_r L K 40 7666 0 (r_53 0) from hr_56 0 (by decide)))
          have hn_68 : vp_in 4 (7666) := tl_in (by decide) (by decide)
          refine tp_iald (cy := cy) hx hb hK hP (show tp_r L K 40 7666 0 (r_53 0) from hr_56 0 (by decide)).1 ((tp_un hfr (show tp_r L K 40 7666 0 (r_53 0) from hr_56 0 (by decide)) (by decide)).trans hf_65) hn_68 dX12_next_81 ?_
          refine lv_topi (fun z_69 ez_69 => ?_)
          have iz_69 : z_69.toInt = Γ (40, 7666, 0) 4 := by rw [ez_69]; exact hg_67 _ (tp_pin hn_68)
          refine lv_icmp_ge (tgt := 135) hx hb dX12_next_82 (by decide) (fun c_70 => ?_) (fun c_70 => ?_)
          · have c_70 : z_69.toInt ≤ v12.toInt := tl_le c_70
            refine lv_iload hx hb dX12_next_135 (lv_at hl 1 rfl) ?_
            refine lv_iload_n hx hb dX12_next_137 rfl (lv_at hl 9 rfl) ?_
            refine lv_icmp_gt (tgt := 179) hx hb dX12_next_138 (by decide) (fun c_71 => ?_) (fun c_71 => ?_)
            · have c_71 : p1.toInt < v11.toInt := tl_lt c_71
              obtain ⟨z_72, ez_72⟩ : ∃ y : Int32, y = v8 + 1 := ⟨_, rfl⟩
              refine lv_iinc (v := z_72) (lv' := [(8, .int z_72), (12, .int v12), (11, .int v11), (9, .long v9), (7, .int v7), (5, .long v5), (4, .int v4), (0, .ref o), (1, .int p0), (2, .int p1), (3, .int p2)]) hx hb dX12_next_179 hl (k := 3) rfl (by rw [ez_72]; rfl) (by decide) rfl (fun ls hl => ?_)
              try have iz_72 : z_72.toInt = v8.toInt + 1 := by rw [ez_72]; exact tl_addL v8 1 (by decide) (by omega) (by omega)
              refine lv_goto (tgt := 52) hx hb dX12_next_182 (by decide) ?_
              exact ih52 (f_51, z_72, v7, v5, v4) H locs ls (by show (2147483647 - z_72.toInt).toNat < (2147483647 - v8.toInt).toNat; omega) ⟨(show 1 ≤ z_72.toInt from (by omega)), hP, hI, hfr, hS, lv_sub hl [0, 4, 5, 6, 7, 8, 9, 10] rfl⟩
            · have c_71 : v11.toInt ≤ p1.toInt := tl_nlt c_71
              refine lv_lload hx hb dX12_next_141 (lv_at hl 2 rfl) ?_
              refine lv_lload hx hb dX12_next_143 (lv_at hl 5 rfl) ?_
              refine W.lcmp hx hb dX12_next_145 ?_
              refine lv_if_lt (tgt := 179) hx hb dX12_next_146 (by decide) (fun c_73 => ?_) (fun c_73 => ?_)
              · have c_73 : v9.toInt < v5.toInt := tl_cmp_lt c_73
                obtain ⟨z_74, ez_74⟩ : ∃ y : Int32, y = v8 + 1 := ⟨_, rfl⟩
                refine lv_iinc (v := z_74) (lv' := [(8, .int z_74), (12, .int v12), (11, .int v11), (9, .long v9), (7, .int v7), (5, .long v5), (4, .int v4), (0, .ref o), (1, .int p0), (2, .int p1), (3, .int p2)]) hx hb dX12_next_179 hl (k := 3) rfl (by rw [ez_74]; rfl) (by decide) rfl (fun ls hl => ?_)
                try have iz_74 : z_74.toInt = v8.toInt + 1 := by rw [ez_74]; exact tl_addL v8 1 (by decide) (by omega) (by omega)
                refine lv_goto (tgt := 52) hx hb dX12_next_182 (by decide) ?_
                exact ih52 (f_51, z_74, v7, v5, v4) H locs ls (by show (2147483647 - z_74.toInt).toNat < (2147483647 - v8.toInt).toNat; omega) ⟨(show 1 ≤ z_74.toInt from (by omega)), hP, hI, hfr, hS, lv_sub hl [0, 4, 5, 6, 7, 8, 9, 10] rfl⟩
              · have c_73 : v9.toInt ≥ v5.toInt := tl_cmp_nlt c_73
                refine lv_lload hx hb dX12_next_149 (lv_at hl 2 rfl) ?_
                refine lv_lload hx hb dX12_next_151 (lv_at hl 5 rfl) ?_
                refine W.lcmp hx hb dX12_next_153 ?_
                refine lv_if_ne (tgt := 167) hx hb dX12_next_154 (by decide) (fun c_75 => ?_) (fun c_75 => ?_)
                · have c_75 : ¬ v9.toInt = v5.toInt := tl_cmp_ne c_75
                  refine lv_iload hx hb dX12_next_167 (lv_at hl 3 rfl) ?_
                  refine lv_istore (lv' := [(4, .int v8), (12, .int v12), (11, .int v11), (9, .long v9), (8, .int v8), (7, .int v7), (5, .long v5), (0, .ref o), (1, .int p0), (2, .int p1), (3, .int p2)]) hx hb dX12_next_169 hl (by decide) rfl (fun ls hl => ?_)
                  refine lv_lload hx hb dX12_next_171 (lv_at hl 3 rfl) ?_
                  refine lv_lstore (lv' := [(5, .long v9), (4, .int v8), (12, .int v12), (11, .int v11), (9, .long v9), (8, .int v8), (7, .int v7), (0, .ref o), (1, .int p0), (2, .int p1), (3, .int p2)]) hx hb dX12_next_173 hl (by decide) rfl (fun ls hl => ?_)
                  refine lv_iload hx hb dX12_next_175 (lv_at hl 3 rfl) ?_
                  refine lv_istore (lv' := [(7, .int v11), (5, .long v9), (4, .int v8), (12, .int v12), (11, .int v11), (9, .long v9), (8, .int v8), (0, .ref o), (1, .int p0), (2, .int p1), (3, .int p2)]) hx hb dX12_next_177 hl (by decide) rfl (fun ls hl => ?_)
                  obtain ⟨z_76, ez_76⟩ : ∃ y : Int32, y = v8 + 1 := ⟨_, rfl⟩
                  refine lv_iinc (v := z_76) (lv' := [(8, .int z_76), (7, .int v11), (5, .long v9), (4, .int v8), (12, .int v12), (11, .int v11), (9, .long v9), (0, .ref o), (1, .int p0), (2, .int p1), (3, .int p2)]) hx hb dX12_next_179 hl (k := 6) rfl (by rw [ez_76]; rfl) (by decide) rfl (fun ls hl => ?_)
                  try have iz_76 : z_76.toInt = v8.toInt + 1 := by rw [ez_76]; exact tl_addL v8 1 (by decide) (by omega) (by omega)
                  refine lv_goto (tgt := 52) hx hb dX12_next_182 (by decide) ?_
                  exact ih52 (f_51, z_76, v11, v9, v8) H locs ls (by show (2147483647 - z_76.toInt).toNat < (2147483647 - v8.toInt).toNat; omega) ⟨(show 1 ≤ z_76.toInt from (by omega)), hP, hI, hfr, hS, lv_sub hl [0, 1, 2, 3, 7, 8, 9, 10] rfl⟩
                · have c_75 : v9.toInt = v5.toInt := tl_cmp_nne c_75
                  refine lv_iload hx hb dX12_next_157 (lv_at hl 1 rfl) ?_
                  refine lv_iload hx hb dX12_next_159 (lv_at hl 4 rfl) ?_
                  refine lv_icmp_lt (tgt := 167) hx hb dX12_next_161 (by decide) (fun c_77 => ?_) (fun c_77 => ?_)
                  · have c_77 : v11.toInt < v7.toInt := tl_lt c_77
                    refine lv_iload hx hb dX12_next_167 (lv_at hl 3 rfl) ?_
                    refine lv_istore (lv' := [(4, .int v8), (12, .int v12), (11, .int v11), (9, .long v9), (8, .int v8), (7, .int v7), (5, .long v5), (0, .ref o), (1, .int p0), (2, .int p1), (3, .int p2)]) hx hb dX12_next_169 hl (by decide) rfl (fun ls hl => ?_)
                    refine lv_lload hx hb dX12_next_171 (lv_at hl 3 rfl) ?_
                    refine lv_lstore (lv' := [(5, .long v9), (4, .int v8), (12, .int v12), (11, .int v11), (9, .long v9), (8, .int v8), (7, .int v7), (0, .ref o), (1, .int p0), (2, .int p1), (3, .int p2)]) hx hb dX12_next_173 hl (by decide) rfl (fun ls hl => ?_)
                    refine lv_iload hx hb dX12_next_175 (lv_at hl 3 rfl) ?_
                    refine lv_istore (lv' := [(7, .int v11), (5, .long v9), (4, .int v8), (12, .int v12), (11, .int v11), (9, .long v9), (8, .int v8), (0, .ref o), (1, .int p0), (2, .int p1), (3, .int p2)]) hx hb dX12_next_177 hl (by decide) rfl (fun ls hl => ?_)
                    obtain ⟨z_78, ez_78⟩ : ∃ y : Int32, y = v8 + 1 := ⟨_, rfl⟩
                    refine lv_iinc (v := z_78) (lv' := [(8, .int z_78), (7, .int v11), (5, .long v9), (4, .int v8), (12, .int v12), (11, .int v11), (9, .long v9), (0, .ref o), (1, .int p0), (2, .int p1), (3, .int p2)]) hx hb dX12_next_179 hl (k := 6) rfl (by rw [ez_78]; rfl) (by decide) rfl (fun ls hl => ?_)
                    try have iz_78 : z_78.toInt = v8.toInt + 1 := by rw [ez_78]; exact tl_addL v8 1 (by decide) (by omega) (by omega)
                    refine lv_goto (tgt := 52) hx hb dX12_next_182 (by decide) ?_
                    exact ih52 (f_51, z_78, v11, v9, v8) H locs ls (by show (2147483647 - z_78.toInt).toNat < (2147483647 - v8.toInt).toNat; omega) ⟨(show 1 ≤ z_78.toInt from (by omega)), hP, hI, hfr, hS, lv_sub hl [0, 1, 2, 3, 7, 8, 9, 10] rfl⟩
                  · have c_77 : v7.toInt ≤ v11.toInt := tl_nlt c_77
                    refine lv_goto (tgt := 179) hx hb dX12_next_164 (by decide) ?_
                    obtain ⟨z_79, ez_79⟩ : ∃ y : Int32, y = v8 + 1 := ⟨_, rfl⟩
                    refine lv_iinc (v := z_79) (lv' := [(8, .int z_79), (12, .int v12), (11, .int v11), (9, .long v9), (7, .int v7), (5, .long v5), (4, .int v4), (0, .ref o), (1, .int p0), (2, .int p1), (3, .int p2)]) hx hb dX12_next_179 hl (k := 3) rfl (by rw [ez_79]; rfl) (by decide) rfl (fun ls hl => ?_)
                    try have iz_79 : z_79.toInt = v8.toInt + 1 := by rw [ez_79]; exact tl_addL v8 1 (by decide) (by omega) (by omega)
                    refine lv_goto (tgt := 52) hx hb dX12_next_182 (by decide) ?_
                    exact ih52 (f_51, z_79, v7, v5, v4) H locs ls (by show (2147483647 - z_79.toInt).toNat < (2147483647 - v8.toInt).toNat; omega) ⟨(show 1 ≤ z_79.toInt from (by omega)), hP, hI, hfr, hS, lv_sub hl [0, 4, 5, 6, 7, 8, 9, 10] rfl⟩
          · have c_70 : v12.toInt < z_69.toInt := tl_nle c_70
            refine lv_iload hx hb dX12_next_85 (lv_at hl 3 rfl) ?_
            refine lv_iload hx hb dX12_next_87 (lv_at hl 0 rfl) ?_
            refine lv_ishr hx hb dX12_next_89 ?_
            refine lv_topi (fun z_80 ez_80 => ?_)
            refine lv_iconst (v := 1) hx hb dX12_next_90 (by decide) ?_
            refine lv_iand hx hb dX12_next_91 ?_
            refine lv_topi (fun z_81 ez_81 => ?_)
            refine lv_if_ne (tgt := 98) hx hb dX12_next_92 (by decide) (fun c_82 => ?_) (fun c_82 => ?_)
            · have c_82 : ¬ z_81.toInt = (0 : Int) := tl_neq c_82
              refine lv_lload hx hb dX12_next_98 (lv_at hl 2 rfl) ?_
              refine lv_aload_n hx hb dX12_next_100 rfl (lv_at hl 7 rfl) ?_
              refine lv_iload hx hb dX12_next_101 (lv_at hl 0 rfl) ?_
              refine tl_sl (tq_rV (As := [.int v12]) (rest := [.long v9]) ⟨hx, hb, hml, hown, hta⟩ (tp_P.pre hK hN hL hU hI hP) (tp_recv hK hP ho.1 hf_52 rfl) lk_X12_537 (r_X12_worthOf l D cy H.size L K Γ_27 f_51 o v12 ho (by first | omega | assumption | (rw [hgr (40, 7666, 0) (by decide), hgr (42, 3, 0) (by decide)]; first | exact hsd | assumption | omega)) (by first | omega | (simp only [Int32.toInt_toInt64]; omega) | decide | assumption)) rfl rfl ⟨Nat.le_of_ble_eq_true rfl, Nat.le_of_ble_eq_true rfl⟩ rfl hl.1 rfl (Nat.le_of_ble_eq_true rfl) dX12_next_103 ⟨Nat.le_of_ble_eq_true rfl, Nat.le_of_ble_eq_true rfl⟩) (fun r_84 hw_83 => ?_)
              refine lv_ladd hx hb dX12_next_106 ?_
              refine lv_topl (fun z_85 ez_85 => ?_)
              refine lv_lstore (lv' := [(9, .long z_85), (12, .int v12), (11, .int v11), (8, .int v8), (7, .int v7), (5, .long v5), (4, .int v4), (0, .ref o), (1, .int p0), (2, .int p1), (3, .int p2)]) hx hb dX12_next_107 hl (by decide) rfl (fun ls hl => ?_)
              refine lv_iload hx hb dX12_next_109 (lv_at hl 2 rfl) ?_
              refine lv_aload_n hx hb dX12_next_111 rfl (lv_at hl 7 rfl) ?_
              refine tp_get (cy := cy) (ci := 12) (v := .ref (r_53 0)) (C := RX12) (T := TX12) (N := 49) hx hb hta inlX12 hown hK hP ho.1 hf_52 rfl 0 (by decide) (hta _ wk_149) (fun _ h9 => h9) rfl dX12_next_112 ?_
              refine lv_sipush (v := 421) hx hb dX12_next_115 (by decide) ?_
              refine lv_iconst (v := 2) hx hb dX12_next_118 (by decide) ?_
              refine lv_iload hx hb dX12_next_119 (lv_at hl 1 rfl) ?_
              refine lv_imul hx hb dX12_next_121 ?_
              refine lv_topi (fun z_86 ez_86 => ?_)
              try have iz_86 : z_86.toInt = (2 : Int) * v12.toInt := by rw [ez_86]; exact tl_mulN 2 v12 rfl rfl (by omega) (by omega)
              refine lv_iadd hx hb dX12_next_122 ?_
              refine lv_topi (fun z_87 ez_87 => ?_)
              try have iz_87 : z_87.toInt = (421 : Int) + z_86.toInt := by rw [ez_87]; exact tl_addN 421 z_86 rfl rfl (by omega) (by omega)
              refine lv_iconst (v := 1) hx hb dX12_next_123 (by decide) ?_
              refine lv_iadd hx hb dX12_next_124 ?_
              refine lv_topi (fun z_88 ez_88 => ?_)
              try have iz_88 : z_88.toInt = z_87.toInt + (1 : Int) := by rw [ez_88]; exact tl_addN z_87 1 rfl rfl (by omega) (by omega)
              have hn_89 : vp_in z_88 (7666) := tl_in (by omega) (by omega)
              refine tp_iald (cy := cy) hx hb hK hP (show tp_r L K 40 7666 0 (r_53 0) from hr_56 0 (by decide)).1 ((tp_un hfr (show tp_r L K 40 7666 0 (r_53 0) from hr_56 0 (by decide)) (by decide)).trans hf_65) hn_89 dX12_next_125 ?_
              refine lv_topi (fun z_90 ez_90 => ?_)
              have iz_90 : z_90.toInt = Γ (40, 7666, 0) z_88.toInt.toNat := by rw [ez_90]; exact hg_67 _ (tp_pin hn_89)
              refine lv_iadd hx hb dX12_next_126 ?_
              refine lv_topi (fun z_91 ez_91 => ?_)
              try have iz_91 : z_91.toInt = v11.toInt + z_90.toInt := by rw [ez_91]; exact tl_addN v11 z_90 rfl rfl (by omega) (by omega)
              refine lv_istore (lv' := [(11, .int z_91), (9, .long z_85), (12, .int v12), (8, .int v8), (7, .int v7), (5, .long v5), (4, .int v4), (0, .ref o), (1, .int p0), (2, .int p1), (3, .int p2)]) hx hb dX12_next_127 hl (by decide) rfl (fun ls hl => ?_)
              obtain ⟨z_92, ez_92⟩ : ∃ y : Int32, y = v12 + 1 := ⟨_, rfl⟩
              refine lv_iinc (v := z_92) (lv' := [(12, .int z_92), (11, .int z_91), (9, .long z_85), (8, .int v8), (7, .int v7), (5, .long v5), (4, .int v4), (0, .ref o), (1, .int p0), (2, .int p1), (3, .int p2)]) hx hb dX12_next_129 hl (k := 2) rfl (by rw [ez_92]; rfl) (by decide) rfl (fun ls hl => ?_)
              try have iz_92 : z_92.toInt = v12.toInt + 1 := by rw [ez_92]; exact tl_addL v12 1 (by decide) (by omega) (by omega)
              refine lv_goto (tgt := 74) hx hb dX12_next_132 (by decide) ?_
              exact ih74 (f_51, z_92, z_91, z_85) H locs ls (by show (10 - z_92.toInt).toNat < (10 - v12.toInt).toNat; omega) ⟨(show 0 ≤ z_92.toInt from (by omega)), hP, hI, hfr, hS, lv_sub hl [0, 1, 2, 3, 4, 5, 6, 7, 8, 9, 10] rfl⟩
            · have c_82 : z_81.toInt = (0 : Int) := tl_eq c_82
              refine lv_goto (tgt := 129) hx hb dX12_next_95 (by decide) ?_
              obtain ⟨z_93, ez_93⟩ : ∃ y : Int32, y = v12 + 1 := ⟨_, rfl⟩
              refine lv_iinc (v := z_93) (lv' := [(12, .int z_93), (11, .int v11), (9, .long v9), (8, .int v8), (7, .int v7), (5, .long v5), (4, .int v4), (0, .ref o), (1, .int p0), (2, .int p1), (3, .int p2)]) hx hb dX12_next_129 hl (k := 0) rfl (by rw [ez_93]; rfl) (by decide) rfl (fun ls hl => ?_)
              try have iz_93 : z_93.toInt = v12.toInt + 1 := by rw [ez_93]; exact tl_addL v12 1 (by decide) (by omega) (by omega)
              refine lv_goto (tgt := 74) hx hb dX12_next_132 (by decide) ?_
              exact ih74 (f_51, z_93, v11, v9) H locs ls (by show (10 - z_93.toInt).toNat < (10 - v12.toInt).toNat; omega) ⟨(show 0 ≤ z_93.toInt from (by omega)), hP, hI, hfr, hS, lv_sub hl [0, 1, 2, 3, 4, 5, 6, 7, 8, 9, 10] rfl⟩
      · have c_22 := hw_20.f c_22
        refine lv_ldc2 (v := (-1)) hx hb hown (hta _ wk_991) dX12_next_31 ?_
        have hpo9 : Γ (39, 0, 0) 0 = Γ (39, 0, 0) 0 := (by omega)
        exact W.lret (v := (-1)) hx hb hr (fun t ht hW => ⟨⟨_, (f, Γ), rfl, hpo9, by rw [ht]; exact hP, hI, hfr, hgr⟩, hS.F ht⟩) hS.2.2 dX12_next_34
