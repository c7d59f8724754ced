theorem dX12_firsts_0 : decode cX12_firsts 0 = .ok (.iconst 0, 1) := by decide +kernel
theorem dX12_firsts_1 : decode cX12_firsts 1 = .ok (.istore_n 1, 1) := by decide +kernel
theorem dX12_firsts_2 : decode cX12_firsts 2 = .ok (.iload_n 1, 1) := by decide +kernel
theorem dX12_firsts_3 : decode cX12_firsts 3 = .ok (.aload_n 0, 1) := by decide +kernel
theorem dX12_firsts_4 : decode cX12_firsts 4 = .ok (.getfield 7, 3) := by decide +kernel
theorem dX12_firsts_7 : decode cX12_firsts 7 = .ok (.sipush 7665, 3) := by decide +kernel
theorem dX12_firsts_10 : decode cX12_firsts 10 = .ok (.iaload, 1) := by decide +kernel
theorem dX12_firsts_11 : decode cX12_firsts 11 = .ok (.if_icmp .ge 138, 3) := by decide +kernel
theorem dX12_firsts_14 : decode cX12_firsts 14 = .ok (.sipush 7641, 3) := by decide +kernel
theorem dX12_firsts_17 : decode cX12_firsts 17 = .ok (.iconst 3, 1) := by decide +kernel
theorem dX12_firsts_18 : decode cX12_firsts 18 = .ok (.iload_n 1, 1) := by decide +kernel
theorem dX12_firsts_19 : decode cX12_firsts 19 = .ok (.imul, 1) := by decide +kernel
theorem dX12_firsts_20 : decode cX12_firsts 20 = .ok (.iadd, 1) := by decide +kernel
theorem dX12_firsts_21 : decode cX12_firsts 21 = .ok (.istore_n 2, 1) := by decide +kernel
theorem dX12_firsts_22 : decode cX12_firsts 22 = .ok (.aload_n 0, 1) := by decide +kernel
theorem dX12_firsts_23 : decode cX12_firsts 23 = .ok (.getfield 94, 3) := by decide +kernel
theorem dX12_firsts_26 : decode cX12_firsts 26 = .ok (.iload_n 1, 1) := by decide +kernel
theorem dX12_firsts_27 : decode cX12_firsts 27 = .ok (.sipush 400, 3) := by decide +kernel
theorem dX12_firsts_30 : decode cX12_firsts 30 = .ok (.iastore, 1) := by decide +kernel
theorem dX12_firsts_31 : decode cX12_firsts 31 = .ok (.iconst 0, 1) := by decide +kernel
theorem dX12_firsts_32 : decode cX12_firsts 32 = .ok (.istore_n 3, 1) := by decide +kernel
theorem dX12_firsts_33 : decode cX12_firsts 33 = .ok (.iload_n 3, 1) := by decide +kernel
theorem dX12_firsts_34 : decode cX12_firsts 34 = .ok (.aload_n 0, 1) := by decide +kernel
theorem dX12_firsts_35 : decode cX12_firsts 35 = .ok (.getfield 7, 3) := by decide +kernel
theorem dX12_firsts_38 : decode cX12_firsts 38 = .ok (.iconst 1, 1) := by decide +kernel
theorem dX12_firsts_39 : decode cX12_firsts 39 = .ok (.iaload, 1) := by decide +kernel
theorem dX12_firsts_40 : decode cX12_firsts 40 = .ok (.if_icmp .ge 103, 3) := by decide +kernel
theorem dX12_firsts_43 : decode cX12_firsts 43 = .ok (.aload_n 0, 1) := by decide +kernel
theorem dX12_firsts_44 : decode cX12_firsts 44 = .ok (.aload_n 0, 1) := by decide +kernel
theorem dX12_firsts_45 : decode cX12_firsts 45 = .ok (.getfield 7, 3) := by decide +kernel
theorem dX12_firsts_48 : decode cX12_firsts 48 = .ok (.iload_n 2, 1) := by decide +kernel
theorem dX12_firsts_49 : decode cX12_firsts 49 = .ok (.iaload, 1) := by decide +kernel
theorem dX12_firsts_50 : decode cX12_firsts 50 = .ok (.iload_n 3, 1) := by decide +kernel
theorem dX12_firsts_51 : decode cX12_firsts 51 = .ok (.invokevirtual 450, 3) := by decide +kernel
theorem dX12_firsts_54 : decode cX12_firsts 54 = .ok (.lstore 4, 2) := by decide +kernel
theorem dX12_firsts_56 : decode cX12_firsts 56 = .ok (.aload_n 0, 1) := by decide +kernel
theorem dX12_firsts_57 : decode cX12_firsts 57 = .ok (.getfield 425, 3) := by decide +kernel
theorem dX12_firsts_60 : decode cX12_firsts 60 = .ok (.ifCond .eq 77, 3) := by decide +kernel
theorem dX12_firsts_63 : decode cX12_firsts 63 = .ok (.lload 4, 2) := by decide +kernel
theorem dX12_firsts_65 : decode cX12_firsts 65 = .ok (.aload_n 0, 1) := by decide +kernel
theorem dX12_firsts_66 : decode cX12_firsts 66 = .ok (.getfield 7, 3) := by decide +kernel
theorem dX12_firsts_69 : decode cX12_firsts 69 = .ok (.iload_n 2, 1) := by decide +kernel
theorem dX12_firsts_70 : decode cX12_firsts 70 = .ok (.iconst 1, 1) := by decide +kernel
theorem dX12_firsts_71 : decode cX12_firsts 71 = .ok (.iadd, 1) := by decide +kernel
theorem dX12_firsts_72 : decode cX12_firsts 72 = .ok (.iaload, 1) := by decide +kernel
theorem dX12_firsts_73 : decode cX12_firsts 73 = .ok (.i2l, 1) := by decide +kernel
theorem dX12_firsts_74 : decode cX12_firsts 74 = .ok (.lcmp, 1) := by decide +kernel
theorem dX12_firsts_75 : decode cX12_firsts 75 = .ok (.ifCond .lt 62, 3) := by decide +kernel
theorem dX12_firsts_78 : decode cX12_firsts 78 = .ok (.aload_n 0, 1) := by decide +kernel
theorem dX12_firsts_79 : decode cX12_firsts 79 = .ok (.getfield 7, 3) := by decide +kernel
theorem dX12_firsts_82 : decode cX12_firsts 82 = .ok (.iload_n 2, 1) := by decide +kernel
theorem dX12_firsts_83 : decode cX12_firsts 83 = .ok (.iconst 2, 1) := by decide +kernel
theorem dX12_firsts_84 : decode cX12_firsts 84 = .ok (.iadd, 1) := by decide +kernel
theorem dX12_firsts_85 : decode cX12_firsts 85 = .ok (.iaload, 1) := by decide +kernel
theorem dX12_firsts_86 : decode cX12_firsts 86 = .ok (.aload_n 0, 1) := by decide +kernel
theorem dX12_firsts_87 : decode cX12_firsts 87 = .ok (.iload_n 3, 1) := by decide +kernel
theorem dX12_firsts_88 : decode cX12_firsts 88 = .ok (.iconst 0, 1) := by decide +kernel
theorem dX12_firsts_89 : decode cX12_firsts 89 = .ok (.invokevirtual 132, 3) := by decide +kernel
theorem dX12_firsts_92 : decode cX12_firsts 92 = .ok (.ishr, 1) := by decide +kernel
theorem dX12_firsts_93 : decode cX12_firsts 93 = .ok (.iconst 1, 1) := by decide +kernel
theorem dX12_firsts_94 : decode cX12_firsts 94 = .ok (.iand, 1) := by decide +kernel
theorem dX12_firsts_95 : decode cX12_firsts 95 = .ok (.ifCond .ne 6, 3) := by decide +kernel
theorem dX12_firsts_98 : decode cX12_firsts 98 = .ok (.goto 39, 3) := by decide +kernel
theorem dX12_firsts_101 : decode cX12_firsts 101 = .ok (.aload_n 0, 1) := by decide +kernel
theorem dX12_firsts_102 : decode cX12_firsts 102 = .ok (.getfield 94, 3) := by decide +kernel
theorem dX12_firsts_105 : decode cX12_firsts 105 = .ok (.iload_n 1, 1) := by decide +kernel
theorem dX12_firsts_106 : decode cX12_firsts 106 = .ok (.aload_n 0, 1) := by decide +kernel
theorem dX12_firsts_107 : decode cX12_firsts 107 = .ok (.iload_n 3, 1) := by decide +kernel
theorem dX12_firsts_108 : decode cX12_firsts 108 = .ok (.iconst 2, 1) := by decide +kernel
theorem dX12_firsts_109 : decode cX12_firsts 109 = .ok (.invokevirtual 132, 3) := by decide +kernel
theorem dX12_firsts_112 : decode cX12_firsts 112 = .ok (.aload_n 0, 1) := by decide +kernel
theorem dX12_firsts_113 : decode cX12_firsts 113 = .ok (.getfield 94, 3) := by decide +kernel
theorem dX12_firsts_116 : decode cX12_firsts 116 = .ok (.iload_n 1, 1) := by decide +kernel
theorem dX12_firsts_117 : decode cX12_firsts 117 = .ok (.iaload, 1) := by decide +kernel
theorem dX12_firsts_118 : decode cX12_firsts 118 = .ok (.if_icmp .ge 12, 3) := by decide +kernel
theorem dX12_firsts_121 : decode cX12_firsts 121 = .ok (.aload_n 0, 1) := by decide +kernel
theorem dX12_firsts_122 : decode cX12_firsts 122 = .ok (.iload_n 3, 1) := by decide +kernel
theorem dX12_firsts_123 : decode cX12_firsts 123 = .ok (.iconst 2, 1) := by decide +kernel
theorem dX12_firsts_124 : decode cX12_firsts 124 = .ok (.invokevirtual 132, 3) := by decide +kernel
theorem dX12_firsts_127 : decode cX12_firsts 127 = .ok (.goto 9, 3) := by decide +kernel
theorem dX12_firsts_130 : decode cX12_firsts 130 = .ok (.aload_n 0, 1) := by decide +kernel
theorem dX12_firsts_131 : decode cX12_firsts 131 = .ok (.getfield 94, 3) := by decide +kernel
theorem dX12_firsts_134 : decode cX12_firsts 134 = .ok (.iload_n 1, 1) := by decide +kernel
theorem dX12_firsts_135 : decode cX12_firsts 135 = .ok (.iaload, 1) := by decide +kernel
theorem dX12_firsts_136 : decode cX12_firsts 136 = .ok (.iastore, 1) := by decide +kernel
theorem dX12_firsts_137 : decode cX12_firsts 137 = .ok (.iinc 3 1, 3) := by decide +kernel
theorem dX12_firsts_140 : decode cX12_firsts 140 = .ok (.goto (-107), 3) := by decide +kernel
theorem dX12_firsts_143 : decode cX12_firsts 143 = .ok (.iinc 1 1, 3) := by decide +kernel
theorem dX12_firsts_146 : decode cX12_firsts 146 = .ok (.goto (-144), 3) := by decide +kernel
theorem dX12_firsts_149 : decode cX12_firsts 149 = .ok (.return_, 1) := by decide +kernel
theorem wk_177 : Cond.fieldLink RX12 94 "ThinLineModel" "firstSaid" "[I" ∈ tl_L := List.mem_filter.mpr ⟨lw_m6 (i := 109) rfl, rfl⟩
theorem dX12_sayers_0 : decode cX12_sayers 0 = .ok (.iconst 0, 1) := by decide +kernel
theorem dX12_sayers_1 : decode cX12_sayers 1 = .ok (.istore_n 2, 1) := by decide +kernel
theorem dX12_sayers_2 : decode cX12_sayers 2 = .ok (.iconst 0, 1) := by decide +kernel
theorem dX12_sayers_3 : decode cX12_sayers 3 = .ok (.istore_n 3, 1) := by decide +kernel
theorem dX12_sayers_4 : decode cX12_sayers 4 = .ok (.iload_n 3, 1) := by decide +kernel
theorem dX12_sayers_5 : decode cX12_sayers 5 = .ok (.aload_n 0, 1) := by decide +kernel
theorem dX12_sayers_6 : decode cX12_sayers 6 = .ok (.getfield 7, 3) := by decide +kernel
theorem dX12_sayers_9 : decode cX12_sayers 9 = .ok (.sipush 7665, 3) := by decide +kernel
theorem dX12_sayers_12 : decode cX12_sayers 12 = .ok (.iaload, 1) := by decide +kernel
theorem dX12_sayers_13 : decode cX12_sayers 13 = .ok (.if_icmp .ge 27, 3) := by decide +kernel
theorem dX12_sayers_16 : decode cX12_sayers 16 = .ok (.iload_n 2, 1) := by decide +kernel
theorem dX12_sayers_17 : decode cX12_sayers 17 = .ok (.aload_n 0, 1) := by decide +kernel
theorem dX12_sayers_18 : decode cX12_sayers 18 = .ok (.getfield 94, 3) := by decide +kernel
theorem dX12_sayers_21 : decode cX12_sayers 21 = .ok (.iload_n 3, 1) := by decide +kernel
theorem dX12_sayers_22 : decode cX12_sayers 22 = .ok (.iaload, 1) := by decide +kernel
theorem dX12_sayers_23 : decode cX12_sayers 23 = .ok (.iload_n 1, 1) := by decide +kernel
theorem dX12_sayers_24 : decode cX12_sayers 24 = .ok (.if_icmp .gt 7, 3) := by decide +kernel
theorem dX12_sayers_27 : decode cX12_sayers 27 = .ok (.iconst 1, 1) := by decide +kernel
theorem dX12_sayers_28 : decode cX12_sayers 28 = .ok (.goto 4, 3) := by decide +kernel
theorem dX12_sayers_31 : decode cX12_sayers 31 = .ok (.iconst 0, 1) := by decide +kernel
theorem dX12_sayers_32 : decode cX12_sayers 32 = .ok (.iadd, 1) := by decide +kernel
theorem dX12_sayers_33 : decode cX12_sayers 33 = .ok (.istore_n 2, 1) := by decide +kernel
theorem dX12_sayers_34 : decode cX12_sayers 34 = .ok (.iinc 3 1, 3) := by decide +kernel
theorem dX12_sayers_37 : decode cX12_sayers 37 = .ok (.goto (-33), 3) := by decide +kernel
theorem dX12_sayers_40 : decode cX12_sayers 40 = .ok (.iload_n 2, 1) := by decide +kernel
theorem dX12_sayers_41 : decode cX12_sayers 41 = .ok (.ireturn, 1) := by decide +kernel
theorem dX12_says_0 : decode cX12_says 0 = .ok (.iload_n 1, 1) := by decide +kernel
theorem dX12_says_1 : decode cX12_says 1 = .ok (.i2l, 1) := by decide +kernel
theorem dX12_says_2 : decode cX12_says 2 = .ok (.lconst 0, 1) := by decide +kernel
theorem dX12_says_3 : decode cX12_says 3 = .ok (.aload_n 0, 1) := by decide +kernel
theorem dX12_says_4 : decode cX12_says 4 = .ok (.getfield 7, 3) := by decide +kernel
theorem dX12_says_7 : decode cX12_says 7 = .ok (.sipush 7665, 3) := by decide +kernel
theorem dX12_says_10 : decode cX12_says 10 = .ok (.iaload, 1) := by decide +kernel
theorem dX12_says_11 : decode cX12_says 11 = .ok (.iconst 1, 1) := by decide +kernel
theorem dX12_says_12 : decode cX12_says 12 = .ok (.isub, 1) := by decide +kernel
theorem dX12_says_13 : decode cX12_says 13 = .ok (.i2l, 1) := by decide +kernel
theorem dX12_says_14 : decode cX12_says 14 = .ok (.invokestatic 112, 3) := by decide +kernel
theorem dX12_says_17 : decode cX12_says 17 = .ok (.ifCond .eq 10, 3) := by decide +kernel
theorem dX12_says_20 : decode cX12_says 20 = .ok (.iload_n 2, 1) := by decide +kernel
theorem dX12_says_21 : decode cX12_says 21 = .ok (.invokestatic 496, 3) := by decide +kernel
theorem dX12_says_24 : decode cX12_says 24 = .ok (.ifCond .ne 5, 3) := by decide +kernel
theorem dX12_says_27 : decode cX12_says 27 = .ok (.iconst (-1), 1) := by decide +kernel
theorem dX12_says_28 : decode cX12_says 28 = .ok (.ireturn, 1) := by decide +kernel
theorem dX12_says_29 : decode cX12_says 29 = .ok (.aload_n 0, 1) := by decide +kernel
theorem dX12_says_30 : decode cX12_says 30 = .ok (.invokevirtual 526, 3) := by decide +kernel
theorem dX12_says_33 : decode cX12_says 33 = .ok (.aload_n 0, 1) := by decide +kernel
theorem dX12_says_34 : decode cX12_says 34 = .ok (.getfield 94, 3) := by decide +kernel
theorem dX12_says_37 : decode cX12_says 37 = .ok (.iload_n 1, 1) := by decide +kernel
theorem dX12_says_38 : decode cX12_says 38 = .ok (.iaload, 1) := by decide +kernel
theorem dX12_says_39 : decode cX12_says 39 = .ok (.iload_n 2, 1) := by decide +kernel
theorem dX12_says_40 : decode cX12_says 40 = .ok (.if_icmp .gt 7, 3) := by decide +kernel
theorem dX12_says_43 : decode cX12_says 43 = .ok (.iconst 1, 1) := by decide +kernel
theorem dX12_says_44 : decode cX12_says 44 = .ok (.goto 4, 3) := by decide +kernel
theorem dX12_says_47 : decode cX12_says 47 = .ok (.iconst 0, 1) := by decide +kernel
theorem dX12_says_48 : decode cX12_says 48 = .ok (.ireturn, 1) := by decide +kernel
theorem wk_1328 : Cond.methodLink RX12 526 yX12_firsts ∈ tl_L := List.mem_filter.mpr ⟨lw_m8 (i := 217) rfl, rfl⟩
theorem wk_1329 : Cond.instanceMethod yX12_firsts ∈ tl_L := List.mem_filter.mpr ⟨lw_m8 (i := 219) rfl, rfl⟩
theorem wk_1330 : Cond.selects RX12 yX12_firsts yX12_firsts ∈ tl_L := List.mem_filter.mpr ⟨lw_s11 (i := 10) (q := (yX12_firsts, 49)) rfl, rfl⟩
theorem wk_1331 : Cond.code yX12_firsts cX12_firsts 6 none ∈ tl_L := List.mem_filter.mpr ⟨lw_m8 (i := 220) rfl, rfl⟩
theorem lk_X12_526 : tl_kV RX12 526 RX12 yX12_firsts cX12_firsts 6 none 0 := ⟨wk_1331, wk_1328, wk_1329, wk_1330, wk_5, ⟨by decide +kernel, by decide +kernel, by decide +kernel⟩⟩
theorem dX12_agreed_0 : decode cX12_agreed 0 = .ok (.iload_n 1, 1) := by decide +kernel
theorem dX12_agreed_1 : decode cX12_agreed 1 = .ok (.invokestatic 496, 3) := by decide +kernel
theorem dX12_agreed_4 : decode cX12_agreed 4 = .ok (.ifCond .ne 5, 3) := by decide +kernel
theorem dX12_agreed_7 : decode cX12_agreed 7 = .ok (.iconst (-1), 1) := by decide +kernel
theorem dX12_agreed_8 : decode cX12_agreed 8 = .ok (.ireturn, 1) := by decide +kernel
theorem dX12_agreed_9 : decode cX12_agreed 9 = .ok (.aload_n 0, 1) := by decide +kernel
theorem dX12_agreed_10 : decode cX12_agreed 10 = .ok (.invokevirtual 526, 3) := by decide +kernel
theorem dX12_agreed_13 : decode cX12_agreed 13 = .ok (.iconst 0, 1) := by decide +kernel
theorem dX12_agreed_14 : decode cX12_agreed 14 = .ok (.istore_n 2, 1) := by decide +kernel
theorem dX12_agreed_15 : decode cX12_agreed 15 = .ok (.iload_n 2, 1) := by decide +kernel
theorem dX12_agreed_16 : decode cX12_agreed 16 = .ok (.iload_n 1, 1) := by decide +kernel
theorem dX12_agreed_17 : decode cX12_agreed 17 = .ok (.if_icmp .gt 29, 3) := by decide +kernel
theorem dX12_agreed_20 : decode cX12_agreed 20 = .ok (.iconst 2, 1) := by decide +kernel
theorem dX12_agreed_21 : decode cX12_agreed 21 = .ok (.aload_n 0, 1) := by decide +kernel
theorem dX12_agreed_22 : decode cX12_agreed 22 = .ok (.iload_n 2, 1) := by decide +kernel
theorem dX12_agreed_23 : decode cX12_agreed 23 = .ok (.invokevirtual 529, 3) := by decide +kernel
theorem dX12_agreed_26 : decode cX12_agreed 26 = .ok (.imul, 1) := by decide +kernel
theorem dX12_agreed_27 : decode cX12_agreed 27 = .ok (.aload_n 0, 1) := by decide +kernel
theorem dX12_agreed_28 : decode cX12_agreed 28 = .ok (.getfield 7, 3) := by decide +kernel
theorem dX12_agreed_31 : decode cX12_agreed 31 = .ok (.sipush 7665, 3) := by decide +kernel
theorem dX12_agreed_34 : decode cX12_agreed 34 = .ok (.iaload, 1) := by decide +kernel
theorem dX12_agreed_35 : decode cX12_agreed 35 = .ok (.if_icmp .le 5, 3) := by decide +kernel
theorem dX12_agreed_38 : decode cX12_agreed 38 = .ok (.iload_n 2, 1) := by decide +kernel
theorem dX12_agreed_39 : decode cX12_agreed 39 = .ok (.ireturn, 1) := by decide +kernel
theorem dX12_agreed_40 : decode cX12_agreed 40 = .ok (.iinc 2 1, 3) := by decide +kernel
theorem dX12_agreed_43 : decode cX12_agreed 43 = .ok (.goto (-28), 3) := by decide +kernel
theorem dX12_agreed_46 : decode cX12_agreed 46 = .ok (.bipush (-2), 2) := by decide +kernel
theorem dX12_agreed_48 : decode cX12_agreed 48 = .ok (.ireturn, 1) := by decide +kernel
theorem wk_1344 : Cond.methodLink RX12 529 yX12_sayers ∈ tl_L := List.mem_filter.mpr ⟨lw_m8 (i := 225) rfl, rfl⟩
theorem wk_1345 : Cond.instanceMethod yX12_sayers ∈ tl_L := List.mem_filter.mpr ⟨lw_m8 (i := 227) rfl, rfl⟩
theorem wk_1346 : Cond.selects RX12 yX12_sayers yX12_sayers ∈ tl_L := List.mem_filter.mpr ⟨lw_s11 (i := 11) (q := (yX12_sayers, 49)) rfl, rfl⟩
theorem wk_1347 : Cond.code yX12_sayers cX12_sayers 4 (some .int) ∈ tl_L := List.mem_filter.mpr ⟨lw_m8 (i := 228) rfl, rfl⟩
theorem lk_X12_529 : tl_kV RX12 529 RX12 yX12_sayers cX12_sayers 4 (some .int) 1 := ⟨wk_1347, wk_1344, wk_1345, wk_1346, wk_5, ⟨by decide +kernel, by decide +kernel, by decide +kernel⟩⟩
theorem dX12_alone_0 : decode cX12_alone 0 = .ok (.iload_n 1, 1) := by decide +kernel
theorem dX12_alone_1 : decode cX12_alone 1 = .ok (.invokestatic 496, 3) := by decide +kernel
theorem dX12_alone_4 : decode cX12_alone 4 = .ok (.ifCond .ne 5, 3) := by decide +kernel
theorem dX12_alone_7 : decode cX12_alone 7 = .ok (.iconst (-1), 1) := by decide +kernel
theorem dX12_alone_8 : decode cX12_alone 8 = .ok (.ireturn, 1) := by decide +kernel
theorem dX12_alone_9 : decode cX12_alone 9 = .ok (.aload_n 0, 1) := by decide +kernel
theorem dX12_alone_10 : decode cX12_alone 10 = .ok (.invokevirtual 526, 3) := by decide +kernel
theorem dX12_alone_13 : decode cX12_alone 13 = .ok (.aload_n 0, 1) := by decide +kernel
theorem dX12_alone_14 : decode cX12_alone 14 = .ok (.iload_n 1, 1) := by decide +kernel
theorem dX12_alone_15 : decode cX12_alone 15 = .ok (.invokevirtual 529, 3) := by decide +kernel
theorem dX12_alone_18 : decode cX12_alone 18 = .ok (.iconst 1, 1) := by decide +kernel
theorem dX12_alone_19 : decode cX12_alone 19 = .ok (.if_icmp .eq 6, 3) := by decide +kernel
theorem dX12_alone_22 : decode cX12_alone 22 = .ok (.bipush (-2), 2) := by decide +kernel
theorem dX12_alone_24 : decode cX12_alone 24 = .ok (.ireturn, 1) := by decide +kernel
theorem dX12_alone_25 : decode cX12_alone 25 = .ok (.iconst 0, 1) := by decide +kernel
theorem dX12_alone_26 : decode cX12_alone 26 = .ok (.istore_n 2, 1) := by decide +kernel
theorem dX12_alone_27 : decode cX12_alone 27 = .ok (.aload_n 0, 1) := by decide +kernel
theorem dX12_alone_28 : decode cX12_alone 28 = .ok (.getfield 94, 3) := by decide +kernel
theorem dX12_alone_31 : decode cX12_alone 31 = .ok (.iload_n 2, 1) := by decide +kernel
theorem dX12_alone_32 : decode cX12_alone 32 = .ok (.iaload, 1) := by decide +kernel
theorem dX12_alone_33 : decode cX12_alone 33 = .ok (.iload_n 1, 1) := by decide +kernel
theorem dX12_alone_34 : decode cX12_alone 34 = .ok (.if_icmp .le 9, 3) := by decide +kernel
theorem dX12_alone_37 : decode cX12_alone 37 = .ok (.iinc 2 1, 3) := by decide +kernel
theorem dX12_alone_40 : decode cX12_alone 40 = .ok (.goto (-13), 3) := by decide +kernel
theorem dX12_alone_43 : decode cX12_alone 43 = .ok (.iload_n 2, 1) := by decide +kernel
theorem dX12_alone_44 : decode cX12_alone 44 = .ok (.ireturn, 1) := by decide +kernel
set_option maxHeartbeats 4000000 in
set_option maxRecDepth 100000 in
theorem r_X12_firsts (l : Launch) (D : va_G) (cy : Nat → ClassId) (sz : Nat) (L : List Nat) (K : Nat → tk_K) (Γ : tk_G) (f : Nat → va_E) (o : Nat) (ho : tp_r L K 39 (0) 0 o) (htx : tx_ok (Γ (43, 8800, 0)) (Γ (45, 1056, 0)) (Γ (46, 22, 0)) (Γ (47, 6, 0)) (Γ (48, 22, 0)) (Γ (49, 22, 0)) (Γ (50, 22, 0)) (Γ (51, 22, 0)) (Γ (42, 3, 0))) (hsd : ts_said (Γ (40, 7666, 0)) (Γ (42, 3, 0) 1)) : Met l yX12_firsts (tl_w yX12_firsts cX12_firsts 6 none) ({ frames := 7, cells := 0, slots := 0, locals := 177 }) (va_Pc [.ref o] (tp_P D cy L K Γ f sz)) (va_Qv (fun (u : (Nat → va_E) × tk_G) => u.2 (39, 0, 0) 0 = Γ (39, 0, 0) 0) (tp_BG D cy L K Γ f [39, 58, 57, 60, 61, 62, 63, 59, 67]) (tp_A L sz)) 0 0 (tp_A L sz) := by
  refine Met.ofW (cc := cX12_firsts) (maxL := 6) (ret := none) (by decide) rfl ?_
  intro p e s m args below meth c s₁ B hml hv
  obtain ⟨rfl, hsz, hP, hK, hL, hI, hN, hU⟩ := hv
  have hx := B.exec
  have hb := B.bytes
  have hr := B.returns
  have hta := tl_hta (atoms_spec (ws := tl_w yX12_firsts cX12_firsts 6 none) B.pre)
  have hown : s.vm.findClass RX12 = some m.cls := findClass_of_methodNamed B.named
  have hlocks := B.notSynchronized
  subst hsz
  have hI0 := hI
  generalize hAe : tp_A L s.heap.size = A
  have hA : ∀ q : Nat, s.heap.size ≤ q → A q := fun q h => by rw [← hAe]; exact Or.inr h
  have hAL : ∀ q ∈ L, A q := fun q h => by rw [← hAe]; exact Or.inl h
  have hAf : ∀ (H : Heap), s.heap.size ≤ H.size → ∀ q, tp_A L H.size q → A q := fun H h q hq => hq.elim (hAL q) (fun h2 => hA q (Nat.le_trans h h2))
  have hS : va_S A s.heap s.heap [] := va_S.rf
  have hD : va_D A (va_pl L f) := tp_D hL hAL
  have hfr : ∀ b, (K b).1 ∉ ([39, 58, 57, 60, 61, 62, 63, 59, 67] : List Nat) → f b = f b := fun _ _ => rfl
  have hgr : ∀ κ : tk_K, κ.1 ∉ ([39, 58, 57, 60, 61, 62, 63, 59, 67] : List Nat) → Γ κ = Γ κ := fun _ _ => rfl
  have hl := lv_entry ([.ref o]) (n := 6) (Nat.le_of_ble_eq_true rfl)
  rw [lg_entry_eq]
  generalize (lg_sl ([.ref o]) ++ List.replicate (6 - (lg_sl ([.ref o])).length) Slot.unset).toArray = ls at hl ⊢
  have hl : lv_has ls 6 [(0, .ref o)] := hl
  have hs := ts_hs hsd
  have hraw := ts_raw hsd
  have hslp := ts_slp hsd
  have htb := htx.1
  refine lv_iconst (v := 0) hx hb dX12_firsts_0 (by decide) ?_
  refine lv_istore_n (lv' := [(1, .int 0), (0, .ref o)]) hx hb dX12_firsts_1 rfl hl (by decide) rfl (fun ls hl => ?_)
  refine tq_start hP hS (fun H locs hP hS => ?_)
  refine tl_ind (G := fun H locs ls => W p l e ((headSpec (tl_w yX12_firsts cX12_firsts 6 none) ({ frames := 7, cells := 0, slots := 0, locals := 177 })).room) s m #[.ref o] below meth c H locs 0 0 (MQ below (va_Qv (fun (u : (Nat → va_E) × tk_G) => u.2 (39, 0, 0) 0 = Γ (39, 0, 0) 0) (tp_BG D cy L K Γ f [39, 58, 57, 60, 61, 62, 63, 59, 67]) A) #[.ref o] s 0 0 A) (F0 m 2 ls [])) (α := (Nat → va_E) × tk_G × Int32) (fun aq => (8 - aq.2.2.toInt).toNat) (fun aq H locs ls => (0 ≤ aq.2.2.toInt) ∧ (aq.2.1 (39, 0, 0) 0 = Γ (39, 0, 0) 0) ∧ va_P D vwCl (va_pl L aq.1) H ∧ tp_I cy L K aq.2.1 aq.1 ∧ (∀ b, (K b).1 ∉ ([39, 58, 57, 60, 61, 62, 63, 59, 67] : List Nat) → aq.1 b = f b) ∧ (∀ κ : tk_K, κ.1 ∉ ([39, 58, 57, 60, 61, 62, 63, 59, 67] : List Nat) → aq.2.1 κ = Γ κ) ∧ va_S A s.heap H locs ∧ lv_has ls 6 [(1, .int aq.2.2), (0, .ref o)]) ?_ (f, Γ, (0 : Int32)) H locs ls ⟨(show 0 ≤ (0 : Int) from (by omega)), (show Γ (39, 0, 0) 0 = Γ (39, 0, 0) 0 from (by omega)), hP, hI, hfr, hgr, hS, lv_sub hl [0, 1] rfl⟩
  rintro ⟨f_1, Γ_2, v1⟩ H locs ls ⟨hr1, q0, hP, hI, hfr, hgr, hS, hl⟩ ih2
  have hgr : ∀ κ : tk_K, κ.1 ∉ ([39, 58, 57, 60, 61, 62, 63, 59, 67] : List Nat) → Γ_2 κ = Γ κ := hgr
  have hP : va_P D vwCl (va_pl L f_1) H := hP
  have hI : tp_I cy L K Γ_2 f_1 := hI
  have hfr : ∀ b, (K b).1 ∉ ([39, 58, 57, 60, 61, 62, 63, 59, 67] : List Nat) → f_1 b = f b := hfr
  have hD : va_D A (va_pl L f_1) := tp_D hL hAL
  have hr1 : 0 ≤ v1.toInt := hr1
  have q0 : Γ_2 (39, 0, 0) 0 = Γ (39, 0, 0) 0 := q0
  have hl : lv_has ls 6 [(1, .int v1), (0, .ref o)] := hl
  refine lv_iload_n hx hb dX12_firsts_2 rfl (lv_at hl 0 rfl) ?_
  refine lv_aload_n hx hb dX12_firsts_3 rfl (lv_at hl 1 rfl) ?_
  obtain ⟨r_4, v_5, q_6, hf_3, hr_7, hv_8⟩ := (show tp_o_M L K 0 0 (Γ_2 (39, 0, 0)) (f_1 o) from hI.at ho)
  have hx_9 : (v_5 0).toInt = Γ_2 (39, 0, 0) 0 := hv_8 0 (by decide)
  have hx_10 : (v_5 10).toInt = Γ_2 (39, 0, 0) 10 := hv_8 10 (by decide)
  have hx_11 : (v_5 11).toInt = Γ_2 (39, 0, 0) 11 := hv_8 11 (by decide)
  have hx_12 : (v_5 12).toInt = Γ_2 (39, 0, 0) 12 := hv_8 12 (by decide)
  have hx_13 : (v_5 13).toInt = Γ_2 (39, 0, 0) 13 := hv_8 13 (by decide)
  have hx_14 : (v_5 14).toInt = Γ_2 (39, 0, 0) 14 := hv_8 14 (by decide)
  have hx_15 : (v_5 15).toInt = Γ_2 (39, 0, 0) 15 := hv_8 15 (by decide)
  refine tp_get (cy := cy) (ci := 12) (v := .ref (r_4 0)) (C := RX12) (T := TX12) (N := 49) hx hb hta inlX12 hown hK hP ho.1 hf_3 rfl 0 (by decide) (hta _ wk_149) (fun _ h9 => h9) rfl dX12_firsts_4 ?_
  refine lv_sipush (v := 7665) hx hb dX12_firsts_7 (by decide) ?_
  obtain ⟨g_17, hf_16, hg_18⟩ := (show tp_gi cy (7666) (Γ (40, 7666, 0)) (f (r_4 0)) from hI0.at (show tp_r L K 40 7666 0 (r_4 0) from hr_7 0 (by decide)))
  have hn_19 : vp_in 7665 (7666) := tl_in (by decide) (by decide)
  refine tp_iald (cy := cy) hx hb hK hP (show tp_r L K 40 7666 0 (r_4 0) from hr_7 0 (by decide)).1 ((tp_un hfr (show tp_r L K 40 7666 0 (r_4 0) from hr_7 0 (by decide)) (by decide)).trans hf_16) hn_19 dX12_firsts_10 ?_
  refine lv_topi (fun z_20 ez_20 => ?_)
  have iz_20 : z_20.toInt = Γ (40, 7666, 0) 7665 := by rw [ez_20]; exact hg_18 _ (tp_pin hn_19)
  refine lv_icmp_ge (tgt := 149) hx hb dX12_firsts_11 (by decide) (fun c_21 => ?_) (fun c_21 => ?_)
  · have c_21 : z_20.toInt ≤ v1.toInt := tl_le c_21
    have hpo9 : Γ_2 (39, 0, 0) 0 = Γ (39, 0, 0) 0 := (by omega)
    exact W.vret hx hb hr (fun t ht hW => ⟨⟨(f_1, Γ_2), rfl, hpo9, by rw [ht]; exact hP, hI, hfr, hgr⟩, hS.F ht⟩) hS.2.2 dX12_firsts_149
  · have c_21 : v1.toInt < z_20.toInt := tl_nle c_21
    refine lv_sipush (v := 7641) hx hb dX12_firsts_14 (by decide) ?_
    refine lv_iconst (v := 3) hx hb dX12_firsts_17 (by decide) ?_
    refine lv_iload_n hx hb dX12_firsts_18 rfl (lv_at hl 0 rfl) ?_
    refine lv_imul hx hb dX12_firsts_19 ?_
    refine lv_topi (fun z_22 ez_22 => ?_)
    try have iz_22 : z_22.toInt = (3 : Int) * v1.toInt := by rw [ez_22]; exact tl_mulN 3 v1 rfl rfl (by omega) (by omega)
    refine lv_iadd hx hb dX12_firsts_20 ?_
    refine lv_topi (fun z_23 ez_23 => ?_)
    try have iz_23 : z_23.toInt = (7641 : Int) + z_22.toInt := by rw [ez_23]; exact tl_addN 7641 z_22 rfl rfl (by omega) (by omega)
    refine lv_istore_n (lv' := [(2, .int z_23), (1, .int v1), (0, .ref o)]) hx hb dX12_firsts_21 rfl hl (by decide) rfl (fun ls hl => ?_)
    refine lv_aload_n hx hb dX12_firsts_22 rfl (lv_at hl 2 rfl) ?_
    refine tp_get (cy := cy) (ci := 12) (v := .ref (r_4 27)) (C := RX12) (T := TX12) (N := 49) hx hb hta inlX12 hown hK hP ho.1 hf_3 rfl 44 (by decide) (hta _ wk_177) (fun _ h9 => h9) rfl dX12_firsts_23 ?_
    refine lv_iload_n hx hb dX12_firsts_26 rfl (lv_at hl 1 rfl) ?_
    refine lv_sipush (v := 400) hx hb dX12_firsts_27 (by decide) ?_
    obtain ⟨g_25, hf_24, hg_26⟩ := (show tp_gi cy (8) (Γ_2 (67, 8, 0)) (f_1 (r_4 27)) from hI.at (show tp_r L K 67 8 0 (r_4 27) from hr_7 27 (by decide)))
    have hn_27 : vp_in v1 (8) := tl_in (by omega) (by omega)
    have hj_28 : v1.toNatClampNeg = v1.toInt.toNat := rfl
    have hv_29 : (400 : Int32).toInt = (400 : Int) := by decide
    obtain ⟨Γ_30, eΓ_30⟩ : ∃ y : tk_G, y = tg Γ_2 (67, 8, 0) v1.toInt.toNat (400 : Int) := ⟨_, rfl⟩
    have hI9 : tp_I cy L K Γ_30 (va_up f_1 (r_4 27) (.inl (cy 0, 8, .inl (upd g_25 v1.toNatClampNeg 400)))) := by have q9 : tg Γ_2 (67, 8, 0) v1.toInt.toNat (400 : Int) = tg Γ_2 (67, 8, 0) v1.toNatClampNeg (400 : Int32).toInt := (by rw [hj_28, hv_29]); rw [eΓ_30, q9]; exact hI.setg hU rfl (show tp_r L K 67 8 0 (r_4 27) from hr_7 27 (by decide)) (show tp_gi cy (8) (tgu (Γ_2 (67, 8, 0)) _ _) _ from ⟨_, rfl, tp_gi_upd hg_26⟩)
    have hfr9 : ∀ b, (K b).1 ∉ ([39, 58, 57, 60, 61, 62, 63, 59, 67] : List Nat) → va_up f_1 (r_4 27) (.inl (cy 0, 8, .inl (upd g_25 v1.toNatClampNeg 400))) b = f b := tp_fr hfr (show tp_r L K 67 8 0 (r_4 27) from hr_7 27 (by decide)) (by decide)
    refine tp_iast (cy := cy) hx hb hK hP hD hS (show tp_r L K 67 8 0 (r_4 27) from hr_7 27 (by decide)).1 hf_24 hn_27 dX12_firsts_30 (fun H locs hP hD hS => ?_)
    have hP : va_P D vwCl (va_pl L (va_up f_1 (r_4 27) (.inl (cy 0, 8, .inl (upd g_25 v1.toNatClampNeg 400))))) H := hP
    generalize hfe : va_up f_1 (r_4 27) (.inl (cy 0, 8, .inl (upd g_25 v1.toNatClampNeg 400))) = f_31 at hP hI9 hfr9
    have hD : va_D A (va_pl L f_31) := tp_D hL hAL
    have hf_32 := (show f_31 o = _ from by rw [← hfe, va_up_ne _ _ (tp_ne ho (show tp_r L K 67 8 0 (r_4 27) from hr_7 27 (by decide)) (by decide))]).trans hf_3
    have hf_33 : f_31 (r_4 27) = .inl (cy 0, 8, .inl (upd g_25 v1.toNatClampNeg 400)) := by rw [← hfe]; exact va_up_self _ _ _
    clear hfe
    have hI := hI9
    have hfr := hfr9
    clear hI9 hfr9
    have wsΓ_30 : Γ_30 (67, 8, 0) v1.toInt.toNat = (400 : Int) := by rw [eΓ_30]; exact tg_s
    have hgr : ∀ κ : tk_K, κ.1 ∉ ([39, 58, 57, 60, 61, 62, 63, 59, 67] : List Nat) → Γ_30 κ = Γ κ := tg_fr hgr eΓ_30 (by decide)
    have hv_34 : ∀ i : Nat, i < 16 → (v_5 i).toInt = Γ_30 (39, 0, 0) i := fun i hi => by rw [eΓ_30, tg_r (by decide)]; exact hv_8 i hi
    have hx_35 : (v_5 0).toInt = Γ_30 (39, 0, 0) 0 := hv_34 0 (by decide)
    have hx_36 : (v_5 10).toInt = Γ_30 (39, 0, 0) 10 := hv_34 10 (by decide)
    have hx_37 : (v_5 11).toInt = Γ_30 (39, 0, 0) 11 := hv_34 11 (by decide)
    have hx_38 : (v_5 12).toInt = Γ_30 (39, 0, 0) 12 := hv_34 12 (by decide)
    have hx_39 : (v_5 13).toInt = Γ_30 (39, 0, 0) 13 := hv_34 13 (by decide)
    have hx_40 : (v_5 14).toInt = Γ_30 (39, 0, 0) 14 := hv_34 14 (by decide)
    have hx_41 : (v_5 15).toInt = Γ_30 (39, 0, 0) 15 := hv_34 15 (by decide)
    refine lv_iconst (v := 0) hx hb dX12_firsts_31 (by decide) ?_
    refine lv_istore_n (lv' := [(3, .int 0), (2, .int z_23), (1, .int v1), (0, .ref o)]) hx hb dX12_firsts_32 rfl hl (by decide) rfl (fun ls hl => ?_)
    refine tl_ind (G := fun H locs ls => W p l e ((headSpec (tl_w yX12_firsts cX12_firsts 6 none) ({ frames := 7, cells := 0, slots := 0, locals := 177 })).room) s m #[.ref o] below meth c H locs 0 0 (MQ below (va_Qv (fun (u : (Nat → va_E) × tk_G) => u.2 (39, 0, 0) 0 = Γ (39, 0, 0) 0) (tp_BG D cy L K Γ f [39, 58, 57, 60, 61, 62, 63, 59, 67]) A) #[.ref o] s 0 0 A) (F0 m 33 ls [])) (α := (Nat → va_E) × tk_G × Int32) (fun aq => (24 - aq.2.2.toInt).toNat) (fun aq H locs ls => (0 ≤ aq.2.2.toInt) ∧ (aq.2.1 (39, 0, 0) 0 = Γ (39, 0, 0) 0) ∧ va_P D vwCl (va_pl L aq.1) H ∧ tp_I cy L K aq.2.1 aq.1 ∧ (∀ b, (K b).1 ∉ ([39, 58, 57, 60, 61, 62, 63, 59, 67] : List Nat) → aq.1 b = f b) ∧ (∀ κ : tk_K, κ.1 ∉ ([39, 58, 57, 60, 61, 62, 63, 59, 67] : List Nat) → aq.2.1 κ = Γ κ) ∧ va_S A s.heap H locs ∧ lv_has ls 6 [(3, .int aq.2.2), (2, .int z_23), (1, .int v1), (0, .ref o)]) ?_ (f_31, Γ_30, (0 : Int32)) H locs ls ⟨(show 0 ≤ (0 : Int) from (by omega)), (show Γ_30 (39, 0, 0) 0 = Γ (39, 0, 0) 0 from (by omega)), hP, hI, hfr, hgr, hS, lv_sub hl [0, 1, 2, 3] rfl⟩
    rintro ⟨f_42, Γ_43, v3⟩ H locs ls ⟨hr3, q0, hP, hI, hfr, hgr, hS, hl⟩ ih33
    have hgr : ∀ κ : tk_K, κ.1 ∉ ([39, 58, 57, 60, 61, 62, 63, 59, 67] : List Nat) → Γ_43 κ = Γ κ := hgr
    have hP : va_P D vwCl (va_pl L f_42) H := hP
    have hI : tp_I cy L K Γ_43 f_42 := hI
    have hfr : ∀ b, (K b).1 ∉ ([39, 58, 57, 60, 61, 62, 63, 59, 67] : List Nat) → f_42 b = f b := hfr
    have hD : va_D A (va_pl L f_42) := tp_D hL hAL
    have hr3 : 0 ≤ v3.toInt := hr3
    have q0 : Γ_43 (39, 0, 0) 0 = Γ (39, 0, 0) 0 := q0
    have hl : lv_has ls 6 [(3, .int v3), (2, .int z_23), (1, .int v1), (0, .ref o)] := hl
    refine lv_iload_n hx hb dX12_firsts_33 rfl (lv_at hl 0 rfl) ?_
    refine lv_aload_n hx hb dX12_firsts_34 rfl (lv_at hl 3 rfl) ?_
    obtain ⟨r_45, v_46, q_47, hf_44, hr_48, hv_49⟩ := (show tp_o_M L K 0 0 (Γ_43 (39, 0, 0)) (f_42 o) from hI.at ho)
    refine tp_get (cy := cy) (ci := 12) (v := .ref (r_45 0)) (C := RX12) (T := TX12) (N := 49) hx hb hta inlX12 hown hK hP ho.1 hf_44 rfl 0 (by decide) (hta _ wk_149) (fun _ h9 => h9) rfl dX12_firsts_35 ?_
    refine lv_iconst (v := 1) hx hb dX12_firsts_38 (by decide) ?_
    obtain ⟨g_58, hf_57, hg_59⟩ := (show tp_gi cy (7666) (Γ (40, 7666, 0)) (f (r_45 0)) from hI0.at (show tp_r L K 40 7666 0 (r_45 0) from hr_48 0 (by decide)))
    have hn_60 : vp_in 1 (7666) := tl_in (by decide) (by decide)
    refine tp_iald (cy := cy) hx hb hK hP (show tp_r L K 40 7666 0 (r_45 0) from hr_48 0 (by decide)).1 ((tp_un hfr (show tp_r L K 40 7666 0 (r_45 0) from hr_48 0 (by decide)) (by decide)).trans hf_57) hn_60 dX12_firsts_39 ?_
    refine lv_topi (fun z_61 ez_61 => ?_)
    have iz_61 : z_61.toInt = Γ (40, 7666, 0) 1 := by rw [ez_61]; exact hg_59 _ (tp_pin hn_60)
    refine lv_icmp_ge (tgt := 143) hx hb dX12_firsts_40 (by decide) (fun c_62 => ?_) (fun c_62 => ?_)
    · have c_62 : z_61.toInt ≤ v3.toInt := tl_le c_62
      obtain ⟨z_63, ez_63⟩ : ∃ y : Int32, y = v1 + 1 := ⟨_, rfl⟩
      refine lv_iinc (v := z_63) (lv' := [(1, .int z_63), (3, .int v3), (2, .int z_23), (0, .ref o)]) hx hb dX12_firsts_143 hl (k := 2) rfl (by rw [ez_63]; rfl) (by decide) rfl (fun ls hl => ?_)
      try have iz_63 : z_63.toInt = v1.toInt + 1 := by rw [ez_63]; exact tl_addL v1 1 (by decide) (by omega) (by omega)
      refine lv_goto (tgt := 2) hx hb dX12_firsts_146 (by decide) ?_
      exact ih2 (f_42, Γ_43, z_63) H locs ls (by show (8 - z_63.toInt).toNat < (8 - v1.toInt).toNat; omega) ⟨(show 0 ≤ z_63.toInt from (by omega)), (show Γ_43 (39, 0, 0) 0 = Γ (39, 0, 0) 0 from (by omega)), hP, hI, hfr, hgr, hS, lv_sub hl [0, 3] rfl⟩
    · have c_62 : v3.toInt < z_61.toInt := tl_nle c_62
      refine lv_aload_n hx hb dX12_firsts_43 rfl (lv_at hl 3 rfl) ?_
      refine lv_aload_n hx hb dX12_firsts_44 rfl (lv_at hl 3 rfl) ?_
      refine tp_get (cy := cy) (ci := 12) (v := .ref (r_45 0)) (C := RX12) (T := TX12) (N := 49) hx hb hta inlX12 hown hK hP ho.1 hf_44 rfl 0 (by decide) (hta _ wk_149) (fun _ h9 => h9) rfl dX12_firsts_45 ?_
      refine lv_iload_n hx hb dX12_firsts_48 rfl (lv_at hl 1 rfl) ?_
      have hn_64 : vp_in z_23 (7666) := tl_in (by omega) (by omega)
      refine tp_iald (cy := cy) hx hb hK hP (show tp_r L K 40 7666 0 (r_45 0) from hr_48 0 (by decide)).1 ((tp_un hfr (show tp_r L K 40 7666 0 (r_45 0) from hr_48 0 (by decide)) (by decide)).trans hf_57) hn_64 dX12_firsts_49 ?_
      refine lv_topi (fun z_65 ez_65 => ?_)
      have iz_65 : z_65.toInt = Γ (40, 7666, 0) z_23.toInt.toNat := by rw [ez_65]; exact hg_59 _ (tp_pin hn_64)
      have hho := ts_ho hsd v1.toInt.toNat (by omega)
      rw [show Γ (40, 7666, 0) (7641 + 3 * v1.toInt.toNat) = z_65.toInt from (iz_65.trans (congrArg _ (by omega))).symm] at hho
      refine lv_iload_n hx hb dX12_firsts_50 rfl (lv_at hl 0 rfl) ?_
      refine tq_clR hS (hAf _ hS.1) (tq_rV (As := [.int z_65, .int v3]) (rest := []) ⟨hx, hb, hml, hown, hta⟩ (tp_P.pre hK hN hL hU hI hP) (tp_recv hK hP ho.1 hf_44 rfl) lk_X12_450 (r_X12_scoreOf l D cy H.size L K Γ_43 f_42 o z_65 v3 ho (by first | omega | assumption | (rw [hgr (42, 3, 0) (by decide), hgr (43, 8800, 0) (by decide), hgr (45, 1056, 0) (by decide), hgr (46, 22, 0) (by decide), hgr (47, 6, 0) (by decide), hgr (48, 22, 0) (by decide), hgr (49, 22, 0) (by decide), hgr (50, 22, 0) (by decide), hgr (51, 22, 0) (by decide)]; first | exact htx | assumption | omega)) (by first | omega | assumption | (rw [hgr (40, 7666, 0) (by decide), hgr (42, 3, 0) (by decide)]; first | exact hsd | assumption | omega)) (by first | omega | assumption | (rw [hgr (42, 3, 0) (by decide)]; first | assumption | omega)) (by first | omega | (simp only [Int32.toInt_toInt64]; omega) | decide | assumption)) rfl rfl ⟨Nat.le_of_ble_eq_true rfl, Nat.le_of_ble_eq_true rfl⟩ rfl hl.1 rfl (Nat.le_of_ble_eq_true rfl) dX12_firsts_51 ⟨Nat.le_of_ble_eq_true rfl, Nat.le_of_ble_eq_true rfl⟩) (fun r_67 f_68 Γ_70 H locs hw_66 hP hI hc_69 hcg_71 hS => ?_)
      have hD : va_D A (va_pl L f_68) := tp_D hL hAL
      have hfr := tp_fr2 hfr hc_69 (by decide)
      have hgr : ∀ κ : tk_K, κ.1 ∉ ([39, 58, 57, 60, 61, 62, 63, 59, 67] : List Nat) → Γ_70 κ = Γ κ := tg_fr2 hgr hcg_71 (by decide)
      have hw_66 : Γ_70 (39, 0, 0) 0 = Γ_43 (39, 0, 0) 0 ∧ (0 ≤ Γ_70 (39, 0, 0) 11 ∧ Γ_70 (39, 0, 0) 12 ≤ 299) ∧ (Γ_70 (39, 0, 0) 11 = Γ_43 (49, 22, 0) (6 + z_65.toInt).toNat ∧ Γ_70 (39, 0, 0) 12 = Γ_43 (50, 22, 0) (6 + z_65.toInt).toNat) ∧ (Γ_70 (39, 0, 0) 15 = 0 ∨ Γ_70 (39, 0, 0) 15 = 1) ∧ (0 ≤ Γ_70 (39, 0, 0) 13 ∧ Γ_70 (39, 0, 0) 13 ≤ 42) ∧ (0 < Γ_70 (39, 0, 0) 13 → 0 < Γ_70 (39, 0, 0) 10) ∧ (Γ_70 (39, 0, 0) 15 = 1 → 0 < Γ_70 (39, 0, 0) 13 ∧ 0 < Γ_70 (39, 0, 0) 14) ∧ (Γ_70 (39, 0, 0) 15 = 1 → gex (Γ_70 (59, 300, 0)) (Γ_43 (49, 22, 0) (6 + z_65.toInt).toNat) (Γ_43 (50, 22, 0) (6 + z_65.toInt).toNat + 1)) ∧ (∀ j : Nat, (j : Int) < Γ_70 (39, 0, 0) 13 → 0 ≤ Γ_70 (61, 42, 0) j ∧ Γ_70 (61, 42, 0) j ≤ 299) ∧ (∀ j : Nat, (j : Int) + 1 < Γ_70 (39, 0, 0) 13 → Γ_70 (61, 42, 0) j < Γ_70 (61, 42, 0) (j + 1)) ∧ (∀ j : Nat, j < 300 → (Γ_70 (59, 300, 0) j = -1000000 ∨ (-500000 ≤ Γ_70 (59, 300, 0) j ∧ Γ_70 (59, 300, 0) j ≤ 500000))) := hw_66
      obtain ⟨hq0, hqb, hq11, hq15, hq13, hq10, hqd, hqg, hqk, hqr, hql⟩ := hw_66
      refine lv_lstore (lv' := [(4, .long r_67), (3, .int v3), (2, .int z_23), (1, .int v1), (0, .ref o)]) hx hb dX12_firsts_54 hl (by decide) rfl (fun ls hl => ?_)
      refine lv_aload_n hx hb dX12_firsts_56 rfl (lv_at hl 4 rfl) ?_
      obtain ⟨r_73, v_74, q_75, hf_72, hr_76, hv_77⟩ := (show tp_o_M L K 0 0 (Γ_70 (39, 0, 0)) (f_68 o) from hI.at ho)
      have hx_78 : (v_74 0).toInt = Γ_70 (39, 0, 0) 0 := hv_77 0 (by decide)
      have hx_79 : (v_74 10).toInt = Γ_70 (39, 0, 0) 10 := hv_77 10 (by decide)
      have hx_80 : (v_74 11).toInt = Γ_70 (39, 0, 0) 11 := hv_77 11 (by decide)
      have hx_81 : (v_74 12).toInt = Γ_70 (39, 0, 0) 12 := hv_77 12 (by decide)
      have hx_82 : (v_74 13).toInt = Γ_70 (39, 0, 0) 13 := hv_77 13 (by decide)
      have hx_83 : (v_74 14).toInt = Γ_70 (39, 0, 0) 14 := hv_77 14 (by decide)
      have hx_84 : (v_74 15).toInt = Γ_70 (39, 0, 0) 15 := hv_77 15 (by decide)
      refine tp_get (cy := cy) (ci := 12) (v := .int (v_74 15)) (C := RX12) (T := TX12) (N := 49) hx hb hta inlX12 hown hK hP ho.1 hf_72 rfl 40 (by decide) (hta _ wk_924) (fun _ h9 => h9) rfl dX12_firsts_57 ?_
      refine lv_if_eq (tgt := 137) hx hb dX12_firsts_60 (by decide) (fun c_85 => ?_) (fun c_85 => ?_)
      · have c_85 : (v_74 15).toInt = (0 : Int) := tl_eq c_85
        obtain ⟨z_86, ez_86⟩ : ∃ y : Int32, y = v3 + 1 := ⟨_, rfl⟩
        refine lv_iinc (v := z_86) (lv' := [(3, .int z_86), (4, .long r_67), (2, .int z_23), (1, .int v1), (0, .ref o)]) hx hb dX12_firsts_137 hl (k := 1) rfl (by rw [ez_86]; rfl) (by decide) rfl (fun ls hl => ?_)
        try have iz_86 : z_86.toInt = v3.toInt + 1 := by rw [ez_86]; exact tl_addL v3 1 (by decide) (by omega) (by omega)
        refine lv_goto (tgt := 33) hx hb dX12_firsts_140 (by decide) ?_
        exact ih33 (f_68, Γ_70, z_86) H locs ls (by show (24 - z_86.toInt).toNat < (24 - v3.toInt).toNat; omega) ⟨(show 0 ≤ z_86.toInt from (by omega)), (show Γ_70 (39, 0, 0) 0 = Γ (39, 0, 0) 0 from (by omega)), hP, hI, hfr, hgr, hS, lv_sub hl [0, 2, 3, 4] rfl⟩
      · have c_85 : ¬ (v_74 15).toInt = (0 : Int) := tl_neq c_85
        refine lv_lload hx hb dX12_firsts_63 (lv_at hl 0 rfl) ?_
        refine lv_aload_n hx hb dX12_firsts_65 rfl (lv_at hl 4 rfl) ?_
        refine tp_get (cy := cy) (ci := 12) (v := .ref (r_73 0)) (C := RX12) (T := TX12) (N := 49) hx hb hta inlX12 hown hK hP ho.1 hf_72 rfl 0 (by decide) (hta _ wk_149) (fun _ h9 => h9) rfl dX12_firsts_66 ?_
        refine lv_iload_n hx hb dX12_firsts_69 rfl (lv_at hl 2 rfl) ?_
        refine lv_iconst (v := 1) hx hb dX12_firsts_70 (by decide) ?_
        refine lv_iadd hx hb dX12_firsts_71 ?_
        refine lv_topi (fun z_87 ez_87 => ?_)
        try have iz_87 : z_87.toInt = z_23.toInt + (1 : Int) := by rw [ez_87]; exact tl_addN z_23 1 rfl rfl (by omega) (by omega)
        obtain ⟨g_89, hf_88, hg_90⟩ := (show tp_gi cy (7666) (Γ (40, 7666, 0)) (f (r_73 0)) from hI0.at (show tp_r L K 40 7666 0 (r_73 0) from hr_76 0 (by decide)))
        have hn_91 : vp_in z_87 (7666) := tl_in (by omega) (by omega)
        refine tp_iald (cy := cy) hx hb hK hP (show tp_r L K 40 7666 0 (r_73 0) from hr_76 0 (by decide)).1 ((tp_un hfr (show tp_r L K 40 7666 0 (r_73 0) from hr_76 0 (by decide)) (by decide)).trans hf_88) hn_91 dX12_firsts_72 ?_
        refine lv_topi (fun z_92 ez_92 => ?_)
        have iz_92 : z_92.toInt = Γ (40, 7666, 0) z_87.toInt.toNat := by rw [ez_92]; exact hg_90 _ (tp_pin hn_91)
        refine lv_i2l (v := z_92.toInt64) hx hb dX12_firsts_73 (by first | rfl | decide) ?_
        refine W.lcmp hx hb dX12_firsts_74 ?_
        refine lv_if_lt (tgt := 137) hx hb dX12_firsts_75 (by decide) (fun c_93 => ?_) (fun c_93 => ?_)
        · have c_93 : r_67.toInt < z_92.toInt := by have h9 := tl_cmp_lt c_93; simp only [Int32.toInt_toInt64] at h9; exact h9
          obtain ⟨z_94, ez_94⟩ : ∃ y : Int32, y = v3 + 1 := ⟨_, rfl⟩
          refine lv_iinc (v := z_94) (lv' := [(3, .int z_94), (4, .long r_67), (2, .int z_23), (1, .int v1), (0, .ref o)]) hx hb dX12_firsts_137 hl (k := 1) rfl (by rw [ez_94]; rfl) (by decide) rfl (fun ls hl => ?_)
          try have iz_94 : z_94.toInt = v3.toInt + 1 := by rw [ez_94]; exact tl_addL v3 1 (by decide) (by omega) (by omega)
          refine lv_goto (tgt := 33) hx hb dX12_firsts_140 (by decide) ?_
          exact ih33 (f_68, Γ_70, z_94) H locs ls (by show (24 - z_94.toInt).toNat < (24 - v3.toInt).toNat; omega) ⟨(show 0 ≤ z_94.toInt from (by omega)), (show Γ_70 (39, 0, 0) 0 = Γ (39, 0, 0) 0 from (by omega)), hP, hI, hfr, hgr, hS, lv_sub hl [0, 2, 3, 4] rfl⟩
        · have c_93 : r_67.toInt ≥ z_92.toInt := by have h9 := tl_cmp_nlt c_93; simp only [Int32.toInt_toInt64] at h9; exact h9
          refine lv_aload_n hx hb dX12_firsts_78 rfl (lv_at hl 4 rfl) ?_
          refine tp_get (cy := cy) (ci := 12) (v := .ref (r_73 0)) (C := RX12) (T := TX12) (N := 49) hx hb hta inlX12 hown hK hP ho.1 hf_72 rfl 0 (by decide) (hta _ wk_149) (fun _ h9 => h9) rfl dX12_firsts_79 ?_
          refine lv_iload_n hx hb dX12_firsts_82 rfl (lv_at hl 2 rfl) ?_
          refine lv_iconst (v := 2) hx hb dX12_firsts_83 (by decide) ?_
          refine lv_iadd hx hb dX12_firsts_84 ?_
          refine lv_topi (fun z_95 ez_95 => ?_)
          try have iz_95 : z_95.toInt = z_23.toInt + (2 : Int) := by rw [ez_95]; exact tl_addN z_23 2 rfl rfl (by omega) (by omega)
          have hn_96 : vp_in z_95 (7666) := tl_in (by omega) (by omega)
          refine tp_iald (cy := cy) hx hb hK hP (show tp_r L K 40 7666 0 (r_73 0) from hr_76 0 (by decide)).1 ((tp_un hfr (show tp_r L K 40 7666 0 (r_73 0) from hr_76 0 (by decide)) (by decide)).trans hf_88) hn_96 dX12_firsts_85 ?_
          refine lv_topi (fun z_97 ez_97 => ?_)
          have iz_97 : z_97.toInt = Γ (40, 7666, 0) z_95.toInt.toNat := by rw [ez_97]; exact hg_90 _ (tp_pin hn_96)
          refine lv_aload_n hx hb dX12_firsts_86 rfl (lv_at hl 4 rfl) ?_
          refine lv_iload_n hx hb dX12_firsts_87 rfl (lv_at hl 1 rfl) ?_
          refine lv_iconst (v := 0) hx hb dX12_firsts_88 (by decide) ?_
          refine tl_si (tq_rV (As := [.int v3, .int 0]) (rest := [.int z_97]) ⟨hx, hb, hml, hown, hta⟩ (tp_P.pre hK hN hL hU hI hP) (tp_recv hK hP ho.1 hf_72 rfl) lk_X12_132 (r_X12_rowOf l D cy H.size L K Γ_70 f_68 o v3 0 ho (by first | omega | (simp only [Int32.toInt_toInt64]; omega) | decide | assumption) (by first | omega | (simp only [Int32.toInt_toInt64]; omega) | decide | assumption)) rfl rfl ⟨Nat.le_of_ble_eq_true rfl, Nat.le_of_ble_eq_true rfl⟩ rfl hl.1 rfl (Nat.le_of_ble_eq_true rfl) dX12_firsts_89 ⟨Nat.le_of_ble_eq_true rfl, Nat.le_of_ble_eq_true rfl⟩) (fun r_99 hw_98 => ?_)
          have hw_98 : r_99.toInt = Γ_70 (40, 7666, 0) (9 + 3 * v3.toInt + (0 : Int)).toNat := hw_98
          refine lv_ishr hx hb dX12_firsts_92 ?_
          refine lv_topi (fun z_100 ez_100 => ?_)
          refine lv_iconst (v := 1) hx hb dX12_firsts_93 (by decide) ?_
          refine lv_iand hx hb dX12_firsts_94 ?_
          refine lv_topi (fun z_101 ez_101 => ?_)
          refine lv_if_ne (tgt := 101) hx hb dX12_firsts_95 (by decide) (fun c_102 => ?_) (fun c_102 => ?_)
          · have c_102 : ¬ z_101.toInt = (0 : Int) := tl_neq c_102
            refine lv_aload_n hx hb dX12_firsts_101 rfl (lv_at hl 4 rfl) ?_
            refine tp_get (cy := cy) (ci := 12) (v := .ref (r_73 27)) (C := RX12) (T := TX12) (N := 49) hx hb hta inlX12 hown hK hP ho.1 hf_72 rfl 44 (by decide) (hta _ wk_177) (fun _ h9 => h9) rfl dX12_firsts_102 ?_
            refine lv_iload_n hx hb dX12_firsts_105 rfl (lv_at hl 3 rfl) ?_
            refine lv_aload_n hx hb dX12_firsts_106 rfl (lv_at hl 4 rfl) ?_
            refine lv_iload_n hx hb dX12_firsts_107 rfl (lv_at hl 1 rfl) ?_
            refine lv_iconst (v := 2) hx hb dX12_firsts_108 (by decide) ?_
            refine tl_si (tq_rV (As := [.int v3, .int 2]) (rest := [.int v1, .ref (r_73 27)]) ⟨hx, hb, hml, hown, hta⟩ (tp_P.pre hK hN hL hU hI hP) (tp_recv hK hP ho.1 hf_72 rfl) lk_X12_132 (r_X12_rowOf l D cy H.size L K Γ_70 f_68 o v3 2 ho (by first | omega | (simp only [Int32.toInt_toInt64]; omega) | decide | assumption) (by first | omega | (simp only [Int32.toInt_toInt64]; omega) | decide | assumption)) rfl rfl ⟨Nat.le_of_ble_eq_true rfl, Nat.le_of_ble_eq_true rfl⟩ rfl hl.1 rfl (Nat.le_of_ble_eq_true rfl) dX12_firsts_109 ⟨Nat.le_of_ble_eq_true rfl, Nat.le_of_ble_eq_true rfl⟩) (fun r_104 hw_103 => ?_)
            have hw_103 : r_104.toInt = Γ_70 (40, 7666, 0) (9 + 3 * v3.toInt + (2 : Int)).toNat := hw_103
            refine lv_aload_n hx hb dX12_firsts_112 rfl (lv_at hl 4 rfl) ?_
            refine tp_get (cy := cy) (ci := 12) (v := .ref (r_73 27)) (C := RX12) (T := TX12) (N := 49) hx hb hta inlX12 hown hK hP ho.1 hf_72 rfl 44 (by decide) (hta _ wk_177) (fun _ h9 => h9) rfl dX12_firsts_113 ?_
            refine lv_iload_n hx hb dX12_firsts_116 rfl (lv_at hl 3 rfl) ?_
            obtain ⟨g_106, hf_105, hg_107⟩ := (show tp_gi cy (8) (Γ_70 (67, 8, 0)) (f_68 (r_73 27)) from hI.at (show tp_r L K 67 8 0 (r_73 27) from hr_76 27 (by decide)))
            have hn_108 : vp_in v1 (8) := tl_in (by omega) (by omega)
            refine tp_iald (cy := cy) hx hb hK hP (show tp_r L K 67 8 0 (r_73 27) from hr_76 27 (by decide)).1 hf_105 hn_108 dX12_firsts_117 ?_
            refine lv_topi (fun z_109 ez_109 => ?_)
            have iz_109 : z_109.toInt = Γ_70 (67, 8, 0) v1.toInt.toNat := by rw [ez_109]; exact hg_107 _ (tp_pin hn_108)
            refine lv_icmp_ge (tgt := 130) hx hb dX12_firsts_118 (by decide) (fun c_110 => ?_) (fun c_110 => ?_)
            · have c_110 : z_109.toInt ≤ r_104.toInt := tl_le c_110
              refine lv_aload_n hx hb dX12_firsts_130 rfl (lv_at hl 4 rfl) ?_
              refine tp_get (cy := cy) (ci := 12) (v := .ref (r_73 27)) (C := RX12) (T := TX12) (N := 49) hx hb hta inlX12 hown hK hP ho.1 hf_72 rfl 44 (by decide) (hta _ wk_177) (fun _ h9 => h9) rfl dX12_firsts_131 ?_
              refine lv_iload_n hx hb dX12_firsts_134 rfl (lv_at hl 3 rfl) ?_
              have hn_111 : vp_in v1 (8) := tl_in (by omega) (by omega)
              refine tp_iald (cy := cy) hx hb hK hP (show tp_r L K 67 8 0 (r_73 27) from hr_76 27 (by decide)).1 hf_105 hn_111 dX12_firsts_135 ?_
              refine lv_topi (fun z_112 ez_112 => ?_)
              obtain rfl : z_109 = z_112 := ez_109.trans ez_112.symm
              have hn_113 : vp_in v1 (8) := tl_in (by omega) (by omega)
              have hj_114 : v1.toNatClampNeg = v1.toInt.toNat := rfl
              have hv_115 : z_109.toInt = z_109.toInt := rfl
              obtain ⟨Γ_116, eΓ_116⟩ : ∃ y : tk_G, y = tg Γ_70 (67, 8, 0) v1.toInt.toNat z_109.toInt := ⟨_, rfl⟩
              have hI9 : tp_I cy L K Γ_116 (va_up f_68 (r_73 27) (.inl (cy 0, 8, .inl (upd g_106 v1.toNatClampNeg z_109)))) := by have q9 : tg Γ_70 (67, 8, 0) v1.toInt.toNat z_109.toInt = tg Γ_70 (67, 8, 0) v1.toNatClampNeg z_109.toInt := (by rw [hj_114, hv_115]); rw [eΓ_116, q9]; exact hI.setg hU rfl (show tp_r L K 67 8 0 (r_73 27) from hr_76 27 (by decide)) (show tp_gi cy (8) (tgu (Γ_70 (67, 8, 0)) _ _) _ from ⟨_, rfl, tp_gi_upd hg_107⟩)
              have hfr9 : ∀ b, (K b).1 ∉ ([39, 58, 57, 60, 61, 62, 63, 59, 67] : List Nat) → va_up f_68 (r_73 27) (.inl (cy 0, 8, .inl (upd g_106 v1.toNatClampNeg z_109))) b = f b := tp_fr hfr (show tp_r L K 67 8 0 (r_73 27) from hr_76 27 (by decide)) (by decide)
              refine tp_iast (cy := cy) hx hb hK hP hD hS (show tp_r L K 67 8 0 (r_73 27) from hr_76 27 (by decide)).1 hf_105 hn_113 dX12_firsts_136 (fun H locs hP hD hS => ?_)
              have hP : va_P D vwCl (va_pl L (va_up f_68 (r_73 27) (.inl (cy 0, 8, .inl (upd g_106 v1.toNatClampNeg z_109))))) H := hP
              generalize hfe : va_up f_68 (r_73 27) (.inl (cy 0, 8, .inl (upd g_106 v1.toNatClampNeg z_109))) = f_117 at hP hI9 hfr9
              have hD : va_D A (va_pl L f_117) := tp_D hL hAL
              have hf_118 := (show f_117 o = _ from by rw [← hfe, va_up_ne _ _ (tp_ne ho (show tp_r L K 67 8 0 (r_73 27) from hr_76 27 (by decide)) (by decide))]).trans hf_72
              have hf_119 : f_117 (r_73 27) = .inl (cy 0, 8, .inl (upd g_106 v1.toNatClampNeg z_109)) := by rw [← hfe]; exact va_up_self _ _ _
              clear hfe
              have hI := hI9
              have hfr := hfr9
              clear hI9 hfr9
              have wsΓ_116 : Γ_116 (67, 8, 0) v1.toInt.toNat = z_109.toInt := by rw [eΓ_116]; exact tg_s
              have hgr : ∀ κ : tk_K, κ.1 ∉ ([39, 58, 57, 60, 61, 62, 63, 59, 67] : List Nat) → Γ_116 κ = Γ κ := tg_fr hgr eΓ_116 (by decide)
              have hv_120 : ∀ i : Nat, i < 16 → (v_74 i).toInt = Γ_116 (39, 0, 0) i := fun i hi => by rw [eΓ_116, tg_r (by decide)]; exact hv_77 i hi
              have hx_121 : (v_74 0).toInt = Γ_116 (39, 0, 0) 0 := hv_120 0 (by decide)
              have hx_122 : (v_74 10).toInt = Γ_116 (39, 0, 0) 10 := hv_120 10 (by decide)
              have hx_123 : (v_74 11).toInt = Γ_116 (39, 0, 0) 11 := hv_120 11 (by decide)
              have hx_124 : (v_74 12).toInt = Γ_116 (39, 0, 0) 12 := hv_120 12 (by decide)
              have hx_125 : (v_74 13).toInt = Γ_116 (39, 0, 0) 13 := hv_120 13 (by decide)
              have hx_126 : (v_74 14).toInt = Γ_116 (39, 0, 0) 14 := hv_120 14 (by decide)
              have hx_127 : (v_74 15).toInt = Γ_116 (39, 0, 0) 15 := hv_120 15 (by decide)
              obtain ⟨z_128, ez_128⟩ : ∃ y : Int32, y = v3 + 1 := ⟨_, rfl⟩
              refine lv_iinc (v := z_128) (lv' := [(3, .int z_128), (4, .long r_67), (2, .int z_23), (1, .int v1), (0, .ref o)]) hx hb dX12_firsts_137 hl (k := 1) rfl (by rw [ez_128]; rfl) (by decide) rfl (fun ls hl => ?_)
              try have iz_128 : z_128.toInt = v3.toInt + 1 := by rw [ez_128]; exact tl_addL v3 1 (by decide) (by omega) (by omega)
              refine lv_goto (tgt := 33) hx hb dX12_firsts_140 (by decide) ?_
              exact ih33 (f_117, Γ_116, z_128) H locs ls (by show (24 - z_128.toInt).toNat < (24 - v3.toInt).toNat; omega) ⟨(show 0 ≤ z_128.toInt from (by omega)), (show Γ_116 (39, 0, 0) 0 = Γ (39, 0, 0) 0 from (by omega)), hP, hI, hfr, hgr, hS, lv_sub hl [0, 2, 3, 4] rfl⟩
            · have c_110 : r_104.toInt < z_109.toInt := tl_nle c_110
              refine lv_aload_n hx hb dX12_firsts_121 rfl (lv_at hl 4 rfl) ?_
              refine lv_iload_n hx hb dX12_firsts_122 rfl (lv_at hl 1 rfl) ?_
              refine lv_iconst (v := 2) hx hb dX12_firsts_123 (by decide) ?_
              refine tl_si (tq_rV (As := [.int v3, .int 2]) (rest := [.int v1, .ref (r_73 27)]) ⟨hx, hb, hml, hown, hta⟩ (tp_P.pre hK hN hL hU hI hP) (tp_recv hK hP ho.1 hf_72 rfl) lk_X12_132 (r_X12_rowOf l D cy H.size L K Γ_70 f_68 o v3 2 ho (by first | omega | (simp only [Int32.toInt_toInt64]; omega) | decide | assumption) (by first | omega | (simp only [Int32.toInt_toInt64]; omega) | decide | assumption)) rfl rfl ⟨Nat.le_of_ble_eq_true rfl, Nat.le_of_ble_eq_true rfl⟩ rfl hl.1 rfl (Nat.le_of_ble_eq_true rfl) dX12_firsts_124 ⟨Nat.le_of_ble_eq_true rfl, Nat.le_of_ble_eq_true rfl⟩) (fun r_130 hw_129 => ?_)
              have hw_129 : r_130.toInt = Γ_70 (40, 7666, 0) (9 + 3 * v3.toInt + (2 : Int)).toNat := hw_129
              refine lv_goto (tgt := 136) hx hb dX12_firsts_127 (by decide) ?_
              have hn_131 : vp_in v1 (8) := tl_in (by omega) (by omega)
              have hj_132 : v1.toNatClampNeg = v1.toInt.toNat := rfl
              have hv_133 : r_130.toInt = r_130.toInt := rfl
              obtain ⟨Γ_134, eΓ_134⟩ : ∃ y : tk_G, y = tg Γ_70 (67, 8, 0) v1.toInt.toNat r_130.toInt := ⟨_, rfl⟩
              have hI9 : tp_I cy L K Γ_134 (va_up f_68 (r_73 27) (.inl (cy 0, 8, .inl (upd g_106 v1.toNatClampNeg r_130)))) := by have q9 : tg Γ_70 (67, 8, 0) v1.toInt.toNat r_130.toInt = tg Γ_70 (67, 8, 0) v1.toNatClampNeg r_130.toInt := (by rw [hj_132, hv_133]); rw [eΓ_134, q9]; exact hI.setg hU rfl (show tp_r L K 67 8 0 (r_73 27) from hr_76 27 (by decide)) (show tp_gi cy (8) (tgu (Γ_70 (67, 8, 0)) _ _) _ from ⟨_, rfl, tp_gi_upd hg_107⟩)
              have hfr9 : ∀ b, (K b).1 ∉ ([39, 58, 57, 60, 61, 62, 63, 59, 67] : List Nat) → va_up f_68 (r_73 27) (.inl (cy 0, 8, .inl (upd g_106 v1.toNatClampNeg r_130))) b = f b := tp_fr hfr (show tp_r L K 67 8 0 (r_73 27) from hr_76 27 (by decide)) (by decide)
              refine tp_iast (cy := cy) hx hb hK hP hD hS (show tp_r L K 67 8 0 (r_73 27) from hr_76 27 (by decide)).1 hf_105 hn_131 dX12_firsts_136 (fun H locs hP hD hS => ?_)
              have hP : va_P D vwCl (va_pl L (va_up f_68 (r_73 27) (.inl (cy 0, 8, .inl (upd g_106 v1.toNatClampNeg r_130))))) H := hP
              generalize hfe : va_up f_68 (r_73 27) (.inl (cy 0, 8, .inl (upd g_106 v1.toNatClampNeg r_130))) = f_135 at hP hI9 hfr9
              have hD : va_D A (va_pl L f_135) := tp_D hL hAL
              have hf_136 := (show f_135 o = _ from by rw [← hfe, va_up_ne _ _ (tp_ne ho (show tp_r L K 67 8 0 (r_73 27) from hr_76 27 (by decide)) (by decide))]).trans hf_72
              have hf_137 : f_135 (r_73 27) = .inl (cy 0, 8, .inl (upd g_106 v1.toNatClampNeg r_130)) := by rw [← hfe]; exact va_up_self _ _ _
              clear hfe
              have hI := hI9
              have hfr := hfr9
              clear hI9 hfr9
              have wsΓ_134 : Γ_134 (67, 8, 0) v1.toInt.toNat = r_130.toInt := by rw [eΓ_134]; exact tg_s
              have hgr : ∀ κ : tk_K, κ.1 ∉ ([39, 58, 57, 60, 61, 62, 63, 59, 67] : List Nat) → Γ_134 κ = Γ κ := tg_fr hgr eΓ_134 (by decide)
              have hv_138 : ∀ i : Nat, i < 16 → (v_74 i).toInt = Γ_134 (39, 0, 0) i := fun i hi => by rw [eΓ_134, tg_r (by decide)]; exact hv_77 i hi
              have hx_139 : (v_74 0).toInt = Γ_134 (39, 0, 0) 0 := hv_138 0 (by decide)
              have hx_140 : (v_74 10).toInt = Γ_134 (39, 0, 0) 10 := hv_138 10 (by decide)
              have hx_141 : (v_74 11).toInt = Γ_134 (39, 0, 0) 11 := hv_138 11 (by decide)
              have hx_142 : (v_74 12).toInt = Γ_134 (39, 0, 0) 12 := hv_138 12 (by decide)
              have hx_143 : (v_74 13).toInt = Γ_134 (39, 0, 0) 13 := hv_138 13 (by decide)
              have hx_144 : (v_74 14).toInt = Γ_134 (39, 0, 0) 14 := hv_138 14 (by decide)
              have hx_145 : (v_74 15).toInt = Γ_134 (39, 0, 0) 15 := hv_138 15 (by decide)
              obtain ⟨z_146, ez_146⟩ : ∃ y : Int32, y = v3 + 1 := ⟨_, rfl⟩
              refine lv_iinc (v := z_146) (lv' := [(3, .int z_146), (4, .long r_67), (2, .int z_23), (1, .int v1), (0, .ref o)]) hx hb dX12_firsts_137 hl (k := 1) rfl (by rw [ez_146]; rfl) (by decide) rfl (fun ls hl => ?_)
              try have iz_146 : z_146.toInt = v3.toInt + 1 := by rw [ez_146]; exact tl_addL v3 1 (by decide) (by omega) (by omega)
              refine lv_goto (tgt := 33) hx hb dX12_firsts_140 (by decide) ?_
              exact ih33 (f_135, Γ_134, z_146) H locs ls (by show (24 - z_146.toInt).toNat < (24 - v3.toInt).toNat; omega) ⟨(show 0 ≤ z_146.toInt from (by omega)), (show Γ_134 (39, 0, 0) 0 = Γ (39, 0, 0) 0 from (by omega)), hP, hI, hfr, hgr, hS, lv_sub hl [0, 2, 3, 4] rfl⟩
          · have c_102 : z_101.toInt = (0 : Int) := tl_eq c_102
            refine lv_goto (tgt := 137) hx hb dX12_firsts_98 (by decide) ?_
            obtain ⟨z_147, ez_147⟩ : ∃ y : Int32, y = v3 + 1 := ⟨_, rfl⟩
            refine lv_iinc (v := z_147) (lv' := [(3, .int z_147), (4, .long r_67), (2, .int z_23), (1, .int v1), (0, .ref o)]) hx hb dX12_firsts_137 hl (k := 1) rfl (by rw [ez_147]; rfl) (by decide) rfl (fun ls hl => ?_)
            try have iz_147 : z_147.toInt = v3.toInt + 1 := by rw [ez_147]; exact tl_addL v3 1 (by decide) (by omega) (by omega)
            refine lv_goto (tgt := 33) hx hb dX12_firsts_140 (by decide) ?_
            exact ih33 (f_68, Γ_70, z_147) H locs ls (by show (24 - z_147.toInt).toNat < (24 - v3.toInt).toNat; omega) ⟨(show 0 ≤ z_147.toInt from (by omega)), (show Γ_70 (39, 0, 0) 0 = Γ (39, 0, 0) 0 from (by omega)), hP, hI, hfr, hgr, hS, lv_sub hl [0, 2, 3, 4] rfl⟩
set_option maxHeartbeats 4000000 in
set_option maxRecDepth 100000 in
theorem r_X12_sayers (l : Launch) (D : va_G) (cy : Nat → ClassId) (sz : Nat) (L : List Nat) (K : Nat → tk_K) (Γ : tk_G) (f : Nat → va_E) (o : Nat) (p0 : Int32) (ho : tp_r L K 39 (0) 0 o) (hs : (0 ≤ Γ (40, 7666, 0) 1 ∧ Γ (40, 7666, 0) 1 ≤ 24) ∧ (0 ≤ Γ (40, 7666, 0) 2 ∧ Γ (40, 7666, 0) 2 ≤ 40) ∧ (0 ≤ Γ (40, 7666, 0) 3 ∧ Γ (40, 7666, 0) 3 ≤ 60) ∧ (0 ≤ Γ (40, 7666, 0) 4 ∧ Γ (40, 7666, 0) 4 ≤ 10) ∧ (0 ≤ Γ (40, 7666, 0) 7665 ∧ Γ (40, 7666, 0) 7665 ≤ 8)) : Met l yX12_sayers (tl_w yX12_sayers cX12_sayers 4 (some .int)) ({ frames := 0, cells := 0, slots := 0, locals := 0 }) (va_Pc [.ref o, .int p0] (tp_P D cy L K Γ f sz)) (vp_Si (fun r : Int32 => 0 < r.toInt → (∃ k : Nat, (k : Int) < Γ (40, 7666, 0) 7665 ∧ Γ (67, 8, 0) k ≤ p0.toInt))) 0 0 (fun _ => False) := by
  refine Met.ofW (cc := cX12_sayers) (maxL := 4) (ret := (some .int)) (by decide) rfl ?_
  intro p e s m args below meth c s₁ B hml hv
  obtain ⟨rfl, hsz, hP, hK, hL, hI, hN, hU⟩ := hv
  have hx := B.exec
  have hb := B.bytes
  have hr := B.returns
  have hta := tl_hta (atoms_spec (ws := tl_w yX12_sayers cX12_sayers 4 (some .int)) B.pre)
  have hown : s.vm.findClass RX12 = some m.cls := findClass_of_methodNamed B.named
  have hlocks := B.notSynchronized
  subst hsz
  have hI0 := hI
  have hl := lv_entry ([.ref o, .int p0]) (n := 4) (Nat.le_of_ble_eq_true rfl)
  rw [lg_entry_eq]
  generalize (lg_sl ([.ref o, .int p0]) ++ List.replicate (4 - (lg_sl ([.ref o, .int p0])).length) Slot.unset).toArray = ls at hl ⊢
  have hl : lv_has ls 4 [(0, .ref o), (1, .int p0)] := hl
  refine lv_iconst (v := 0) hx hb dX12_sayers_0 (by decide) ?_
  refine lv_istore_n (lv' := [(2, .int 0), (0, .ref o), (1, .int p0)]) hx hb dX12_sayers_1 rfl hl (by decide) rfl (fun ls hl => ?_)
  refine lv_iconst (v := 0) hx hb dX12_sayers_2 (by decide) ?_
  refine lv_istore_n (lv' := [(3, .int 0), (2, .int 0), (0, .ref o), (1, .int p0)]) hx hb dX12_sayers_3 rfl hl (by decide) rfl (fun ls hl => ?_)
  refine tl_indR (G := fun ls => W p l e ((headSpec (tl_w yX12_sayers cX12_sayers 4 (some .int)) ({ frames := 0, cells := 0, slots := 0, locals := 0 })).room) s m #[.ref o, .int p0] below meth c s.heap [] 0 0 (MQ below (vp_Si (fun r : Int32 => 0 < r.toInt → (∃ k : Nat, (k : Int) < Γ (40, 7666, 0) 7665 ∧ Γ (67, 8, 0) k ≤ p0.toInt))) #[.ref o, .int p0] s 0 0 (fun _ => False)) (F0 m 4 ls [])) (α := Int32 × Int32) (fun aq => (8 - aq.1.toInt).toNat) (fun aq ls => (0 ≤ aq.1.toInt ∧ aq.1.toInt ≤ Γ (40, 7666, 0) 7665) ∧ (0 ≤ aq.2.toInt ∧ aq.2.toInt ≤ aq.1.toInt) ∧ (0 < aq.2.toInt → ∃ k : Nat, (k : Int) < aq.1.toInt ∧ Γ (67, 8, 0) k ≤ p0.toInt) ∧ lv_has ls 4 [(3, .int aq.1), (2, .int aq.2), (0, .ref o), (1, .int p0)]) ?_ ((0 : Int32), (0 : Int32)) ls ⟨(show 0 ≤ (0 : Int) ∧ (0 : Int) ≤ Γ (40, 7666, 0) 7665 from (by omega)), (show 0 ≤ (0 : Int) ∧ (0 : Int) ≤ (0 : Int) from (by omega)), (show 0 < (0 : Int) → ∃ k : Nat, (k : Int) < (0 : Int) ∧ Γ (67, 8, 0) k ≤ p0.toInt from (fun q9 => by omega)), lv_sub hl [0, 1, 2, 3] rfl⟩
  rintro ⟨v3, v2⟩ ls ⟨hr3, hr2, hsy, hl⟩ ih4
  have hr3 : 0 ≤ v3.toInt ∧ v3.toInt ≤ Γ (40, 7666, 0) 7665 := hr3
  have hr2 : 0 ≤ v2.toInt ∧ v2.toInt ≤ v3.toInt := hr2
  have hsy : 0 < v2.toInt → ∃ k : Nat, (k : Int) < v3.toInt ∧ Γ (67, 8, 0) k ≤ p0.toInt := hsy
  have hl : lv_has ls 4 [(3, .int v3), (2, .int v2), (0, .ref o), (1, .int p0)] := hl
  refine lv_iload_n hx hb dX12_sayers_4 rfl (lv_at hl 0 rfl) ?_
  refine lv_aload_n hx hb dX12_sayers_5 rfl (lv_at hl 2 rfl) ?_
  obtain ⟨r_2, v_3, q_4, hf_1, hr_5, hv_6⟩ := (show tp_o_M L K 0 0 (Γ (39, 0, 0)) (f o) from hI0.at ho)
  refine tp_get (cy := cy) (ci := 12) (v := .ref (r_2 0)) (C := RX12) (T := TX12) (N := 49) hx hb hta inlX12 hown hK hP ho.1 hf_1 rfl 0 (by decide) (hta _ wk_149) (fun _ h9 => h9) rfl dX12_sayers_6 ?_
  refine lv_sipush (v := 7665) hx hb dX12_sayers_9 (by decide) ?_
  obtain ⟨g_8, hf_7, hg_9⟩ := (show tp_gi cy (7666) (Γ (40, 7666, 0)) (f (r_2 0)) from hI0.at (show tp_r L K 40 7666 0 (r_2 0) from hr_5 0 (by decide)))
  have hn_10 : vp_in 7665 (7666) := tl_in (by decide) (by decide)
  refine tp_iald (cy := cy) hx hb hK hP (show tp_r L K 40 7666 0 (r_2 0) from hr_5 0 (by decide)).1 hf_7 hn_10 dX12_sayers_12 ?_
  refine lv_topi (fun z_11 ez_11 => ?_)
  have iz_11 : z_11.toInt = Γ (40, 7666, 0) 7665 := by rw [ez_11]; exact hg_9 _ (tp_pin hn_10)
  refine lv_icmp_ge (tgt := 40) hx hb dX12_sayers_13 (by decide) (fun c_12 => ?_) (fun c_12 => ?_)
  · have c_12 : z_11.toInt ≤ v3.toInt := tl_le c_12
    refine lv_iload_n hx hb dX12_sayers_40 rfl (lv_at hl 1 rfl) ?_
    exact W.iret (v := v2) hx hb hr (fun t ht hW => ⟨_, rfl, (fun q9 => by obtain ⟨k9, q8, q7⟩ := hsy q9; exact ⟨k9, by omega, q7⟩), ht⟩) (fun q h => by cases h) dX12_sayers_41
  · have c_12 : v3.toInt < z_11.toInt := tl_nle c_12
    refine lv_iload_n hx hb dX12_sayers_16 rfl (lv_at hl 1 rfl) ?_
    refine lv_aload_n hx hb dX12_sayers_17 rfl (lv_at hl 2 rfl) ?_
    refine tp_get (cy := cy) (ci := 12) (v := .ref (r_2 27)) (C := RX12) (T := TX12) (N := 49) hx hb hta inlX12 hown hK hP ho.1 hf_1 rfl 44 (by decide) (hta _ wk_177) (fun _ h9 => h9) rfl dX12_sayers_18 ?_
    refine lv_iload_n hx hb dX12_sayers_21 rfl (lv_at hl 0 rfl) ?_
    obtain ⟨g_14, hf_13, hg_15⟩ := (show tp_gi cy (8) (Γ (67, 8, 0)) (f (r_2 27)) from hI0.at (show tp_r L K 67 8 0 (r_2 27) from hr_5 27 (by decide)))
    have hn_16 : vp_in v3 (8) := tl_in (by omega) (by omega)
    refine tp_iald (cy := cy) hx hb hK hP (show tp_r L K 67 8 0 (r_2 27) from hr_5 27 (by decide)).1 hf_13 hn_16 dX12_sayers_22 ?_
    refine lv_topi (fun z_17 ez_17 => ?_)
    have iz_17 : z_17.toInt = Γ (67, 8, 0) v3.toInt.toNat := by rw [ez_17]; exact hg_15 _ (tp_pin hn_16)
    refine lv_iload_n hx hb dX12_sayers_23 rfl (lv_at hl 3 rfl) ?_
    refine lv_icmp_gt (tgt := 31) hx hb dX12_sayers_24 (by decide) (fun c_18 => ?_) (fun c_18 => ?_)
    · have c_18 : p0.toInt < z_17.toInt := tl_lt c_18
      refine lv_iconst (v := 0) hx hb dX12_sayers_31 (by decide) ?_
      refine lv_iadd hx hb dX12_sayers_32 ?_
      refine lv_topi (fun z_19 ez_19 => ?_)
      try have iz_19 : z_19.toInt = v2.toInt + (0 : Int) := by rw [ez_19]; exact tl_addN v2 0 rfl rfl (by omega) (by omega)
      refine lv_istore_n (lv' := [(2, .int z_19), (3, .int v3), (0, .ref o), (1, .int p0)]) hx hb dX12_sayers_33 rfl hl (by decide) rfl (fun ls hl => ?_)
      obtain ⟨z_20, ez_20⟩ : ∃ y : Int32, y = v3 + 1 := ⟨_, rfl⟩
      refine lv_iinc (v := z_20) (lv' := [(3, .int z_20), (2, .int z_19), (0, .ref o), (1, .int p0)]) hx hb dX12_sayers_34 hl (k := 1) rfl (by rw [ez_20]; rfl) (by decide) rfl (fun ls hl => ?_)
      try have iz_20 : z_20.toInt = v3.toInt + 1 := by rw [ez_20]; exact tl_addL v3 1 (by decide) (by omega) (by omega)
      refine lv_goto (tgt := 4) hx hb dX12_sayers_37 (by decide) ?_
      exact ih4 (z_20, z_19) ls (by show (8 - z_20.toInt).toNat < (8 - v3.toInt).toNat; omega) ⟨(show 0 ≤ z_20.toInt ∧ z_20.toInt ≤ Γ (40, 7666, 0) 7665 from (by omega)), (show 0 ≤ z_19.toInt ∧ z_19.toInt ≤ z_20.toInt from (by omega)), (show 0 < z_19.toInt → ∃ k : Nat, (k : Int) < z_20.toInt ∧ Γ (67, 8, 0) k ≤ p0.toInt from (fun q9 => by by_cases q5 : 0 < v2.toInt; (obtain ⟨k9, q8, q7⟩ := hsy q5; exact ⟨k9, by omega, q7⟩); exact ⟨v3.toInt.toNat, by omega, by omega⟩)), lv_sub hl [0, 1, 2, 3] rfl⟩
    · have c_18 : z_17.toInt ≤ p0.toInt := tl_nlt c_18
      refine lv_iconst (v := 1) hx hb dX12_sayers_27 (by decide) ?_
      refine lv_goto (tgt := 32) hx hb dX12_sayers_28 (by decide) ?_
      refine lv_iadd hx hb dX12_sayers_32 ?_
      refine lv_topi (fun z_21 ez_21 => ?_)
      try have iz_21 : z_21.toInt = v2.toInt + (1 : Int) := by rw [ez_21]; exact tl_addN v2 1 rfl rfl (by omega) (by omega)
      refine lv_istore_n (lv' := [(2, .int z_21), (3, .int v3), (0, .ref o), (1, .int p0)]) hx hb dX12_sayers_33 rfl hl (by decide) rfl (fun ls hl => ?_)
      obtain ⟨z_22, ez_22⟩ : ∃ y : Int32, y = v3 + 1 := ⟨_, rfl⟩
      refine lv_iinc (v := z_22) (lv' := [(3, .int z_22), (2, .int z_21), (0, .ref o), (1, .int p0)]) hx hb dX12_sayers_34 hl (k := 1) rfl (by rw [ez_22]; rfl) (by decide) rfl (fun ls hl => ?_)
      try have iz_22 : z_22.toInt = v3.toInt + 1 := by rw [ez_22]; exact tl_addL v3 1 (by decide) (by omega) (by omega)
      refine lv_goto (tgt := 4) hx hb dX12_sayers_37 (by decide) ?_
      exact ih4 (z_22, z_21) ls (by show (8 - z_22.toInt).toNat < (8 - v3.toInt).toNat; omega) ⟨(show 0 ≤ z_22.toInt ∧ z_22.toInt ≤ Γ (40, 7666, 0) 7665 from (by omega)), (show 0 ≤ z_21.toInt ∧ z_21.toInt ≤ z_22.toInt from (by omega)), (show 0 < z_21.toInt → ∃ k : Nat, (k : Int) < z_22.toInt ∧ Γ (67, 8, 0) k ≤ p0.toInt from (fun q9 => by by_cases q5 : 0 < v2.toInt; (obtain ⟨k9, q8, q7⟩ := hsy q5; exact ⟨k9, by omega, q7⟩); exact ⟨v3.toInt.toNat, by omega, by omega⟩)), lv_sub hl [0, 1, 2, 3] rfl⟩
set_option maxHeartbeats 4000000 in
set_option maxRecDepth 100000 in
theorem r_X12_says (l : Launch) (D : va_G) (cy : Nat → ClassId) (sz : Nat) (L : List Nat) (K : Nat → tk_K) (Γ : tk_G) (f : Nat → va_E) (o : Nat) (p0 : Int32) (p1 : Int32) (ho : tp_r L K 39 (0) 0 o) (htx : tx_ok (Γ (43, 8800, 0)) (Γ (45, 1056, 0)) (Γ (46, 22, 0)) (Γ (47, 6, 0)) (Γ (48, 22, 0)) (Γ (49, 22, 0)) (Γ (50, 22, 0)) (Γ (51, 22, 0)) (Γ (42, 3, 0))) (hsd : ts_said (Γ (40, 7666, 0)) (Γ (42, 3, 0) 1)) : Met l yX12_says (tl_w yX12_says cX12_says 3 (some .int)) ({ frames := 8, cells := 0, slots := 0, locals := 202 }) (va_Pc [.ref o, .int p0, .int p1] (tp_P D cy L K Γ f sz)) (va_Qi (fun (r : Int32) (u : (Nat → va_E) × tk_G) => u.2 (39, 0, 0) 0 = Γ (39, 0, 0) 0) (tp_BG D cy L K Γ f [39, 58, 57, 60, 61, 62, 63, 59, 67]) (tp_A L sz)) 0 0 (tp_A L sz) := by
  refine Met.ofW (cc := cX12_says) (maxL := 3) (ret := (some .int)) (by decide) rfl ?_
  intro p e s m args below meth c s₁ B hml hv
  obtain ⟨rfl, hsz, hP, hK, hL, hI, hN, hU⟩ := hv
  have hx := B.exec
  have hb := B.bytes
  have hr := B.returns
  have hta := tl_hta (atoms_spec (ws := tl_w yX12_says cX12_says 3 (some .int)) B.pre)
  have hown : s.vm.findClass RX12 = some m.cls := findClass_of_methodNamed B.named
  have hlocks := B.notSynchronized
  subst hsz
  have hI0 := hI
  generalize hAe : tp_A L s.heap.size = A
  have hA : ∀ q : Nat, s.heap.size ≤ q → A q := fun q h => by rw [← hAe]; exact Or.inr h
  have hAL : ∀ q ∈ L, A q := fun q h => by rw [← hAe]; exact Or.inl h
  have hAf : ∀ (H : Heap), s.heap.size ≤ H.size → ∀ q, tp_A L H.size q → A q := fun H h q hq => hq.elim (hAL q) (fun h2 => hA q (Nat.le_trans h h2))
  have hS : va_S A s.heap s.heap [] := va_S.rf
  have hD : va_D A (va_pl L f) := tp_D hL hAL
  have hfr : ∀ b, (K b).1 ∉ ([39, 58, 57, 60, 61, 62, 63, 59, 67] : List Nat) → f b = f b := fun _ _ => rfl
  have hgr : ∀ κ : tk_K, κ.1 ∉ ([39, 58, 57, 60, 61, 62, 63, 59, 67] : List Nat) → Γ κ = Γ κ := fun _ _ => rfl
  have hl := lv_entry ([.ref o, .int p0, .int p1]) (n := 3) (Nat.le_of_ble_eq_true rfl)
  rw [lg_entry_eq]
  generalize (lg_sl ([.ref o, .int p0, .int p1]) ++ List.replicate (3 - (lg_sl ([.ref o, .int p0, .int p1])).length) Slot.unset).toArray = ls at hl ⊢
  have hl : lv_has ls 3 [(0, .ref o), (1, .int p0), (2, .int p1)] := hl
  have hs := ts_hs hsd
  have hraw := ts_raw hsd
  have hslp := ts_slp hsd
  have htb := htx.1
  refine lv_iload_n hx hb dX12_says_0 rfl (lv_at hl 1 rfl) ?_
  refine lv_i2l (v := p0.toInt64) hx hb dX12_says_1 (by first | rfl | decide) ?_
  refine lv_lconst (v := 0) hx hb dX12_says_2 (by decide) ?_
  refine lv_aload_n hx hb dX12_says_3 rfl (lv_at hl 0 rfl) ?_
  obtain ⟨r_2, v_3, q_4, hf_1, hr_5, hv_6⟩ := (show tp_o_M L K 0 0 (Γ (39, 0, 0)) (f o) from hI.at ho)
  refine tp_get (cy := cy) (ci := 12) (v := .ref (r_2 0)) (C := RX12) (T := TX12) (N := 49) hx hb hta inlX12 hown hK hP ho.1 hf_1 rfl 0 (by decide) (hta _ wk_149) (fun _ h9 => h9) rfl dX12_says_4 ?_
  refine lv_sipush (v := 7665) hx hb dX12_says_7 (by decide) ?_
  obtain ⟨g_15, hf_14, hg_16⟩ := (show tp_gi cy (7666) (Γ (40, 7666, 0)) (f (r_2 0)) from hI0.at (show tp_r L K 40 7666 0 (r_2 0) from hr_5 0 (by decide)))
  have hn_17 : vp_in 7665 (7666) := tl_in (by decide) (by decide)
  refine tp_iald (cy := cy) hx hb hK hP (show tp_r L K 40 7666 0 (r_2 0) from hr_5 0 (by decide)).1 hf_14 hn_17 dX12_says_10 ?_
  refine lv_topi (fun z_18 ez_18 => ?_)
  have iz_18 : z_18.toInt = Γ (40, 7666, 0) 7665 := by rw [ez_18]; exact hg_16 _ (tp_pin hn_17)
  refine lv_iconst (v := 1) hx hb dX12_says_11 (by decide) ?_
  refine lv_isub hx hb dX12_says_12 ?_
  refine lv_topi (fun z_19 ez_19 => ?_)
  try have iz_19 : z_19.toInt = z_18.toInt - (1 : Int) := by rw [ez_19]; exact tl_subN z_18 1 rfl rfl (by omega) (by omega)
  refine lv_i2l (v := z_19.toInt64) hx hb dX12_says_13 (by first | rfl | decide) ?_
  refine tl_si (tq_rS (As := [.long p0.toInt64, .long 0, .long z_19.toInt64]) (rest := []) ⟨hx, hb, hml, hown, hta⟩ (tp_P.pre hK hN hL hU hI hP) lk_X12_112 (r_X12_in l D cy s.heap.size L K Γ f p0.toInt64 0 z_19.toInt64 ) rfl rfl ⟨Nat.le_of_ble_eq_true rfl, Nat.le_of_ble_eq_true rfl⟩ rfl hl.1 rfl (Nat.le_of_ble_eq_true rfl) dX12_says_14 ⟨Nat.le_of_ble_eq_true rfl, Nat.le_of_ble_eq_true rfl⟩) (fun r_21 hw_20 => ?_)
  simp only [Int32.toInt_toInt64] at hw_20
  have hw_20 : tl_E r_21 ((0 : Int) ≤ p0.toInt ∧ p0.toInt ≤ z_19.toInt) 1 0 := hw_20
  refine lv_if_eq (tgt := 27) hx hb dX12_says_17 (by decide) (fun c_22 => ?_) (fun c_22 => ?_)
  · have c_22 := hw_20.f c_22
    refine lv_iconst (v := (-1)) hx hb dX12_says_27 (by decide) ?_
    have hpo9 : Γ (39, 0, 0) 0 = Γ (39, 0, 0) 0 := (by omega)
    exact W.iret (v := (-1)) hx hb hr (fun t ht hW => ⟨⟨_, (f, Γ), rfl, hpo9, by rw [ht]; exact hP, hI, hfr, hgr⟩, hS.F ht⟩) hS.2.2 dX12_says_28
  · have c_22 := hw_20.t c_22
    refine lv_iload_n hx hb dX12_says_20 rfl (lv_at hl 2 rfl) ?_
    refine tl_si (tq_rS (As := [.int p1]) (rest := []) ⟨hx, hb, hml, hown, hta⟩ (tp_P.pre hK hN hL hU hI hP) lk_X12_496 (r_X12_isWeek l D cy s.heap.size L K Γ f p1 ) rfl rfl ⟨Nat.le_of_ble_eq_true rfl, Nat.le_of_ble_eq_true rfl⟩ rfl hl.1 rfl (Nat.le_of_ble_eq_true rfl) dX12_says_21 ⟨Nat.le_of_ble_eq_true rfl, Nat.le_of_ble_eq_true rfl⟩) (fun r_24 hw_23 => ?_)
    have hw_23 : tl_E r_24 (0 ≤ p1.toInt ∧ p1.toInt ≤ 399) 1 0 := hw_23
    refine lv_if_ne (tgt := 29) hx hb dX12_says_24 (by decide) (fun c_25 => ?_) (fun c_25 => ?_)
    · have c_25 := hw_23.t c_25
      refine lv_aload_n hx hb dX12_says_29 rfl (lv_at hl 0 rfl) ?_
      refine tq_cvR hS (hAf _ hS.1) (tq_rV (As := []) (rest := []) ⟨hx, hb, hml, hown, hta⟩ (tp_P.pre hK hN hL hU hI hP) (tp_recv hK hP ho.1 hf_1 rfl) lk_X12_526 (r_X12_firsts l D cy s.heap.size L K Γ f o ho (by first | omega | (simp only [Int32.toInt_toInt64]; omega) | decide | assumption) (by first | omega | (simp only [Int32.toInt_toInt64]; omega) | decide | assumption)) rfl rfl ⟨Nat.le_of_ble_eq_true rfl, Nat.le_of_ble_eq_true rfl⟩ rfl hl.1 rfl (Nat.le_of_ble_eq_true rfl) dX12_says_30 ⟨Nat.le_of_ble_eq_true rfl, Nat.le_of_ble_eq_true rfl⟩) (fun f_28 Γ_30 H locs hw_26 hP hI hc_29 hcg_31 hS => ?_)
      have hD : va_D A (va_pl L f_28) := tp_D hL hAL
      have hfr := tp_fr2 hfr hc_29 (by decide)
      have hgr : ∀ κ : tk_K, κ.1 ∉ ([39, 58, 57, 60, 61, 62, 63, 59, 67] : List Nat) → Γ_30 κ = Γ κ := tg_fr2 hgr hcg_31 (by decide)
      have hw_26 : Γ_30 (39, 0, 0) 0 = Γ (39, 0, 0) 0 := hw_26
      refine lv_aload_n hx hb dX12_says_33 rfl (lv_at hl 0 rfl) ?_
      obtain ⟨r_33, v_34, q_35, hf_32, hr_36, hv_37⟩ := (show tp_o_M L K 0 0 (Γ_30 (39, 0, 0)) (f_28 o) from hI.at ho)
      refine tp_get (cy := cy) (ci := 12) (v := .ref (r_33 27)) (C := RX12) (T := TX12) (N := 49) hx hb hta inlX12 hown hK hP ho.1 hf_32 rfl 44 (by decide) (hta _ wk_177) (fun _ h9 => h9) rfl dX12_says_34 ?_
      refine lv_iload_n hx hb dX12_says_37 rfl (lv_at hl 1 rfl) ?_
      obtain ⟨g_46, hf_45, hg_47⟩ := (show tp_gi cy (8) (Γ_30 (67, 8, 0)) (f_28 (r_33 27)) from hI.at (show tp_r L K 67 8 0 (r_33 27) from hr_36 27 (by decide)))
      have hn_48 : vp_in p0 (8) := tl_in (by omega) (by omega)
      refine tp_iald (cy := cy) hx hb hK hP (show tp_r L K 67 8 0 (r_33 27) from hr_36 27 (by decide)).1 hf_45 hn_48 dX12_says_38 ?_
      refine lv_topi (fun z_49 ez_49 => ?_)
      have iz_49 : z_49.toInt = Γ_30 (67, 8, 0) p0.toInt.toNat := by rw [ez_49]; exact hg_47 _ (tp_pin hn_48)
      refine lv_iload_n hx hb dX12_says_39 rfl (lv_at hl 2 rfl) ?_
      refine lv_icmp_gt (tgt := 47) hx hb dX12_says_40 (by decide) (fun c_50 => ?_) (fun c_50 => ?_)
      · have c_50 : p1.toInt < z_49.toInt := tl_lt c_50
        refine lv_iconst (v := 0) hx hb dX12_says_47 (by decide) ?_
        have hpo9 : Γ_30 (39, 0, 0) 0 = Γ (39, 0, 0) 0 := (by omega)
        exact W.iret (v := 0) hx hb hr (fun t ht hW => ⟨⟨_, (f_28, Γ_30), rfl, hpo9, by rw [ht]; exact hP, hI, hfr, hgr⟩, hS.F ht⟩) hS.2.2 dX12_says_48
      · have c_50 : z_49.toInt ≤ p1.toInt := tl_nlt c_50
        refine lv_iconst (v := 1) hx hb dX12_says_43 (by decide) ?_
        refine lv_goto (tgt := 48) hx hb dX12_says_44 (by decide) ?_
        have hpo9 : Γ_30 (39, 0, 0) 0 = Γ (39, 0, 0) 0 := (by omega)
        exact W.iret (v := 1) hx hb hr (fun t ht hW => ⟨⟨_, (f_28, Γ_30), rfl, hpo9, by rw [ht]; exact hP, hI, hfr, hgr⟩, hS.F ht⟩) hS.2.2 dX12_says_48
    · have c_25 := hw_23.f c_25
      refine lv_iconst (v := (-1)) hx hb dX12_says_27 (by decide) ?_
      have hpo9 : Γ (39, 0, 0) 0 = Γ (39, 0, 0) 0 := (by omega)
      exact W.iret (v := (-1)) hx hb hr (fun t ht hW => ⟨⟨_, (f, Γ), rfl, hpo9, by rw [ht]; exact hP, hI, hfr, hgr⟩, hS.F ht⟩) hS.2.2 dX12_says_28
set_option maxHeartbeats 4000000 in
set_option maxRecDepth 100000 in
theorem r_X12_agreed (l : Launch) (D : va_G) (cy : Nat → ClassId) (sz : Nat) (L : List Nat) (K : Nat → tk_K) (Γ : tk_G) (f : Nat → va_E) (o : Nat) (p0 : Int32) (ho : tp_r L K 39 (0) 0 o) (htx : tx_ok (Γ (43, 8800, 0)) (Γ (45, 1056, 0)) (Γ (46, 22, 0)) (Γ (47, 6, 0)) (Γ (48, 22, 0)) (Γ (49, 22, 0)) (Γ (50, 22, 0)) (Γ (51, 22, 0)) (Γ (42, 3, 0))) (hsd : ts_said (Γ (40, 7666, 0)) (Γ (42, 3, 0) 1)) : Met l yX12_agreed (tl_w yX12_agreed cX12_agreed 3 (some .int)) ({ frames := 8, cells := 0, slots := 0, locals := 202 }) (va_Pc [.ref o, .int p0] (tp_P D cy L K Γ f sz)) (va_Qi (fun (r : Int32) (u : (Nat → va_E) × tk_G) => u.2 (39, 0, 0) 0 = Γ (39, 0, 0) 0) (tp_BG D cy L K Γ f [39, 58, 57, 60, 61, 62, 63, 59, 67]) (tp_A L sz)) 0 0 (tp_A L sz) := by
  refine Met.ofW (cc := cX12_agreed) (maxL := 3) (ret := (some .int)) (by decide) rfl ?_
  intro p e s m args below meth c s₁ B hml hv
  obtain ⟨rfl, hsz, hP, hK, hL, hI, hN, hU⟩ := hv
  have hx := B.exec
  have hb := B.bytes
  have hr := B.returns
  have hta := tl_hta (atoms_spec (ws := tl_w yX12_agreed cX12_agreed 3 (some .int)) B.pre)
  have hown : s.vm.findClass RX12 = some m.cls := findClass_of_methodNamed B.named
  have hlocks := B.notSynchronized
  subst hsz
  have hI0 := hI
  generalize hAe : tp_A L s.heap.size = A
  have hA : ∀ q : Nat, s.heap.size ≤ q → A q := fun q h => by rw [← hAe]; exact Or.inr h
  have hAL : ∀ q ∈ L, A q := fun q h => by rw [← hAe]; exact Or.inl h
  have hAf : ∀ (H : Heap), s.heap.size ≤ H.size → ∀ q, tp_A L H.size q → A q := fun H h q hq => hq.elim (hAL q) (fun h2 => hA q (Nat.le_trans h h2))
  have hS : va_S A s.heap s.heap [] := va_S.rf
  have hD : va_D A (va_pl L f) := tp_D hL hAL
  have hfr : ∀ b, (K b).1 ∉ ([39, 58, 57, 60, 61, 62, 63, 59, 67] : List Nat) → f b = f b := fun _ _ => rfl
  have hgr : ∀ κ : tk_K, κ.1 ∉ ([39, 58, 57, 60, 61, 62, 63, 59, 67] : List Nat) → Γ κ = Γ κ := fun _ _ => rfl
  have hl := lv_entry ([.ref o, .int p0]) (n := 3) (Nat.le_of_ble_eq_true rfl)
  rw [lg_entry_eq]
  generalize (lg_sl ([.ref o, .int p0]) ++ List.replicate (3 - (lg_sl ([.ref o, .int p0])).length) Slot.unset).toArray = ls at hl ⊢
  have hl : lv_has ls 3 [(0, .ref o), (1, .int p0)] := hl
  have hs := ts_hs hsd
  have hraw := ts_raw hsd
  have hslp := ts_slp hsd
  have htb := htx.1
  refine lv_iload_n hx hb dX12_agreed_0 rfl (lv_at hl 1 rfl) ?_
  refine tl_si (tq_rS (As := [.int p0]) (rest := []) ⟨hx, hb, hml, hown, hta⟩ (tp_P.pre hK hN hL hU hI hP) lk_X12_496 (r_X12_isWeek l D cy s.heap.size L K Γ f p0 ) rfl rfl ⟨Nat.le_of_ble_eq_true rfl, Nat.le_of_ble_eq_true rfl⟩ rfl hl.1 rfl (Nat.le_of_ble_eq_true rfl) dX12_agreed_1 ⟨Nat.le_of_ble_eq_true rfl, Nat.le_of_ble_eq_true rfl⟩) (fun r_2 hw_1 => ?_)
  have hw_1 : tl_E r_2 (0 ≤ p0.toInt ∧ p0.toInt ≤ 399) 1 0 := hw_1
  refine lv_if_ne (tgt := 9) hx hb dX12_agreed_4 (by decide) (fun c_3 => ?_) (fun c_3 => ?_)
  · have c_3 := hw_1.t c_3
    refine lv_aload_n hx hb dX12_agreed_9 rfl (lv_at hl 0 rfl) ?_
    obtain ⟨r_5, v_6, q_7, hf_4, hr_8, hv_9⟩ := (show tp_o_M L K 0 0 (Γ (39, 0, 0)) (f o) from hI.at ho)
    refine tq_cvR hS (hAf _ hS.1) (tq_rV (As := []) (rest := []) ⟨hx, hb, hml, hown, hta⟩ (tp_P.pre hK hN hL hU hI hP) (tp_recv hK hP ho.1 hf_4 rfl) lk_X12_526 (r_X12_firsts l D cy s.heap.size L K Γ f o ho (by first | omega | (simp only [Int32.toInt_toInt64]; omega) | decide | assumption) (by first | omega | (simp only [Int32.toInt_toInt64]; omega) | decide | assumption)) rfl rfl ⟨Nat.le_of_ble_eq_true rfl, Nat.le_of_ble_eq_true rfl⟩ rfl hl.1 rfl (Nat.le_of_ble_eq_true rfl) dX12_agreed_10 ⟨Nat.le_of_ble_eq_true rfl, Nat.le_of_ble_eq_true rfl⟩) (fun f_19 Γ_21 H locs hw_17 hP hI hc_20 hcg_22 hS => ?_)
    have hD : va_D A (va_pl L f_19) := tp_D hL hAL
    have hfr := tp_fr2 hfr hc_20 (by decide)
    have hgr : ∀ κ : tk_K, κ.1 ∉ ([39, 58, 57, 60, 61, 62, 63, 59, 67] : List Nat) → Γ_21 κ = Γ κ := tg_fr2 hgr hcg_22 (by decide)
    have hw_17 : Γ_21 (39, 0, 0) 0 = Γ (39, 0, 0) 0 := hw_17
    refine lv_iconst (v := 0) hx hb dX12_agreed_13 (by decide) ?_
    refine lv_istore_n (lv' := [(2, .int 0), (0, .ref o), (1, .int p0)]) hx hb dX12_agreed_14 rfl hl (by decide) rfl (fun ls hl => ?_)
    refine tl_ind (G := fun H locs ls => W p l e ((headSpec (tl_w yX12_agreed cX12_agreed 3 (some .int)) ({ frames := 8, cells := 0, slots := 0, locals := 202 })).room) s m #[.ref o, .int p0] below meth c H locs 0 0 (MQ below (va_Qi (fun (r : Int32) (u : (Nat → va_E) × tk_G) => u.2 (39, 0, 0) 0 = Γ (39, 0, 0) 0) (tp_BG D cy L K Γ f [39, 58, 57, 60, 61, 62, 63, 59, 67]) A) #[.ref o, .int p0] s 0 0 A) (F0 m 15 ls [])) (α := (Nat → va_E) × Int32) (fun aq => (400 - aq.2.toInt).toNat) (fun aq H locs ls => (0 ≤ aq.2.toInt) ∧ va_P D vwCl (va_pl L aq.1) H ∧ tp_I cy L K Γ_21 aq.1 ∧ (∀ b, (K b).1 ∉ ([39, 58, 57, 60, 61, 62, 63, 59, 67] : List Nat) → aq.1 b = f b) ∧ va_S A s.heap H locs ∧ lv_has ls 3 [(2, .int aq.2), (0, .ref o), (1, .int p0)]) ?_ (f_19, (0 : Int32)) H locs ls ⟨(show 0 ≤ (0 : Int) from (by omega)), hP, hI, hfr, hS, lv_sub hl [0, 1, 2] rfl⟩
    rintro ⟨f_23, v2⟩ H locs ls ⟨hr2, hP, hI, hfr, hS, hl⟩ ih15
    have hP : va_P D vwCl (va_pl L f_23) H := hP
    have hI : tp_I cy L K Γ_21 f_23 := hI
    have hfr : ∀ b, (K b).1 ∉ ([39, 58, 57, 60, 61, 62, 63, 59, 67] : List Nat) → f_23 b = f b := hfr
    have hD : va_D A (va_pl L f_23) := tp_D hL hAL
    have hr2 : 0 ≤ v2.toInt := hr2
    have hl : lv_has ls 3 [(2, .int v2), (0, .ref o), (1, .int p0)] := hl
    refine lv_iload_n hx hb dX12_agreed_15 rfl (lv_at hl 0 rfl) ?_
    refine lv_iload_n hx hb dX12_agreed_16 rfl (lv_at hl 2 rfl) ?_
    refine lv_icmp_gt (tgt := 46) hx hb dX12_agreed_17 (by decide) (fun c_24 => ?_) (fun c_24 => ?_)
    · have c_24 : p0.toInt < v2.toInt := tl_lt c_24
      refine lv_bipush (v := (-2)) hx hb dX12_agreed_46 (by decide) ?_
      have hpo9 : Γ_21 (39, 0, 0) 0 = Γ (39, 0, 0) 0 := (by omega)
      exact W.iret (v := (-2)) hx hb hr (fun t ht hW => ⟨⟨_, (f_23, Γ_21), rfl, hpo9, by rw [ht]; exact hP, hI, hfr, hgr⟩, hS.F ht⟩) hS.2.2 dX12_agreed_48
    · have c_24 : v2.toInt ≤ p0.toInt := tl_nlt c_24
      refine lv_iconst (v := 2) hx hb dX12_agreed_20 (by decide) ?_
      refine lv_aload_n hx hb dX12_agreed_21 rfl (lv_at hl 1 rfl) ?_
      refine lv_iload_n hx hb dX12_agreed_22 rfl (lv_at hl 0 rfl) ?_
      obtain ⟨r_26, v_27, q_28, hf_25, hr_29, hv_30⟩ := (show tp_o_M L K 0 0 (Γ_21 (39, 0, 0)) (f_23 o) from hI.at ho)
      refine tl_si (tq_rV (As := [.int v2]) (rest := [.int 2]) ⟨hx, hb, hml, hown, hta⟩ (tp_P.pre hK hN hL hU hI hP) (tp_recv hK hP ho.1 hf_25 rfl) lk_X12_529 (r_X12_sayers l D cy H.size L K Γ_21 f_23 o v2 ho (by first | omega | assumption | (rw [hgr (40, 7666, 0) (by decide)]; first | assumption | omega))) rfl rfl ⟨Nat.le_of_ble_eq_true rfl, Nat.le_of_ble_eq_true rfl⟩ rfl hl.1 rfl (Nat.le_of_ble_eq_true rfl) dX12_agreed_23 ⟨Nat.le_of_ble_eq_true rfl, Nat.le_of_ble_eq_true rfl⟩) (fun r_39 hw_38 => ?_)
      have hw_38 : 0 < r_39.toInt → (∃ k : Nat, (k : Int) < Γ_21 (40, 7666, 0) 7665 ∧ Γ_21 (67, 8, 0) k ≤ v2.toInt) := hw_38
      refine lv_imul hx hb dX12_agreed_26 ?_
      refine lv_topi (fun z_40 ez_40 => ?_)
      try have iz_40 : z_40.toInt = (2 : Int) * r_39.toInt := by rw [ez_40]; exact tl_mulN 2 r_39 rfl rfl (by omega) (by omega)
      refine lv_aload_n hx hb dX12_agreed_27 rfl (lv_at hl 1 rfl) ?_
      refine tp_get (cy := cy) (ci := 12) (v := .ref (r_26 0)) (C := RX12) (T := TX12) (N := 49) hx hb hta inlX12 hown hK hP ho.1 hf_25 rfl 0 (by decide) (hta _ wk_149) (fun _ h9 => h9) rfl dX12_agreed_28 ?_
      refine lv_sipush (v := 7665) hx hb dX12_agreed_31 (by decide) ?_
      obtain ⟨g_42, hf_41, hg_43⟩ := (show tp_gi cy (7666) (Γ (40, 7666, 0)) (f (r_26 0)) from hI0.at (show tp_r L K 40 7666 0 (r_26 0) from hr_29 0 (by decide)))
      have hn_44 : vp_in 7665 (7666) := tl_in (by decide) (by decide)
      refine tp_iald (cy := cy) hx hb hK hP (show tp_r L K 40 7666 0 (r_26 0) from hr_29 0 (by decide)).1 ((tp_un hfr (show tp_r L K 40 7666 0 (r_26 0) from hr_29 0 (by decide)) (by decide)).trans hf_41) hn_44 dX12_agreed_34 ?_
      refine lv_topi (fun z_45 ez_45 => ?_)
      have iz_45 : z_45.toInt = Γ (40, 7666, 0) 7665 := by rw [ez_45]; exact hg_43 _ (tp_pin hn_44)
      refine lv_icmp_le (tgt := 40) hx hb dX12_agreed_35 (by decide) (fun c_46 => ?_) (fun c_46 => ?_)
      · have c_46 : z_40.toInt ≤ z_45.toInt := tl_le c_46
        obtain ⟨z_47, ez_47⟩ : ∃ y : Int32, y = v2 + 1 := ⟨_, rfl⟩
        refine lv_iinc (v := z_47) (lv' := [(2, .int z_47), (0, .ref o), (1, .int p0)]) hx hb dX12_agreed_40 hl (k := 0) rfl (by rw [ez_47]; rfl) (by decide) rfl (fun ls hl => ?_)
        try have iz_47 : z_47.toInt = v2.toInt + 1 := by rw [ez_47]; exact tl_addL v2 1 (by decide) (by omega) (by omega)
        refine lv_goto (tgt := 15) hx hb dX12_agreed_43 (by decide) ?_
        exact ih15 (f_23, z_47) H locs ls (by show (400 - z_47.toInt).toNat < (400 - v2.toInt).toNat; omega) ⟨(show 0 ≤ z_47.toInt from (by omega)), hP, hI, hfr, hS, lv_sub hl [0, 1, 2] rfl⟩
      · have c_46 : z_45.toInt < z_40.toInt := tl_nle c_46
        refine lv_iload_n hx hb dX12_agreed_38 rfl (lv_at hl 0 rfl) ?_
        have hpo9 : Γ_21 (39, 0, 0) 0 = Γ (39, 0, 0) 0 := (by omega)
        exact W.iret (v := v2) hx hb hr (fun t ht hW => ⟨⟨_, (f_23, Γ_21), rfl, hpo9, by rw [ht]; exact hP, hI, hfr, hgr⟩, hS.F ht⟩) hS.2.2 dX12_agreed_39
  · have c_3 := hw_1.f c_3
    refine lv_iconst (v := (-1)) hx hb dX12_agreed_7 (by decide) ?_
    have hpo9 : Γ (39, 0, 0) 0 = Γ (39, 0, 0) 0 := (by omega)
    exact W.iret (v := (-1)) hx hb hr (fun t ht hW => ⟨⟨_, (f, Γ), rfl, hpo9, by rw [ht]; exact hP, hI, hfr, hgr⟩, hS.F ht⟩) hS.2.2 dX12_agreed_8
set_option maxHeartbeats 4000000 in
set_option maxRecDepth 100000 in
theorem r_X12_alone (l : Launch) (D : va_G) (cy : Nat → ClassId) (sz : Nat) (L : List Nat) (K : Nat → tk_K) (Γ : tk_G) (f : Nat → va_E) (o : Nat) (p0 : Int32) (ho : tp_r L K 39 (0) 0 o) (htx : tx_ok (Γ (43, 8800, 0)) (Γ (45, 1056, 0)) (Γ (46, 22, 0)) (Γ (47, 6, 0)) (Γ (48, 22, 0)) (Γ (49, 22, 0)) (Γ (50, 22, 0)) (Γ (51, 22, 0)) (Γ (42, 3, 0))) (hsd : ts_said (Γ (40, 7666, 0)) (Γ (42, 3, 0) 1)) : Met l yX12_alone (tl_w yX12_alone cX12_alone 3 (some .int)) ({ frames := 8, cells := 0, slots := 0, locals := 202 }) (va_Pc [.ref o, .int p0] (tp_P D cy L K Γ f sz)) (va_Qi (fun (r : Int32) (u : (Nat → va_E) × tk_G) => u.2 (39, 0, 0) 0 = Γ (39, 0, 0) 0) (tp_BG D cy L K Γ f [39, 58, 57, 60, 61, 62, 63, 59, 67]) (tp_A L sz)) 0 0 (tp_A L sz) := by
  refine Met.ofW (cc := cX12_alone) (maxL := 3) (ret := (some .int)) (by decide) rfl ?_
  intro p e s m args below meth c s₁ B hml hv
  obtain ⟨rfl, hsz, hP, hK, hL, hI, hN, hU⟩ := hv
  have hx := B.exec
  have hb := B.bytes
  have hr := B.returns
  have hta := tl_hta (atoms_spec (ws := tl_w yX12_alone cX12_alone 3 (some .int)) B.pre)
  have hown : s.vm.findClass RX12 = some m.cls := findClass_of_methodNamed B.named
  have hlocks := B.notSynchronized
  subst hsz
  have hI0 := hI
  generalize hAe : tp_A L s.heap.size = A
  have hA : ∀ q : Nat, s.heap.size ≤ q → A q := fun q h => by rw [← hAe]; exact Or.inr h
  have hAL : ∀ q ∈ L, A q := fun q h => by rw [← hAe]; exact Or.inl h
  have hAf : ∀ (H : Heap), s.heap.size ≤ H.size → ∀ q, tp_A L H.size q → A q := fun H h q hq => hq.elim (hAL q) (fun h2 => hA q (Nat.le_trans h h2))
  have hS : va_S A s.heap s.heap [] := va_S.rf
  have hD : va_D A (va_pl L f) := tp_D hL hAL
  have hfr : ∀ b, (K b).1 ∉ ([39, 58, 57, 60, 61, 62, 63, 59, 67] : List Nat) → f b = f b := fun _ _ => rfl
  have hgr : ∀ κ : tk_K, κ.1 ∉ ([39, 58, 57, 60, 61, 62, 63, 59, 67] : List Nat) → Γ κ = Γ κ := fun _ _ => rfl
  have hl := lv_entry ([.ref o, .int p0]) (n := 3) (Nat.le_of_ble_eq_true rfl)
  rw [lg_entry_eq]
  generalize (lg_sl ([.ref o, .int p0]) ++ List.replicate (3 - (lg_sl ([.ref o, .int p0])).length) Slot.unset).toArray = ls at hl ⊢
  have hl : lv_has ls 3 [(0, .ref o), (1, .int p0)] := hl
  have hs := ts_hs hsd
  have hraw := ts_raw hsd
  have hslp := ts_slp hsd
  have htb := htx.1
  refine lv_iload_n hx hb dX12_alone_0 rfl (lv_at hl 1 rfl) ?_
  refine tl_si (tq_rS (As := [.int p0]) (rest := []) ⟨hx, hb, hml, hown, hta⟩ (tp_P.pre hK hN hL hU hI hP) lk_X12_496 (r_X12_isWeek l D cy s.heap.size L K Γ f p0 ) rfl rfl ⟨Nat.le_of_ble_eq_true rfl, Nat.le_of_ble_eq_true rfl⟩ rfl hl.1 rfl (Nat.le_of_ble_eq_true rfl) dX12_alone_1 ⟨Nat.le_of_ble_eq_true rfl, Nat.le_of_ble_eq_true rfl⟩) (fun r_2 hw_1 => ?_)
  have hw_1 : tl_E r_2 (0 ≤ p0.toInt ∧ p0.toInt ≤ 399) 1 0 := hw_1
  refine lv_if_ne (tgt := 9) hx hb dX12_alone_4 (by decide) (fun c_3 => ?_) (fun c_3 => ?_)
  · have c_3 := hw_1.t c_3
    refine lv_aload_n hx hb dX12_alone_9 rfl (lv_at hl 0 rfl) ?_
    obtain ⟨r_5, v_6, q_7, hf_4, hr_8, hv_9⟩ := (show tp_o_M L K 0 0 (Γ (39, 0, 0)) (f o) from hI.at ho)
    refine tq_cvR hS (hAf _ hS.1) (tq_rV (As := []) (rest := []) ⟨hx, hb, hml, hown, hta⟩ (tp_P.pre hK hN hL hU hI hP) (tp_recv hK hP ho.1 hf_4 rfl) lk_X12_526 (r_X12_firsts l D cy s.heap.size L K Γ f o ho (by first | omega | (simp only [Int32.toInt_toInt64]; omega) | decide | assumption) (by first | omega | (simp only [Int32.toInt_toInt64]; omega) | decide | assumption)) rfl rfl ⟨Nat.le_of_ble_eq_true rfl, Nat.le_of_ble_eq_true rfl⟩ rfl hl.1 rfl (Nat.le_of_ble_eq_true rfl) dX12_alone_10 ⟨Nat.le_of_ble_eq_true rfl, Nat.le_of_ble_eq_true rfl⟩) (fun f_19 Γ_21 H locs hw_17 hP hI hc_20 hcg_22 hS => ?_)
    have hD : va_D A (va_pl L f_19) := tp_D hL hAL
    have hfr := tp_fr2 hfr hc_20 (by decide)
    have hgr : ∀ κ : tk_K, κ.1 ∉ ([39, 58, 57, 60, 61, 62, 63, 59, 67] : List Nat) → Γ_21 κ = Γ κ := tg_fr2 hgr hcg_22 (by decide)
    have hw_17 : Γ_21 (39, 0, 0) 0 = Γ (39, 0, 0) 0 := hw_17
    refine lv_aload_n hx hb dX12_alone_13 rfl (lv_at hl 0 rfl) ?_
    refine lv_iload_n hx hb dX12_alone_14 rfl (lv_at hl 1 rfl) ?_
    obtain ⟨r_24, v_25, q_26, hf_23, hr_27, hv_28⟩ := (show tp_o_M L K 0 0 (Γ_21 (39, 0, 0)) (f_19 o) from hI.at ho)
    refine tl_si (tq_rV (As := [.int p0]) (rest := []) ⟨hx, hb, hml, hown, hta⟩ (tp_P.pre hK hN hL hU hI hP) (tp_recv hK hP ho.1 hf_23 rfl) lk_X12_529 (r_X12_sayers l D cy H.size L K Γ_21 f_19 o p0 ho (by first | omega | assumption | (rw [hgr (40, 7666, 0) (by decide)]; first | assumption | omega))) rfl rfl ⟨Nat.le_of_ble_eq_true rfl, Nat.le_of_ble_eq_true rfl⟩ rfl hl.1 rfl (Nat.le_of_ble_eq_true rfl) dX12_alone_15 ⟨Nat.le_of_ble_eq_true rfl, Nat.le_of_ble_eq_true rfl⟩) (fun r_37 hw_36 => ?_)
    have hw_36 : 0 < r_37.toInt → (∃ k : Nat, (k : Int) < Γ_21 (40, 7666, 0) 7665 ∧ Γ_21 (67, 8, 0) k ≤ p0.toInt) := hw_36
    refine lv_iconst (v := 1) hx hb dX12_alone_18 (by decide) ?_
    refine lv_icmp_eq (tgt := 25) hx hb dX12_alone_19 (by decide) (fun c_38 => ?_) (fun c_38 => ?_)
    · have c_38 : r_37.toInt = (1 : Int) := tl_eq c_38
      obtain ⟨k0, hk0, hk1⟩ := hw_36 (by omega)
      have hk8 : (k0 : Int) < 8 := by rw [hgr (40, 7666, 0) (by decide)] at hk0; omega
      refine lv_iconst (v := 0) hx hb dX12_alone_25 (by decide) ?_
      refine lv_istore_n (lv' := [(2, .int 0), (0, .ref o), (1, .int p0)]) hx hb dX12_alone_26 rfl hl (by decide) rfl (fun ls hl => ?_)
      refine tl_ind (G := fun H locs ls => W p l e ((headSpec (tl_w yX12_alone cX12_alone 3 (some .int)) ({ frames := 8, cells := 0, slots := 0, locals := 202 })).room) s m #[.ref o, .int p0] below meth c H locs 0 0 (MQ below (va_Qi (fun (r : Int32) (u : (Nat → va_E) × tk_G) => u.2 (39, 0, 0) 0 = Γ (39, 0, 0) 0) (tp_BG D cy L K Γ f [39, 58, 57, 60, 61, 62, 63, 59, 67]) A) #[.ref o, .int p0] s 0 0 A) (F0 m 27 ls [])) (α := (Nat → va_E) × Int32) (fun aq => (8 - aq.2.toInt).toNat) (fun aq H locs ls => (0 ≤ aq.2.toInt) ∧ (aq.2.toInt ≤ (k0 : Int)) ∧ va_P D vwCl (va_pl L aq.1) H ∧ tp_I cy L K Γ_21 aq.1 ∧ (∀ b, (K b).1 ∉ ([39, 58, 57, 60, 61, 62, 63, 59, 67] : List Nat) → aq.1 b = f b) ∧ va_S A s.heap H locs ∧ lv_has ls 3 [(2, .int aq.2), (0, .ref o), (1, .int p0)]) ?_ (f_19, (0 : Int32)) H locs ls ⟨(show 0 ≤ (0 : Int) from (by omega)), (show (0 : Int) ≤ (k0 : Int) from (by omega)), hP, hI, hfr, hS, lv_sub hl [0, 1, 2] rfl⟩
      rintro ⟨f_39, v2⟩ H locs ls ⟨hr2, hno, hP, hI, hfr, hS, hl⟩ ih27
      have hP : va_P D vwCl (va_pl L f_39) H := hP
      have hI : tp_I cy L K Γ_21 f_39 := hI
      have hfr : ∀ b, (K b).1 ∉ ([39, 58, 57, 60, 61, 62, 63, 59, 67] : List Nat) → f_39 b = f b := hfr
      have hD : va_D A (va_pl L f_39) := tp_D hL hAL
      have hr2 : 0 ≤ v2.toInt := hr2
      have hno : v2.toInt ≤ (k0 : Int) := hno
      have hl : lv_has ls 3 [(2, .int v2), (0, .ref o), (1, .int p0)] := hl
      refine lv_aload_n hx hb dX12_alone_27 rfl (lv_at hl 1 rfl) ?_
      obtain ⟨r_41, v_42, q_43, hf_40, hr_44, hv_45⟩ := (show tp_o_M L K 0 0 (Γ_21 (39, 0, 0)) (f_39 o) from hI.at ho)
      refine tp_get (cy := cy) (ci := 12) (v := .ref (r_41 27)) (C := RX12) (T := TX12) (N := 49) hx hb hta inlX12 hown hK hP ho.1 hf_40 rfl 44 (by decide) (hta _ wk_177) (fun _ h9 => h9) rfl dX12_alone_28 ?_
      refine lv_iload_n hx hb dX12_alone_31 rfl (lv_at hl 0 rfl) ?_
      obtain ⟨g_54, hf_53, hg_55⟩ := (show tp_gi cy (8) (Γ_21 (67, 8, 0)) (f_39 (r_41 27)) from hI.at (show tp_r L K 67 8 0 (r_41 27) from hr_44 27 (by decide)))
      have hn_56 : vp_in v2 (8) := tl_in (by omega) (by omega)
      refine tp_iald (cy := cy) hx hb hK hP (show tp_r L K 67 8 0 (r_41 27) from hr_44 27 (by decide)).1 hf_53 hn_56 dX12_alone_32 ?_
      refine lv_topi (fun z_57 ez_57 => ?_)
      have iz_57 : z_57.toInt = Γ_21 (67, 8, 0) v2.toInt.toNat := by rw [ez_57]; exact hg_55 _ (tp_pin hn_56)
      refine lv_iload_n hx hb dX12_alone_33 rfl (lv_at hl 2 rfl) ?_
      refine lv_icmp_le (tgt := 43) hx hb dX12_alone_34 (by decide) (fun c_58 => ?_) (fun c_58 => ?_)
      · have c_58 : z_57.toInt ≤ p0.toInt := tl_le c_58
        refine lv_iload_n hx hb dX12_alone_43 rfl (lv_at hl 0 rfl) ?_
        have hpo9 : Γ_21 (39, 0, 0) 0 = Γ (39, 0, 0) 0 := (by omega)
        exact W.iret (v := v2) hx hb hr (fun t ht hW => ⟨⟨_, (f_39, Γ_21), rfl, hpo9, by rw [ht]; exact hP, hI, hfr, hgr⟩, hS.F ht⟩) hS.2.2 dX12_alone_44
      · have c_58 : p0.toInt < z_57.toInt := tl_nle c_58
        obtain ⟨z_59, ez_59⟩ : ∃ y : Int32, y = v2 + 1 := ⟨_, rfl⟩
        refine lv_iinc (v := z_59) (lv' := [(2, .int z_59), (0, .ref o), (1, .int p0)]) hx hb dX12_alone_37 hl (k := 0) rfl (by rw [ez_59]; rfl) (by decide) rfl (fun ls hl => ?_)
        try have iz_59 : z_59.toInt = v2.toInt + 1 := by rw [ez_59]; exact tl_addL v2 1 (by decide) (by omega) (by omega)
        refine lv_goto (tgt := 27) hx hb dX12_alone_40 (by decide) ?_
        exact ih27 (f_39, z_59) H locs ls (by show (8 - z_59.toInt).toNat < (8 - v2.toInt).toNat; omega) ⟨(show 0 ≤ z_59.toInt from (by omega)), (show z_59.toInt ≤ (k0 : Int) from (by by_cases q9 : v2.toInt = (k0 : Int); (exfalso; have q8 : Γ_21 (67, 8, 0) v2.toInt.toNat = Γ_21 (67, 8, 0) k0 := congrArg _ (by omega); omega); omega)), hP, hI, hfr, hS, lv_sub hl [0, 1, 2] rfl⟩
    · have c_38 : ¬ r_37.toInt = (1 : Int) := tl_neq c_38
      refine lv_bipush (v := (-2)) hx hb dX12_alone_22 (by decide) ?_
      have hpo9 : Γ_21 (39, 0, 0) 0 = Γ (39, 0, 0) 0 := (by omega)
      exact W.iret (v := (-2)) hx hb hr (fun t ht hW => ⟨⟨_, (f_19, Γ_21), rfl, hpo9, by rw [ht]; exact hP, hI, hfr, hgr⟩, hS.F ht⟩) hS.2.2 dX12_alone_24
  · have c_3 := hw_1.f c_3
    refine lv_iconst (v := (-1)) hx hb dX12_alone_7 (by decide) ?_
    have hpo9 : Γ (39, 0, 0) 0 = Γ (39, 0, 0) 0 := (by omega)
    exact W.iret (v := (-1)) hx hb hr (fun t ht hW => ⟨⟨_, (f, Γ), rfl, hpo9, by rw [ht]; exact hP, hI, hfr, hgr⟩, hS.F ht⟩) hS.2.2 dX12_alone_8
