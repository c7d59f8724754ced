theorem dX12_heightAt_0 : decode cX12_heightAt 0 = .ok (.iconst 0, 1) := by decide +kernel
theorem dX12_heightAt_1 : decode cX12_heightAt 1 = .ok (.istore_n 2, 1) := by decide +kernel
theorem dX12_heightAt_2 : decode cX12_heightAt 2 = .ok (.iload_n 2, 1) := by decide +kernel
theorem dX12_heightAt_3 : decode cX12_heightAt 3 = .ok (.aload_n 0, 1) := by decide +kernel
theorem dX12_heightAt_4 : decode cX12_heightAt 4 = .ok (.getfield 398, 3) := by decide +kernel
theorem dX12_heightAt_7 : decode cX12_heightAt 7 = .ok (.if_icmp .ge 19, 3) := by decide +kernel
theorem dX12_heightAt_10 : decode cX12_heightAt 10 = .ok (.aload_n 0, 1) := by decide +kernel
theorem dX12_heightAt_11 : decode cX12_heightAt 11 = .ok (.getfield 76, 3) := by decide +kernel
theorem dX12_heightAt_14 : decode cX12_heightAt 14 = .ok (.iload_n 2, 1) := by decide +kernel
theorem dX12_heightAt_15 : decode cX12_heightAt 15 = .ok (.iaload, 1) := by decide +kernel
theorem dX12_heightAt_16 : decode cX12_heightAt 16 = .ok (.iload_n 1, 1) := by decide +kernel
theorem dX12_heightAt_17 : decode cX12_heightAt 17 = .ok (.if_icmp .gt 9, 3) := by decide +kernel
theorem dX12_heightAt_20 : decode cX12_heightAt 20 = .ok (.iinc 2 1, 3) := by decide +kernel
theorem dX12_heightAt_23 : decode cX12_heightAt 23 = .ok (.goto (-21), 3) := by decide +kernel
theorem dX12_heightAt_26 : decode cX12_heightAt 26 = .ok (.iload_n 2, 1) := by decide +kernel
theorem dX12_heightAt_27 : decode cX12_heightAt 27 = .ok (.ifCond .ne 10, 3) := by decide +kernel
theorem dX12_heightAt_30 : decode cX12_heightAt 30 = .ok (.aload_n 0, 1) := by decide +kernel
theorem dX12_heightAt_31 : decode cX12_heightAt 31 = .ok (.getfield 79, 3) := by decide +kernel
theorem dX12_heightAt_34 : decode cX12_heightAt 34 = .ok (.iconst 0, 1) := by decide +kernel
theorem dX12_heightAt_35 : decode cX12_heightAt 35 = .ok (.laload, 1) := by decide +kernel
theorem dX12_heightAt_36 : decode cX12_heightAt 36 = .ok (.lreturn, 1) := by decide +kernel
theorem dX12_heightAt_37 : decode cX12_heightAt 37 = .ok (.iload_n 2, 1) := by decide +kernel
theorem dX12_heightAt_38 : decode cX12_heightAt 38 = .ok (.aload_n 0, 1) := by decide +kernel
theorem dX12_heightAt_39 : decode cX12_heightAt 39 = .ok (.getfield 398, 3) := by decide +kernel
theorem dX12_heightAt_42 : decode cX12_heightAt 42 = .ok (.if_icmp .ne 15, 3) := by decide +kernel
theorem dX12_heightAt_45 : decode cX12_heightAt 45 = .ok (.aload_n 0, 1) := by decide +kernel
theorem dX12_heightAt_46 : decode cX12_heightAt 46 = .ok (.getfield 79, 3) := by decide +kernel
theorem dX12_heightAt_49 : decode cX12_heightAt 49 = .ok (.aload_n 0, 1) := by decide +kernel
theorem dX12_heightAt_50 : decode cX12_heightAt 50 = .ok (.getfield 398, 3) := by decide +kernel
theorem dX12_heightAt_53 : decode cX12_heightAt 53 = .ok (.iconst 1, 1) := by decide +kernel
theorem dX12_heightAt_54 : decode cX12_heightAt 54 = .ok (.isub, 1) := by decide +kernel
theorem dX12_heightAt_55 : decode cX12_heightAt 55 = .ok (.laload, 1) := by decide +kernel
theorem dX12_heightAt_56 : decode cX12_heightAt 56 = .ok (.lreturn, 1) := by decide +kernel
theorem dX12_heightAt_57 : decode cX12_heightAt 57 = .ok (.aload_n 0, 1) := by decide +kernel
theorem dX12_heightAt_58 : decode cX12_heightAt 58 = .ok (.getfield 79, 3) := by decide +kernel
theorem dX12_heightAt_61 : decode cX12_heightAt 61 = .ok (.iload_n 2, 1) := by decide +kernel
theorem dX12_heightAt_62 : decode cX12_heightAt 62 = .ok (.iconst 1, 1) := by decide +kernel
theorem dX12_heightAt_63 : decode cX12_heightAt 63 = .ok (.isub, 1) := by decide +kernel
theorem dX12_heightAt_64 : decode cX12_heightAt 64 = .ok (.laload, 1) := by decide +kernel
theorem dX12_heightAt_65 : decode cX12_heightAt 65 = .ok (.aload_n 0, 1) := by decide +kernel
theorem dX12_heightAt_66 : decode cX12_heightAt 66 = .ok (.getfield 79, 3) := by decide +kernel
theorem dX12_heightAt_69 : decode cX12_heightAt 69 = .ok (.iload_n 2, 1) := by decide +kernel
theorem dX12_heightAt_70 : decode cX12_heightAt 70 = .ok (.laload, 1) := by decide +kernel
theorem dX12_heightAt_71 : decode cX12_heightAt 71 = .ok (.aload_n 0, 1) := by decide +kernel
theorem dX12_heightAt_72 : decode cX12_heightAt 72 = .ok (.getfield 79, 3) := by decide +kernel
theorem dX12_heightAt_75 : decode cX12_heightAt 75 = .ok (.iload_n 2, 1) := by decide +kernel
theorem dX12_heightAt_76 : decode cX12_heightAt 76 = .ok (.iconst 1, 1) := by decide +kernel
theorem dX12_heightAt_77 : decode cX12_heightAt 77 = .ok (.isub, 1) := by decide +kernel
theorem dX12_heightAt_78 : decode cX12_heightAt 78 = .ok (.laload, 1) := by decide +kernel
theorem dX12_heightAt_79 : decode cX12_heightAt 79 = .ok (.lsub, 1) := by decide +kernel
theorem dX12_heightAt_80 : decode cX12_heightAt 80 = .ok (.iload_n 1, 1) := by decide +kernel
theorem dX12_heightAt_81 : decode cX12_heightAt 81 = .ok (.aload_n 0, 1) := by decide +kernel
theorem dX12_heightAt_82 : decode cX12_heightAt 82 = .ok (.getfield 76, 3) := by decide +kernel
theorem dX12_heightAt_85 : decode cX12_heightAt 85 = .ok (.iload_n 2, 1) := by decide +kernel
theorem dX12_heightAt_86 : decode cX12_heightAt 86 = .ok (.iconst 1, 1) := by decide +kernel
theorem dX12_heightAt_87 : decode cX12_heightAt 87 = .ok (.isub, 1) := by decide +kernel
theorem dX12_heightAt_88 : decode cX12_heightAt 88 = .ok (.iaload, 1) := by decide +kernel
theorem dX12_heightAt_89 : decode cX12_heightAt 89 = .ok (.isub, 1) := by decide +kernel
theorem dX12_heightAt_90 : decode cX12_heightAt 90 = .ok (.i2l, 1) := by decide +kernel
theorem dX12_heightAt_91 : decode cX12_heightAt 91 = .ok (.lmul, 1) := by decide +kernel
theorem dX12_heightAt_92 : decode cX12_heightAt 92 = .ok (.aload_n 0, 1) := by decide +kernel
theorem dX12_heightAt_93 : decode cX12_heightAt 93 = .ok (.getfield 76, 3) := by decide +kernel
theorem dX12_heightAt_96 : decode cX12_heightAt 96 = .ok (.iload_n 2, 1) := by decide +kernel
theorem dX12_heightAt_97 : decode cX12_heightAt 97 = .ok (.iaload, 1) := by decide +kernel
theorem dX12_heightAt_98 : decode cX12_heightAt 98 = .ok (.aload_n 0, 1) := by decide +kernel
theorem dX12_heightAt_99 : decode cX12_heightAt 99 = .ok (.getfield 76, 3) := by decide +kernel
theorem dX12_heightAt_102 : decode cX12_heightAt 102 = .ok (.iload_n 2, 1) := by decide +kernel
theorem dX12_heightAt_103 : decode cX12_heightAt 103 = .ok (.iconst 1, 1) := by decide +kernel
theorem dX12_heightAt_104 : decode cX12_heightAt 104 = .ok (.isub, 1) := by decide +kernel
theorem dX12_heightAt_105 : decode cX12_heightAt 105 = .ok (.iaload, 1) := by decide +kernel
theorem dX12_heightAt_106 : decode cX12_heightAt 106 = .ok (.isub, 1) := by decide +kernel
theorem dX12_heightAt_107 : decode cX12_heightAt 107 = .ok (.i2l, 1) := by decide +kernel
theorem dX12_heightAt_108 : decode cX12_heightAt 108 = .ok (.invokestatic 401, 3) := by decide +kernel
theorem dX12_heightAt_111 : decode cX12_heightAt 111 = .ok (.ladd, 1) := by decide +kernel
theorem dX12_heightAt_112 : decode cX12_heightAt 112 = .ok (.lreturn, 1) := by decide +kernel
theorem wk_171 : Cond.fieldLink RX12 76 "ThinLineModel" "knotAt" "[I" ∈ tl_L := List.mem_filter.mpr ⟨lw_m6 (i := 100) rfl, rfl⟩
theorem wk_172 : Cond.fieldLink RX12 79 "ThinLineModel" "knotHigh" "[J" ∈ tl_L := List.mem_filter.mpr ⟨lw_m6 (i := 101) rfl, rfl⟩
theorem wk_903 : Cond.fieldLink RX12 398 "ThinLineModel" "knots" "I" ∈ tl_L := List.mem_filter.mpr ⟨lw_m6 (i := 102) rfl, rfl⟩
theorem wk_939 : Cond.methodLink RX12 401 yX12_down ∈ tl_L := List.mem_filter.mpr ⟨lw_m8 (i := 38) rfl, rfl⟩
theorem wk_940 : Cond.static yX12_down ∈ tl_L := List.mem_filter.mpr ⟨lw_m8 (i := 39) rfl, rfl⟩
theorem wk_941 : Cond.code yX12_down cX12_down 6 (some .long) ∈ tl_L := List.mem_filter.mpr ⟨lw_m8 (i := 40) rfl, rfl⟩
theorem lk_X12_401 : tl_kS RX12 401 yX12_down cX12_down 6 (some .long) 2 := ⟨wk_941, wk_939, wk_940, wk_5, ⟨by decide +kernel, by decide +kernel, by decide +kernel⟩⟩
theorem dX12_deepNow_0 : decode cX12_deepNow 0 = .ok (.lconst 0, 1) := by decide +kernel
theorem dX12_deepNow_1 : decode cX12_deepNow 1 = .ok (.lstore_n 1, 1) := by decide +kernel
theorem dX12_deepNow_2 : decode cX12_deepNow 2 = .ok (.aload_n 0, 1) := by decide +kernel
theorem dX12_deepNow_3 : decode cX12_deepNow 3 = .ok (.iconst 0, 1) := by decide +kernel
theorem dX12_deepNow_4 : decode cX12_deepNow 4 = .ok (.putfield 411, 3) := by decide +kernel
theorem dX12_deepNow_7 : decode cX12_deepNow 7 = .ok (.aload_n 0, 1) := by decide +kernel
theorem dX12_deepNow_8 : decode cX12_deepNow 8 = .ok (.getfield 389, 3) := by decide +kernel
theorem dX12_deepNow_11 : decode cX12_deepNow 11 = .ok (.istore_n 3, 1) := by decide +kernel
theorem dX12_deepNow_12 : decode cX12_deepNow 12 = .ok (.iload_n 3, 1) := by decide +kernel
theorem dX12_deepNow_13 : decode cX12_deepNow 13 = .ok (.aload_n 0, 1) := by decide +kernel
theorem dX12_deepNow_14 : decode cX12_deepNow 14 = .ok (.getfield 392, 3) := by decide +kernel
theorem dX12_deepNow_17 : decode cX12_deepNow 17 = .ok (.if_icmp .gt 42, 3) := by decide +kernel
theorem dX12_deepNow_20 : decode cX12_deepNow 20 = .ok (.aload_n 0, 1) := by decide +kernel
theorem dX12_deepNow_21 : decode cX12_deepNow 21 = .ok (.getfield 69, 3) := by decide +kernel
theorem dX12_deepNow_24 : decode cX12_deepNow 24 = .ok (.iload_n 3, 1) := by decide +kernel
theorem dX12_deepNow_25 : decode cX12_deepNow 25 = .ok (.iaload, 1) := by decide +kernel
theorem dX12_deepNow_26 : decode cX12_deepNow 26 = .ok (.ldc 109, 2) := by decide +kernel
theorem dX12_deepNow_28 : decode cX12_deepNow 28 = .ok (.if_icmp .ne 6, 3) := by decide +kernel
theorem dX12_deepNow_31 : decode cX12_deepNow 31 = .ok (.goto 22, 3) := by decide +kernel
theorem dX12_deepNow_34 : decode cX12_deepNow 34 = .ok (.lload_n 1, 1) := by decide +kernel
theorem dX12_deepNow_35 : decode cX12_deepNow 35 = .ok (.aload_n 0, 1) := by decide +kernel
theorem dX12_deepNow_36 : decode cX12_deepNow 36 = .ok (.getfield 82, 3) := by decide +kernel
theorem dX12_deepNow_39 : decode cX12_deepNow 39 = .ok (.iload_n 3, 1) := by decide +kernel
theorem dX12_deepNow_40 : decode cX12_deepNow 40 = .ok (.laload, 1) := by decide +kernel
theorem dX12_deepNow_41 : decode cX12_deepNow 41 = .ok (.ladd, 1) := by decide +kernel
theorem dX12_deepNow_42 : decode cX12_deepNow 42 = .ok (.lstore_n 1, 1) := by decide +kernel
theorem dX12_deepNow_43 : decode cX12_deepNow 43 = .ok (.aload_n 0, 1) := by decide +kernel
theorem dX12_deepNow_44 : decode cX12_deepNow 44 = .ok (.dup, 1) := by decide +kernel
theorem dX12_deepNow_45 : decode cX12_deepNow 45 = .ok (.getfield 411, 3) := by decide +kernel
theorem dX12_deepNow_48 : decode cX12_deepNow 48 = .ok (.iconst 1, 1) := by decide +kernel
theorem dX12_deepNow_49 : decode cX12_deepNow 49 = .ok (.iadd, 1) := by decide +kernel
theorem dX12_deepNow_50 : decode cX12_deepNow 50 = .ok (.putfield 411, 3) := by decide +kernel
theorem dX12_deepNow_53 : decode cX12_deepNow 53 = .ok (.iinc 3 1, 3) := by decide +kernel
theorem dX12_deepNow_56 : decode cX12_deepNow 56 = .ok (.goto (-44), 3) := by decide +kernel
theorem dX12_deepNow_59 : decode cX12_deepNow 59 = .ok (.aload_n 0, 1) := by decide +kernel
theorem dX12_deepNow_60 : decode cX12_deepNow 60 = .ok (.getfield 411, 3) := by decide +kernel
theorem dX12_deepNow_63 : decode cX12_deepNow 63 = .ok (.ifCond .ne 9, 3) := by decide +kernel
theorem dX12_deepNow_66 : decode cX12_deepNow 66 = .ok (.ldc2_w 405, 3) := by decide +kernel
theorem dX12_deepNow_69 : decode cX12_deepNow 69 = .ok (.goto 13, 3) := by decide +kernel
theorem dX12_deepNow_72 : decode cX12_deepNow 72 = .ok (.lload_n 1, 1) := by decide +kernel
theorem dX12_deepNow_73 : decode cX12_deepNow 73 = .ok (.lneg, 1) := by decide +kernel
theorem dX12_deepNow_74 : decode cX12_deepNow 74 = .ok (.aload_n 0, 1) := by decide +kernel
theorem dX12_deepNow_75 : decode cX12_deepNow 75 = .ok (.getfield 411, 3) := by decide +kernel
theorem dX12_deepNow_78 : decode cX12_deepNow 78 = .ok (.i2l, 1) := by decide +kernel
theorem dX12_deepNow_79 : decode cX12_deepNow 79 = .ok (.invokestatic 401, 3) := by decide +kernel
theorem dX12_deepNow_82 : decode cX12_deepNow 82 = .ok (.lreturn, 1) := by decide +kernel
theorem wk_173 : Cond.fieldLink RX12 82 "ThinLineModel" "left" "[J" ∈ tl_L := List.mem_filter.mpr ⟨lw_m6 (i := 103) rfl, rfl⟩
theorem wk_926 : Cond.fieldLink RX12 411 "ThinLineModel" "gapMany" "I" ∈ tl_L := List.mem_filter.mpr ⟨lw_m6 (i := 104) rfl, rfl⟩
theorem wk_931 : Cond.fieldLink RX12 389 "ThinLineModel" "gapNow" "I" ∈ tl_L := List.mem_filter.mpr ⟨lw_m6 (i := 98) rfl, rfl⟩
theorem wk_932 : Cond.fieldLink RX12 392 "ThinLineModel" "gapEnd" "I" ∈ tl_L := List.mem_filter.mpr ⟨lw_m6 (i := 99) rfl, rfl⟩
theorem wk_938 : Cond.constantLong RX12 405 (-1000000) ∈ tl_L := List.mem_filter.mpr ⟨lw_m8 (i := 41) rfl, rfl⟩
theorem dX12_noiseNow_0 : decode cX12_noiseNow 0 = .ok (.lconst 0, 1) := by decide +kernel
theorem dX12_noiseNow_1 : decode cX12_noiseNow 1 = .ok (.lstore_n 1, 1) := by decide +kernel
theorem dX12_noiseNow_2 : decode cX12_noiseNow 2 = .ok (.iconst 0, 1) := by decide +kernel
theorem dX12_noiseNow_3 : decode cX12_noiseNow 3 = .ok (.istore_n 3, 1) := by decide +kernel
theorem dX12_noiseNow_4 : decode cX12_noiseNow 4 = .ok (.iload_n 3, 1) := by decide +kernel
theorem dX12_noiseNow_5 : decode cX12_noiseNow 5 = .ok (.sipush 300, 3) := by decide +kernel
theorem dX12_noiseNow_8 : decode cX12_noiseNow 8 = .ok (.if_icmp .ge 34, 3) := by decide +kernel
theorem dX12_noiseNow_11 : decode cX12_noiseNow 11 = .ok (.lload_n 1, 1) := by decide +kernel
theorem dX12_noiseNow_12 : decode cX12_noiseNow 12 = .ok (.aload_n 0, 1) := by decide +kernel
theorem dX12_noiseNow_13 : decode cX12_noiseNow 13 = .ok (.getfield 72, 3) := by decide +kernel
theorem dX12_noiseNow_16 : decode cX12_noiseNow 16 = .ok (.iload_n 3, 1) := by decide +kernel
theorem dX12_noiseNow_17 : decode cX12_noiseNow 17 = .ok (.baload, 1) := by decide +kernel
theorem dX12_noiseNow_18 : decode cX12_noiseNow 18 = .ok (.ifCond .eq 15, 3) := by decide +kernel
theorem dX12_noiseNow_21 : decode cX12_noiseNow 21 = .ok (.aload_n 0, 1) := by decide +kernel
theorem dX12_noiseNow_22 : decode cX12_noiseNow 22 = .ok (.getfield 82, 3) := by decide +kernel
theorem dX12_noiseNow_25 : decode cX12_noiseNow 25 = .ok (.iload_n 3, 1) := by decide +kernel
theorem dX12_noiseNow_26 : decode cX12_noiseNow 26 = .ok (.laload, 1) := by decide +kernel
theorem dX12_noiseNow_27 : decode cX12_noiseNow 27 = .ok (.invokestatic 414, 3) := by decide +kernel
theorem dX12_noiseNow_30 : decode cX12_noiseNow 30 = .ok (.goto 4, 3) := by decide +kernel
theorem dX12_noiseNow_33 : decode cX12_noiseNow 33 = .ok (.lconst 0, 1) := by decide +kernel
theorem dX12_noiseNow_34 : decode cX12_noiseNow 34 = .ok (.ladd, 1) := by decide +kernel
theorem dX12_noiseNow_35 : decode cX12_noiseNow 35 = .ok (.lstore_n 1, 1) := by decide +kernel
theorem dX12_noiseNow_36 : decode cX12_noiseNow 36 = .ok (.iinc 3 1, 3) := by decide +kernel
theorem dX12_noiseNow_39 : decode cX12_noiseNow 39 = .ok (.goto (-35), 3) := by decide +kernel
theorem dX12_noiseNow_42 : decode cX12_noiseNow 42 = .ok (.lload_n 1, 1) := by decide +kernel
theorem dX12_noiseNow_43 : decode cX12_noiseNow 43 = .ok (.aload_n 0, 1) := by decide +kernel
theorem dX12_noiseNow_44 : decode cX12_noiseNow 44 = .ok (.getfield 395, 3) := by decide +kernel
theorem dX12_noiseNow_47 : decode cX12_noiseNow 47 = .ok (.i2l, 1) := by decide +kernel
theorem dX12_noiseNow_48 : decode cX12_noiseNow 48 = .ok (.ladd, 1) := by decide +kernel
theorem dX12_noiseNow_49 : decode cX12_noiseNow 49 = .ok (.lconst 1, 1) := by decide +kernel
theorem dX12_noiseNow_50 : decode cX12_noiseNow 50 = .ok (.lsub, 1) := by decide +kernel
theorem dX12_noiseNow_51 : decode cX12_noiseNow 51 = .ok (.aload_n 0, 1) := by decide +kernel
theorem dX12_noiseNow_52 : decode cX12_noiseNow 52 = .ok (.getfield 395, 3) := by decide +kernel
theorem dX12_noiseNow_55 : decode cX12_noiseNow 55 = .ok (.i2l, 1) := by decide +kernel
theorem dX12_noiseNow_56 : decode cX12_noiseNow 56 = .ok (.ldiv, 1) := by decide +kernel
theorem dX12_noiseNow_57 : decode cX12_noiseNow 57 = .ok (.lstore_n 3, 1) := by decide +kernel
theorem dX12_noiseNow_58 : decode cX12_noiseNow 58 = .ok (.lload_n 3, 1) := by decide +kernel
theorem dX12_noiseNow_59 : decode cX12_noiseNow 59 = .ok (.lconst 1, 1) := by decide +kernel
theorem dX12_noiseNow_60 : decode cX12_noiseNow 60 = .ok (.lcmp, 1) := by decide +kernel
theorem dX12_noiseNow_61 : decode cX12_noiseNow 61 = .ok (.ifCond .ge 7, 3) := by decide +kernel
theorem dX12_noiseNow_64 : decode cX12_noiseNow 64 = .ok (.lconst 1, 1) := by decide +kernel
theorem dX12_noiseNow_65 : decode cX12_noiseNow 65 = .ok (.goto 4, 3) := by decide +kernel
theorem dX12_noiseNow_68 : decode cX12_noiseNow 68 = .ok (.lload_n 3, 1) := by decide +kernel
theorem dX12_noiseNow_69 : decode cX12_noiseNow 69 = .ok (.lreturn, 1) := by decide +kernel
theorem wk_170 : Cond.fieldLink RX12 72 "ThinLineModel" "isUsed" "[Z" ∈ tl_L := List.mem_filter.mpr ⟨lw_m6 (i := 96) rfl, rfl⟩
theorem wk_933 : Cond.fieldLink RX12 395 "ThinLineModel" "usedMany" "I" ∈ tl_L := List.mem_filter.mpr ⟨lw_m6 (i := 97) rfl, rfl⟩
theorem wk_954 : Cond.methodLink RX12 414 yX12_size ∈ tl_L := List.mem_filter.mpr ⟨lw_m8 (i := 55) rfl, rfl⟩
theorem wk_955 : Cond.static yX12_size ∈ tl_L := List.mem_filter.mpr ⟨lw_m8 (i := 56) rfl, rfl⟩
theorem wk_956 : Cond.code yX12_size cX12_size 2 (some .long) ∈ tl_L := List.mem_filter.mpr ⟨lw_m8 (i := 57) rfl, rfl⟩
theorem lk_X12_414 : tl_kS RX12 414 yX12_size cX12_size 2 (some .long) 1 := ⟨wk_956, wk_954, wk_955, wk_5, ⟨by decide +kernel, by decide +kernel, by decide +kernel⟩⟩
theorem dX12_uses_0 : decode cX12_uses 0 = .ok (.bipush 6, 2) := by decide +kernel
theorem dX12_uses_2 : decode cX12_uses 2 = .ok (.iload_n 1, 1) := by decide +kernel
theorem dX12_uses_3 : decode cX12_uses 3 = .ok (.iadd, 1) := by decide +kernel
theorem dX12_uses_4 : decode cX12_uses 4 = .ok (.istore 5, 2) := by decide +kernel
theorem dX12_uses_6 : decode cX12_uses 6 = .ok (.aload_n 0, 1) := by decide +kernel
theorem dX12_uses_7 : decode cX12_uses 7 = .ok (.iload_n 3, 1) := by decide +kernel
theorem dX12_uses_8 : decode cX12_uses 8 = .ok (.putfield 389, 3) := by decide +kernel
theorem dX12_uses_11 : decode cX12_uses 11 = .ok (.aload_n 0, 1) := by decide +kernel
theorem dX12_uses_12 : decode cX12_uses 12 = .ok (.iload 4, 2) := by decide +kernel
theorem dX12_uses_14 : decode cX12_uses 14 = .ok (.putfield 392, 3) := by decide +kernel
theorem dX12_uses_17 : decode cX12_uses 17 = .ok (.aload_n 0, 1) := by decide +kernel
theorem dX12_uses_18 : decode cX12_uses 18 = .ok (.iconst 0, 1) := by decide +kernel
theorem dX12_uses_19 : decode cX12_uses 19 = .ok (.putfield 395, 3) := by decide +kernel
theorem dX12_uses_22 : decode cX12_uses 22 = .ok (.iconst 0, 1) := by decide +kernel
theorem dX12_uses_23 : decode cX12_uses 23 = .ok (.istore 6, 2) := by decide +kernel
theorem dX12_uses_25 : decode cX12_uses 25 = .ok (.iload 6, 2) := by decide +kernel
theorem dX12_uses_27 : decode cX12_uses 27 = .ok (.sipush 300, 3) := by decide +kernel
theorem dX12_uses_30 : decode cX12_uses 30 = .ok (.if_icmp .ge 120, 3) := by decide +kernel
theorem dX12_uses_33 : decode cX12_uses 33 = .ok (.aload_n 0, 1) := by decide +kernel
theorem dX12_uses_34 : decode cX12_uses 34 = .ok (.getfield 69, 3) := by decide +kernel
theorem dX12_uses_37 : decode cX12_uses 37 = .ok (.iload 6, 2) := by decide +kernel
theorem dX12_uses_39 : decode cX12_uses 39 = .ok (.iaload, 1) := by decide +kernel
theorem dX12_uses_40 : decode cX12_uses 40 = .ok (.ldc 109, 2) := by decide +kernel
theorem dX12_uses_42 : decode cX12_uses 42 = .ok (.if_icmp .eq 20, 3) := by decide +kernel
theorem dX12_uses_45 : decode cX12_uses 45 = .ok (.iload 6, 2) := by decide +kernel
theorem dX12_uses_47 : decode cX12_uses 47 = .ok (.iload_n 3, 1) := by decide +kernel
theorem dX12_uses_48 : decode cX12_uses 48 = .ok (.if_icmp .lt 10, 3) := by decide +kernel
theorem dX12_uses_51 : decode cX12_uses 51 = .ok (.iload 6, 2) := by decide +kernel
theorem dX12_uses_53 : decode cX12_uses 53 = .ok (.iload 4, 2) := by decide +kernel
theorem dX12_uses_55 : decode cX12_uses 55 = .ok (.if_icmp .le 7, 3) := by decide +kernel
theorem dX12_uses_58 : decode cX12_uses 58 = .ok (.iconst 1, 1) := by decide +kernel
theorem dX12_uses_59 : decode cX12_uses 59 = .ok (.goto 4, 3) := by decide +kernel
theorem dX12_uses_62 : decode cX12_uses 62 = .ok (.iconst 0, 1) := by decide +kernel
theorem dX12_uses_63 : decode cX12_uses 63 = .ok (.istore 7, 2) := by decide +kernel
theorem dX12_uses_65 : decode cX12_uses 65 = .ok (.aload_n 0, 1) := by decide +kernel
theorem dX12_uses_66 : decode cX12_uses 66 = .ok (.iload_n 2, 1) := by decide +kernel
theorem dX12_uses_67 : decode cX12_uses 67 = .ok (.iload 6, 2) := by decide +kernel
theorem dX12_uses_69 : decode cX12_uses 69 = .ok (.invokevirtual 352, 3) := by decide +kernel
theorem dX12_uses_72 : decode cX12_uses 72 = .ok (.iconst 0, 1) := by decide +kernel
theorem dX12_uses_73 : decode cX12_uses 73 = .ok (.istore 8, 2) := by decide +kernel
theorem dX12_uses_75 : decode cX12_uses 75 = .ok (.iload 8, 2) := by decide +kernel
theorem dX12_uses_77 : decode cX12_uses 77 = .ok (.aload_n 0, 1) := by decide +kernel
theorem dX12_uses_78 : decode cX12_uses 78 = .ok (.getfield 29, 3) := by decide +kernel
theorem dX12_uses_81 : decode cX12_uses 81 = .ok (.iload 5, 2) := by decide +kernel
theorem dX12_uses_83 : decode cX12_uses 83 = .ok (.iaload, 1) := by decide +kernel
theorem dX12_uses_84 : decode cX12_uses 84 = .ok (.if_icmp .ge 32, 3) := by decide +kernel
theorem dX12_uses_87 : decode cX12_uses 87 = .ok (.iload 7, 2) := by decide +kernel
theorem dX12_uses_89 : decode cX12_uses 89 = .ok (.ifCond .eq 27, 3) := by decide +kernel
theorem dX12_uses_92 : decode cX12_uses 92 = .ok (.aload_n 0, 1) := by decide +kernel
theorem dX12_uses_93 : decode cX12_uses 93 = .ok (.iload 5, 2) := by decide +kernel
theorem dX12_uses_95 : decode cX12_uses 95 = .ok (.iload 8, 2) := by decide +kernel
theorem dX12_uses_97 : decode cX12_uses 97 = .ok (.invokevirtual 355, 3) := by decide +kernel
theorem dX12_uses_100 : decode cX12_uses 100 = .ok (.ifCond .ne 7, 3) := by decide +kernel
theorem dX12_uses_103 : decode cX12_uses 103 = .ok (.iconst 1, 1) := by decide +kernel
theorem dX12_uses_104 : decode cX12_uses 104 = .ok (.goto 4, 3) := by decide +kernel
theorem dX12_uses_107 : decode cX12_uses 107 = .ok (.iconst 0, 1) := by decide +kernel
theorem dX12_uses_108 : decode cX12_uses 108 = .ok (.istore 7, 2) := by decide +kernel
theorem dX12_uses_110 : decode cX12_uses 110 = .ok (.iinc 8 1, 3) := by decide +kernel
theorem dX12_uses_113 : decode cX12_uses 113 = .ok (.goto (-38), 3) := by decide +kernel
theorem dX12_uses_116 : decode cX12_uses 116 = .ok (.aload_n 0, 1) := by decide +kernel
theorem dX12_uses_117 : decode cX12_uses 117 = .ok (.getfield 72, 3) := by decide +kernel
theorem dX12_uses_120 : decode cX12_uses 120 = .ok (.iload 6, 2) := by decide +kernel
theorem dX12_uses_122 : decode cX12_uses 122 = .ok (.iload 7, 2) := by decide +kernel
theorem dX12_uses_124 : decode cX12_uses 124 = .ok (.bastore, 1) := by decide +kernel
theorem dX12_uses_125 : decode cX12_uses 125 = .ok (.aload_n 0, 1) := by decide +kernel
theorem dX12_uses_126 : decode cX12_uses 126 = .ok (.dup, 1) := by decide +kernel
theorem dX12_uses_127 : decode cX12_uses 127 = .ok (.getfield 395, 3) := by decide +kernel
theorem dX12_uses_130 : decode cX12_uses 130 = .ok (.iload 7, 2) := by decide +kernel
theorem dX12_uses_132 : decode cX12_uses 132 = .ok (.ifCond .eq 7, 3) := by decide +kernel
theorem dX12_uses_135 : decode cX12_uses 135 = .ok (.iconst 1, 1) := by decide +kernel
theorem dX12_uses_136 : decode cX12_uses 136 = .ok (.goto 4, 3) := by decide +kernel
theorem dX12_uses_139 : decode cX12_uses 139 = .ok (.iconst 0, 1) := by decide +kernel
theorem dX12_uses_140 : decode cX12_uses 140 = .ok (.iadd, 1) := by decide +kernel
theorem dX12_uses_141 : decode cX12_uses 141 = .ok (.putfield 395, 3) := by decide +kernel
theorem dX12_uses_144 : decode cX12_uses 144 = .ok (.iinc 6 1, 3) := by decide +kernel
theorem dX12_uses_147 : decode cX12_uses 147 = .ok (.goto (-122), 3) := by decide +kernel
theorem dX12_uses_150 : decode cX12_uses 150 = .ok (.return_, 1) := by decide +kernel
theorem wk_156 : Cond.fieldLink RX12 29 "ThinLineModel" "clauses" "[I" ∈ tl_L := List.mem_filter.mpr ⟨lw_m6 (i := 72) rfl, rfl⟩
theorem wk_791 : Cond.methodLink RX12 352 yX12_words ∈ tl_L := List.mem_filter.mpr ⟨lw_m7 (i := 210) rfl, rfl⟩
theorem wk_792 : Cond.instanceMethod yX12_words ∈ tl_L := List.mem_filter.mpr ⟨lw_m7 (i := 212) rfl, rfl⟩
theorem wk_793 : Cond.selects RX12 yX12_words yX12_words ∈ tl_L := List.mem_filter.mpr ⟨lw_s9 (i := 12) (q := (yX12_words, 49)) rfl, rfl⟩
theorem wk_794 : Cond.code yX12_words cX12_words 3 none ∈ tl_L := List.mem_filter.mpr ⟨lw_m7 (i := 213) rfl, rfl⟩
theorem wk_795 : Cond.methodLink RX12 355 yX12_isHolding ∈ tl_L := List.mem_filter.mpr ⟨lw_m7 (i := 214) rfl, rfl⟩
theorem wk_796 : Cond.instanceMethod yX12_isHolding ∈ tl_L := List.mem_filter.mpr ⟨lw_m7 (i := 216) rfl, rfl⟩
theorem wk_797 : Cond.selects RX12 yX12_isHolding yX12_isHolding ∈ tl_L := List.mem_filter.mpr ⟨lw_s9 (i := 13) (q := (yX12_isHolding, 49)) rfl, rfl⟩
theorem wk_798 : Cond.code yX12_isHolding cX12_isHolding 4 (some .boolean) ∈ tl_L := List.mem_filter.mpr ⟨lw_m7 (i := 217) rfl, rfl⟩
theorem lk_X12_352 : tl_kV RX12 352 RX12 yX12_words cX12_words 3 none 2 := ⟨wk_794, wk_791, wk_792, wk_793, wk_5, ⟨by decide +kernel, by decide +kernel, by decide +kernel⟩⟩
theorem lk_X12_355 : tl_kV RX12 355 RX12 yX12_isHolding cX12_isHolding 4 (some .boolean) 2 := ⟨wk_798, wk_795, wk_796, wk_797, wk_5, ⟨by decide +kernel, by decide +kernel, by decide +kernel⟩⟩
/-! ===== how the reference looks ===== -/
/-- some place from lo up to, and without, hi has a number -/
def gex (ν : Nat → Int) (lo hi : Int) : Prop := ∃ c : Nat, lo ≤ (c : Int) ∧ (c : Int) < hi ∧ ¬ ν c = -1000000
theorem gex0 {ν : Nat → Int} {lo : Int} : ¬ gex ν lo lo := fun ⟨_, h1, h2, _⟩ => by omega
theorem gex1 {ν : Nat → Int} {lo hi hi2 : Int} (h0 : 0 ≤ hi) (h : hi2 = hi + 1) : gex ν lo hi2 ↔ gex ν lo hi ∨ (lo ≤ hi ∧ ¬ ν hi.toNat = -1000000) := by
  subst h
  constructor
  · rintro ⟨c, h1, h2, h3⟩
    by_cases e : (c : Int) = hi
    · refine Or.inr ⟨by omega, ?_⟩
      rw [show hi.toNat = c from by omega]; exact h3
    · exact Or.inl ⟨c, h1, by omega, h3⟩
  · rintro (⟨c, h1, h2, h3⟩ | ⟨h1, h2⟩)
    · exact ⟨c, h1, by omega, h3⟩
    · exact ⟨hi.toNat, by omega, by omega, h2⟩
theorem tl_b01 {x : Int32} (h : x.toInt = 0 ∨ x.toInt = 1) : (vp_nar .boolean x).toInt = x.toInt := by
  rcases h with h | h
  · obtain rfl : x = 0 := Int32.toInt_inj.mp h
    rfl
  · obtain rfl : x = 1 := Int32.toInt_inj.mp h
    rfl
/-- where the k-th knot of b lies -/
def atk (b k : Int) : Int := 299 * k / b
theorem atk_lt {b k k2 : Int} (hb : 1 ≤ b ∧ b ≤ 41) (h : k2 = k + 1) : atk b k < atk b k2 := by
  subst h
  unfold atk
  have h1 : 299 * k / b + 1 ≤ (299 * k + b) / b := by
    rw [Int.add_ediv_of_dvd_right (Int.dvd_refl b), Int.ediv_self (by omega)]
    exact Int.le_refl _
  have h2 : (299 * k + b) / b ≤ 299 * (k + 1) / b := Int.ediv_le_ediv (by omega) (by omega)
  omega
theorem atk_in {b k : Int} (hb : 1 ≤ b) (hk : 0 ≤ k ∧ k ≤ b) : 0 ≤ atk b k ∧ atk b k ≤ 299 := by
  unfold atk
  refine ⟨Int.ediv_nonneg (by omega) (by omega), ?_⟩
  have h := Int.ediv_le_ediv (c := b) (by omega) (show 299 * k ≤ 299 * b from by omega)
  rwa [Int.mul_ediv_cancel _ (by omega)] at h
theorem tl_idivE {x y z : Int32} {a b : Int} (e : z = x / y) (hx : x.toInt = a) (hy : y.toInt = b) (ha : 0 ≤ a) (hb : 0 < b) : z.toInt = a / b := by
  have h1 : z.toInt = x.toInt.tdiv y.toInt := by
    rw [e]
    refine Int32.toInt_div_of_ne_left x y ?_
    intro q
    rw [q] at hx
    rw [← hx] at ha
    exact absurd ha (by decide)
  rw [h1, hx, hy, Int.tdiv_eq_ediv_of_nonneg ha]
set_option maxHeartbeats 4000000 in
set_option maxRecDepth 100000 in
theorem r_X12_heightAt (l : Launch) (D : va_G) (cy : Nat → ClassId) (sz : Nat) (L : List Nat) (K : Nat → tk_K) (Γ : tk_G) (f : Nat → va_E) (o : Nat) (p0 : Int32) (ho : tp_r L K 39 (0) 0 o) (hk : 1 ≤ Γ (39, 0, 0) 13 ∧ Γ (39, 0, 0) 13 ≤ 42) (hkb : ∀ j : Nat, (j : Int) < Γ (39, 0, 0) 13 → 0 ≤ Γ (61, 42, 0) j ∧ Γ (61, 42, 0) j ≤ 299) (hris : ∀ j : Nat, (j : Int) + 1 < Γ (39, 0, 0) 13 → Γ (61, 42, 0) j < Γ (61, 42, 0) (j + 1)) : Met l yX12_heightAt (tl_w yX12_heightAt cX12_heightAt 3 (some .long)) ({ frames := 1, cells := 0, slots := 0, locals := 25 }) (va_Pc [.ref o, .int p0] (tp_P D cy L K Γ f sz)) (vp_Sl (fun r : Int64 => True)) 0 0 (fun _ => False) := by
  refine Met.ofW (cc := cX12_heightAt) (maxL := 3) (ret := (some .long)) (by decide) rfl ?_
  intro p e s m args below meth c s₁ B hml hv
  obtain ⟨rfl, hsz, hP, hK, hL, hI, hN, hU⟩ := hv
  have hx := B.exec
  have hb := B.bytes
  have hr := B.returns
  have hta := tl_hta (atoms_spec (ws := tl_w yX12_heightAt cX12_heightAt 3 (some .long)) B.pre)
  have hown : s.vm.findClass RX12 = some m.cls := findClass_of_methodNamed B.named
  have hlocks := B.notSynchronized
  subst hsz
  have hI0 := hI
  have hl := lv_entry ([.ref o, .int p0]) (n := 3) (Nat.le_of_ble_eq_true rfl)
  rw [lg_entry_eq]
  generalize (lg_sl ([.ref o, .int p0]) ++ List.replicate (3 - (lg_sl ([.ref o, .int p0])).length) Slot.unset).toArray = ls at hl ⊢
  have hl : lv_has ls 3 [(0, .ref o), (1, .int p0)] := hl
  refine lv_iconst (v := 0) hx hb dX12_heightAt_0 (by decide) ?_
  refine lv_istore_n (lv' := [(2, .int 0), (0, .ref o), (1, .int p0)]) hx hb dX12_heightAt_1 rfl hl (by decide) rfl (fun ls hl => ?_)
  refine tl_indR (G := fun ls => W p l e ((headSpec (tl_w yX12_heightAt cX12_heightAt 3 (some .long)) ({ frames := 1, cells := 0, slots := 0, locals := 25 })).room) s m #[.ref o, .int p0] below meth c s.heap [] 0 0 (MQ below (vp_Sl (fun r : Int64 => True)) #[.ref o, .int p0] s 0 0 (fun _ => False)) (F0 m 2 ls [])) (α := Int32) (fun aq => (42 - aq.toInt).toNat) (fun aq ls => (0 ≤ aq.toInt ∧ aq.toInt ≤ Γ (39, 0, 0) 13) ∧ lv_has ls 3 [(2, .int aq), (0, .ref o), (1, .int p0)]) ?_ (0 : Int32) ls ⟨(show 0 ≤ (0 : Int) ∧ (0 : Int) ≤ Γ (39, 0, 0) 13 from (by omega)), lv_sub hl [0, 1, 2] rfl⟩
  rintro v2 ls ⟨h2, hl⟩ ih2
  have h2 : 0 ≤ v2.toInt ∧ v2.toInt ≤ Γ (39, 0, 0) 13 := h2
  have hl : lv_has ls 3 [(2, .int v2), (0, .ref o), (1, .int p0)] := hl
  refine lv_iload_n hx hb dX12_heightAt_2 rfl (lv_at hl 0 rfl) ?_
  refine lv_aload_n hx hb dX12_heightAt_3 rfl (lv_at hl 1 rfl) ?_
  obtain ⟨r_2, v_3, q_4, hf_1, hr_5, hv_6⟩ := (show tp_o_M L K 0 0 (Γ (39, 0, 0)) (f o) from hI0.at ho)
  have hx_7 : (v_3 13).toInt = Γ (39, 0, 0) 13 := hv_6 13 (by decide)
  refine tp_get (cy := cy) (ci := 12) (v := .int (v_3 13)) (C := RX12) (T := TX12) (N := 49) hx hb hta inlX12 hown hK hP ho.1 hf_1 rfl 37 (by decide) (hta _ wk_903) (fun _ h9 => h9) rfl dX12_heightAt_4 ?_
  refine lv_icmp_ge (tgt := 26) hx hb dX12_heightAt_7 (by decide) (fun c_8 => ?_) (fun c_8 => ?_)
  · have c_8 : (v_3 13).toInt ≤ v2.toInt := tl_le c_8
    refine lv_iload_n hx hb dX12_heightAt_26 rfl (lv_at hl 0 rfl) ?_
    refine lv_if_ne (tgt := 37) hx hb dX12_heightAt_27 (by decide) (fun c_9 => ?_) (fun c_9 => ?_)
    · have c_9 : ¬ v2.toInt = (0 : Int) := tl_neq c_9
      refine lv_iload_n hx hb dX12_heightAt_37 rfl (lv_at hl 0 rfl) ?_
      refine lv_aload_n hx hb dX12_heightAt_38 rfl (lv_at hl 1 rfl) ?_
      refine tp_get (cy := cy) (ci := 12) (v := .int (v_3 13)) (C := RX12) (T := TX12) (N := 49) hx hb hta inlX12 hown hK hP ho.1 hf_1 rfl 37 (by decide) (hta _ wk_903) (fun _ h9 => h9) rfl dX12_heightAt_39 ?_
      refine lv_icmp_ne (tgt := 57) hx hb dX12_heightAt_42 (by decide) (fun c_10 => ?_) (fun c_10 => ?_)
      · have c_10 : ¬ v2.toInt = (v_3 13).toInt := tl_neq c_10
        refine lv_aload_n hx hb dX12_heightAt_57 rfl (lv_at hl 1 rfl) ?_
        refine tp_get (cy := cy) (ci := 12) (v := .ref (r_2 22)) (C := RX12) (T := TX12) (N := 49) hx hb hta inlX12 hown hK hP ho.1 hf_1 rfl 36 (by decide) (hta _ wk_172) (fun _ h9 => h9) rfl dX12_heightAt_58 ?_
        refine lv_iload_n hx hb dX12_heightAt_61 rfl (lv_at hl 0 rfl) ?_
        refine lv_iconst (v := 1) hx hb dX12_heightAt_62 (by decide) ?_
        refine lv_isub hx hb dX12_heightAt_63 ?_
        refine lv_topi (fun z_11 ez_11 => ?_)
        try have iz_11 : z_11.toInt = v2.toInt - (1 : Int) := by rw [ez_11]; exact tl_subN v2 1 rfl rfl (by omega) (by omega)
        obtain ⟨g_13, hf_12⟩ := (show tp_aj cy (42) (f (r_2 22)) from hI0.at (show tp_r L K 62 42 0 (r_2 22) from hr_5 22 (by decide)))
        have hn_15 : vp_in z_11 (42) := tl_in (by omega) (by omega)
        refine tp_lald (cy := cy) hx hb hK hP (show tp_r L K 62 42 0 (r_2 22) from hr_5 22 (by decide)).1 hf_12 hn_15 dX12_heightAt_64 ?_
        refine lv_topl (fun z_16 ez_16 => ?_)
        refine lv_aload_n hx hb dX12_heightAt_65 rfl (lv_at hl 1 rfl) ?_
        refine tp_get (cy := cy) (ci := 12) (v := .ref (r_2 22)) (C := RX12) (T := TX12) (N := 49) hx hb hta inlX12 hown hK hP ho.1 hf_1 rfl 36 (by decide) (hta _ wk_172) (fun _ h9 => h9) rfl dX12_heightAt_66 ?_
        refine lv_iload_n hx hb dX12_heightAt_69 rfl (lv_at hl 0 rfl) ?_
        have hn_17 : vp_in v2 (42) := tl_in (by omega) (by omega)
        refine tp_lald (cy := cy) hx hb hK hP (show tp_r L K 62 42 0 (r_2 22) from hr_5 22 (by decide)).1 hf_12 hn_17 dX12_heightAt_70 ?_
        refine lv_topl (fun z_18 ez_18 => ?_)
        refine lv_aload_n hx hb dX12_heightAt_71 rfl (lv_at hl 1 rfl) ?_
        refine tp_get (cy := cy) (ci := 12) (v := .ref (r_2 22)) (C := RX12) (T := TX12) (N := 49) hx hb hta inlX12 hown hK hP ho.1 hf_1 rfl 36 (by decide) (hta _ wk_172) (fun _ h9 => h9) rfl dX12_heightAt_72 ?_
        refine lv_iload_n hx hb dX12_heightAt_75 rfl (lv_at hl 0 rfl) ?_
        refine lv_iconst (v := 1) hx hb dX12_heightAt_76 (by decide) ?_
        refine lv_isub hx hb dX12_heightAt_77 ?_
        refine lv_topi (fun z_19 ez_19 => ?_)
        try have iz_19 : z_19.toInt = v2.toInt - (1 : Int) := by rw [ez_19]; exact tl_subN v2 1 rfl rfl (by omega) (by omega)
        have hn_20 : vp_in z_19 (42) := tl_in (by omega) (by omega)
        refine tp_lald (cy := cy) hx hb hK hP (show tp_r L K 62 42 0 (r_2 22) from hr_5 22 (by decide)).1 hf_12 hn_20 dX12_heightAt_78 ?_
        refine lv_topl (fun z_21 ez_21 => ?_)
        refine lv_lsub hx hb dX12_heightAt_79 ?_
        refine lv_topl (fun z_22 ez_22 => ?_)
        refine lv_iload_n hx hb dX12_heightAt_80 rfl (lv_at hl 2 rfl) ?_
        refine lv_aload_n hx hb dX12_heightAt_81 rfl (lv_at hl 1 rfl) ?_
        refine tp_get (cy := cy) (ci := 12) (v := .ref (r_2 21)) (C := RX12) (T := TX12) (N := 49) hx hb hta inlX12 hown hK hP ho.1 hf_1 rfl 35 (by decide) (hta _ wk_171) (fun _ h9 => h9) rfl dX12_heightAt_82 ?_
        refine lv_iload_n hx hb dX12_heightAt_85 rfl (lv_at hl 0 rfl) ?_
        refine lv_iconst (v := 1) hx hb dX12_heightAt_86 (by decide) ?_
        refine lv_isub hx hb dX12_heightAt_87 ?_
        refine lv_topi (fun z_23 ez_23 => ?_)
        try have iz_23 : z_23.toInt = v2.toInt - (1 : Int) := by rw [ez_23]; exact tl_subN v2 1 rfl rfl (by omega) (by omega)
        obtain ⟨g_25, hf_24, hg_26⟩ := (show tp_gi cy (42) (Γ (61, 42, 0)) (f (r_2 21)) from hI0.at (show tp_r L K 61 42 0 (r_2 21) from hr_5 21 (by decide)))
        have hn_27 : vp_in z_23 (42) := tl_in (by omega) (by omega)
        refine tp_iald (cy := cy) hx hb hK hP (show tp_r L K 61 42 0 (r_2 21) from hr_5 21 (by decide)).1 hf_24 hn_27 dX12_heightAt_88 ?_
        refine lv_topi (fun z_28 ez_28 => ?_)
        have iz_28 : z_28.toInt = Γ (61, 42, 0) z_23.toInt.toNat := by rw [ez_28]; exact hg_26 _ (tp_pin hn_27)
        refine lv_isub hx hb dX12_heightAt_89 ?_
        refine lv_topi (fun z_29 ez_29 => ?_)
        try have iz_29 : z_29.toInt = p0.toInt - z_28.toInt := by rw [ez_29]; exact tl_subN p0 z_28 rfl rfl (by omega) (by omega)
        refine lv_i2l (v := z_29.toInt64) hx hb dX12_heightAt_90 (by first | rfl | decide) ?_
        refine lv_lmul hx hb dX12_heightAt_91 ?_
        refine lv_topl (fun z_30 ez_30 => ?_)
        refine lv_aload_n hx hb dX12_heightAt_92 rfl (lv_at hl 1 rfl) ?_
        refine tp_get (cy := cy) (ci := 12) (v := .ref (r_2 21)) (C := RX12) (T := TX12) (N := 49) hx hb hta inlX12 hown hK hP ho.1 hf_1 rfl 35 (by decide) (hta _ wk_171) (fun _ h9 => h9) rfl dX12_heightAt_93 ?_
        refine lv_iload_n hx hb dX12_heightAt_96 rfl (lv_at hl 0 rfl) ?_
        have hn_31 : vp_in v2 (42) := tl_in (by omega) (by omega)
        refine tp_iald (cy := cy) hx hb hK hP (show tp_r L K 61 42 0 (r_2 21) from hr_5 21 (by decide)).1 hf_24 hn_31 dX12_heightAt_97 ?_
        refine lv_topi (fun z_32 ez_32 => ?_)
        have iz_32 : z_32.toInt = Γ (61, 42, 0) v2.toInt.toNat := by rw [ez_32]; exact hg_26 _ (tp_pin hn_31)
        refine lv_aload_n hx hb dX12_heightAt_98 rfl (lv_at hl 1 rfl) ?_
        refine tp_get (cy := cy) (ci := 12) (v := .ref (r_2 21)) (C := RX12) (T := TX12) (N := 49) hx hb hta inlX12 hown hK hP ho.1 hf_1 rfl 35 (by decide) (hta _ wk_171) (fun _ h9 => h9) rfl dX12_heightAt_99 ?_
        refine lv_iload_n hx hb dX12_heightAt_102 rfl (lv_at hl 0 rfl) ?_
        refine lv_iconst (v := 1) hx hb dX12_heightAt_103 (by decide) ?_
        refine lv_isub hx hb dX12_heightAt_104 ?_
        refine lv_topi (fun z_33 ez_33 => ?_)
        try have iz_33 : z_33.toInt = v2.toInt - (1 : Int) := by rw [ez_33]; exact tl_subN v2 1 rfl rfl (by omega) (by omega)
        have hn_34 : vp_in z_33 (42) := tl_in (by omega) (by omega)
        refine tp_iald (cy := cy) hx hb hK hP (show tp_r L K 61 42 0 (r_2 21) from hr_5 21 (by decide)).1 hf_24 hn_34 dX12_heightAt_105 ?_
        refine lv_topi (fun z_35 ez_35 => ?_)
        have iz_35 : z_35.toInt = Γ (61, 42, 0) z_33.toInt.toNat := by rw [ez_35]; exact hg_26 _ (tp_pin hn_34)
        have hka : Γ (61, 42, 0) ((v2.toInt - 1).toNat + 1) = z_32.toInt := (iz_32.trans (congrArg _ (by omega))).symm
        have hkc : Γ (61, 42, 0) (v2.toInt - 1).toNat = z_35.toInt := (iz_35.trans (congrArg _ (by omega))).symm
        have hr9 := hris (v2.toInt - 1).toNat (by omega)
        have hb8 := hkb (v2.toInt - 1).toNat (by omega)
        have hb9 := hkb ((v2.toInt - 1).toNat + 1) (by omega)
        rw [hka, hkc] at hr9
        rw [hkc] at hb8
        rw [hka] at hb9
        refine lv_isub hx hb dX12_heightAt_106 ?_
        refine lv_topi (fun z_36 ez_36 => ?_)
        try have iz_36 : z_36.toInt = z_32.toInt - z_35.toInt := by rw [ez_36]; exact tl_subN z_32 z_35 rfl rfl (by omega) (by omega)
        refine lv_i2l (v := z_36.toInt64) hx hb dX12_heightAt_107 (by first | rfl | decide) ?_
        refine tl_sl (tq_rS (As := [.long z_30, .long z_36.toInt64]) (rest := [.long z_16]) ⟨hx, hb, hml, hown, hta⟩ (tp_P.pre hK hN hL hU hI hP) lk_X12_401 (r_X12_down l D cy s.heap.size L K Γ f z_30 z_36.toInt64 (by first | omega | (simp only [Int32.toInt_toInt64]; omega) | decide | assumption)) rfl rfl ⟨Nat.le_of_ble_eq_true rfl, Nat.le_of_ble_eq_true rfl⟩ rfl hl.1 rfl (Nat.le_of_ble_eq_true rfl) dX12_heightAt_108 ⟨Nat.le_of_ble_eq_true rfl, Nat.le_of_ble_eq_true rfl⟩) (fun r_38 hw_37 => ?_)
        refine lv_ladd hx hb dX12_heightAt_111 ?_
        refine lv_topl (fun z_39 ez_39 => ?_)
        exact W.lret (v := z_39) hx hb hr (fun t ht hW => ⟨_, rfl, trivial, ht⟩) (fun q h => by cases h) dX12_heightAt_112
      · have c_10 : v2.toInt = (v_3 13).toInt := tl_eq c_10
        refine lv_aload_n hx hb dX12_heightAt_45 rfl (lv_at hl 1 rfl) ?_
        refine tp_get (cy := cy) (ci := 12) (v := .ref (r_2 22)) (C := RX12) (T := TX12) (N := 49) hx hb hta inlX12 hown hK hP ho.1 hf_1 rfl 36 (by decide) (hta _ wk_172) (fun _ h9 => h9) rfl dX12_heightAt_46 ?_
        refine lv_aload_n hx hb dX12_heightAt_49 rfl (lv_at hl 1 rfl) ?_
        refine tp_get (cy := cy) (ci := 12) (v := .int (v_3 13)) (C := RX12) (T := TX12) (N := 49) hx hb hta inlX12 hown hK hP ho.1 hf_1 rfl 37 (by decide) (hta _ wk_903) (fun _ h9 => h9) rfl dX12_heightAt_50 ?_
        refine lv_iconst (v := 1) hx hb dX12_heightAt_53 (by decide) ?_
        refine lv_isub hx hb dX12_heightAt_54 ?_
        refine lv_topi (fun z_40 ez_40 => ?_)
        try have iz_40 : z_40.toInt = (v_3 13).toInt - (1 : Int) := by rw [ez_40]; exact tl_subN (v_3 13) 1 rfl rfl (by omega) (by omega)
        obtain ⟨g_42, hf_41⟩ := (show tp_aj cy (42) (f (r_2 22)) from hI0.at (show tp_r L K 62 42 0 (r_2 22) from hr_5 22 (by decide)))
        have hn_44 : vp_in z_40 (42) := tl_in (by omega) (by omega)
        refine tp_lald (cy := cy) hx hb hK hP (show tp_r L K 62 42 0 (r_2 22) from hr_5 22 (by decide)).1 hf_41 hn_44 dX12_heightAt_55 ?_
        refine lv_topl (fun z_45 ez_45 => ?_)
        exact W.lret (v := z_45) hx hb hr (fun t ht hW => ⟨_, rfl, trivial, ht⟩) (fun q h => by cases h) dX12_heightAt_56
    · have c_9 : v2.toInt = (0 : Int) := tl_eq c_9
      refine lv_aload_n hx hb dX12_heightAt_30 rfl (lv_at hl 1 rfl) ?_
      refine tp_get (cy := cy) (ci := 12) (v := .ref (r_2 22)) (C := RX12) (T := TX12) (N := 49) hx hb hta inlX12 hown hK hP ho.1 hf_1 rfl 36 (by decide) (hta _ wk_172) (fun _ h9 => h9) rfl dX12_heightAt_31 ?_
      refine lv_iconst (v := 0) hx hb dX12_heightAt_34 (by decide) ?_
      obtain ⟨g_47, hf_46⟩ := (show tp_aj cy (42) (f (r_2 22)) from hI0.at (show tp_r L K 62 42 0 (r_2 22) from hr_5 22 (by decide)))
      have hn_49 : vp_in 0 (42) := tl_in (by decide) (by decide)
      refine tp_lald (cy := cy) hx hb hK hP (show tp_r L K 62 42 0 (r_2 22) from hr_5 22 (by decide)).1 hf_46 hn_49 dX12_heightAt_35 ?_
      refine lv_topl (fun z_50 ez_50 => ?_)
      exact W.lret (v := z_50) hx hb hr (fun t ht hW => ⟨_, rfl, trivial, ht⟩) (fun q h => by cases h) dX12_heightAt_36
  · have c_8 : v2.toInt < (v_3 13).toInt := tl_nle c_8
    refine lv_aload_n hx hb dX12_heightAt_10 rfl (lv_at hl 1 rfl) ?_
    refine tp_get (cy := cy) (ci := 12) (v := .ref (r_2 21)) (C := RX12) (T := TX12) (N := 49) hx hb hta inlX12 hown hK hP ho.1 hf_1 rfl 35 (by decide) (hta _ wk_171) (fun _ h9 => h9) rfl dX12_heightAt_11 ?_
    refine lv_iload_n hx hb dX12_heightAt_14 rfl (lv_at hl 0 rfl) ?_
    obtain ⟨g_52, hf_51, hg_53⟩ := (show tp_gi cy (42) (Γ (61, 42, 0)) (f (r_2 21)) from hI0.at (show tp_r L K 61 42 0 (r_2 21) from hr_5 21 (by decide)))
    have hn_54 : vp_in v2 (42) := tl_in (by omega) (by omega)
    refine tp_iald (cy := cy) hx hb hK hP (show tp_r L K 61 42 0 (r_2 21) from hr_5 21 (by decide)).1 hf_51 hn_54 dX12_heightAt_15 ?_
    refine lv_topi (fun z_55 ez_55 => ?_)
    have iz_55 : z_55.toInt = Γ (61, 42, 0) v2.toInt.toNat := by rw [ez_55]; exact hg_53 _ (tp_pin hn_54)
    refine lv_iload_n hx hb dX12_heightAt_16 rfl (lv_at hl 2 rfl) ?_
    refine lv_icmp_gt (tgt := 26) hx hb dX12_heightAt_17 (by decide) (fun c_56 => ?_) (fun c_56 => ?_)
    · have c_56 : p0.toInt < z_55.toInt := tl_lt c_56
      refine lv_iload_n hx hb dX12_heightAt_26 rfl (lv_at hl 0 rfl) ?_
      refine lv_if_ne (tgt := 37) hx hb dX12_heightAt_27 (by decide) (fun c_57 => ?_) (fun c_57 => ?_)
      · have c_57 : ¬ v2.toInt = (0 : Int) := tl_neq c_57
        refine lv_iload_n hx hb dX12_heightAt_37 rfl (lv_at hl 0 rfl) ?_
        refine lv_aload_n hx hb dX12_heightAt_38 rfl (lv_at hl 1 rfl) ?_
        refine tp_get (cy := cy) (ci := 12) (v := .int (v_3 13)) (C := RX12) (T := TX12) (N := 49) hx hb hta inlX12 hown hK hP ho.1 hf_1 rfl 37 (by decide) (hta _ wk_903) (fun _ h9 => h9) rfl dX12_heightAt_39 ?_
        refine lv_icmp_ne (tgt := 57) hx hb dX12_heightAt_42 (by decide) (fun c_58 => ?_) (fun c_58 => ?_)
        · have c_58 : ¬ v2.toInt = (v_3 13).toInt := tl_neq c_58
          refine lv_aload_n hx hb dX12_heightAt_57 rfl (lv_at hl 1 rfl) ?_
          refine tp_get (cy := cy) (ci := 12) (v := .ref (r_2 22)) (C := RX12) (T := TX12) (N := 49) hx hb hta inlX12 hown hK hP ho.1 hf_1 rfl 36 (by decide) (hta _ wk_172) (fun _ h9 => h9) rfl dX12_heightAt_58 ?_
          refine lv_iload_n hx hb dX12_heightAt_61 rfl (lv_at hl 0 rfl) ?_
          refine lv_iconst (v := 1) hx hb dX12_heightAt_62 (by decide) ?_
          refine lv_isub hx hb dX12_heightAt_63 ?_
          refine lv_topi (fun z_59 ez_59 => ?_)
          try have iz_59 : z_59.toInt = v2.toInt - (1 : Int) := by rw [ez_59]; exact tl_subN v2 1 rfl rfl (by omega) (by omega)
          obtain ⟨g_61, hf_60⟩ := (show tp_aj cy (42) (f (r_2 22)) from hI0.at (show tp_r L K 62 42 0 (r_2 22) from hr_5 22 (by decide)))
          have hn_63 : vp_in z_59 (42) := tl_in (by omega) (by omega)
          refine tp_lald (cy := cy) hx hb hK hP (show tp_r L K 62 42 0 (r_2 22) from hr_5 22 (by decide)).1 hf_60 hn_63 dX12_heightAt_64 ?_
          refine lv_topl (fun z_64 ez_64 => ?_)
          refine lv_aload_n hx hb dX12_heightAt_65 rfl (lv_at hl 1 rfl) ?_
          refine tp_get (cy := cy) (ci := 12) (v := .ref (r_2 22)) (C := RX12) (T := TX12) (N := 49) hx hb hta inlX12 hown hK hP ho.1 hf_1 rfl 36 (by decide) (hta _ wk_172) (fun _ h9 => h9) rfl dX12_heightAt_66 ?_
          refine lv_iload_n hx hb dX12_heightAt_69 rfl (lv_at hl 0 rfl) ?_
          have hn_65 : vp_in v2 (42) := tl_in (by omega) (by omega)
          refine tp_lald (cy := cy) hx hb hK hP (show tp_r L K 62 42 0 (r_2 22) from hr_5 22 (by decide)).1 hf_60 hn_65 dX12_heightAt_70 ?_
          refine lv_topl (fun z_66 ez_66 => ?_)
          refine lv_aload_n hx hb dX12_heightAt_71 rfl (lv_at hl 1 rfl) ?_
          refine tp_get (cy := cy) (ci := 12) (v := .ref (r_2 22)) (C := RX12) (T := TX12) (N := 49) hx hb hta inlX12 hown hK hP ho.1 hf_1 rfl 36 (by decide) (hta _ wk_172) (fun _ h9 => h9) rfl dX12_heightAt_72 ?_
          refine lv_iload_n hx hb dX12_heightAt_75 rfl (lv_at hl 0 rfl) ?_
          refine lv_iconst (v := 1) hx hb dX12_heightAt_76 (by decide) ?_
          refine lv_isub hx hb dX12_heightAt_77 ?_
          refine lv_topi (fun z_67 ez_67 => ?_)
          try have iz_67 : z_67.toInt = v2.toInt - (1 : Int) := by rw [ez_67]; exact tl_subN v2 1 rfl rfl (by omega) (by omega)
          have hn_68 : vp_in z_67 (42) := tl_in (by omega) (by omega)
          refine tp_lald (cy := cy) hx hb hK hP (show tp_r L K 62 42 0 (r_2 22) from hr_5 22 (by decide)).1 hf_60 hn_68 dX12_heightAt_78 ?_
          refine lv_topl (fun z_69 ez_69 => ?_)
          refine lv_lsub hx hb dX12_heightAt_79 ?_
          refine lv_topl (fun z_70 ez_70 => ?_)
          refine lv_iload_n hx hb dX12_heightAt_80 rfl (lv_at hl 2 rfl) ?_
          refine lv_aload_n hx hb dX12_heightAt_81 rfl (lv_at hl 1 rfl) ?_
          refine tp_get (cy := cy) (ci := 12) (v := .ref (r_2 21)) (C := RX12) (T := TX12) (N := 49) hx hb hta inlX12 hown hK hP ho.1 hf_1 rfl 35 (by decide) (hta _ wk_171) (fun _ h9 => h9) rfl dX12_heightAt_82 ?_
          refine lv_iload_n hx hb dX12_heightAt_85 rfl (lv_at hl 0 rfl) ?_
          refine lv_iconst (v := 1) hx hb dX12_heightAt_86 (by decide) ?_
          refine lv_isub hx hb dX12_heightAt_87 ?_
          refine lv_topi (fun z_71 ez_71 => ?_)
          try have iz_71 : z_71.toInt = v2.toInt - (1 : Int) := by rw [ez_71]; exact tl_subN v2 1 rfl rfl (by omega) (by omega)
          have hn_72 : vp_in z_71 (42) := tl_in (by omega) (by omega)
          refine tp_iald (cy := cy) hx hb hK hP (show tp_r L K 61 42 0 (r_2 21) from hr_5 21 (by decide)).1 hf_51 hn_72 dX12_heightAt_88 ?_
          refine lv_topi (fun z_73 ez_73 => ?_)
          have iz_73 : z_73.toInt = Γ (61, 42, 0) z_71.toInt.toNat := by rw [ez_73]; exact hg_53 _ (tp_pin hn_72)
          refine lv_isub hx hb dX12_heightAt_89 ?_
          refine lv_topi (fun z_74 ez_74 => ?_)
          try have iz_74 : z_74.toInt = p0.toInt - z_73.toInt := by rw [ez_74]; exact tl_subN p0 z_73 rfl rfl (by omega) (by omega)
          refine lv_i2l (v := z_74.toInt64) hx hb dX12_heightAt_90 (by first | rfl | decide) ?_
          refine lv_lmul hx hb dX12_heightAt_91 ?_
          refine lv_topl (fun z_75 ez_75 => ?_)
          refine lv_aload_n hx hb dX12_heightAt_92 rfl (lv_at hl 1 rfl) ?_
          refine tp_get (cy := cy) (ci := 12) (v := .ref (r_2 21)) (C := RX12) (T := TX12) (N := 49) hx hb hta inlX12 hown hK hP ho.1 hf_1 rfl 35 (by decide) (hta _ wk_171) (fun _ h9 => h9) rfl dX12_heightAt_93 ?_
          refine lv_iload_n hx hb dX12_heightAt_96 rfl (lv_at hl 0 rfl) ?_
          have hn_76 : vp_in v2 (42) := tl_in (by omega) (by omega)
          refine tp_iald (cy := cy) hx hb hK hP (show tp_r L K 61 42 0 (r_2 21) from hr_5 21 (by decide)).1 hf_51 hn_76 dX12_heightAt_97 ?_
          refine lv_topi (fun z_77 ez_77 => ?_)
          obtain rfl : z_55 = z_77 := ez_55.trans ez_77.symm
          refine lv_aload_n hx hb dX12_heightAt_98 rfl (lv_at hl 1 rfl) ?_
          refine tp_get (cy := cy) (ci := 12) (v := .ref (r_2 21)) (C := RX12) (T := TX12) (N := 49) hx hb hta inlX12 hown hK hP ho.1 hf_1 rfl 35 (by decide) (hta _ wk_171) (fun _ h9 => h9) rfl dX12_heightAt_99 ?_
          refine lv_iload_n hx hb dX12_heightAt_102 rfl (lv_at hl 0 rfl) ?_
          refine lv_iconst (v := 1) hx hb dX12_heightAt_103 (by decide) ?_
          refine lv_isub hx hb dX12_heightAt_104 ?_
          refine lv_topi (fun z_78 ez_78 => ?_)
          try have iz_78 : z_78.toInt = v2.toInt - (1 : Int) := by rw [ez_78]; exact tl_subN v2 1 rfl rfl (by omega) (by omega)
          have hn_79 : vp_in z_78 (42) := tl_in (by omega) (by omega)
          refine tp_iald (cy := cy) hx hb hK hP (show tp_r L K 61 42 0 (r_2 21) from hr_5 21 (by decide)).1 hf_51 hn_79 dX12_heightAt_105 ?_
          refine lv_topi (fun z_80 ez_80 => ?_)
          have iz_80 : z_80.toInt = Γ (61, 42, 0) z_78.toInt.toNat := by rw [ez_80]; exact hg_53 _ (tp_pin hn_79)
          have hka : Γ (61, 42, 0) ((v2.toInt - 1).toNat + 1) = z_55.toInt := (iz_55.trans (congrArg _ (by omega))).symm
          have hkc : Γ (61, 42, 0) (v2.toInt - 1).toNat = z_80.toInt := (iz_80.trans (congrArg _ (by omega))).symm
          have hr9 := hris (v2.toInt - 1).toNat (by omega)
          have hb8 := hkb (v2.toInt - 1).toNat (by omega)
          have hb9 := hkb ((v2.toInt - 1).toNat + 1) (by omega)
          rw [hka, hkc] at hr9
          rw [hkc] at hb8
          rw [hka] at hb9
          refine lv_isub hx hb dX12_heightAt_106 ?_
          refine lv_topi (fun z_81 ez_81 => ?_)
          try have iz_81 : z_81.toInt = z_55.toInt - z_80.toInt := by rw [ez_81]; exact tl_subN z_55 z_80 rfl rfl (by omega) (by omega)
          refine lv_i2l (v := z_81.toInt64) hx hb dX12_heightAt_107 (by first | rfl | decide) ?_
          refine tl_sl (tq_rS (As := [.long z_75, .long z_81.toInt64]) (rest := [.long z_64]) ⟨hx, hb, hml, hown, hta⟩ (tp_P.pre hK hN hL hU hI hP) lk_X12_401 (r_X12_down l D cy s.heap.size L K Γ f z_75 z_81.toInt64 (by first | omega | (simp only [Int32.toInt_toInt64]; omega) | decide | assumption)) rfl rfl ⟨Nat.le_of_ble_eq_true rfl, Nat.le_of_ble_eq_true rfl⟩ rfl hl.1 rfl (Nat.le_of_ble_eq_true rfl) dX12_heightAt_108 ⟨Nat.le_of_ble_eq_true rfl, Nat.le_of_ble_eq_true rfl⟩) (fun r_83 hw_82 => ?_)
          refine lv_ladd hx hb dX12_heightAt_111 ?_
          refine lv_topl (fun z_84 ez_84 => ?_)
          exact W.lret (v := z_84) hx hb hr (fun t ht hW => ⟨_, rfl, trivial, ht⟩) (fun q h => by cases h) dX12_heightAt_112
        · have c_58 : v2.toInt = (v_3 13).toInt := tl_eq c_58
          refine lv_aload_n hx hb dX12_heightAt_45 rfl (lv_at hl 1 rfl) ?_
          refine tp_get (cy := cy) (ci := 12) (v := .ref (r_2 22)) (C := RX12) (T := TX12) (N := 49) hx hb hta inlX12 hown hK hP ho.1 hf_1 rfl 36 (by decide) (hta _ wk_172) (fun _ h9 => h9) rfl dX12_heightAt_46 ?_
          refine lv_aload_n hx hb dX12_heightAt_49 rfl (lv_at hl 1 rfl) ?_
          refine tp_get (cy := cy) (ci := 12) (v := .int (v_3 13)) (C := RX12) (T := TX12) (N := 49) hx hb hta inlX12 hown hK hP ho.1 hf_1 rfl 37 (by decide) (hta _ wk_903) (fun _ h9 => h9) rfl dX12_heightAt_50 ?_
          refine lv_iconst (v := 1) hx hb dX12_heightAt_53 (by decide) ?_
          refine lv_isub hx hb dX12_heightAt_54 ?_
          refine lv_topi (fun z_85 ez_85 => ?_)
          try have iz_85 : z_85.toInt = (v_3 13).toInt - (1 : Int) := by rw [ez_85]; exact tl_subN (v_3 13) 1 rfl rfl (by omega) (by omega)
          obtain ⟨g_87, hf_86⟩ := (show tp_aj cy (42) (f (r_2 22)) from hI0.at (show tp_r L K 62 42 0 (r_2 22) from hr_5 22 (by decide)))
          have hn_89 : vp_in z_85 (42) := tl_in (by omega) (by omega)
          refine tp_lald (cy := cy) hx hb hK hP (show tp_r L K 62 42 0 (r_2 22) from hr_5 22 (by decide)).1 hf_86 hn_89 dX12_heightAt_55 ?_
          refine lv_topl (fun z_90 ez_90 => ?_)
          exact W.lret (v := z_90) hx hb hr (fun t ht hW => ⟨_, rfl, trivial, ht⟩) (fun q h => by cases h) dX12_heightAt_56
      · have c_57 : v2.toInt = (0 : Int) := tl_eq c_57
        refine lv_aload_n hx hb dX12_heightAt_30 rfl (lv_at hl 1 rfl) ?_
        refine tp_get (cy := cy) (ci := 12) (v := .ref (r_2 22)) (C := RX12) (T := TX12) (N := 49) hx hb hta inlX12 hown hK hP ho.1 hf_1 rfl 36 (by decide) (hta _ wk_172) (fun _ h9 => h9) rfl dX12_heightAt_31 ?_
        refine lv_iconst (v := 0) hx hb dX12_heightAt_34 (by decide) ?_
        obtain ⟨g_92, hf_91⟩ := (show tp_aj cy (42) (f (r_2 22)) from hI0.at (show tp_r L K 62 42 0 (r_2 22) from hr_5 22 (by decide)))
        have hn_94 : vp_in 0 (42) := tl_in (by decide) (by decide)
        refine tp_lald (cy := cy) hx hb hK hP (show tp_r L K 62 42 0 (r_2 22) from hr_5 22 (by decide)).1 hf_91 hn_94 dX12_heightAt_35 ?_
        refine lv_topl (fun z_95 ez_95 => ?_)
        exact W.lret (v := z_95) hx hb hr (fun t ht hW => ⟨_, rfl, trivial, ht⟩) (fun q h => by cases h) dX12_heightAt_36
    · have c_56 : z_55.toInt ≤ p0.toInt := tl_nlt c_56
      obtain ⟨z_96, ez_96⟩ : ∃ y : Int32, y = v2 + 1 := ⟨_, rfl⟩
      refine lv_iinc (v := z_96) (lv' := [(2, .int z_96), (0, .ref o), (1, .int p0)]) hx hb dX12_heightAt_20 hl (k := 0) rfl (by rw [ez_96]; rfl) (by decide) rfl (fun ls hl => ?_)
      try have iz_96 : z_96.toInt = v2.toInt + 1 := by rw [ez_96]; exact tl_addL v2 1 (by decide) (by omega) (by omega)
      refine lv_goto (tgt := 2) hx hb dX12_heightAt_23 (by decide) ?_
      exact ih2 z_96 ls (by show (42 - z_96.toInt).toNat < (42 - v2.toInt).toNat; omega) ⟨(show 0 ≤ z_96.toInt ∧ z_96.toInt ≤ Γ (39, 0, 0) 13 from (by omega)), lv_sub hl [0, 1, 2] rfl⟩
set_option maxHeartbeats 4000000 in
set_option maxRecDepth 100000 in
theorem r_X12_deepNow (l : Launch) (D : va_G) (cy : Nat → ClassId) (sz : Nat) (L : List Nat) (K : Nat → tk_K) (Γ : tk_G) (f : Nat → va_E) (o : Nat) (ho : tp_r L K 39 (0) 0 o) (hg : 0 ≤ Γ (39, 0, 0) 11 ∧ Γ (39, 0, 0) 12 ≤ 299) : Met l yX12_deepNow (tl_w yX12_deepNow cX12_deepNow 4 (some .long)) ({ frames := 1, cells := 0, slots := 0, locals := 25 }) (va_Pc [.ref o] (tp_P D cy L K Γ f sz)) (va_Ql (fun (r : Int64) (u : (Nat → va_E) × tk_G) => 0 ≤ u.2 (39, 0, 0) 14 ∧ (0 < u.2 (39, 0, 0) 14 ↔ gex (Γ (59, 300, 0)) (Γ (39, 0, 0) 11) (Γ (39, 0, 0) 12 + 1)) ∧ u.2 (39, 0, 0) 0 = Γ (39, 0, 0) 0 ∧ u.2 (39, 0, 0) 10 = Γ (39, 0, 0) 10 ∧ u.2 (39, 0, 0) 11 = Γ (39, 0, 0) 11 ∧ u.2 (39, 0, 0) 12 = Γ (39, 0, 0) 12 ∧ u.2 (39, 0, 0) 13 = Γ (39, 0, 0) 13 ∧ u.2 (39, 0, 0) 15 = Γ (39, 0, 0) 15) (tp_BG D cy L K Γ f [39]) (tp_A L sz)) 0 0 (tp_A L sz) := by
  refine Met.ofW (cc := cX12_deepNow) (maxL := 4) (ret := (some .long)) (by decide) rfl ?_
  intro p e s m args below meth c s₁ B hml hv
  obtain ⟨rfl, hsz, hP, hK, hL, hI, hN, hU⟩ := hv
  have hx := B.exec
  have hb := B.bytes
  have hr := B.returns
  have hta := tl_hta (atoms_spec (ws := tl_w yX12_deepNow cX12_deepNow 4 (some .long)) B.pre)
  have hown : s.vm.findClass RX12 = some m.cls := findClass_of_methodNamed B.named
  have hlocks := B.notSynchronized
  subst hsz
  have hI0 := hI
  generalize hAe : tp_A L s.heap.size = A
  have hA : ∀ q : Nat, s.heap.size ≤ q → A q := fun q h => by rw [← hAe]; exact Or.inr h
  have hAL : ∀ q ∈ L, A q := fun q h => by rw [← hAe]; exact Or.inl h
  have hAf : ∀ (H : Heap), s.heap.size ≤ H.size → ∀ q, tp_A L H.size q → A q := fun H h q hq => hq.elim (hAL q) (fun h2 => hA q (Nat.le_trans h h2))
  have hS : va_S A s.heap s.heap [] := va_S.rf
  have hD : va_D A (va_pl L f) := tp_D hL hAL
  have hfr : ∀ b, (K b).1 ∉ ([39] : List Nat) → f b = f b := fun _ _ => rfl
  have hgr : ∀ κ : tk_K, κ.1 ∉ ([39] : List Nat) → Γ κ = Γ κ := fun _ _ => rfl
  have hl := lv_entry ([.ref o]) (n := 4) (Nat.le_of_ble_eq_true rfl)
  rw [lg_entry_eq]
  generalize (lg_sl ([.ref o]) ++ List.replicate (4 - (lg_sl ([.ref o])).length) Slot.unset).toArray = ls at hl ⊢
  have hl : lv_has ls 4 [(0, .ref o)] := hl
  refine lv_lconst (v := 0) hx hb dX12_deepNow_0 (by decide) ?_
  refine lv_lstore_n (lv' := [(1, .long 0), (0, .ref o)]) hx hb dX12_deepNow_1 rfl hl (by decide) rfl (fun ls hl => ?_)
  refine lv_aload_n hx hb dX12_deepNow_2 rfl (lv_at hl 1 rfl) ?_
  refine lv_iconst (v := 0) hx hb dX12_deepNow_3 (by decide) ?_
  obtain ⟨r_2, v_3, q_4, hf_1, hr_5, hv_6⟩ := (show tp_o_M L K 0 0 (Γ (39, 0, 0)) (f o) from hI.at ho)
  have hx_7 : (v_3 0).toInt = Γ (39, 0, 0) 0 := hv_6 0 (by decide)
  have hx_8 : (v_3 10).toInt = Γ (39, 0, 0) 10 := hv_6 10 (by decide)
  have hx_9 : (v_3 11).toInt = Γ (39, 0, 0) 11 := hv_6 11 (by decide)
  have hx_10 : (v_3 12).toInt = Γ (39, 0, 0) 12 := hv_6 12 (by decide)
  have hx_11 : (v_3 13).toInt = Γ (39, 0, 0) 13 := hv_6 13 (by decide)
  have hx_12 : (v_3 14).toInt = Γ (39, 0, 0) 14 := hv_6 14 (by decide)
  have hx_13 : (v_3 15).toInt = Γ (39, 0, 0) 15 := hv_6 15 (by decide)
  obtain ⟨Γ_14, eΓ_14⟩ : ∃ y : tk_G, y = tg Γ (39, 0, 0) 14 (0 : Int) := ⟨_, rfl⟩
  have hv_15 : ∀ i : Nat, i < 16 → ((upd v_3 14 (0 : Int32)) i).toInt = Γ_14 (39, 0, 0) i := by rw [eΓ_14, tg_f]; exact tp_gi_upd hv_6
  have hI9 : tp_I cy L K Γ_14 (va_up f o (.inr (12, [.ref (r_2 0), .ref (r_2 1), .int (v_3 0), .ref (r_2 2), .ref (r_2 3), .ref (r_2 4), .ref (r_2 5), .ref (r_2 6), .ref (r_2 7), .ref (r_2 8), .ref (r_2 9), .ref (r_2 10), .ref (r_2 11), .ref (r_2 12), .ref (r_2 13), .ref (r_2 14), .ref (r_2 15), .int (v_3 1), .int (v_3 2), .int (v_3 3), .int (v_3 4), .int (v_3 5), .int (v_3 6), .int (v_3 7), .ref (r_2 16), .int (v_3 8), .ref (r_2 17), .int (v_3 9), .ref (r_2 18), .long q_4, .ref (r_2 19), .ref (r_2 20), .int (v_3 10), .int (v_3 11), .int (v_3 12), .ref (r_2 21), .ref (r_2 22), .int (v_3 13), .ref (r_2 23), .int 0, .int (v_3 15), .ref (r_2 24), .ref (r_2 25), .ref (r_2 26), .ref (r_2 27), .ref (r_2 28), .ref (r_2 29), .ref (r_2 30), .ref (r_2 31)]))) := by have q9 := hv_15; rw [eΓ_14, tg_f] at q9; rw [eΓ_14]; exact hI.setg hU rfl ho (show tp_o_M L K 0 0 (tgu (Γ (39, 0, 0)) 14 (0 : Int)) _ from ⟨r_2, (upd v_3 14 (0 : Int32)), q_4, rfl, hr_5, q9⟩)
  have hfr9 : ∀ b, (K b).1 ∉ ([39] : List Nat) → va_up f o (.inr (12, [.ref (r_2 0), .ref (r_2 1), .int (v_3 0), .ref (r_2 2), .ref (r_2 3), .ref (r_2 4), .ref (r_2 5), .ref (r_2 6), .ref (r_2 7), .ref (r_2 8), .ref (r_2 9), .ref (r_2 10), .ref (r_2 11), .ref (r_2 12), .ref (r_2 13), .ref (r_2 14), .ref (r_2 15), .int (v_3 1), .int (v_3 2), .int (v_3 3), .int (v_3 4), .int (v_3 5), .int (v_3 6), .int (v_3 7), .ref (r_2 16), .int (v_3 8), .ref (r_2 17), .int (v_3 9), .ref (r_2 18), .long q_4, .ref (r_2 19), .ref (r_2 20), .int (v_3 10), .int (v_3 11), .int (v_3 12), .ref (r_2 21), .ref (r_2 22), .int (v_3 13), .ref (r_2 23), .int 0, .int (v_3 15), .ref (r_2 24), .ref (r_2 25), .ref (r_2 26), .ref (r_2 27), .ref (r_2 28), .ref (r_2 29), .ref (r_2 30), .ref (r_2 31)])) b = f b := tp_fr hfr ho (by decide)
  refine tp_put (cy := cy) (ci := 12) (v := .int 0) (ty := tyX12 39) (C := RX12) (T := TX12) (N := 49) hx hb hta inlX12 tyX12 tyX12_ok nmX12 hown hK hP hD hS ho.1 hf_1 rfl 39 (by decide) (hta _ wk_926) (fun _ h9 => h9) rfl (tyX12_ok 39 (by decide)) rfl rfl (Nat.le_of_ble_eq_true rfl) dX12_deepNow_4 (fun H locs hP hD hS => ?_)
  have hP : va_P D vwCl (va_pl L (va_up f o (.inr (12, [.ref (r_2 0), .ref (r_2 1), .int (v_3 0), .ref (r_2 2), .ref (r_2 3), .ref (r_2 4), .ref (r_2 5), .ref (r_2 6), .ref (r_2 7), .ref (r_2 8), .ref (r_2 9), .ref (r_2 10), .ref (r_2 11), .ref (r_2 12), .ref (r_2 13), .ref (r_2 14), .ref (r_2 15), .int (v_3 1), .int (v_3 2), .int (v_3 3), .int (v_3 4), .int (v_3 5), .int (v_3 6), .int (v_3 7), .ref (r_2 16), .int (v_3 8), .ref (r_2 17), .int (v_3 9), .ref (r_2 18), .long q_4, .ref (r_2 19), .ref (r_2 20), .int (v_3 10), .int (v_3 11), .int (v_3 12), .ref (r_2 21), .ref (r_2 22), .int (v_3 13), .ref (r_2 23), .int 0, .int (v_3 15), .ref (r_2 24), .ref (r_2 25), .ref (r_2 26), .ref (r_2 27), .ref (r_2 28), .ref (r_2 29), .ref (r_2 30), .ref (r_2 31)])))) H := hP
  generalize hfe : va_up f o (.inr (12, [.ref (r_2 0), .ref (r_2 1), .int (v_3 0), .ref (r_2 2), .ref (r_2 3), .ref (r_2 4), .ref (r_2 5), .ref (r_2 6), .ref (r_2 7), .ref (r_2 8), .ref (r_2 9), .ref (r_2 10), .ref (r_2 11), .ref (r_2 12), .ref (r_2 13), .ref (r_2 14), .ref (r_2 15), .int (v_3 1), .int (v_3 2), .int (v_3 3), .int (v_3 4), .int (v_3 5), .int (v_3 6), .int (v_3 7), .ref (r_2 16), .int (v_3 8), .ref (r_2 17), .int (v_3 9), .ref (r_2 18), .long q_4, .ref (r_2 19), .ref (r_2 20), .int (v_3 10), .int (v_3 11), .int (v_3 12), .ref (r_2 21), .ref (r_2 22), .int (v_3 13), .ref (r_2 23), .int 0, .int (v_3 15), .ref (r_2 24), .ref (r_2 25), .ref (r_2 26), .ref (r_2 27), .ref (r_2 28), .ref (r_2 29), .ref (r_2 30), .ref (r_2 31)])) = f_16 at hP hI9 hfr9
  have hD : va_D A (va_pl L f_16) := tp_D hL hAL
  have hf_17 : f_16 o = .inr (12, [.ref (r_2 0), .ref (r_2 1), .int (v_3 0), .ref (r_2 2), .ref (r_2 3), .ref (r_2 4), .ref (r_2 5), .ref (r_2 6), .ref (r_2 7), .ref (r_2 8), .ref (r_2 9), .ref (r_2 10), .ref (r_2 11), .ref (r_2 12), .ref (r_2 13), .ref (r_2 14), .ref (r_2 15), .int (v_3 1), .int (v_3 2), .int (v_3 3), .int (v_3 4), .int (v_3 5), .int (v_3 6), .int (v_3 7), .ref (r_2 16), .int (v_3 8), .ref (r_2 17), .int (v_3 9), .ref (r_2 18), .long q_4, .ref (r_2 19), .ref (r_2 20), .int (v_3 10), .int (v_3 11), .int (v_3 12), .ref (r_2 21), .ref (r_2 22), .int (v_3 13), .ref (r_2 23), .int 0, .int (v_3 15), .ref (r_2 24), .ref (r_2 25), .ref (r_2 26), .ref (r_2 27), .ref (r_2 28), .ref (r_2 29), .ref (r_2 30), .ref (r_2 31)]) := by rw [← hfe]; exact va_up_self _ _ _
  clear hfe
  have hI := hI9
  have hfr := hfr9
  clear hI9 hfr9
  have hgr : ∀ κ : tk_K, κ.1 ∉ ([39] : List Nat) → Γ_14 κ = Γ κ := tg_fr hgr eΓ_14 (by decide)
  have hx_18 : (v_3 0).toInt = Γ_14 (39, 0, 0) 0 := hv_15 0 (by decide)
  have hx_19 : (v_3 10).toInt = Γ_14 (39, 0, 0) 10 := hv_15 10 (by decide)
  have hx_20 : (v_3 11).toInt = Γ_14 (39, 0, 0) 11 := hv_15 11 (by decide)
  have hx_21 : (v_3 12).toInt = Γ_14 (39, 0, 0) 12 := hv_15 12 (by decide)
  have hx_22 : (v_3 13).toInt = Γ_14 (39, 0, 0) 13 := hv_15 13 (by decide)
  have hx_23 : (0 : Int) = Γ_14 (39, 0, 0) 14 := hv_15 14 (by decide)
  have hx_24 : (v_3 15).toInt = Γ_14 (39, 0, 0) 15 := hv_15 15 (by decide)
  refine lv_aload_n hx hb dX12_deepNow_7 rfl (lv_at hl 1 rfl) ?_
  refine tp_get (cy := cy) (ci := 12) (v := .int (v_3 11)) (C := RX12) (T := TX12) (N := 49) hx hb hta inlX12 hown hK hP ho.1 hf_17 rfl 33 (by decide) (hta _ wk_931) (fun _ h9 => h9) rfl dX12_deepNow_8 ?_
  refine lv_istore_n (lv' := [(3, .int (v_3 11)), (1, .long 0), (0, .ref o)]) hx hb dX12_deepNow_11 rfl hl (by decide) rfl (fun ls hl => ?_)
  refine tl_ind (G := fun H locs ls => W p l e ((headSpec (tl_w yX12_deepNow cX12_deepNow 4 (some .long)) ({ frames := 1, cells := 0, slots := 0, locals := 25 })).room) s m #[.ref o] below meth c H locs 0 0 (MQ below (va_Ql (fun (r : Int64) (u : (Nat → va_E) × tk_G) => 0 ≤ u.2 (39, 0, 0) 14 ∧ (0 < u.2 (39, 0, 0) 14 ↔ gex (Γ (59, 300, 0)) (Γ (39, 0, 0) 11) (Γ (39, 0, 0) 12 + 1)) ∧ u.2 (39, 0, 0) 0 = Γ (39, 0, 0) 0 ∧ u.2 (39, 0, 0) 10 = Γ (39, 0, 0) 10 ∧ u.2 (39, 0, 0) 11 = Γ (39, 0, 0) 11 ∧ u.2 (39, 0, 0) 12 = Γ (39, 0, 0) 12 ∧ u.2 (39, 0, 0) 13 = Γ (39, 0, 0) 13 ∧ u.2 (39, 0, 0) 15 = Γ (39, 0, 0) 15) (tp_BG D cy L K Γ f [39]) A) #[.ref o] s 0 0 A) (F0 m 12 ls [])) (α := (Nat → va_E) × tk_G × Int32 × Int64) (fun aq => (300 - aq.2.2.1.toInt).toNat) (fun aq H locs ls => (Γ (39, 0, 0) 11 ≤ aq.2.2.1.toInt ∧ (aq.2.2.1.toInt ≤ Γ (39, 0, 0) 12 + 1 ∨ aq.2.2.1.toInt = Γ (39, 0, 0) 11)) ∧ (0 ≤ aq.2.1 (39, 0, 0) 14 ∧ aq.2.1 (39, 0, 0) 14 ≤ aq.2.2.1.toInt - Γ (39, 0, 0) 11) ∧ (0 < aq.2.1 (39, 0, 0) 14 ↔ gex (Γ (59, 300, 0)) (Γ (39, 0, 0) 11) aq.2.2.1.toInt) ∧ (aq.2.1 (39, 0, 0) 0 = Γ (39, 0, 0) 0) ∧ (aq.2.1 (39, 0, 0) 10 = Γ (39, 0, 0) 10) ∧ (aq.2.1 (39, 0, 0) 11 = Γ (39, 0, 0) 11) ∧ (aq.2.1 (39, 0, 0) 12 = Γ (39, 0, 0) 12) ∧ (aq.2.1 (39, 0, 0) 13 = Γ (39, 0, 0) 13) ∧ (aq.2.1 (39, 0, 0) 15 = Γ (39, 0, 0) 15) ∧ va_P D vwCl (va_pl L aq.1) H ∧ tp_I cy L K aq.2.1 aq.1 ∧ (∀ b, (K b).1 ∉ ([39] : List Nat) → aq.1 b = f b) ∧ (∀ κ : tk_K, κ.1 ∉ ([39] : List Nat) → aq.2.1 κ = Γ κ) ∧ va_S A s.heap H locs ∧ lv_has ls 4 [(3, .int aq.2.2.1), (1, .long aq.2.2.2), (0, .ref o)]) ?_ (f_16, Γ_14, (v_3 11), (0 : Int64)) H locs ls ⟨(show Γ (39, 0, 0) 11 ≤ (v_3 11).toInt ∧ ((v_3 11).toInt ≤ Γ (39, 0, 0) 12 + 1 ∨ (v_3 11).toInt = Γ (39, 0, 0) 11) from (by omega)), (show 0 ≤ Γ_14 (39, 0, 0) 14 ∧ Γ_14 (39, 0, 0) 14 ≤ (v_3 11).toInt - Γ (39, 0, 0) 11 from (by omega)), (show 0 < Γ_14 (39, 0, 0) 14 ↔ gex (Γ (59, 300, 0)) (Γ (39, 0, 0) 11) (v_3 11).toInt from (by rw [show (v_3 11).toInt = Γ (39, 0, 0) 11 from by omega]; exact ⟨fun q9 => by omega, fun q9 => absurd q9 gex0⟩)), (show Γ_14 (39, 0, 0) 0 = Γ (39, 0, 0) 0 from (by omega)), (show Γ_14 (39, 0, 0) 10 = Γ (39, 0, 0) 10 from (by omega)), (show Γ_14 (39, 0, 0) 11 = Γ (39, 0, 0) 11 from (by omega)), (show Γ_14 (39, 0, 0) 12 = Γ (39, 0, 0) 12 from (by omega)), (show Γ_14 (39, 0, 0) 13 = Γ (39, 0, 0) 13 from (by omega)), (show Γ_14 (39, 0, 0) 15 = Γ (39, 0, 0) 15 from (by omega)), hP, hI, hfr, hgr, hS, lv_sub hl [0, 1, 2] rfl⟩
  rintro ⟨f_25, Γ_26, v3, v1⟩ H locs ls ⟨h3, hm, hge, q0, q10, q11, q12, q13, q15, hP, hI, hfr, hgr, hS, hl⟩ ih12
  have hgr : ∀ κ : tk_K, κ.1 ∉ ([39] : List Nat) → Γ_26 κ = Γ κ := hgr
  have hP : va_P D vwCl (va_pl L f_25) H := hP
  have hI : tp_I cy L K Γ_26 f_25 := hI
  have hfr : ∀ b, (K b).1 ∉ ([39] : List Nat) → f_25 b = f b := hfr
  have hD : va_D A (va_pl L f_25) := tp_D hL hAL
  have h3 : Γ (39, 0, 0) 11 ≤ v3.toInt ∧ (v3.toInt ≤ Γ (39, 0, 0) 12 + 1 ∨ v3.toInt = Γ (39, 0, 0) 11) := h3
  have hm : 0 ≤ Γ_26 (39, 0, 0) 14 ∧ Γ_26 (39, 0, 0) 14 ≤ v3.toInt - Γ (39, 0, 0) 11 := hm
  have hge : 0 < Γ_26 (39, 0, 0) 14 ↔ gex (Γ (59, 300, 0)) (Γ (39, 0, 0) 11) v3.toInt := hge
  have q0 : Γ_26 (39, 0, 0) 0 = Γ (39, 0, 0) 0 := q0
  have q10 : Γ_26 (39, 0, 0) 10 = Γ (39, 0, 0) 10 := q10
  have q11 : Γ_26 (39, 0, 0) 11 = Γ (39, 0, 0) 11 := q11
  have q12 : Γ_26 (39, 0, 0) 12 = Γ (39, 0, 0) 12 := q12
  have q13 : Γ_26 (39, 0, 0) 13 = Γ (39, 0, 0) 13 := q13
  have q15 : Γ_26 (39, 0, 0) 15 = Γ (39, 0, 0) 15 := q15
  have hl : lv_has ls 4 [(3, .int v3), (1, .long v1), (0, .ref o)] := hl
  refine lv_iload_n hx hb dX12_deepNow_12 rfl (lv_at hl 0 rfl) ?_
  refine lv_aload_n hx hb dX12_deepNow_13 rfl (lv_at hl 2 rfl) ?_
  obtain ⟨r_28, v_29, q_30, hf_27, hr_31, hv_32⟩ := (show tp_o_M L K 0 0 (Γ_26 (39, 0, 0)) (f_25 o) from hI.at ho)
  have hx_33 : (v_29 0).toInt = Γ_26 (39, 0, 0) 0 := hv_32 0 (by decide)
  have hx_34 : (v_29 10).toInt = Γ_26 (39, 0, 0) 10 := hv_32 10 (by decide)
  have hx_35 : (v_29 11).toInt = Γ_26 (39, 0, 0) 11 := hv_32 11 (by decide)
  have hx_36 : (v_29 12).toInt = Γ_26 (39, 0, 0) 12 := hv_32 12 (by decide)
  have hx_37 : (v_29 13).toInt = Γ_26 (39, 0, 0) 13 := hv_32 13 (by decide)
  have hx_38 : (v_29 14).toInt = Γ_26 (39, 0, 0) 14 := hv_32 14 (by decide)
  have hx_39 : (v_29 15).toInt = Γ_26 (39, 0, 0) 15 := hv_32 15 (by decide)
  refine tp_get (cy := cy) (ci := 12) (v := .int (v_29 12)) (C := RX12) (T := TX12) (N := 49) hx hb hta inlX12 hown hK hP ho.1 hf_27 rfl 34 (by decide) (hta _ wk_932) (fun _ h9 => h9) rfl dX12_deepNow_14 ?_
  refine lv_icmp_gt (tgt := 59) hx hb dX12_deepNow_17 (by decide) (fun c_40 => ?_) (fun c_40 => ?_)
  · have c_40 : (v_29 12).toInt < v3.toInt := tl_lt c_40
    refine lv_aload_n hx hb dX12_deepNow_59 rfl (lv_at hl 2 rfl) ?_
    refine tp_get (cy := cy) (ci := 12) (v := .int (v_29 14)) (C := RX12) (T := TX12) (N := 49) hx hb hta inlX12 hown hK hP ho.1 hf_27 rfl 39 (by decide) (hta _ wk_926) (fun _ h9 => h9) rfl dX12_deepNow_60 ?_
    refine lv_if_ne (tgt := 72) hx hb dX12_deepNow_63 (by decide) (fun c_41 => ?_) (fun c_41 => ?_)
    · have c_41 : ¬ (v_29 14).toInt = (0 : Int) := tl_neq c_41
      refine lv_lload_n hx hb dX12_deepNow_72 rfl (lv_at hl 1 rfl) ?_
      refine lv_lneg hx hb dX12_deepNow_73 ?_
      refine lv_topl (fun z_42 ez_42 => ?_)
      refine lv_aload_n hx hb dX12_deepNow_74 rfl (lv_at hl 2 rfl) ?_
      refine tp_get (cy := cy) (ci := 12) (v := .int (v_29 14)) (C := RX12) (T := TX12) (N := 49) hx hb hta inlX12 hown hK hP ho.1 hf_27 rfl 39 (by decide) (hta _ wk_926) (fun _ h9 => h9) rfl dX12_deepNow_75 ?_
      refine lv_i2l (v := (v_29 14).toInt64) hx hb dX12_deepNow_78 (by first | rfl | decide) ?_
      refine tl_sl (tq_rS (As := [.long z_42, .long ((v_29 14).toInt64)]) (rest := []) ⟨hx, hb, hml, hown, hta⟩ (tp_P.pre hK hN hL hU hI hP) lk_X12_401 (r_X12_down l D cy H.size L K Γ_26 f_25 z_42 ((v_29 14).toInt64) (by first | omega | (simp only [Int32.toInt_toInt64]; omega) | decide | assumption)) rfl rfl ⟨Nat.le_of_ble_eq_true rfl, Nat.le_of_ble_eq_true rfl⟩ rfl hl.1 rfl (Nat.le_of_ble_eq_true rfl) dX12_deepNow_79 ⟨Nat.le_of_ble_eq_true rfl, Nat.le_of_ble_eq_true rfl⟩) (fun r_44 hw_43 => ?_)
      have hpo9 : 0 ≤ Γ_26 (39, 0, 0) 14 ∧ (0 < Γ_26 (39, 0, 0) 14 ↔ gex (Γ (59, 300, 0)) (Γ (39, 0, 0) 11) (Γ (39, 0, 0) 12 + 1)) ∧ Γ_26 (39, 0, 0) 0 = Γ (39, 0, 0) 0 ∧ Γ_26 (39, 0, 0) 10 = Γ (39, 0, 0) 10 ∧ Γ_26 (39, 0, 0) 11 = Γ (39, 0, 0) 11 ∧ Γ_26 (39, 0, 0) 12 = Γ (39, 0, 0) 12 ∧ Γ_26 (39, 0, 0) 13 = Γ (39, 0, 0) 13 ∧ Γ_26 (39, 0, 0) 15 = Γ (39, 0, 0) 15 := ⟨(by omega), (by by_cases q9 : Γ (39, 0, 0) 12 + 1 = v3.toInt; (rw [q9]; exact hge); exact ⟨fun q8 => by omega, fun ⟨_, q7, q6, _⟩ => by omega⟩), (by omega), (by omega), (by omega), (by omega), (by omega), (by omega)⟩
      exact W.lret (v := r_44) hx hb hr (fun t ht hW => ⟨⟨_, (f_25, Γ_26), rfl, hpo9, by rw [ht]; exact hP, hI, hfr, hgr⟩, hS.F ht⟩) hS.2.2 dX12_deepNow_82
    · have c_41 : (v_29 14).toInt = (0 : Int) := tl_eq c_41
      refine lv_ldc2 (v := (-1000000)) hx hb hown (hta _ wk_938) dX12_deepNow_66 ?_
      refine lv_goto (tgt := 82) hx hb dX12_deepNow_69 (by decide) ?_
      have hpo9 : 0 ≤ Γ_26 (39, 0, 0) 14 ∧ (0 < Γ_26 (39, 0, 0) 14 ↔ gex (Γ (59, 300, 0)) (Γ (39, 0, 0) 11) (Γ (39, 0, 0) 12 + 1)) ∧ Γ_26 (39, 0, 0) 0 = Γ (39, 0, 0) 0 ∧ Γ_26 (39, 0, 0) 10 = Γ (39, 0, 0) 10 ∧ Γ_26 (39, 0, 0) 11 = Γ (39, 0, 0) 11 ∧ Γ_26 (39, 0, 0) 12 = Γ (39, 0, 0) 12 ∧ Γ_26 (39, 0, 0) 13 = Γ (39, 0, 0) 13 ∧ Γ_26 (39, 0, 0) 15 = Γ (39, 0, 0) 15 := ⟨(by omega), (by by_cases q9 : Γ (39, 0, 0) 12 + 1 = v3.toInt; (rw [q9]; exact hge); exact ⟨fun q8 => by omega, fun ⟨_, q7, q6, _⟩ => by omega⟩), (by omega), (by omega), (by omega), (by omega), (by omega), (by omega)⟩
      exact W.lret (v := (-1000000)) hx hb hr (fun t ht hW => ⟨⟨_, (f_25, Γ_26), rfl, hpo9, by rw [ht]; exact hP, hI, hfr, hgr⟩, hS.F ht⟩) hS.2.2 dX12_deepNow_82
  · have c_40 : v3.toInt ≤ (v_29 12).toInt := tl_nlt c_40
    refine lv_aload_n hx hb dX12_deepNow_20 rfl (lv_at hl 2 rfl) ?_
    refine tp_get (cy := cy) (ci := 12) (v := .ref (r_28 19)) (C := RX12) (T := TX12) (N := 49) hx hb hta inlX12 hown hK hP ho.1 hf_27 rfl 30 (by decide) (hta _ wk_169) (fun _ h9 => h9) rfl dX12_deepNow_21 ?_
    refine lv_iload_n hx hb dX12_deepNow_24 rfl (lv_at hl 0 rfl) ?_
    obtain ⟨g_46, hf_45, hg_47⟩ := (show tp_gi cy (300) (Γ (59, 300, 0)) (f (r_28 19)) from hI0.at (show tp_r L K 59 300 0 (r_28 19) from hr_31 19 (by decide)))
    have hn_48 : vp_in v3 (300) := tl_in (by omega) (by omega)
    refine tp_iald (cy := cy) hx hb hK hP (show tp_r L K 59 300 0 (r_28 19) from hr_31 19 (by decide)).1 ((tp_un hfr (show tp_r L K 59 300 0 (r_28 19) from hr_31 19 (by decide)) (by decide)).trans hf_45) hn_48 dX12_deepNow_25 ?_
    refine lv_topi (fun z_49 ez_49 => ?_)
    have iz_49 : z_49.toInt = Γ (59, 300, 0) v3.toInt.toNat := by rw [ez_49]; exact hg_47 _ (tp_pin hn_48)
    refine lv_ldc (v := (-1000000)) hx hb hown (hta _ wk_182) dX12_deepNow_26 ?_
    refine lv_icmp_ne (tgt := 34) hx hb dX12_deepNow_28 (by decide) (fun c_50 => ?_) (fun c_50 => ?_)
    · have c_50 : ¬ z_49.toInt = (-1000000 : Int) := tl_neq c_50
      refine lv_lload_n hx hb dX12_deepNow_34 rfl (lv_at hl 1 rfl) ?_
      refine lv_aload_n hx hb dX12_deepNow_35 rfl (lv_at hl 2 rfl) ?_
      refine tp_get (cy := cy) (ci := 12) (v := .ref (r_28 23)) (C := RX12) (T := TX12) (N := 49) hx hb hta inlX12 hown hK hP ho.1 hf_27 rfl 38 (by decide) (hta _ wk_173) (fun _ h9 => h9) rfl dX12_deepNow_36 ?_
      refine lv_iload_n hx hb dX12_deepNow_39 rfl (lv_at hl 0 rfl) ?_
      obtain ⟨g_52, hf_51⟩ := (show tp_aj cy (300) (f (r_28 23)) from hI0.at (show tp_r L K 63 300 0 (r_28 23) from hr_31 23 (by decide)))
      have hn_54 : vp_in v3 (300) := tl_in (by omega) (by omega)
      refine tp_lald (cy := cy) hx hb hK hP (show tp_r L K 63 300 0 (r_28 23) from hr_31 23 (by decide)).1 ((tp_un hfr (show tp_r L K 63 300 0 (r_28 23) from hr_31 23 (by decide)) (by decide)).trans hf_51) hn_54 dX12_deepNow_40 ?_
      refine lv_topl (fun z_55 ez_55 => ?_)
      refine lv_ladd hx hb dX12_deepNow_41 ?_
      refine lv_topl (fun z_56 ez_56 => ?_)
      refine lv_lstore_n (lv' := [(1, .long z_56), (3, .int v3), (0, .ref o)]) hx hb dX12_deepNow_42 rfl hl (by decide) rfl (fun ls hl => ?_)
      refine lv_aload_n hx hb dX12_deepNow_43 rfl (lv_at hl 2 rfl) ?_
      refine lv_dup hx hb dX12_deepNow_44 rfl ?_
      refine tp_get (cy := cy) (ci := 12) (v := .int (v_29 14)) (C := RX12) (T := TX12) (N := 49) hx hb hta inlX12 hown hK hP ho.1 hf_27 rfl 39 (by decide) (hta _ wk_926) (fun _ h9 => h9) rfl dX12_deepNow_45 ?_
      refine lv_iconst (v := 1) hx hb dX12_deepNow_48 (by decide) ?_
      refine lv_iadd hx hb dX12_deepNow_49 ?_
      refine lv_topi (fun z_57 ez_57 => ?_)
      try have iz_57 : z_57.toInt = (v_29 14).toInt + (1 : Int) := by rw [ez_57]; exact tl_addN (v_29 14) 1 rfl rfl (by omega) (by omega)
      obtain ⟨Γ_58, eΓ_58⟩ : ∃ y : tk_G, y = tg Γ_26 (39, 0, 0) 14 z_57.toInt := ⟨_, rfl⟩
      have hv_59 : ∀ i : Nat, i < 16 → ((upd v_29 14 z_57) i).toInt = Γ_58 (39, 0, 0) i := by rw [eΓ_58, tg_f]; exact tp_gi_upd hv_32
      have hI9 : tp_I cy L K Γ_58 (va_up f_25 o (.inr (12, [.ref (r_28 0), .ref (r_28 1), .int (v_29 0), .ref (r_28 2), .ref (r_28 3), .ref (r_28 4), .ref (r_28 5), .ref (r_28 6), .ref (r_28 7), .ref (r_28 8), .ref (r_28 9), .ref (r_28 10), .ref (r_28 11), .ref (r_28 12), .ref (r_28 13), .ref (r_28 14), .ref (r_28 15), .int (v_29 1), .int (v_29 2), .int (v_29 3), .int (v_29 4), .int (v_29 5), .int (v_29 6), .int (v_29 7), .ref (r_28 16), .int (v_29 8), .ref (r_28 17), .int (v_29 9), .ref (r_28 18), .long q_30, .ref (r_28 19), .ref (r_28 20), .int (v_29 10), .int (v_29 11), .int (v_29 12), .ref (r_28 21), .ref (r_28 22), .int (v_29 13), .ref (r_28 23), .int z_57, .int (v_29 15), .ref (r_28 24), .ref (r_28 25), .ref (r_28 26), .ref (r_28 27), .ref (r_28 28), .ref (r_28 29), .ref (r_28 30), .ref (r_28 31)]))) := by have q9 := hv_59; rw [eΓ_58, tg_f] at q9; rw [eΓ_58]; exact hI.setg hU rfl ho (show tp_o_M L K 0 0 (tgu (Γ_26 (39, 0, 0)) 14 z_57.toInt) _ from ⟨r_28, (upd v_29 14 z_57), q_30, rfl, hr_31, q9⟩)
      have hfr9 : ∀ b, (K b).1 ∉ ([39] : List Nat) → va_up f_25 o (.inr (12, [.ref (r_28 0), .ref (r_28 1), .int (v_29 0), .ref (r_28 2), .ref (r_28 3), .ref (r_28 4), .ref (r_28 5), .ref (r_28 6), .ref (r_28 7), .ref (r_28 8), .ref (r_28 9), .ref (r_28 10), .ref (r_28 11), .ref (r_28 12), .ref (r_28 13), .ref (r_28 14), .ref (r_28 15), .int (v_29 1), .int (v_29 2), .int (v_29 3), .int (v_29 4), .int (v_29 5), .int (v_29 6), .int (v_29 7), .ref (r_28 16), .int (v_29 8), .ref (r_28 17), .int (v_29 9), .ref (r_28 18), .long q_30, .ref (r_28 19), .ref (r_28 20), .int (v_29 10), .int (v_29 11), .int (v_29 12), .ref (r_28 21), .ref (r_28 22), .int (v_29 13), .ref (r_28 23), .int z_57, .int (v_29 15), .ref (r_28 24), .ref (r_28 25), .ref (r_28 26), .ref (r_28 27), .ref (r_28 28), .ref (r_28 29), .ref (r_28 30), .ref (r_28 31)])) b = f b := tp_fr hfr ho (by decide)
      refine tp_put (cy := cy) (ci := 12) (v := .int z_57) (ty := tyX12 39) (C := RX12) (T := TX12) (N := 49) hx hb hta inlX12 tyX12 tyX12_ok nmX12 hown hK hP hD hS ho.1 hf_27 rfl 39 (by decide) (hta _ wk_926) (fun _ h9 => h9) rfl (tyX12_ok 39 (by decide)) rfl rfl (Nat.le_of_ble_eq_true rfl) dX12_deepNow_50 (fun H locs hP hD hS => ?_)
      have hP : va_P D vwCl (va_pl L (va_up f_25 o (.inr (12, [.ref (r_28 0), .ref (r_28 1), .int (v_29 0), .ref (r_28 2), .ref (r_28 3), .ref (r_28 4), .ref (r_28 5), .ref (r_28 6), .ref (r_28 7), .ref (r_28 8), .ref (r_28 9), .ref (r_28 10), .ref (r_28 11), .ref (r_28 12), .ref (r_28 13), .ref (r_28 14), .ref (r_28 15), .int (v_29 1), .int (v_29 2), .int (v_29 3), .int (v_29 4), .int (v_29 5), .int (v_29 6), .int (v_29 7), .ref (r_28 16), .int (v_29 8), .ref (r_28 17), .int (v_29 9), .ref (r_28 18), .long q_30, .ref (r_28 19), .ref (r_28 20), .int (v_29 10), .int (v_29 11), .int (v_29 12), .ref (r_28 21), .ref (r_28 22), .int (v_29 13), .ref (r_28 23), .int z_57, .int (v_29 15), .ref (r_28 24), .ref (r_28 25), .ref (r_28 26), .ref (r_28 27), .ref (r_28 28), .ref (r_28 29), .ref (r_28 30), .ref (r_28 31)])))) H := hP
      generalize hfe : va_up f_25 o (.inr (12, [.ref (r_28 0), .ref (r_28 1), .int (v_29 0), .ref (r_28 2), .ref (r_28 3), .ref (r_28 4), .ref (r_28 5), .ref (r_28 6), .ref (r_28 7), .ref (r_28 8), .ref (r_28 9), .ref (r_28 10), .ref (r_28 11), .ref (r_28 12), .ref (r_28 13), .ref (r_28 14), .ref (r_28 15), .int (v_29 1), .int (v_29 2), .int (v_29 3), .int (v_29 4), .int (v_29 5), .int (v_29 6), .int (v_29 7), .ref (r_28 16), .int (v_29 8), .ref (r_28 17), .int (v_29 9), .ref (r_28 18), .long q_30, .ref (r_28 19), .ref (r_28 20), .int (v_29 10), .int (v_29 11), .int (v_29 12), .ref (r_28 21), .ref (r_28 22), .int (v_29 13), .ref (r_28 23), .int z_57, .int (v_29 15), .ref (r_28 24), .ref (r_28 25), .ref (r_28 26), .ref (r_28 27), .ref (r_28 28), .ref (r_28 29), .ref (r_28 30), .ref (r_28 31)])) = f_60 at hP hI9 hfr9
      have hD : va_D A (va_pl L f_60) := tp_D hL hAL
      have hf_61 : f_60 o = .inr (12, [.ref (r_28 0), .ref (r_28 1), .int (v_29 0), .ref (r_28 2), .ref (r_28 3), .ref (r_28 4), .ref (r_28 5), .ref (r_28 6), .ref (r_28 7), .ref (r_28 8), .ref (r_28 9), .ref (r_28 10), .ref (r_28 11), .ref (r_28 12), .ref (r_28 13), .ref (r_28 14), .ref (r_28 15), .int (v_29 1), .int (v_29 2), .int (v_29 3), .int (v_29 4), .int (v_29 5), .int (v_29 6), .int (v_29 7), .ref (r_28 16), .int (v_29 8), .ref (r_28 17), .int (v_29 9), .ref (r_28 18), .long q_30, .ref (r_28 19), .ref (r_28 20), .int (v_29 10), .int (v_29 11), .int (v_29 12), .ref (r_28 21), .ref (r_28 22), .int (v_29 13), .ref (r_28 23), .int z_57, .int (v_29 15), .ref (r_28 24), .ref (r_28 25), .ref (r_28 26), .ref (r_28 27), .ref (r_28 28), .ref (r_28 29), .ref (r_28 30), .ref (r_28 31)]) := by rw [← hfe]; exact va_up_self _ _ _
      clear hfe
      have hI := hI9
      have hfr := hfr9
      clear hI9 hfr9
      have hgr : ∀ κ : tk_K, κ.1 ∉ ([39] : List Nat) → Γ_58 κ = Γ κ := tg_fr hgr eΓ_58 (by decide)
      have hx_62 : (v_29 0).toInt = Γ_58 (39, 0, 0) 0 := hv_59 0 (by decide)
      have hx_63 : (v_29 10).toInt = Γ_58 (39, 0, 0) 10 := hv_59 10 (by decide)
      have hx_64 : (v_29 11).toInt = Γ_58 (39, 0, 0) 11 := hv_59 11 (by decide)
      have hx_65 : (v_29 12).toInt = Γ_58 (39, 0, 0) 12 := hv_59 12 (by decide)
      have hx_66 : (v_29 13).toInt = Γ_58 (39, 0, 0) 13 := hv_59 13 (by decide)
      have hx_67 : z_57.toInt = Γ_58 (39, 0, 0) 14 := hv_59 14 (by decide)
      have hx_68 : (v_29 15).toInt = Γ_58 (39, 0, 0) 15 := hv_59 15 (by decide)
      obtain ⟨z_69, ez_69⟩ : ∃ y : Int32, y = v3 + 1 := ⟨_, rfl⟩
      refine lv_iinc (v := z_69) (lv' := [(3, .int z_69), (1, .long z_56), (0, .ref o)]) hx hb dX12_deepNow_53 hl (k := 1) rfl (by rw [ez_69]; rfl) (by decide) rfl (fun ls hl => ?_)
      try have iz_69 : z_69.toInt = v3.toInt + 1 := by rw [ez_69]; exact tl_addL v3 1 (by decide) (by omega) (by omega)
      refine lv_goto (tgt := 12) hx hb dX12_deepNow_56 (by decide) ?_
      exact ih12 (f_60, Γ_58, z_69, z_56) H locs ls (by show (300 - z_69.toInt).toNat < (300 - v3.toInt).toNat; omega) ⟨(show Γ (39, 0, 0) 11 ≤ z_69.toInt ∧ (z_69.toInt ≤ Γ (39, 0, 0) 12 + 1 ∨ z_69.toInt = Γ (39, 0, 0) 11) from (by omega)), (show 0 ≤ Γ_58 (39, 0, 0) 14 ∧ Γ_58 (39, 0, 0) 14 ≤ z_69.toInt - Γ (39, 0, 0) 11 from (by omega)), (show 0 < Γ_58 (39, 0, 0) 14 ↔ gex (Γ (59, 300, 0)) (Γ (39, 0, 0) 11) z_69.toInt from (by rw [gex1 (hi := v3.toInt) (by omega) (by omega)]; exact ⟨fun q9 => by first | exact Or.inr ⟨by omega, by omega⟩ | exact Or.inl (hge.mp (by omega)), fun q9 => q9.elim (fun q8 => by have q7 := hge.mpr q8; omega) (fun q8 => by first | omega | exact absurd (show Γ (59, 300, 0) v3.toInt.toNat = -1000000 from by omega) q8.2)⟩)), (show Γ_58 (39, 0, 0) 0 = Γ (39, 0, 0) 0 from (by omega)), (show Γ_58 (39, 0, 0) 10 = Γ (39, 0, 0) 10 from (by omega)), (show Γ_58 (39, 0, 0) 11 = Γ (39, 0, 0) 11 from (by omega)), (show Γ_58 (39, 0, 0) 12 = Γ (39, 0, 0) 12 from (by omega)), (show Γ_58 (39, 0, 0) 13 = Γ (39, 0, 0) 13 from (by omega)), (show Γ_58 (39, 0, 0) 15 = Γ (39, 0, 0) 15 from (by omega)), hP, hI, hfr, hgr, hS, lv_sub hl [0, 1, 2] rfl⟩
    · have c_50 : z_49.toInt = (-1000000 : Int) := tl_eq c_50
      refine lv_goto (tgt := 53) hx hb dX12_deepNow_31 (by decide) ?_
      obtain ⟨z_70, ez_70⟩ : ∃ y : Int32, y = v3 + 1 := ⟨_, rfl⟩
      refine lv_iinc (v := z_70) (lv' := [(3, .int z_70), (1, .long v1), (0, .ref o)]) hx hb dX12_deepNow_53 hl (k := 0) rfl (by rw [ez_70]; rfl) (by decide) rfl (fun ls hl => ?_)
      try have iz_70 : z_70.toInt = v3.toInt + 1 := by rw [ez_70]; exact tl_addL v3 1 (by decide) (by omega) (by omega)
      refine lv_goto (tgt := 12) hx hb dX12_deepNow_56 (by decide) ?_
      exact ih12 (f_25, Γ_26, z_70, v1) H locs ls (by show (300 - z_70.toInt).toNat < (300 - v3.toInt).toNat; omega) ⟨(show Γ (39, 0, 0) 11 ≤ z_70.toInt ∧ (z_70.toInt ≤ Γ (39, 0, 0) 12 + 1 ∨ z_70.toInt = Γ (39, 0, 0) 11) from (by omega)), (show 0 ≤ Γ_26 (39, 0, 0) 14 ∧ Γ_26 (39, 0, 0) 14 ≤ z_70.toInt - Γ (39, 0, 0) 11 from (by omega)), (show 0 < Γ_26 (39, 0, 0) 14 ↔ gex (Γ (59, 300, 0)) (Γ (39, 0, 0) 11) z_70.toInt from (by rw [gex1 (hi := v3.toInt) (by omega) (by omega)]; exact ⟨fun q9 => by first | exact Or.inr ⟨by omega, by omega⟩ | exact Or.inl (hge.mp (by omega)), fun q9 => q9.elim (fun q8 => by have q7 := hge.mpr q8; omega) (fun q8 => by first | omega | exact absurd (show Γ (59, 300, 0) v3.toInt.toNat = -1000000 from by omega) q8.2)⟩)), (show Γ_26 (39, 0, 0) 0 = Γ (39, 0, 0) 0 from (by omega)), (show Γ_26 (39, 0, 0) 10 = Γ (39, 0, 0) 10 from (by omega)), (show Γ_26 (39, 0, 0) 11 = Γ (39, 0, 0) 11 from (by omega)), (show Γ_26 (39, 0, 0) 12 = Γ (39, 0, 0) 12 from (by omega)), (show Γ_26 (39, 0, 0) 13 = Γ (39, 0, 0) 13 from (by omega)), (show Γ_26 (39, 0, 0) 15 = Γ (39, 0, 0) 15 from (by omega)), hP, hI, hfr, hgr, hS, lv_sub hl [0, 1, 2] rfl⟩
set_option maxHeartbeats 4000000 in
set_option maxRecDepth 100000 in
theorem r_X12_noiseNow (l : Launch) (D : va_G) (cy : Nat → ClassId) (sz : Nat) (L : List Nat) (K : Nat → tk_K) (Γ : tk_G) (f : Nat → va_E) (o : Nat) (ho : tp_r L K 39 (0) 0 o) (hu : 0 < Γ (39, 0, 0) 10) : Met l yX12_noiseNow (tl_w yX12_noiseNow cX12_noiseNow 5 (some .long)) ({ frames := 1, cells := 0, slots := 0, locals := 21 }) (va_Pc [.ref o] (tp_P D cy L K Γ f sz)) (vp_Sl (fun r : Int64 => 1 ≤ r.toInt)) 0 0 (fun _ => False) := by
  refine Met.ofW (cc := cX12_noiseNow) (maxL := 5) (ret := (some .long)) (by decide) rfl ?_
  intro p e s m args below meth c s₁ B hml hv
  obtain ⟨rfl, hsz, hP, hK, hL, hI, hN, hU⟩ := hv
  have hx := B.exec
  have hb := B.bytes
  have hr := B.returns
  have hta := tl_hta (atoms_spec (ws := tl_w yX12_noiseNow cX12_noiseNow 5 (some .long)) B.pre)
  have hown : s.vm.findClass RX12 = some m.cls := findClass_of_methodNamed B.named
  have hlocks := B.notSynchronized
  subst hsz
  have hI0 := hI
  have hl := lv_entry ([.ref o]) (n := 5) (Nat.le_of_ble_eq_true rfl)
  rw [lg_entry_eq]
  generalize (lg_sl ([.ref o]) ++ List.replicate (5 - (lg_sl ([.ref o])).length) Slot.unset).toArray = ls at hl ⊢
  have hl : lv_has ls 5 [(0, .ref o)] := hl
  refine lv_lconst (v := 0) hx hb dX12_noiseNow_0 (by decide) ?_
  refine lv_lstore_n (lv' := [(1, .long 0), (0, .ref o)]) hx hb dX12_noiseNow_1 rfl hl (by decide) rfl (fun ls hl => ?_)
  refine lv_iconst (v := 0) hx hb dX12_noiseNow_2 (by decide) ?_
  refine lv_istore_n (lv' := [(3, .int 0), (1, .long 0), (0, .ref o)]) hx hb dX12_noiseNow_3 rfl hl (by decide) rfl (fun ls hl => ?_)
  refine tl_indR (G := fun ls => W p l e ((headSpec (tl_w yX12_noiseNow cX12_noiseNow 5 (some .long)) ({ frames := 1, cells := 0, slots := 0, locals := 21 })).room) s m #[.ref o] below meth c s.heap [] 0 0 (MQ below (vp_Sl (fun r : Int64 => 1 ≤ r.toInt)) #[.ref o] s 0 0 (fun _ => False)) (F0 m 4 ls [])) (α := Int32 × Int64) (fun aq => (300 - aq.1.toInt).toNat) (fun aq ls => (0 ≤ aq.1.toInt) ∧ (aq.1.toInt ≤ 300) ∧ lv_has ls 5 [(3, .int aq.1), (1, .long aq.2), (0, .ref o)]) ?_ ((0 : Int32), (0 : Int64)) ls ⟨(show 0 ≤ (0 : Int) from (by omega)), (show (0 : Int) ≤ 300 from (by omega)), lv_sub hl [0, 1, 2] rfl⟩
  rintro ⟨v3, v1⟩ ls ⟨h0, h1, hl⟩ ih4
  have h0 : 0 ≤ v3.toInt := h0
  have h1 : v3.toInt ≤ 300 := h1
  have hl : lv_has ls 5 [(3, .int v3), (1, .long v1), (0, .ref o)] := hl
  refine lv_iload_n hx hb dX12_noiseNow_4 rfl (lv_at hl 0 rfl) ?_
  refine lv_sipush (v := 300) hx hb dX12_noiseNow_5 (by decide) ?_
  refine lv_icmp_ge (tgt := 42) hx hb dX12_noiseNow_8 (by decide) (fun c_1 => ?_) (fun c_1 => ?_)
  · have c_1 : (300 : Int) ≤ v3.toInt := tl_le c_1
    refine lv_lload_n hx hb dX12_noiseNow_42 rfl (lv_at hl 1 rfl) ?_
    refine lv_aload_n hx hb dX12_noiseNow_43 rfl (lv_at hl 2 rfl) ?_
    obtain ⟨r_3, v_4, q_5, hf_2, hr_6, hv_7⟩ := (show tp_o_M L K 0 0 (Γ (39, 0, 0)) (f o) from hI0.at ho)
    have hx_8 : (v_4 10).toInt = Γ (39, 0, 0) 10 := hv_7 10 (by decide)
    refine tp_get (cy := cy) (ci := 12) (v := .int (v_4 10)) (C := RX12) (T := TX12) (N := 49) hx hb hta inlX12 hown hK hP ho.1 hf_2 rfl 32 (by decide) (hta _ wk_933) (fun _ h9 => h9) rfl dX12_noiseNow_44 ?_
    refine lv_i2l (v := (v_4 10).toInt64) hx hb dX12_noiseNow_47 (by first | rfl | decide) ?_
    refine lv_ladd hx hb dX12_noiseNow_48 ?_
    refine lv_topl (fun z_9 ez_9 => ?_)
    refine lv_lconst (v := 1) hx hb dX12_noiseNow_49 (by decide) ?_
    refine lv_lsub hx hb dX12_noiseNow_50 ?_
    refine lv_topl (fun z_10 ez_10 => ?_)
    refine lv_aload_n hx hb dX12_noiseNow_51 rfl (lv_at hl 2 rfl) ?_
    refine tp_get (cy := cy) (ci := 12) (v := .int (v_4 10)) (C := RX12) (T := TX12) (N := 49) hx hb hta inlX12 hown hK hP ho.1 hf_2 rfl 32 (by decide) (hta _ wk_933) (fun _ h9 => h9) rfl dX12_noiseNow_52 ?_
    refine lv_i2l (v := (v_4 10).toInt64) hx hb dX12_noiseNow_55 (by first | rfl | decide) ?_
    refine lv_ldiv hx hb dX12_noiseNow_56 (tl_ne0LI (by omega)) ?_
    refine lv_topl (fun z_11 ez_11 => ?_)
    refine lv_lstore_n (lv' := [(3, .long z_11), (1, .long v1), (0, .ref o)]) hx hb dX12_noiseNow_57 rfl hl (by decide) rfl (fun ls hl => ?_)
    refine lv_lload_n hx hb dX12_noiseNow_58 rfl (lv_at hl 0 rfl) ?_
    refine lv_lconst (v := 1) hx hb dX12_noiseNow_59 (by decide) ?_
    refine W.lcmp hx hb dX12_noiseNow_60 ?_
    refine lv_if_ge (tgt := 68) hx hb dX12_noiseNow_61 (by decide) (fun c_12 => ?_) (fun c_12 => ?_)
    · have c_12 : z_11.toInt ≥ (1 : Int) := tl_cmp_ge c_12
      refine lv_lload_n hx hb dX12_noiseNow_68 rfl (lv_at hl 0 rfl) ?_
      exact W.lret (v := z_11) hx hb hr (fun t ht hW => ⟨_, rfl, (by omega), ht⟩) (fun q h => by cases h) dX12_noiseNow_69
    · have c_12 : z_11.toInt < (1 : Int) := tl_cmp_nge c_12
      refine lv_lconst (v := 1) hx hb dX12_noiseNow_64 (by decide) ?_
      refine lv_goto (tgt := 69) hx hb dX12_noiseNow_65 (by decide) ?_
      exact W.lret (v := 1) hx hb hr (fun t ht hW => ⟨_, rfl, (by decide), ht⟩) (fun q h => by cases h) dX12_noiseNow_69
  · have c_1 : v3.toInt < (300 : Int) := tl_nle c_1
    refine lv_lload_n hx hb dX12_noiseNow_11 rfl (lv_at hl 1 rfl) ?_
    refine lv_aload_n hx hb dX12_noiseNow_12 rfl (lv_at hl 2 rfl) ?_
    obtain ⟨r_14, v_15, q_16, hf_13, hr_17, hv_18⟩ := (show tp_o_M L K 0 0 (Γ (39, 0, 0)) (f o) from hI0.at ho)
    refine tp_get (cy := cy) (ci := 12) (v := .ref (r_14 20)) (C := RX12) (T := TX12) (N := 49) hx hb hta inlX12 hown hK hP ho.1 hf_13 rfl 31 (by decide) (hta _ wk_170) (fun _ h9 => h9) rfl dX12_noiseNow_13 ?_
    refine lv_iload_n hx hb dX12_noiseNow_16 rfl (lv_at hl 0 rfl) ?_
    obtain ⟨g_21, hf_20, hg_22⟩ := (show tp_gz cy (300) (Γ (60, 300, 0)) (f (r_14 20)) from hI0.at (show tp_r L K 60 300 0 (r_14 20) from hr_17 20 (by decide)))
    have hn_23 : vp_in v3 (300) := tl_in (by omega) (by omega)
    refine tp_zald (cy := cy) hx hb hK hP (show tp_r L K 60 300 0 (r_14 20) from hr_17 20 (by decide)).1 hf_20 hn_23 dX12_noiseNow_17 ?_
    refine lv_topi (fun z_24 ez_24 => ?_)
    have iz_24 : z_24.toInt = Γ (60, 300, 0) v3.toInt.toNat := by rw [ez_24]; exact hg_22 _ (tp_pin hn_23)
    refine lv_if_eq (tgt := 33) hx hb dX12_noiseNow_18 (by decide) (fun c_25 => ?_) (fun c_25 => ?_)
    · have c_25 : z_24.toInt = (0 : Int) := tl_eq c_25
      refine lv_lconst (v := 0) hx hb dX12_noiseNow_33 (by decide) ?_
      refine lv_ladd hx hb dX12_noiseNow_34 ?_
      refine lv_topl (fun z_26 ez_26 => ?_)
      refine lv_lstore_n (lv' := [(1, .long z_26), (3, .int v3), (0, .ref o)]) hx hb dX12_noiseNow_35 rfl hl (by decide) rfl (fun ls hl => ?_)
      obtain ⟨z_27, ez_27⟩ : ∃ y : Int32, y = v3 + 1 := ⟨_, rfl⟩
      refine lv_iinc (v := z_27) (lv' := [(3, .int z_27), (1, .long z_26), (0, .ref o)]) hx hb dX12_noiseNow_36 hl (k := 1) rfl (by rw [ez_27]; rfl) (by decide) rfl (fun ls hl => ?_)
      try have iz_27 : z_27.toInt = v3.toInt + 1 := by rw [ez_27]; exact tl_addL v3 1 (by decide) (by omega) (by omega)
      refine lv_goto (tgt := 4) hx hb dX12_noiseNow_39 (by decide) ?_
      exact ih4 (z_27, z_26) ls (by show (300 - z_27.toInt).toNat < (300 - v3.toInt).toNat; omega) ⟨(show 0 ≤ z_27.toInt from (by omega)), (show z_27.toInt ≤ 300 from (by omega)), lv_sub hl [0, 1, 2] rfl⟩
    · have c_25 : ¬ z_24.toInt = (0 : Int) := tl_neq c_25
      refine lv_aload_n hx hb dX12_noiseNow_21 rfl (lv_at hl 2 rfl) ?_
      refine tp_get (cy := cy) (ci := 12) (v := .ref (r_14 23)) (C := RX12) (T := TX12) (N := 49) hx hb hta inlX12 hown hK hP ho.1 hf_13 rfl 38 (by decide) (hta _ wk_173) (fun _ h9 => h9) rfl dX12_noiseNow_22 ?_
      refine lv_iload_n hx hb dX12_noiseNow_25 rfl (lv_at hl 0 rfl) ?_
      obtain ⟨g_29, hf_28⟩ := (show tp_aj cy (300) (f (r_14 23)) from hI0.at (show tp_r L K 63 300 0 (r_14 23) from hr_17 23 (by decide)))
      have hn_31 : vp_in v3 (300) := tl_in (by omega) (by omega)
      refine tp_lald (cy := cy) hx hb hK hP (show tp_r L K 63 300 0 (r_14 23) from hr_17 23 (by decide)).1 hf_28 hn_31 dX12_noiseNow_26 ?_
      refine lv_topl (fun z_32 ez_32 => ?_)
      refine tl_sl (tq_rS (As := [.long z_32]) (rest := [.long v1]) ⟨hx, hb, hml, hown, hta⟩ (tp_P.pre hK hN hL hU hI hP) lk_X12_414 (r_X12_size l D cy s.heap.size L K Γ f z_32 ) rfl rfl ⟨Nat.le_of_ble_eq_true rfl, Nat.le_of_ble_eq_true rfl⟩ rfl hl.1 rfl (Nat.le_of_ble_eq_true rfl) dX12_noiseNow_27 ⟨Nat.le_of_ble_eq_true rfl, Nat.le_of_ble_eq_true rfl⟩) (fun r_34 hw_33 => ?_)
      refine lv_goto (tgt := 34) hx hb dX12_noiseNow_30 (by decide) ?_
      refine lv_ladd hx hb dX12_noiseNow_34 ?_
      refine lv_topl (fun z_35 ez_35 => ?_)
      refine lv_lstore_n (lv' := [(1, .long z_35), (3, .int v3), (0, .ref o)]) hx hb dX12_noiseNow_35 rfl hl (by decide) rfl (fun ls hl => ?_)
      obtain ⟨z_36, ez_36⟩ : ∃ y : Int32, y = v3 + 1 := ⟨_, rfl⟩
      refine lv_iinc (v := z_36) (lv' := [(3, .int z_36), (1, .long z_35), (0, .ref o)]) hx hb dX12_noiseNow_36 hl (k := 1) rfl (by rw [ez_36]; rfl) (by decide) rfl (fun ls hl => ?_)
      try have iz_36 : z_36.toInt = v3.toInt + 1 := by rw [ez_36]; exact tl_addL v3 1 (by decide) (by omega) (by omega)
      refine lv_goto (tgt := 4) hx hb dX12_noiseNow_39 (by decide) ?_
      exact ih4 (z_36, z_35) ls (by show (300 - z_36.toInt).toNat < (300 - v3.toInt).toNat; omega) ⟨(show 0 ≤ z_36.toInt from (by omega)), (show z_36.toInt ≤ 300 from (by omega)), lv_sub hl [0, 1, 2] rfl⟩
set_option maxHeartbeats 4000000 in
set_option maxRecDepth 100000 in
theorem r_X12_uses (l : Launch) (D : va_G) (cy : Nat → ClassId) (sz : Nat) (L : List Nat) (K : Nat → tk_K) (Γ : tk_G) (f : Nat → va_E) (o : Nat) (p0 : Int32) (p1 : Int32) (p2 : Int32) (p3 : Int32) (t1 : Int) (ho : tp_r L K 39 (0) 0 o) (ht1 : t1 = 6 + p0.toInt ∧ 6 ≤ t1 ∧ t1 ≤ 13) (hnc : 0 ≤ Γ (46, 22, 0) t1.toNat ∧ Γ (46, 22, 0) t1.toNat ≤ 12) (htst : ∀ c : Nat, (c : Int) < Γ (46, 22, 0) t1.toNat → (Γ (45, 1056, 0) (48 * t1 + 4 * (c : Int) + 2).toNat < 0 ∨ (0 ≤ Γ (45, 1056, 0) (48 * t1 + 4 * (c : Int) + 2).toNat ∧ Γ (45, 1056, 0) (48 * t1 + 4 * (c : Int) + 2).toNat ≤ Γ (45, 1056, 0) (48 * t1 + 4 * (c : Int) + 3).toNat ∧ Γ (45, 1056, 0) (48 * t1 + 4 * (c : Int) + 3).toNat ≤ 400 ∧ rp (Γ (43, 8800, 0)) (400 * t1 + Γ (45, 1056, 0) (48 * t1 + 4 * (c : Int) + 2).toNat).toNat (Γ (45, 1056, 0) (48 * t1 + 4 * (c : Int) + 3).toNat - Γ (45, 1056, 0) (48 * t1 + 4 * (c : Int) + 2).toNat).toNat 1))) (h1 : 0 ≤ p1.toInt ∧ p1.toInt ≤ 23) : Met l yX12_uses (tl_w yX12_uses cX12_uses 9 none) ({ frames := 3, cells := 0, slots := 0, locals := 77 }) (va_Pc [.ref o, .int p0, .int p1, .int p2, .int p3] (tp_P D cy L K Γ f sz)) (va_Qv (fun (u : (Nat → va_E) × tk_G) => 0 ≤ u.2 (39, 0, 0) 10 ∧ (u.2 (39, 0, 0) 11 = p2.toInt ∧ u.2 (39, 0, 0) 12 = p3.toInt) ∧ u.2 (39, 0, 0) 0 = Γ (39, 0, 0) 0 ∧ u.2 (39, 0, 0) 13 = Γ (39, 0, 0) 13 ∧ u.2 (39, 0, 0) 14 = Γ (39, 0, 0) 14 ∧ u.2 (39, 0, 0) 15 = Γ (39, 0, 0) 15 ∧ (∀ j : Nat, j < 300 → ¬ u.2 (60, 300, 0) j = 0 → 0 < u.2 (39, 0, 0) 10)) (tp_BG D cy L K Γ f [39, 58, 57, 60]) (tp_A L sz)) 0 0 (tp_A L sz) := by
  refine Met.ofW (cc := cX12_uses) (maxL := 9) (ret := none) (by decide) rfl ?_
  intro p e s m args below meth c s₁ B hml hv
  obtain ⟨rfl, hsz, hP, hK, hL, hI, hN, hU⟩ := hv
  have hx := B.exec
  have hb := B.bytes
  have hr := B.returns
  have hta := tl_hta (atoms_spec (ws := tl_w yX12_uses cX12_uses 9 none) B.pre)
  have hown : s.vm.findClass RX12 = some m.cls := findClass_of_methodNamed B.named
  have hlocks := B.notSynchronized
  subst hsz
  have hI0 := hI
  generalize hAe : tp_A L s.heap.size = A
  have hA : ∀ q : Nat, s.heap.size ≤ q → A q := fun q h => by rw [← hAe]; exact Or.inr h
  have hAL : ∀ q ∈ L, A q := fun q h => by rw [← hAe]; exact Or.inl h
  have hAf : ∀ (H : Heap), s.heap.size ≤ H.size → ∀ q, tp_A L H.size q → A q := fun H h q hq => hq.elim (hAL q) (fun h2 => hA q (Nat.le_trans h h2))
  have hS : va_S A s.heap s.heap [] := va_S.rf
  have hD : va_D A (va_pl L f) := tp_D hL hAL
  have hfr : ∀ b, (K b).1 ∉ ([39, 58, 57, 60] : List Nat) → f b = f b := fun _ _ => rfl
  have hgr : ∀ κ : tk_K, κ.1 ∉ ([39, 58, 57, 60] : List Nat) → Γ κ = Γ κ := fun _ _ => rfl
  have hl := lv_entry ([.ref o, .int p0, .int p1, .int p2, .int p3]) (n := 9) (Nat.le_of_ble_eq_true rfl)
  rw [lg_entry_eq]
  generalize (lg_sl ([.ref o, .int p0, .int p1, .int p2, .int p3]) ++ List.replicate (9 - (lg_sl ([.ref o, .int p0, .int p1, .int p2, .int p3])).length) Slot.unset).toArray = ls at hl ⊢
  have hl : lv_has ls 9 [(0, .ref o), (1, .int p0), (2, .int p1), (3, .int p2), (4, .int p3)] := hl
  refine lv_bipush (v := 6) hx hb dX12_uses_0 (by decide) ?_
  refine lv_iload_n hx hb dX12_uses_2 rfl (lv_at hl 1 rfl) ?_
  refine lv_iadd hx hb dX12_uses_3 ?_
  refine lv_topi (fun z_1 ez_1 => ?_)
  try have iz_1 : z_1.toInt = (6 : Int) + p0.toInt := by rw [ez_1]; exact tl_addN 6 p0 rfl rfl (by omega) (by omega)
  refine lv_istore (lv' := [(5, .int z_1), (0, .ref o), (1, .int p0), (2, .int p1), (3, .int p2), (4, .int p3)]) hx hb dX12_uses_4 hl (by decide) rfl (fun ls hl => ?_)
  refine lv_aload_n hx hb dX12_uses_6 rfl (lv_at hl 1 rfl) ?_
  refine lv_iload_n hx hb dX12_uses_7 rfl (lv_at hl 4 rfl) ?_
  obtain ⟨r_3, v_4, q_5, hf_2, hr_6, hv_7⟩ := (show tp_o_M L K 0 0 (Γ (39, 0, 0)) (f o) from hI.at ho)
  have hx_8 : (v_4 0).toInt = Γ (39, 0, 0) 0 := hv_7 0 (by decide)
  have hx_9 : (v_4 9).toInt = Γ (39, 0, 0) 9 := hv_7 9 (by decide)
  have hx_10 : (v_4 10).toInt = Γ (39, 0, 0) 10 := hv_7 10 (by decide)
  have hx_11 : (v_4 11).toInt = Γ (39, 0, 0) 11 := hv_7 11 (by decide)
  have hx_12 : (v_4 12).toInt = Γ (39, 0, 0) 12 := hv_7 12 (by decide)
  have hx_13 : (v_4 13).toInt = Γ (39, 0, 0) 13 := hv_7 13 (by decide)
  have hx_14 : (v_4 14).toInt = Γ (39, 0, 0) 14 := hv_7 14 (by decide)
  have hx_15 : (v_4 15).toInt = Γ (39, 0, 0) 15 := hv_7 15 (by decide)
  obtain ⟨Γ_16, eΓ_16⟩ : ∃ y : tk_G, y = tg Γ (39, 0, 0) 11 p2.toInt := ⟨_, rfl⟩
  have hv_17 : ∀ i : Nat, i < 16 → ((upd v_4 11 p2) i).toInt = Γ_16 (39, 0, 0) i := by rw [eΓ_16, tg_f]; exact tp_gi_upd hv_7
  have hI9 : tp_I cy L K Γ_16 (va_up f o (.inr (12, [.ref (r_3 0), .ref (r_3 1), .int (v_4 0), .ref (r_3 2), .ref (r_3 3), .ref (r_3 4), .ref (r_3 5), .ref (r_3 6), .ref (r_3 7), .ref (r_3 8), .ref (r_3 9), .ref (r_3 10), .ref (r_3 11), .ref (r_3 12), .ref (r_3 13), .ref (r_3 14), .ref (r_3 15), .int (v_4 1), .int (v_4 2), .int (v_4 3), .int (v_4 4), .int (v_4 5), .int (v_4 6), .int (v_4 7), .ref (r_3 16), .int (v_4 8), .ref (r_3 17), .int (v_4 9), .ref (r_3 18), .long q_5, .ref (r_3 19), .ref (r_3 20), .int (v_4 10), .int p2, .int (v_4 12), .ref (r_3 21), .ref (r_3 22), .int (v_4 13), .ref (r_3 23), .int (v_4 14), .int (v_4 15), .ref (r_3 24), .ref (r_3 25), .ref (r_3 26), .ref (r_3 27), .ref (r_3 28), .ref (r_3 29), .ref (r_3 30), .ref (r_3 31)]))) := by have q9 := hv_17; rw [eΓ_16, tg_f] at q9; rw [eΓ_16]; exact hI.setg hU rfl ho (show tp_o_M L K 0 0 (tgu (Γ (39, 0, 0)) 11 p2.toInt) _ from ⟨r_3, (upd v_4 11 p2), q_5, rfl, hr_6, q9⟩)
  have hfr9 : ∀ b, (K b).1 ∉ ([39, 58, 57, 60] : List Nat) → va_up f o (.inr (12, [.ref (r_3 0), .ref (r_3 1), .int (v_4 0), .ref (r_3 2), .ref (r_3 3), .ref (r_3 4), .ref (r_3 5), .ref (r_3 6), .ref (r_3 7), .ref (r_3 8), .ref (r_3 9), .ref (r_3 10), .ref (r_3 11), .ref (r_3 12), .ref (r_3 13), .ref (r_3 14), .ref (r_3 15), .int (v_4 1), .int (v_4 2), .int (v_4 3), .int (v_4 4), .int (v_4 5), .int (v_4 6), .int (v_4 7), .ref (r_3 16), .int (v_4 8), .ref (r_3 17), .int (v_4 9), .ref (r_3 18), .long q_5, .ref (r_3 19), .ref (r_3 20), .int (v_4 10), .int p2, .int (v_4 12), .ref (r_3 21), .ref (r_3 22), .int (v_4 13), .ref (r_3 23), .int (v_4 14), .int (v_4 15), .ref (r_3 24), .ref (r_3 25), .ref (r_3 26), .ref (r_3 27), .ref (r_3 28), .ref (r_3 29), .ref (r_3 30), .ref (r_3 31)])) b = f b := tp_fr hfr ho (by decide)
  refine tp_put (cy := cy) (ci := 12) (v := .int p2) (ty := tyX12 33) (C := RX12) (T := TX12) (N := 49) hx hb hta inlX12 tyX12 tyX12_ok nmX12 hown hK hP hD hS ho.1 hf_2 rfl 33 (by decide) (hta _ wk_931) (fun _ h9 => h9) rfl (tyX12_ok 33 (by decide)) rfl rfl (Nat.le_of_ble_eq_true rfl) dX12_uses_8 (fun H locs hP hD hS => ?_)
  have hP : va_P D vwCl (va_pl L (va_up f o (.inr (12, [.ref (r_3 0), .ref (r_3 1), .int (v_4 0), .ref (r_3 2), .ref (r_3 3), .ref (r_3 4), .ref (r_3 5), .ref (r_3 6), .ref (r_3 7), .ref (r_3 8), .ref (r_3 9), .ref (r_3 10), .ref (r_3 11), .ref (r_3 12), .ref (r_3 13), .ref (r_3 14), .ref (r_3 15), .int (v_4 1), .int (v_4 2), .int (v_4 3), .int (v_4 4), .int (v_4 5), .int (v_4 6), .int (v_4 7), .ref (r_3 16), .int (v_4 8), .ref (r_3 17), .int (v_4 9), .ref (r_3 18), .long q_5, .ref (r_3 19), .ref (r_3 20), .int (v_4 10), .int p2, .int (v_4 12), .ref (r_3 21), .ref (r_3 22), .int (v_4 13), .ref (r_3 23), .int (v_4 14), .int (v_4 15), .ref (r_3 24), .ref (r_3 25), .ref (r_3 26), .ref (r_3 27), .ref (r_3 28), .ref (r_3 29), .ref (r_3 30), .ref (r_3 31)])))) H := hP
  generalize hfe : va_up f o (.inr (12, [.ref (r_3 0), .ref (r_3 1), .int (v_4 0), .ref (r_3 2), .ref (r_3 3), .ref (r_3 4), .ref (r_3 5), .ref (r_3 6), .ref (r_3 7), .ref (r_3 8), .ref (r_3 9), .ref (r_3 10), .ref (r_3 11), .ref (r_3 12), .ref (r_3 13), .ref (r_3 14), .ref (r_3 15), .int (v_4 1), .int (v_4 2), .int (v_4 3), .int (v_4 4), .int (v_4 5), .int (v_4 6), .int (v_4 7), .ref (r_3 16), .int (v_4 8), .ref (r_3 17), .int (v_4 9), .ref (r_3 18), .long q_5, .ref (r_3 19), .ref (r_3 20), .int (v_4 10), .int p2, .int (v_4 12), .ref (r_3 21), .ref (r_3 22), .int (v_4 13), .ref (r_3 23), .int (v_4 14), .int (v_4 15), .ref (r_3 24), .ref (r_3 25), .ref (r_3 26), .ref (r_3 27), .ref (r_3 28), .ref (r_3 29), .ref (r_3 30), .ref (r_3 31)])) = f_18 at hP hI9 hfr9
  have hD : va_D A (va_pl L f_18) := tp_D hL hAL
  have hf_19 : f_18 o = .inr (12, [.ref (r_3 0), .ref (r_3 1), .int (v_4 0), .ref (r_3 2), .ref (r_3 3), .ref (r_3 4), .ref (r_3 5), .ref (r_3 6), .ref (r_3 7), .ref (r_3 8), .ref (r_3 9), .ref (r_3 10), .ref (r_3 11), .ref (r_3 12), .ref (r_3 13), .ref (r_3 14), .ref (r_3 15), .int (v_4 1), .int (v_4 2), .int (v_4 3), .int (v_4 4), .int (v_4 5), .int (v_4 6), .int (v_4 7), .ref (r_3 16), .int (v_4 8), .ref (r_3 17), .int (v_4 9), .ref (r_3 18), .long q_5, .ref (r_3 19), .ref (r_3 20), .int (v_4 10), .int p2, .int (v_4 12), .ref (r_3 21), .ref (r_3 22), .int (v_4 13), .ref (r_3 23), .int (v_4 14), .int (v_4 15), .ref (r_3 24), .ref (r_3 25), .ref (r_3 26), .ref (r_3 27), .ref (r_3 28), .ref (r_3 29), .ref (r_3 30), .ref (r_3 31)]) := by rw [← hfe]; exact va_up_self _ _ _
  clear hfe
  have hI := hI9
  have hfr := hfr9
  clear hI9 hfr9
  have hgr : ∀ κ : tk_K, κ.1 ∉ ([39, 58, 57, 60] : List Nat) → Γ_16 κ = Γ κ := tg_fr hgr eΓ_16 (by decide)
  have hx_20 : (v_4 0).toInt = Γ_16 (39, 0, 0) 0 := hv_17 0 (by decide)
  have hx_21 : (v_4 9).toInt = Γ_16 (39, 0, 0) 9 := hv_17 9 (by decide)
  have hx_22 : (v_4 10).toInt = Γ_16 (39, 0, 0) 10 := hv_17 10 (by decide)
  have hx_23 : p2.toInt = Γ_16 (39, 0, 0) 11 := hv_17 11 (by decide)
  have hx_24 : (v_4 12).toInt = Γ_16 (39, 0, 0) 12 := hv_17 12 (by decide)
  have hx_25 : (v_4 13).toInt = Γ_16 (39, 0, 0) 13 := hv_17 13 (by decide)
  have hx_26 : (v_4 14).toInt = Γ_16 (39, 0, 0) 14 := hv_17 14 (by decide)
  have hx_27 : (v_4 15).toInt = Γ_16 (39, 0, 0) 15 := hv_17 15 (by decide)
  refine lv_aload_n hx hb dX12_uses_11 rfl (lv_at hl 1 rfl) ?_
  refine lv_iload hx hb dX12_uses_12 (lv_at hl 5 rfl) ?_
  obtain ⟨Γ_28, eΓ_28⟩ : ∃ y : tk_G, y = tg Γ_16 (39, 0, 0) 12 p3.toInt := ⟨_, rfl⟩
  have hv_29 : ∀ i : Nat, i < 16 → ((upd (upd v_4 11 p2) 12 p3) i).toInt = Γ_28 (39, 0, 0) i := by rw [eΓ_28, tg_f]; exact tp_gi_upd hv_17
  have hI9 : tp_I cy L K Γ_28 (va_up f_18 o (.inr (12, [.ref (r_3 0), .ref (r_3 1), .int (v_4 0), .ref (r_3 2), .ref (r_3 3), .ref (r_3 4), .ref (r_3 5), .ref (r_3 6), .ref (r_3 7), .ref (r_3 8), .ref (r_3 9), .ref (r_3 10), .ref (r_3 11), .ref (r_3 12), .ref (r_3 13), .ref (r_3 14), .ref (r_3 15), .int (v_4 1), .int (v_4 2), .int (v_4 3), .int (v_4 4), .int (v_4 5), .int (v_4 6), .int (v_4 7), .ref (r_3 16), .int (v_4 8), .ref (r_3 17), .int (v_4 9), .ref (r_3 18), .long q_5, .ref (r_3 19), .ref (r_3 20), .int (v_4 10), .int p2, .int p3, .ref (r_3 21), .ref (r_3 22), .int (v_4 13), .ref (r_3 23), .int (v_4 14), .int (v_4 15), .ref (r_3 24), .ref (r_3 25), .ref (r_3 26), .ref (r_3 27), .ref (r_3 28), .ref (r_3 29), .ref (r_3 30), .ref (r_3 31)]))) := by have q9 := hv_29; rw [eΓ_28, tg_f] at q9; rw [eΓ_28]; exact hI.setg hU rfl ho (show tp_o_M L K 0 0 (tgu (Γ_16 (39, 0, 0)) 12 p3.toInt) _ from ⟨r_3, (upd (upd v_4 11 p2) 12 p3), q_5, rfl, hr_6, q9⟩)
  have hfr9 : ∀ b, (K b).1 ∉ ([39, 58, 57, 60] : List Nat) → va_up f_18 o (.inr (12, [.ref (r_3 0), .ref (r_3 1), .int (v_4 0), .ref (r_3 2), .ref (r_3 3), .ref (r_3 4), .ref (r_3 5), .ref (r_3 6), .ref (r_3 7), .ref (r_3 8), .ref (r_3 9), .ref (r_3 10), .ref (r_3 11), .ref (r_3 12), .ref (r_3 13), .ref (r_3 14), .ref (r_3 15), .int (v_4 1), .int (v_4 2), .int (v_4 3), .int (v_4 4), .int (v_4 5), .int (v_4 6), .int (v_4 7), .ref (r_3 16), .int (v_4 8), .ref (r_3 17), .int (v_4 9), .ref (r_3 18), .long q_5, .ref (r_3 19), .ref (r_3 20), .int (v_4 10), .int p2, .int p3, .ref (r_3 21), .ref (r_3 22), .int (v_4 13), .ref (r_3 23), .int (v_4 14), .int (v_4 15), .ref (r_3 24), .ref (r_3 25), .ref (r_3 26), .ref (r_3 27), .ref (r_3 28), .ref (r_3 29), .ref (r_3 30), .ref (r_3 31)])) b = f b := tp_fr hfr ho (by decide)
  refine tp_put (cy := cy) (ci := 12) (v := .int p3) (ty := tyX12 34) (C := RX12) (T := TX12) (N := 49) hx hb hta inlX12 tyX12 tyX12_ok nmX12 hown hK hP hD hS ho.1 hf_19 rfl 34 (by decide) (hta _ wk_932) (fun _ h9 => h9) rfl (tyX12_ok 34 (by decide)) rfl rfl (Nat.le_of_ble_eq_true rfl) dX12_uses_14 (fun H locs hP hD hS => ?_)
  have hP : va_P D vwCl (va_pl L (va_up f_18 o (.inr (12, [.ref (r_3 0), .ref (r_3 1), .int (v_4 0), .ref (r_3 2), .ref (r_3 3), .ref (r_3 4), .ref (r_3 5), .ref (r_3 6), .ref (r_3 7), .ref (r_3 8), .ref (r_3 9), .ref (r_3 10), .ref (r_3 11), .ref (r_3 12), .ref (r_3 13), .ref (r_3 14), .ref (r_3 15), .int (v_4 1), .int (v_4 2), .int (v_4 3), .int (v_4 4), .int (v_4 5), .int (v_4 6), .int (v_4 7), .ref (r_3 16), .int (v_4 8), .ref (r_3 17), .int (v_4 9), .ref (r_3 18), .long q_5, .ref (r_3 19), .ref (r_3 20), .int (v_4 10), .int p2, .int p3, .ref (r_3 21), .ref (r_3 22), .int (v_4 13), .ref (r_3 23), .int (v_4 14), .int (v_4 15), .ref (r_3 24), .ref (r_3 25), .ref (r_3 26), .ref (r_3 27), .ref (r_3 28), .ref (r_3 29), .ref (r_3 30), .ref (r_3 31)])))) H := hP
  generalize hfe : va_up f_18 o (.inr (12, [.ref (r_3 0), .ref (r_3 1), .int (v_4 0), .ref (r_3 2), .ref (r_3 3), .ref (r_3 4), .ref (r_3 5), .ref (r_3 6), .ref (r_3 7), .ref (r_3 8), .ref (r_3 9), .ref (r_3 10), .ref (r_3 11), .ref (r_3 12), .ref (r_3 13), .ref (r_3 14), .ref (r_3 15), .int (v_4 1), .int (v_4 2), .int (v_4 3), .int (v_4 4), .int (v_4 5), .int (v_4 6), .int (v_4 7), .ref (r_3 16), .int (v_4 8), .ref (r_3 17), .int (v_4 9), .ref (r_3 18), .long q_5, .ref (r_3 19), .ref (r_3 20), .int (v_4 10), .int p2, .int p3, .ref (r_3 21), .ref (r_3 22), .int (v_4 13), .ref (r_3 23), .int (v_4 14), .int (v_4 15), .ref (r_3 24), .ref (r_3 25), .ref (r_3 26), .ref (r_3 27), .ref (r_3 28), .ref (r_3 29), .ref (r_3 30), .ref (r_3 31)])) = f_30 at hP hI9 hfr9
  have hD : va_D A (va_pl L f_30) := tp_D hL hAL
  have hf_31 : f_30 o = .inr (12, [.ref (r_3 0), .ref (r_3 1), .int (v_4 0), .ref (r_3 2), .ref (r_3 3), .ref (r_3 4), .ref (r_3 5), .ref (r_3 6), .ref (r_3 7), .ref (r_3 8), .ref (r_3 9), .ref (r_3 10), .ref (r_3 11), .ref (r_3 12), .ref (r_3 13), .ref (r_3 14), .ref (r_3 15), .int (v_4 1), .int (v_4 2), .int (v_4 3), .int (v_4 4), .int (v_4 5), .int (v_4 6), .int (v_4 7), .ref (r_3 16), .int (v_4 8), .ref (r_3 17), .int (v_4 9), .ref (r_3 18), .long q_5, .ref (r_3 19), .ref (r_3 20), .int (v_4 10), .int p2, .int p3, .ref (r_3 21), .ref (r_3 22), .int (v_4 13), .ref (r_3 23), .int (v_4 14), .int (v_4 15), .ref (r_3 24), .ref (r_3 25), .ref (r_3 26), .ref (r_3 27), .ref (r_3 28), .ref (r_3 29), .ref (r_3 30), .ref (r_3 31)]) := by rw [← hfe]; exact va_up_self _ _ _
  clear hfe
  have hI := hI9
  have hfr := hfr9
  clear hI9 hfr9
  have hgr : ∀ κ : tk_K, κ.1 ∉ ([39, 58, 57, 60] : List Nat) → Γ_28 κ = Γ κ := tg_fr hgr eΓ_28 (by decide)
  have hx_32 : (v_4 0).toInt = Γ_28 (39, 0, 0) 0 := hv_29 0 (by decide)
  have hx_33 : (v_4 9).toInt = Γ_28 (39, 0, 0) 9 := hv_29 9 (by decide)
  have hx_34 : (v_4 10).toInt = Γ_28 (39, 0, 0) 10 := hv_29 10 (by decide)
  have hx_35 : p2.toInt = Γ_28 (39, 0, 0) 11 := hv_29 11 (by decide)
  have hx_36 : p3.toInt = Γ_28 (39, 0, 0) 12 := hv_29 12 (by decide)
  have hx_37 : (v_4 13).toInt = Γ_28 (39, 0, 0) 13 := hv_29 13 (by decide)
  have hx_38 : (v_4 14).toInt = Γ_28 (39, 0, 0) 14 := hv_29 14 (by decide)
  have hx_39 : (v_4 15).toInt = Γ_28 (39, 0, 0) 15 := hv_29 15 (by decide)
  refine lv_aload_n hx hb dX12_uses_17 rfl (lv_at hl 1 rfl) ?_
  refine lv_iconst (v := 0) hx hb dX12_uses_18 (by decide) ?_
  obtain ⟨Γ_40, eΓ_40⟩ : ∃ y : tk_G, y = tg Γ_28 (39, 0, 0) 10 (0 : Int) := ⟨_, rfl⟩
  have hv_41 : ∀ i : Nat, i < 16 → ((upd (upd (upd v_4 11 p2) 12 p3) 10 (0 : Int32)) i).toInt = Γ_40 (39, 0, 0) i := by rw [eΓ_40, tg_f]; exact tp_gi_upd hv_29
  have hI9 : tp_I cy L K Γ_40 (va_up f_30 o (.inr (12, [.ref (r_3 0), .ref (r_3 1), .int (v_4 0), .ref (r_3 2), .ref (r_3 3), .ref (r_3 4), .ref (r_3 5), .ref (r_3 6), .ref (r_3 7), .ref (r_3 8), .ref (r_3 9), .ref (r_3 10), .ref (r_3 11), .ref (r_3 12), .ref (r_3 13), .ref (r_3 14), .ref (r_3 15), .int (v_4 1), .int (v_4 2), .int (v_4 3), .int (v_4 4), .int (v_4 5), .int (v_4 6), .int (v_4 7), .ref (r_3 16), .int (v_4 8), .ref (r_3 17), .int (v_4 9), .ref (r_3 18), .long q_5, .ref (r_3 19), .ref (r_3 20), .int 0, .int p2, .int p3, .ref (r_3 21), .ref (r_3 22), .int (v_4 13), .ref (r_3 23), .int (v_4 14), .int (v_4 15), .ref (r_3 24), .ref (r_3 25), .ref (r_3 26), .ref (r_3 27), .ref (r_3 28), .ref (r_3 29), .ref (r_3 30), .ref (r_3 31)]))) := by have q9 := hv_41; rw [eΓ_40, tg_f] at q9; rw [eΓ_40]; exact hI.setg hU rfl ho (show tp_o_M L K 0 0 (tgu (Γ_28 (39, 0, 0)) 10 (0 : Int)) _ from ⟨r_3, (upd (upd (upd v_4 11 p2) 12 p3) 10 (0 : Int32)), q_5, rfl, hr_6, q9⟩)
  have hfr9 : ∀ b, (K b).1 ∉ ([39, 58, 57, 60] : List Nat) → va_up f_30 o (.inr (12, [.ref (r_3 0), .ref (r_3 1), .int (v_4 0), .ref (r_3 2), .ref (r_3 3), .ref (r_3 4), .ref (r_3 5), .ref (r_3 6), .ref (r_3 7), .ref (r_3 8), .ref (r_3 9), .ref (r_3 10), .ref (r_3 11), .ref (r_3 12), .ref (r_3 13), .ref (r_3 14), .ref (r_3 15), .int (v_4 1), .int (v_4 2), .int (v_4 3), .int (v_4 4), .int (v_4 5), .int (v_4 6), .int (v_4 7), .ref (r_3 16), .int (v_4 8), .ref (r_3 17), .int (v_4 9), .ref (r_3 18), .long q_5, .ref (r_3 19), .ref (r_3 20), .int 0, .int p2, .int p3, .ref (r_3 21), .ref (r_3 22), .int (v_4 13), .ref (r_3 23), .int (v_4 14), .int (v_4 15), .ref (r_3 24), .ref (r_3 25), .ref (r_3 26), .ref (r_3 27), .ref (r_3 28), .ref (r_3 29), .ref (r_3 30), .ref (r_3 31)])) b = f b := tp_fr hfr ho (by decide)
  refine tp_put (cy := cy) (ci := 12) (v := .int 0) (ty := tyX12 32) (C := RX12) (T := TX12) (N := 49) hx hb hta inlX12 tyX12 tyX12_ok nmX12 hown hK hP hD hS ho.1 hf_31 rfl 32 (by decide) (hta _ wk_933) (fun _ h9 => h9) rfl (tyX12_ok 32 (by decide)) rfl rfl (Nat.le_of_ble_eq_true rfl) dX12_uses_19 (fun H locs hP hD hS => ?_)
  have hP : va_P D vwCl (va_pl L (va_up f_30 o (.inr (12, [.ref (r_3 0), .ref (r_3 1), .int (v_4 0), .ref (r_3 2), .ref (r_3 3), .ref (r_3 4), .ref (r_3 5), .ref (r_3 6), .ref (r_3 7), .ref (r_3 8), .ref (r_3 9), .ref (r_3 10), .ref (r_3 11), .ref (r_3 12), .ref (r_3 13), .ref (r_3 14), .ref (r_3 15), .int (v_4 1), .int (v_4 2), .int (v_4 3), .int (v_4 4), .int (v_4 5), .int (v_4 6), .int (v_4 7), .ref (r_3 16), .int (v_4 8), .ref (r_3 17), .int (v_4 9), .ref (r_3 18), .long q_5, .ref (r_3 19), .ref (r_3 20), .int 0, .int p2, .int p3, .ref (r_3 21), .ref (r_3 22), .int (v_4 13), .ref (r_3 23), .int (v_4 14), .int (v_4 15), .ref (r_3 24), .ref (r_3 25), .ref (r_3 26), .ref (r_3 27), .ref (r_3 28), .ref (r_3 29), .ref (r_3 30), .ref (r_3 31)])))) H := hP
  generalize hfe : va_up f_30 o (.inr (12, [.ref (r_3 0), .ref (r_3 1), .int (v_4 0), .ref (r_3 2), .ref (r_3 3), .ref (r_3 4), .ref (r_3 5), .ref (r_3 6), .ref (r_3 7), .ref (r_3 8), .ref (r_3 9), .ref (r_3 10), .ref (r_3 11), .ref (r_3 12), .ref (r_3 13), .ref (r_3 14), .ref (r_3 15), .int (v_4 1), .int (v_4 2), .int (v_4 3), .int (v_4 4), .int (v_4 5), .int (v_4 6), .int (v_4 7), .ref (r_3 16), .int (v_4 8), .ref (r_3 17), .int (v_4 9), .ref (r_3 18), .long q_5, .ref (r_3 19), .ref (r_3 20), .int 0, .int p2, .int p3, .ref (r_3 21), .ref (r_3 22), .int (v_4 13), .ref (r_3 23), .int (v_4 14), .int (v_4 15), .ref (r_3 24), .ref (r_3 25), .ref (r_3 26), .ref (r_3 27), .ref (r_3 28), .ref (r_3 29), .ref (r_3 30), .ref (r_3 31)])) = f_42 at hP hI9 hfr9
  have hD : va_D A (va_pl L f_42) := tp_D hL hAL
  have hf_43 : f_42 o = .inr (12, [.ref (r_3 0), .ref (r_3 1), .int (v_4 0), .ref (r_3 2), .ref (r_3 3), .ref (r_3 4), .ref (r_3 5), .ref (r_3 6), .ref (r_3 7), .ref (r_3 8), .ref (r_3 9), .ref (r_3 10), .ref (r_3 11), .ref (r_3 12), .ref (r_3 13), .ref (r_3 14), .ref (r_3 15), .int (v_4 1), .int (v_4 2), .int (v_4 3), .int (v_4 4), .int (v_4 5), .int (v_4 6), .int (v_4 7), .ref (r_3 16), .int (v_4 8), .ref (r_3 17), .int (v_4 9), .ref (r_3 18), .long q_5, .ref (r_3 19), .ref (r_3 20), .int 0, .int p2, .int p3, .ref (r_3 21), .ref (r_3 22), .int (v_4 13), .ref (r_3 23), .int (v_4 14), .int (v_4 15), .ref (r_3 24), .ref (r_3 25), .ref (r_3 26), .ref (r_3 27), .ref (r_3 28), .ref (r_3 29), .ref (r_3 30), .ref (r_3 31)]) := by rw [← hfe]; exact va_up_self _ _ _
  clear hfe
  have hI := hI9
  have hfr := hfr9
  clear hI9 hfr9
  have hgr : ∀ κ : tk_K, κ.1 ∉ ([39, 58, 57, 60] : List Nat) → Γ_40 κ = Γ κ := tg_fr hgr eΓ_40 (by decide)
  have hx_44 : (v_4 0).toInt = Γ_40 (39, 0, 0) 0 := hv_41 0 (by decide)
  have hx_45 : (v_4 9).toInt = Γ_40 (39, 0, 0) 9 := hv_41 9 (by decide)
  have hx_46 : (0 : Int) = Γ_40 (39, 0, 0) 10 := hv_41 10 (by decide)
  have hx_47 : p2.toInt = Γ_40 (39, 0, 0) 11 := hv_41 11 (by decide)
  have hx_48 : p3.toInt = Γ_40 (39, 0, 0) 12 := hv_41 12 (by decide)
  have hx_49 : (v_4 13).toInt = Γ_40 (39, 0, 0) 13 := hv_41 13 (by decide)
  have hx_50 : (v_4 14).toInt = Γ_40 (39, 0, 0) 14 := hv_41 14 (by decide)
  have hx_51 : (v_4 15).toInt = Γ_40 (39, 0, 0) 15 := hv_41 15 (by decide)
  refine lv_iconst (v := 0) hx hb dX12_uses_22 (by decide) ?_
  refine lv_istore (lv' := [(6, .int 0), (5, .int z_1), (0, .ref o), (1, .int p0), (2, .int p1), (3, .int p2), (4, .int p3)]) hx hb dX12_uses_23 hl (by decide) rfl (fun ls hl => ?_)
  refine tl_ind (G := fun H locs ls => W p l e ((headSpec (tl_w yX12_uses cX12_uses 9 none) ({ frames := 3, cells := 0, slots := 0, locals := 77 })).room) s m #[.ref o, .int p0, .int p1, .int p2, .int p3] below meth c H locs 0 0 (MQ below (va_Qv (fun (u : (Nat → va_E) × tk_G) => 0 ≤ u.2 (39, 0, 0) 10 ∧ (u.2 (39, 0, 0) 11 = p2.toInt ∧ u.2 (39, 0, 0) 12 = p3.toInt) ∧ u.2 (39, 0, 0) 0 = Γ (39, 0, 0) 0 ∧ u.2 (39, 0, 0) 13 = Γ (39, 0, 0) 13 ∧ u.2 (39, 0, 0) 14 = Γ (39, 0, 0) 14 ∧ u.2 (39, 0, 0) 15 = Γ (39, 0, 0) 15 ∧ (∀ j : Nat, j < 300 → ¬ u.2 (60, 300, 0) j = 0 → 0 < u.2 (39, 0, 0) 10)) (tp_BG D cy L K Γ f [39, 58, 57, 60]) A) #[.ref o, .int p0, .int p1, .int p2, .int p3] s 0 0 A) (F0 m 25 ls [])) (α := (Nat → va_E) × tk_G × Int32) (fun aq => (300 - aq.2.2.toInt).toNat) (fun aq H locs ls => (0 ≤ aq.2.2.toInt) ∧ (aq.2.2.toInt ≤ 300) ∧ (0 ≤ aq.2.1 (39, 0, 0) 10 ∧ aq.2.1 (39, 0, 0) 10 ≤ aq.2.2.toInt) ∧ (aq.2.1 (39, 0, 0) 11 = p2.toInt ∧ aq.2.1 (39, 0, 0) 12 = p3.toInt) ∧ (∀ j : Nat, (j : Int) < aq.2.2.toInt → ¬ aq.2.1 (60, 300, 0) j = 0 → 0 < aq.2.1 (39, 0, 0) 10) ∧ (aq.2.1 (39, 0, 0) 0 = Γ (39, 0, 0) 0) ∧ (aq.2.1 (39, 0, 0) 13 = Γ (39, 0, 0) 13) ∧ (aq.2.1 (39, 0, 0) 14 = Γ (39, 0, 0) 14) ∧ (aq.2.1 (39, 0, 0) 15 = Γ (39, 0, 0) 15) ∧ va_P D vwCl (va_pl L aq.1) H ∧ tp_I cy L K aq.2.1 aq.1 ∧ (∀ b, (K b).1 ∉ ([39, 58, 57, 60] : List Nat) → aq.1 b = f b) ∧ (∀ κ : tk_K, κ.1 ∉ ([39, 58, 57, 60] : List Nat) → aq.2.1 κ = Γ κ) ∧ va_S A s.heap H locs ∧ lv_has ls 9 [(6, .int aq.2.2), (5, .int z_1), (0, .ref o), (1, .int p0), (2, .int p1), (3, .int p2), (4, .int p3)]) ?_ (f_42, Γ_40, (0 : Int32)) H locs ls ⟨(show 0 ≤ (0 : Int) from (by omega)), (show (0 : Int) ≤ 300 from (by omega)), (show 0 ≤ Γ_40 (39, 0, 0) 10 ∧ Γ_40 (39, 0, 0) 10 ≤ (0 : Int) from (by omega)), (show Γ_40 (39, 0, 0) 11 = p2.toInt ∧ Γ_40 (39, 0, 0) 12 = p3.toInt from (by omega)), (show ∀ j : Nat, (j : Int) < (0 : Int) → ¬ Γ_40 (60, 300, 0) j = 0 → 0 < Γ_40 (39, 0, 0) 10 from (fun j9 q9 => absurd q9 (by omega))), (show Γ_40 (39, 0, 0) 0 = Γ (39, 0, 0) 0 from (by omega)), (show Γ_40 (39, 0, 0) 13 = Γ (39, 0, 0) 13 from (by omega)), (show Γ_40 (39, 0, 0) 14 = Γ (39, 0, 0) 14 from (by omega)), (show Γ_40 (39, 0, 0) 15 = Γ (39, 0, 0) 15 from (by omega)), hP, hI, hfr, hgr, hS, lv_sub hl [0, 1, 2, 3, 4, 5, 6] rfl⟩
  rintro ⟨f_52, Γ_53, v6⟩ H locs ls ⟨h0, h1, hun, hgn, hus, k0, k13, k14, k15, hP, hI, hfr, hgr, hS, hl⟩ ih25
  have hgr : ∀ κ : tk_K, κ.1 ∉ ([39, 58, 57, 60] : List Nat) → Γ_53 κ = Γ κ := hgr
  have hP : va_P D vwCl (va_pl L f_52) H := hP
  have hI : tp_I cy L K Γ_53 f_52 := hI
  have hfr : ∀ b, (K b).1 ∉ ([39, 58, 57, 60] : List Nat) → f_52 b = f b := hfr
  have hD : va_D A (va_pl L f_52) := tp_D hL hAL
  have h0 : 0 ≤ v6.toInt := h0
  have h1 : v6.toInt ≤ 300 := h1
  have hun : 0 ≤ Γ_53 (39, 0, 0) 10 ∧ Γ_53 (39, 0, 0) 10 ≤ v6.toInt := hun
  have hgn : Γ_53 (39, 0, 0) 11 = p2.toInt ∧ Γ_53 (39, 0, 0) 12 = p3.toInt := hgn
  have hus : ∀ j : Nat, (j : Int) < v6.toInt → ¬ Γ_53 (60, 300, 0) j = 0 → 0 < Γ_53 (39, 0, 0) 10 := hus
  have k0 : Γ_53 (39, 0, 0) 0 = Γ (39, 0, 0) 0 := k0
  have k13 : Γ_53 (39, 0, 0) 13 = Γ (39, 0, 0) 13 := k13
  have k14 : Γ_53 (39, 0, 0) 14 = Γ (39, 0, 0) 14 := k14
  have k15 : Γ_53 (39, 0, 0) 15 = Γ (39, 0, 0) 15 := k15
  have hl : lv_has ls 9 [(6, .int v6), (5, .int z_1), (0, .ref o), (1, .int p0), (2, .int p1), (3, .int p2), (4, .int p3)] := hl
  refine lv_iload hx hb dX12_uses_25 (lv_at hl 0 rfl) ?_
  refine lv_sipush (v := 300) hx hb dX12_uses_27 (by decide) ?_
  refine lv_icmp_ge (tgt := 150) hx hb dX12_uses_30 (by decide) (fun c_54 => ?_) (fun c_54 => ?_)
  · have c_54 : (300 : Int) ≤ v6.toInt := tl_le c_54
    have hpo9 : 0 ≤ Γ_53 (39, 0, 0) 10 ∧ (Γ_53 (39, 0, 0) 11 = p2.toInt ∧ Γ_53 (39, 0, 0) 12 = p3.toInt) ∧ Γ_53 (39, 0, 0) 0 = Γ (39, 0, 0) 0 ∧ Γ_53 (39, 0, 0) 13 = Γ (39, 0, 0) 13 ∧ Γ_53 (39, 0, 0) 14 = Γ (39, 0, 0) 14 ∧ Γ_53 (39, 0, 0) 15 = Γ (39, 0, 0) 15 ∧ (∀ j : Nat, j < 300 → ¬ Γ_53 (60, 300, 0) j = 0 → 0 < Γ_53 (39, 0, 0) 10) := ⟨(by omega), (by omega), (by omega), (by omega), (by omega), (by omega), (fun j9 q9 => hus j9 (by omega))⟩
    exact W.vret hx hb hr (fun t ht hW => ⟨⟨(f_52, Γ_53), rfl, hpo9, by rw [ht]; exact hP, hI, hfr, hgr⟩, hS.F ht⟩) hS.2.2 dX12_uses_150
  · have c_54 : v6.toInt < (300 : Int) := tl_nle c_54
    refine lv_aload_n hx hb dX12_uses_33 rfl (lv_at hl 2 rfl) ?_
    obtain ⟨r_56, v_57, q_58, hf_55, hr_59, hv_60⟩ := (show tp_o_M L K 0 0 (Γ_53 (39, 0, 0)) (f_52 o) from hI.at ho)
    have hx_61 : (v_57 0).toInt = Γ_53 (39, 0, 0) 0 := hv_60 0 (by decide)
    have hx_62 : (v_57 9).toInt = Γ_53 (39, 0, 0) 9 := hv_60 9 (by decide)
    have hx_63 : (v_57 10).toInt = Γ_53 (39, 0, 0) 10 := hv_60 10 (by decide)
    have hx_64 : (v_57 11).toInt = Γ_53 (39, 0, 0) 11 := hv_60 11 (by decide)
    have hx_65 : (v_57 12).toInt = Γ_53 (39, 0, 0) 12 := hv_60 12 (by decide)
    have hx_66 : (v_57 13).toInt = Γ_53 (39, 0, 0) 13 := hv_60 13 (by decide)
    have hx_67 : (v_57 14).toInt = Γ_53 (39, 0, 0) 14 := hv_60 14 (by decide)
    have hx_68 : (v_57 15).toInt = Γ_53 (39, 0, 0) 15 := hv_60 15 (by decide)
    refine tp_get (cy := cy) (ci := 12) (v := .ref (r_56 19)) (C := RX12) (T := TX12) (N := 49) hx hb hta inlX12 hown hK hP ho.1 hf_55 rfl 30 (by decide) (hta _ wk_169) (fun _ h9 => h9) rfl dX12_uses_34 ?_
    refine lv_iload hx hb dX12_uses_37 (lv_at hl 0 rfl) ?_
    obtain ⟨g_70, hf_69, hg_71⟩ := (show tp_gi cy (300) (Γ (59, 300, 0)) (f (r_56 19)) from hI0.at (show tp_r L K 59 300 0 (r_56 19) from hr_59 19 (by decide)))
    have hn_72 : vp_in v6 (300) := tl_in (by omega) (by omega)
    refine tp_iald (cy := cy) hx hb hK hP (show tp_r L K 59 300 0 (r_56 19) from hr_59 19 (by decide)).1 ((tp_un hfr (show tp_r L K 59 300 0 (r_56 19) from hr_59 19 (by decide)) (by decide)).trans hf_69) hn_72 dX12_uses_39 ?_
    refine lv_topi (fun z_73 ez_73 => ?_)
    have iz_73 : z_73.toInt = Γ (59, 300, 0) v6.toInt.toNat := by rw [ez_73]; exact hg_71 _ (tp_pin hn_72)
    refine lv_ldc (v := (-1000000)) hx hb hown (hta _ wk_182) dX12_uses_40 ?_
    refine lv_icmp_eq (tgt := 62) hx hb dX12_uses_42 (by decide) (fun c_74 => ?_) (fun c_74 => ?_)
    · have c_74 : z_73.toInt = (-1000000 : Int) := tl_eq c_74
      refine lv_iconst (v := 0) hx hb dX12_uses_62 (by decide) ?_
      refine lv_istore (lv' := [(7, .int 0), (6, .int v6), (5, .int z_1), (0, .ref o), (1, .int p0), (2, .int p1), (3, .int p2), (4, .int p3)]) hx hb dX12_uses_63 hl (by decide) rfl (fun ls hl => ?_)
      refine lv_aload_n hx hb dX12_uses_65 rfl (lv_at hl 3 rfl) ?_
      refine lv_iload_n hx hb dX12_uses_66 rfl (lv_at hl 5 rfl) ?_
      refine lv_iload hx hb dX12_uses_67 (lv_at hl 1 rfl) ?_
      refine tq_cvR hS (hAf _ hS.1) (tq_rV (As := [.int p1, .int v6]) (rest := []) ⟨hx, hb, hml, hown, hta⟩ (tp_P.pre hK hN hL hU hI hP) (tp_recv hK hP ho.1 hf_55 rfl) lk_X12_352 (r_X12_words l D cy H.size L K Γ_53 f_52 o p1 v6 ho (by first | omega | (simp only [Int32.toInt_toInt64]; omega) | decide | assumption)) rfl rfl ⟨Nat.le_of_ble_eq_true rfl, Nat.le_of_ble_eq_true rfl⟩ rfl hl.1 rfl (Nat.le_of_ble_eq_true rfl) dX12_uses_69 ⟨Nat.le_of_ble_eq_true rfl, Nat.le_of_ble_eq_true rfl⟩) (fun f_77 Γ_79 H locs hw_75 hP hI hc_78 hcg_80 hS => ?_)
      have hD : va_D A (va_pl L f_77) := tp_D hL hAL
      have hfr := tp_fr2 hfr hc_78 (by decide)
      have hgr : ∀ κ : tk_K, κ.1 ∉ ([39, 58, 57, 60] : List Nat) → Γ_79 κ = Γ κ := tg_fr2 hgr hcg_80 (by decide)
      have hf_81 := (tp_un hc_78 ho (by decide)).trans hf_55
      have hv_82 : ∀ i : Nat, i < 16 → (v_57 i).toInt = Γ_79 (39, 0, 0) i := fun i hi => by rw [hcg_80 _ (by decide)]; exact hv_60 i hi
      have hx_83 : (v_57 0).toInt = Γ_79 (39, 0, 0) 0 := hv_82 0 (by decide)
      have hx_84 : (v_57 9).toInt = Γ_79 (39, 0, 0) 9 := hv_82 9 (by decide)
      have hx_85 : (v_57 10).toInt = Γ_79 (39, 0, 0) 10 := hv_82 10 (by decide)
      have hx_86 : (v_57 11).toInt = Γ_79 (39, 0, 0) 11 := hv_82 11 (by decide)
      have hx_87 : (v_57 12).toInt = Γ_79 (39, 0, 0) 12 := hv_82 12 (by decide)
      have hx_88 : (v_57 13).toInt = Γ_79 (39, 0, 0) 13 := hv_82 13 (by decide)
      have hx_89 : (v_57 14).toInt = Γ_79 (39, 0, 0) 14 := hv_82 14 (by decide)
      have hx_90 : (v_57 15).toInt = Γ_79 (39, 0, 0) 15 := hv_82 15 (by decide)
      have hwu := hcg_80 (60, 300, 0) (by decide)
      refine lv_iconst (v := 0) hx hb dX12_uses_72 (by decide) ?_
      refine lv_istore (lv' := [(8, .int 0), (7, .int 0), (6, .int v6), (5, .int z_1), (0, .ref o), (1, .int p0), (2, .int p1), (3, .int p2), (4, .int p3)]) hx hb dX12_uses_73 hl (by decide) rfl (fun ls hl => ?_)
      refine tl_ind (G := fun H locs ls => W p l e ((headSpec (tl_w yX12_uses cX12_uses 9 none) ({ frames := 3, cells := 0, slots := 0, locals := 77 })).room) s m #[.ref o, .int p0, .int p1, .int p2, .int p3] below meth c H locs 0 0 (MQ below (va_Qv (fun (u : (Nat → va_E) × tk_G) => 0 ≤ u.2 (39, 0, 0) 10 ∧ (u.2 (39, 0, 0) 11 = p2.toInt ∧ u.2 (39, 0, 0) 12 = p3.toInt) ∧ u.2 (39, 0, 0) 0 = Γ (39, 0, 0) 0 ∧ u.2 (39, 0, 0) 13 = Γ (39, 0, 0) 13 ∧ u.2 (39, 0, 0) 14 = Γ (39, 0, 0) 14 ∧ u.2 (39, 0, 0) 15 = Γ (39, 0, 0) 15 ∧ (∀ j : Nat, j < 300 → ¬ u.2 (60, 300, 0) j = 0 → 0 < u.2 (39, 0, 0) 10)) (tp_BG D cy L K Γ f [39, 58, 57, 60]) A) #[.ref o, .int p0, .int p1, .int p2, .int p3] s 0 0 A) (F0 m 75 ls [])) (α := (Nat → va_E) × tk_G × Int32 × Int32) (fun aq => (12 - aq.2.2.1.toInt).toNat) (fun aq H locs ls => (0 ≤ aq.2.2.1.toInt ∧ aq.2.2.1.toInt ≤ 12) ∧ (aq.2.2.2.toInt = 0 ∨ aq.2.2.2.toInt = 1) ∧ (aq.2.1 (39, 0, 0) 0 = Γ_79 (39, 0, 0) 0) ∧ (aq.2.1 (39, 0, 0) 11 = Γ_79 (39, 0, 0) 11) ∧ (aq.2.1 (39, 0, 0) 12 = Γ_79 (39, 0, 0) 12) ∧ (aq.2.1 (39, 0, 0) 13 = Γ_79 (39, 0, 0) 13) ∧ (aq.2.1 (39, 0, 0) 14 = Γ_79 (39, 0, 0) 14) ∧ (aq.2.1 (39, 0, 0) 15 = Γ_79 (39, 0, 0) 15) ∧ (aq.2.1 (39, 0, 0) 10 = Γ_79 (39, 0, 0) 10) ∧ (aq.2.1 (60, 300, 0) = Γ_79 (60, 300, 0)) ∧ va_P D vwCl (va_pl L aq.1) H ∧ tp_I cy L K aq.2.1 aq.1 ∧ (∀ b, (K b).1 ∉ ([39, 58, 57, 60] : List Nat) → aq.1 b = f b) ∧ (∀ κ : tk_K, κ.1 ∉ ([39, 58, 57, 60] : List Nat) → aq.2.1 κ = Γ κ) ∧ va_S A s.heap H locs ∧ lv_has ls 9 [(8, .int aq.2.2.1), (7, .int aq.2.2.2), (6, .int v6), (5, .int z_1), (0, .ref o), (1, .int p0), (2, .int p1), (3, .int p2), (4, .int p3)]) ?_ (f_77, Γ_79, (0 : Int32), (0 : Int32)) H locs ls ⟨(show 0 ≤ (0 : Int) ∧ (0 : Int) ≤ 12 from (by omega)), (show (0 : Int) = 0 ∨ (0 : Int) = 1 from (by decide)), (show Γ_79 (39, 0, 0) 0 = Γ_79 (39, 0, 0) 0 from (by omega)), (show Γ_79 (39, 0, 0) 11 = Γ_79 (39, 0, 0) 11 from (by omega)), (show Γ_79 (39, 0, 0) 12 = Γ_79 (39, 0, 0) 12 from (by omega)), (show Γ_79 (39, 0, 0) 13 = Γ_79 (39, 0, 0) 13 from (by omega)), (show Γ_79 (39, 0, 0) 14 = Γ_79 (39, 0, 0) 14 from (by omega)), (show Γ_79 (39, 0, 0) 15 = Γ_79 (39, 0, 0) 15 from (by omega)), (show Γ_79 (39, 0, 0) 10 = Γ_79 (39, 0, 0) 10 from (by omega)), (show Γ_79 (60, 300, 0) = Γ_79 (60, 300, 0) from rfl), hP, hI, hfr, hgr, hS, lv_sub hl [0, 1, 2, 3, 4, 5, 6, 7, 8] rfl⟩
      rintro ⟨f_91, Γ_92, v8, v7⟩ H locs ls ⟨h8, hv7, j0, j11, j12, j13, j14, j15, j10, iu, hP, hI, hfr, hgr, hS, hl⟩ ih75
      have hgr : ∀ κ : tk_K, κ.1 ∉ ([39, 58, 57, 60] : List Nat) → Γ_92 κ = Γ κ := hgr
      have hP : va_P D vwCl (va_pl L f_91) H := hP
      have hI : tp_I cy L K Γ_92 f_91 := hI
      have hfr : ∀ b, (K b).1 ∉ ([39, 58, 57, 60] : List Nat) → f_91 b = f b := hfr
      have hD : va_D A (va_pl L f_91) := tp_D hL hAL
      have h8 : 0 ≤ v8.toInt ∧ v8.toInt ≤ 12 := h8
      have hv7 : v7.toInt = 0 ∨ v7.toInt = 1 := hv7
      have j0 : Γ_92 (39, 0, 0) 0 = Γ_79 (39, 0, 0) 0 := j0
      have j11 : Γ_92 (39, 0, 0) 11 = Γ_79 (39, 0, 0) 11 := j11
      have j12 : Γ_92 (39, 0, 0) 12 = Γ_79 (39, 0, 0) 12 := j12
      have j13 : Γ_92 (39, 0, 0) 13 = Γ_79 (39, 0, 0) 13 := j13
      have j14 : Γ_92 (39, 0, 0) 14 = Γ_79 (39, 0, 0) 14 := j14
      have j15 : Γ_92 (39, 0, 0) 15 = Γ_79 (39, 0, 0) 15 := j15
      have j10 : Γ_92 (39, 0, 0) 10 = Γ_79 (39, 0, 0) 10 := j10
      have iu : Γ_92 (60, 300, 0) = Γ_79 (60, 300, 0) := iu
      have hl : lv_has ls 9 [(8, .int v8), (7, .int v7), (6, .int v6), (5, .int z_1), (0, .ref o), (1, .int p0), (2, .int p1), (3, .int p2), (4, .int p3)] := hl
      refine lv_iload hx hb dX12_uses_75 (lv_at hl 0 rfl) ?_
      refine lv_aload_n hx hb dX12_uses_77 rfl (lv_at hl 4 rfl) ?_
      obtain ⟨r_94, v_95, q_96, hf_93, hr_97, hv_98⟩ := (show tp_o_M L K 0 0 (Γ_92 (39, 0, 0)) (f_91 o) from hI.at ho)
      have hx_99 : (v_95 0).toInt = Γ_92 (39, 0, 0) 0 := hv_98 0 (by decide)
      have hx_100 : (v_95 9).toInt = Γ_92 (39, 0, 0) 9 := hv_98 9 (by decide)
      have hx_101 : (v_95 10).toInt = Γ_92 (39, 0, 0) 10 := hv_98 10 (by decide)
      have hx_102 : (v_95 11).toInt = Γ_92 (39, 0, 0) 11 := hv_98 11 (by decide)
      have hx_103 : (v_95 12).toInt = Γ_92 (39, 0, 0) 12 := hv_98 12 (by decide)
      have hx_104 : (v_95 13).toInt = Γ_92 (39, 0, 0) 13 := hv_98 13 (by decide)
      have hx_105 : (v_95 14).toInt = Γ_92 (39, 0, 0) 14 := hv_98 14 (by decide)
      have hx_106 : (v_95 15).toInt = Γ_92 (39, 0, 0) 15 := hv_98 15 (by decide)
      refine tp_get (cy := cy) (ci := 12) (v := .ref (r_94 6)) (C := RX12) (T := TX12) (N := 49) hx hb hta inlX12 hown hK hP ho.1 hf_93 rfl 7 (by decide) (hta _ wk_156) (fun _ h9 => h9) rfl dX12_uses_78 ?_
      refine lv_iload hx hb dX12_uses_81 (lv_at hl 3 rfl) ?_
      obtain ⟨g_108, hf_107, hg_109⟩ := (show tp_gi cy (22) (Γ (46, 22, 0)) (f (r_94 6)) from hI0.at (show tp_r L K 46 22 0 (r_94 6) from hr_97 6 (by decide)))
      have hn_110 : vp_in z_1 (22) := tl_in (by omega) (by omega)
      refine tp_iald (cy := cy) hx hb hK hP (show tp_r L K 46 22 0 (r_94 6) from hr_97 6 (by decide)).1 ((tp_un hfr (show tp_r L K 46 22 0 (r_94 6) from hr_97 6 (by decide)) (by decide)).trans hf_107) hn_110 dX12_uses_83 ?_
      refine lv_topi (fun z_111 ez_111 => ?_)
      have iz_111 : z_111.toInt = Γ (46, 22, 0) z_1.toInt.toNat := by rw [ez_111]; exact hg_109 _ (tp_pin hn_110)
      have hnc9 : z_111.toInt = Γ (46, 22, 0) t1.toNat := iz_111.trans (congrArg _ (by omega))
      refine lv_icmp_ge (tgt := 116) hx hb dX12_uses_84 (by decide) (fun c_112 => ?_) (fun c_112 => ?_)
      · have c_112 : z_111.toInt ≤ v8.toInt := tl_le c_112
        refine lv_aload_n hx hb dX12_uses_116 rfl (lv_at hl 4 rfl) ?_
        refine tp_get (cy := cy) (ci := 12) (v := .ref (r_94 20)) (C := RX12) (T := TX12) (N := 49) hx hb hta inlX12 hown hK hP ho.1 hf_93 rfl 31 (by decide) (hta _ wk_170) (fun _ h9 => h9) rfl dX12_uses_117 ?_
        refine lv_iload hx hb dX12_uses_120 (lv_at hl 2 rfl) ?_
        refine lv_iload hx hb dX12_uses_122 (lv_at hl 1 rfl) ?_
        obtain ⟨g_114, hf_113, hg_115⟩ := (show tp_gz cy (300) (Γ_92 (60, 300, 0)) (f_91 (r_94 20)) from hI.at (show tp_r L K 60 300 0 (r_94 20) from hr_97 20 (by decide)))
        have hn_116 : vp_in v6 (300) := tl_in (by omega) (by omega)
        have nz_117 : (vp_nar .boolean v7).toInt = v7.toInt := tl_b01 hv7
        obtain ⟨Γ_118, eΓ_118⟩ : ∃ y : tk_G, y = tg Γ_92 (60, 300, 0) v6.toInt.toNat v7.toInt := ⟨_, rfl⟩
        have hI9 : tp_I cy L K Γ_118 (va_up f_91 (r_94 20) (.inl (cy 2, 300, .inl (upd g_114 v6.toNatClampNeg (vp_nar .boolean v7))))) := by rw [eΓ_118]; exact hI.setg hU rfl (show tp_r L K 60 300 0 (r_94 20) from hr_97 20 (by decide)) (show tp_gz cy (300) (tgu (Γ_92 (60, 300, 0)) v6.toInt.toNat v7.toInt) _ from ⟨_, rfl, tp_gz_upd hg_115 nz_117⟩)
        have hfr9 : ∀ b, (K b).1 ∉ ([39, 58, 57, 60] : List Nat) → va_up f_91 (r_94 20) (.inl (cy 2, 300, .inl (upd g_114 v6.toNatClampNeg (vp_nar .boolean v7)))) b = f b := tp_fr hfr (show tp_r L K 60 300 0 (r_94 20) from hr_97 20 (by decide)) (by decide)
        refine tp_zast (cy := cy) hx hb hK hP hD hS (show tp_r L K 60 300 0 (r_94 20) from hr_97 20 (by decide)).1 hf_113 hn_116 dX12_uses_124 (fun H locs hP hD hS => ?_)
        have hP : va_P D vwCl (va_pl L (va_up f_91 (r_94 20) (.inl (cy 2, 300, .inl (upd g_114 v6.toNatClampNeg (vp_nar .boolean v7)))))) H := hP
        generalize hfe : va_up f_91 (r_94 20) (.inl (cy 2, 300, .inl (upd g_114 v6.toNatClampNeg (vp_nar .boolean v7)))) = f_119 at hP hI9 hfr9
        have hD : va_D A (va_pl L f_119) := tp_D hL hAL
        have hf_120 := (show f_119 o = _ from by rw [← hfe, va_up_ne _ _ (tp_ne ho (show tp_r L K 60 300 0 (r_94 20) from hr_97 20 (by decide)) (by decide))]).trans hf_93
        have hf_121 : f_119 (r_94 20) = .inl (cy 2, 300, .inl (upd g_114 v6.toNatClampNeg (vp_nar .boolean v7))) := by rw [← hfe]; exact va_up_self _ _ _
        clear hfe
        have hI := hI9
        have hfr := hfr9
        clear hI9 hfr9
        have hgr : ∀ κ : tk_K, κ.1 ∉ ([39, 58, 57, 60] : List Nat) → Γ_118 κ = Γ κ := tg_fr hgr eΓ_118 (by decide)
        have hv_122 : ∀ i : Nat, i < 16 → (v_95 i).toInt = Γ_118 (39, 0, 0) i := fun i hi => by rw [eΓ_118, tg_r (by decide)]; exact hv_98 i hi
        have hx_123 : (v_95 0).toInt = Γ_118 (39, 0, 0) 0 := hv_122 0 (by decide)
        have hx_124 : (v_95 9).toInt = Γ_118 (39, 0, 0) 9 := hv_122 9 (by decide)
        have hx_125 : (v_95 10).toInt = Γ_118 (39, 0, 0) 10 := hv_122 10 (by decide)
        have hx_126 : (v_95 11).toInt = Γ_118 (39, 0, 0) 11 := hv_122 11 (by decide)
        have hx_127 : (v_95 12).toInt = Γ_118 (39, 0, 0) 12 := hv_122 12 (by decide)
        have hx_128 : (v_95 13).toInt = Γ_118 (39, 0, 0) 13 := hv_122 13 (by decide)
        have hx_129 : (v_95 14).toInt = Γ_118 (39, 0, 0) 14 := hv_122 14 (by decide)
        have hx_130 : (v_95 15).toInt = Γ_118 (39, 0, 0) 15 := hv_122 15 (by decide)
        have hsu1 : Γ_118 (60, 300, 0) v6.toInt.toNat = v7.toInt := by rw [eΓ_118]; exact tg_s
        have hsu2 : ∀ j : Nat, ¬ j = v6.toInt.toNat → Γ_118 (60, 300, 0) j = Γ_53 (60, 300, 0) j := fun j q => by rw [eΓ_118, tg_i q, iu, hwu]
        refine lv_aload_n hx hb dX12_uses_125 rfl (lv_at hl 4 rfl) ?_
        refine lv_dup hx hb dX12_uses_126 rfl ?_
        refine tp_get (cy := cy) (ci := 12) (v := .int (v_95 10)) (C := RX12) (T := TX12) (N := 49) hx hb hta inlX12 hown hK hP ho.1 hf_120 rfl 32 (by decide) (hta _ wk_933) (fun _ h9 => h9) rfl dX12_uses_127 ?_
        refine lv_iload hx hb dX12_uses_130 (lv_at hl 1 rfl) ?_
        refine lv_if_eq (tgt := 139) hx hb dX12_uses_132 (by decide) (fun c_131 => ?_) (fun c_131 => ?_)
        · have c_131 : v7.toInt = (0 : Int) := tl_eq c_131
          refine lv_iconst (v := 0) hx hb dX12_uses_139 (by decide) ?_
          refine lv_iadd hx hb dX12_uses_140 ?_
          refine lv_topi (fun z_132 ez_132 => ?_)
          try have iz_132 : z_132.toInt = (v_95 10).toInt + (0 : Int) := by rw [ez_132]; exact tl_addN (v_95 10) 0 rfl rfl (by omega) (by omega)
          obtain ⟨Γ_133, eΓ_133⟩ : ∃ y : tk_G, y = tg Γ_118 (39, 0, 0) 10 z_132.toInt := ⟨_, rfl⟩
          have hv_134 : ∀ i : Nat, i < 16 → ((upd v_95 10 z_132) i).toInt = Γ_133 (39, 0, 0) i := by rw [eΓ_133, tg_f]; exact tp_gi_upd hv_122
          have hI9 : tp_I cy L K Γ_133 (va_up f_119 o (.inr (12, [.ref (r_94 0), .ref (r_94 1), .int (v_95 0), .ref (r_94 2), .ref (r_94 3), .ref (r_94 4), .ref (r_94 5), .ref (r_94 6), .ref (r_94 7), .ref (r_94 8), .ref (r_94 9), .ref (r_94 10), .ref (r_94 11), .ref (r_94 12), .ref (r_94 13), .ref (r_94 14), .ref (r_94 15), .int (v_95 1), .int (v_95 2), .int (v_95 3), .int (v_95 4), .int (v_95 5), .int (v_95 6), .int (v_95 7), .ref (r_94 16), .int (v_95 8), .ref (r_94 17), .int (v_95 9), .ref (r_94 18), .long q_96, .ref (r_94 19), .ref (r_94 20), .int z_132, .int (v_95 11), .int (v_95 12), .ref (r_94 21), .ref (r_94 22), .int (v_95 13), .ref (r_94 23), .int (v_95 14), .int (v_95 15), .ref (r_94 24), .ref (r_94 25), .ref (r_94 26), .ref (r_94 27), .ref (r_94 28), .ref (r_94 29), .ref (r_94 30), .ref (r_94 31)]))) := by have q9 := hv_134; rw [eΓ_133, tg_f] at q9; rw [eΓ_133]; exact hI.setg hU rfl ho (show tp_o_M L K 0 0 (tgu (Γ_118 (39, 0, 0)) 10 z_132.toInt) _ from ⟨r_94, (upd v_95 10 z_132), q_96, rfl, hr_97, q9⟩)
          have hfr9 : ∀ b, (K b).1 ∉ ([39, 58, 57, 60] : List Nat) → va_up f_119 o (.inr (12, [.ref (r_94 0), .ref (r_94 1), .int (v_95 0), .ref (r_94 2), .ref (r_94 3), .ref (r_94 4), .ref (r_94 5), .ref (r_94 6), .ref (r_94 7), .ref (r_94 8), .ref (r_94 9), .ref (r_94 10), .ref (r_94 11), .ref (r_94 12), .ref (r_94 13), .ref (r_94 14), .ref (r_94 15), .int (v_95 1), .int (v_95 2), .int (v_95 3), .int (v_95 4), .int (v_95 5), .int (v_95 6), .int (v_95 7), .ref (r_94 16), .int (v_95 8), .ref (r_94 17), .int (v_95 9), .ref (r_94 18), .long q_96, .ref (r_94 19), .ref (r_94 20), .int z_132, .int (v_95 11), .int (v_95 12), .ref (r_94 21), .ref (r_94 22), .int (v_95 13), .ref (r_94 23), .int (v_95 14), .int (v_95 15), .ref (r_94 24), .ref (r_94 25), .ref (r_94 26), .ref (r_94 27), .ref (r_94 28), .ref (r_94 29), .ref (r_94 30), .ref (r_94 31)])) b = f b := tp_fr hfr ho (by decide)
          refine tp_put (cy := cy) (ci := 12) (v := .int z_132) (ty := tyX12 32) (C := RX12) (T := TX12) (N := 49) hx hb hta inlX12 tyX12 tyX12_ok nmX12 hown hK hP hD hS ho.1 hf_120 rfl 32 (by decide) (hta _ wk_933) (fun _ h9 => h9) rfl (tyX12_ok 32 (by decide)) rfl rfl (Nat.le_of_ble_eq_true rfl) dX12_uses_141 (fun H locs hP hD hS => ?_)
          have hP : va_P D vwCl (va_pl L (va_up f_119 o (.inr (12, [.ref (r_94 0), .ref (r_94 1), .int (v_95 0), .ref (r_94 2), .ref (r_94 3), .ref (r_94 4), .ref (r_94 5), .ref (r_94 6), .ref (r_94 7), .ref (r_94 8), .ref (r_94 9), .ref (r_94 10), .ref (r_94 11), .ref (r_94 12), .ref (r_94 13), .ref (r_94 14), .ref (r_94 15), .int (v_95 1), .int (v_95 2), .int (v_95 3), .int (v_95 4), .int (v_95 5), .int (v_95 6), .int (v_95 7), .ref (r_94 16), .int (v_95 8), .ref (r_94 17), .int (v_95 9), .ref (r_94 18), .long q_96, .ref (r_94 19), .ref (r_94 20), .int z_132, .int (v_95 11), .int (v_95 12), .ref (r_94 21), .ref (r_94 22), .int (v_95 13), .ref (r_94 23), .int (v_95 14), .int (v_95 15), .ref (r_94 24), .ref (r_94 25), .ref (r_94 26), .ref (r_94 27), .ref (r_94 28), .ref (r_94 29), .ref (r_94 30), .ref (r_94 31)])))) H := hP
          generalize hfe : va_up f_119 o (.inr (12, [.ref (r_94 0), .ref (r_94 1), .int (v_95 0), .ref (r_94 2), .ref (r_94 3), .ref (r_94 4), .ref (r_94 5), .ref (r_94 6), .ref (r_94 7), .ref (r_94 8), .ref (r_94 9), .ref (r_94 10), .ref (r_94 11), .ref (r_94 12), .ref (r_94 13), .ref (r_94 14), .ref (r_94 15), .int (v_95 1), .int (v_95 2), .int (v_95 3), .int (v_95 4), .int (v_95 5), .int (v_95 6), .int (v_95 7), .ref (r_94 16), .int (v_95 8), .ref (r_94 17), .int (v_95 9), .ref (r_94 18), .long q_96, .ref (r_94 19), .ref (r_94 20), .int z_132, .int (v_95 11), .int (v_95 12), .ref (r_94 21), .ref (r_94 22), .int (v_95 13), .ref (r_94 23), .int (v_95 14), .int (v_95 15), .ref (r_94 24), .ref (r_94 25), .ref (r_94 26), .ref (r_94 27), .ref (r_94 28), .ref (r_94 29), .ref (r_94 30), .ref (r_94 31)])) = f_135 at hP hI9 hfr9
          have hD : va_D A (va_pl L f_135) := tp_D hL hAL
          have hf_136 : f_135 o = .inr (12, [.ref (r_94 0), .ref (r_94 1), .int (v_95 0), .ref (r_94 2), .ref (r_94 3), .ref (r_94 4), .ref (r_94 5), .ref (r_94 6), .ref (r_94 7), .ref (r_94 8), .ref (r_94 9), .ref (r_94 10), .ref (r_94 11), .ref (r_94 12), .ref (r_94 13), .ref (r_94 14), .ref (r_94 15), .int (v_95 1), .int (v_95 2), .int (v_95 3), .int (v_95 4), .int (v_95 5), .int (v_95 6), .int (v_95 7), .ref (r_94 16), .int (v_95 8), .ref (r_94 17), .int (v_95 9), .ref (r_94 18), .long q_96, .ref (r_94 19), .ref (r_94 20), .int z_132, .int (v_95 11), .int (v_95 12), .ref (r_94 21), .ref (r_94 22), .int (v_95 13), .ref (r_94 23), .int (v_95 14), .int (v_95 15), .ref (r_94 24), .ref (r_94 25), .ref (r_94 26), .ref (r_94 27), .ref (r_94 28), .ref (r_94 29), .ref (r_94 30), .ref (r_94 31)]) := by rw [← hfe]; exact va_up_self _ _ _
          clear hfe
          have hI := hI9
          have hfr := hfr9
          clear hI9 hfr9
          have hgr : ∀ κ : tk_K, κ.1 ∉ ([39, 58, 57, 60] : List Nat) → Γ_133 κ = Γ κ := tg_fr hgr eΓ_133 (by decide)
          have hx_137 : (v_95 0).toInt = Γ_133 (39, 0, 0) 0 := hv_134 0 (by decide)
          have hx_138 : (v_95 9).toInt = Γ_133 (39, 0, 0) 9 := hv_134 9 (by decide)
          have hx_139 : z_132.toInt = Γ_133 (39, 0, 0) 10 := hv_134 10 (by decide)
          have hx_140 : (v_95 11).toInt = Γ_133 (39, 0, 0) 11 := hv_134 11 (by decide)
          have hx_141 : (v_95 12).toInt = Γ_133 (39, 0, 0) 12 := hv_134 12 (by decide)
          have hx_142 : (v_95 13).toInt = Γ_133 (39, 0, 0) 13 := hv_134 13 (by decide)
          have hx_143 : (v_95 14).toInt = Γ_133 (39, 0, 0) 14 := hv_134 14 (by decide)
          have hx_144 : (v_95 15).toInt = Γ_133 (39, 0, 0) 15 := hv_134 15 (by decide)
          have hus1 : Γ_133 (60, 300, 0) v6.toInt.toNat = v7.toInt := by rw [eΓ_133, tg_r (by decide)]; exact hsu1
          have hus2 : ∀ j : Nat, ¬ j = v6.toInt.toNat → Γ_133 (60, 300, 0) j = Γ_53 (60, 300, 0) j := fun j q => by rw [eΓ_133, tg_r (by decide)]; exact hsu2 j q
          obtain ⟨z_145, ez_145⟩ : ∃ y : Int32, y = v6 + 1 := ⟨_, rfl⟩
          refine lv_iinc (v := z_145) (lv' := [(6, .int z_145), (8, .int v8), (7, .int v7), (5, .int z_1), (0, .ref o), (1, .int p0), (2, .int p1), (3, .int p2), (4, .int p3)]) hx hb dX12_uses_144 hl (k := 2) rfl (by rw [ez_145]; rfl) (by decide) rfl (fun ls hl => ?_)
          try have iz_145 : z_145.toInt = v6.toInt + 1 := by rw [ez_145]; exact tl_addL v6 1 (by decide) (by omega) (by omega)
          refine lv_goto (tgt := 25) hx hb dX12_uses_147 (by decide) ?_
          exact ih25 (f_135, Γ_133, z_145) H locs ls (by show (300 - z_145.toInt).toNat < (300 - v6.toInt).toNat; omega) ⟨(show 0 ≤ z_145.toInt from (by omega)), (show z_145.toInt ≤ 300 from (by omega)), (show 0 ≤ Γ_133 (39, 0, 0) 10 ∧ Γ_133 (39, 0, 0) 10 ≤ z_145.toInt from (by omega)), (show Γ_133 (39, 0, 0) 11 = p2.toInt ∧ Γ_133 (39, 0, 0) 12 = p3.toInt from (by omega)), (show ∀ j : Nat, (j : Int) < z_145.toInt → ¬ Γ_133 (60, 300, 0) j = 0 → 0 < Γ_133 (39, 0, 0) 10 from (fun j9 q9 q8 => by by_cases q7 : j9 = v6.toInt.toNat; (rw [q7, hus1] at q8; omega); (have q6 := hus j9 (by omega) (by rw [← hus2 j9 q7]; exact q8); omega))), (show Γ_133 (39, 0, 0) 0 = Γ (39, 0, 0) 0 from (by omega)), (show Γ_133 (39, 0, 0) 13 = Γ (39, 0, 0) 13 from (by omega)), (show Γ_133 (39, 0, 0) 14 = Γ (39, 0, 0) 14 from (by omega)), (show Γ_133 (39, 0, 0) 15 = Γ (39, 0, 0) 15 from (by omega)), hP, hI, hfr, hgr, hS, lv_sub hl [0, 3, 4, 5, 6, 7, 8] rfl⟩
        · have c_131 : ¬ v7.toInt = (0 : Int) := tl_neq c_131
          refine lv_iconst (v := 1) hx hb dX12_uses_135 (by decide) ?_
          refine lv_goto (tgt := 140) hx hb dX12_uses_136 (by decide) ?_
          refine lv_iadd hx hb dX12_uses_140 ?_
          refine lv_topi (fun z_146 ez_146 => ?_)
          try have iz_146 : z_146.toInt = (v_95 10).toInt + (1 : Int) := by rw [ez_146]; exact tl_addN (v_95 10) 1 rfl rfl (by omega) (by omega)
          obtain ⟨Γ_147, eΓ_147⟩ : ∃ y : tk_G, y = tg Γ_118 (39, 0, 0) 10 z_146.toInt := ⟨_, rfl⟩
          have hv_148 : ∀ i : Nat, i < 16 → ((upd v_95 10 z_146) i).toInt = Γ_147 (39, 0, 0) i := by rw [eΓ_147, tg_f]; exact tp_gi_upd hv_122
          have hI9 : tp_I cy L K Γ_147 (va_up f_119 o (.inr (12, [.ref (r_94 0), .ref (r_94 1), .int (v_95 0), .ref (r_94 2), .ref (r_94 3), .ref (r_94 4), .ref (r_94 5), .ref (r_94 6), .ref (r_94 7), .ref (r_94 8), .ref (r_94 9), .ref (r_94 10), .ref (r_94 11), .ref (r_94 12), .ref (r_94 13), .ref (r_94 14), .ref (r_94 15), .int (v_95 1), .int (v_95 2), .int (v_95 3), .int (v_95 4), .int (v_95 5), .int (v_95 6), .int (v_95 7), .ref (r_94 16), .int (v_95 8), .ref (r_94 17), .int (v_95 9), .ref (r_94 18), .long q_96, .ref (r_94 19), .ref (r_94 20), .int z_146, .int (v_95 11), .int (v_95 12), .ref (r_94 21), .ref (r_94 22), .int (v_95 13), .ref (r_94 23), .int (v_95 14), .int (v_95 15), .ref (r_94 24), .ref (r_94 25), .ref (r_94 26), .ref (r_94 27), .ref (r_94 28), .ref (r_94 29), .ref (r_94 30), .ref (r_94 31)]))) := by have q9 := hv_148; rw [eΓ_147, tg_f] at q9; rw [eΓ_147]; exact hI.setg hU rfl ho (show tp_o_M L K 0 0 (tgu (Γ_118 (39, 0, 0)) 10 z_146.toInt) _ from ⟨r_94, (upd v_95 10 z_146), q_96, rfl, hr_97, q9⟩)
          have hfr9 : ∀ b, (K b).1 ∉ ([39, 58, 57, 60] : List Nat) → va_up f_119 o (.inr (12, [.ref (r_94 0), .ref (r_94 1), .int (v_95 0), .ref (r_94 2), .ref (r_94 3), .ref (r_94 4), .ref (r_94 5), .ref (r_94 6), .ref (r_94 7), .ref (r_94 8), .ref (r_94 9), .ref (r_94 10), .ref (r_94 11), .ref (r_94 12), .ref (r_94 13), .ref (r_94 14), .ref (r_94 15), .int (v_95 1), .int (v_95 2), .int (v_95 3), .int (v_95 4), .int (v_95 5), .int (v_95 6), .int (v_95 7), .ref (r_94 16), .int (v_95 8), .ref (r_94 17), .int (v_95 9), .ref (r_94 18), .long q_96, .ref (r_94 19), .ref (r_94 20), .int z_146, .int (v_95 11), .int (v_95 12), .ref (r_94 21), .ref (r_94 22), .int (v_95 13), .ref (r_94 23), .int (v_95 14), .int (v_95 15), .ref (r_94 24), .ref (r_94 25), .ref (r_94 26), .ref (r_94 27), .ref (r_94 28), .ref (r_94 29), .ref (r_94 30), .ref (r_94 31)])) b = f b := tp_fr hfr ho (by decide)
          refine tp_put (cy := cy) (ci := 12) (v := .int z_146) (ty := tyX12 32) (C := RX12) (T := TX12) (N := 49) hx hb hta inlX12 tyX12 tyX12_ok nmX12 hown hK hP hD hS ho.1 hf_120 rfl 32 (by decide) (hta _ wk_933) (fun _ h9 => h9) rfl (tyX12_ok 32 (by decide)) rfl rfl (Nat.le_of_ble_eq_true rfl) dX12_uses_141 (fun H locs hP hD hS => ?_)
          have hP : va_P D vwCl (va_pl L (va_up f_119 o (.inr (12, [.ref (r_94 0), .ref (r_94 1), .int (v_95 0), .ref (r_94 2), .ref (r_94 3), .ref (r_94 4), .ref (r_94 5), .ref (r_94 6), .ref (r_94 7), .ref (r_94 8), .ref (r_94 9), .ref (r_94 10), .ref (r_94 11), .ref (r_94 12), .ref (r_94 13), .ref (r_94 14), .ref (r_94 15), .int (v_95 1), .int (v_95 2), .int (v_95 3), .int (v_95 4), .int (v_95 5), .int (v_95 6), .int (v_95 7), .ref (r_94 16), .int (v_95 8), .ref (r_94 17), .int (v_95 9), .ref (r_94 18), .long q_96, .ref (r_94 19), .ref (r_94 20), .int z_146, .int (v_95 11), .int (v_95 12), .ref (r_94 21), .ref (r_94 22), .int (v_95 13), .ref (r_94 23), .int (v_95 14), .int (v_95 15), .ref (r_94 24), .ref (r_94 25), .ref (r_94 26), .ref (r_94 27), .ref (r_94 28), .ref (r_94 29), .ref (r_94 30), .ref (r_94 31)])))) H := hP
          generalize hfe : va_up f_119 o (.inr (12, [.ref (r_94 0), .ref (r_94 1), .int (v_95 0), .ref (r_94 2), .ref (r_94 3), .ref (r_94 4), .ref (r_94 5), .ref (r_94 6), .ref (r_94 7), .ref (r_94 8), .ref (r_94 9), .ref (r_94 10), .ref (r_94 11), .ref (r_94 12), .ref (r_94 13), .ref (r_94 14), .ref (r_94 15), .int (v_95 1), .int (v_95 2), .int (v_95 3), .int (v_95 4), .int (v_95 5), .int (v_95 6), .int (v_95 7), .ref (r_94 16), .int (v_95 8), .ref (r_94 17), .int (v_95 9), .ref (r_94 18), .long q_96, .ref (r_94 19), .ref (r_94 20), .int z_146, .int (v_95 11), .int (v_95 12), .ref (r_94 21), .ref (r_94 22), .int (v_95 13), .ref (r_94 23), .int (v_95 14), .int (v_95 15), .ref (r_94 24), .ref (r_94 25), .ref (r_94 26), .ref (r_94 27), .ref (r_94 28), .ref (r_94 29), .ref (r_94 30), .ref (r_94 31)])) = f_149 at hP hI9 hfr9
          have hD : va_D A (va_pl L f_149) := tp_D hL hAL
          have hf_150 : f_149 o = .inr (12, [.ref (r_94 0), .ref (r_94 1), .int (v_95 0), .ref (r_94 2), .ref (r_94 3), .ref (r_94 4), .ref (r_94 5), .ref (r_94 6), .ref (r_94 7), .ref (r_94 8), .ref (r_94 9), .ref (r_94 10), .ref (r_94 11), .ref (r_94 12), .ref (r_94 13), .ref (r_94 14), .ref (r_94 15), .int (v_95 1), .int (v_95 2), .int (v_95 3), .int (v_95 4), .int (v_95 5), .int (v_95 6), .int (v_95 7), .ref (r_94 16), .int (v_95 8), .ref (r_94 17), .int (v_95 9), .ref (r_94 18), .long q_96, .ref (r_94 19), .ref (r_94 20), .int z_146, .int (v_95 11), .int (v_95 12), .ref (r_94 21), .ref (r_94 22), .int (v_95 13), .ref (r_94 23), .int (v_95 14), .int (v_95 15), .ref (r_94 24), .ref (r_94 25), .ref (r_94 26), .ref (r_94 27), .ref (r_94 28), .ref (r_94 29), .ref (r_94 30), .ref (r_94 31)]) := by rw [← hfe]; exact va_up_self _ _ _
          clear hfe
          have hI := hI9
          have hfr := hfr9
          clear hI9 hfr9
          have hgr : ∀ κ : tk_K, κ.1 ∉ ([39, 58, 57, 60] : List Nat) → Γ_147 κ = Γ κ := tg_fr hgr eΓ_147 (by decide)
          have hx_151 : (v_95 0).toInt = Γ_147 (39, 0, 0) 0 := hv_148 0 (by decide)
          have hx_152 : (v_95 9).toInt = Γ_147 (39, 0, 0) 9 := hv_148 9 (by decide)
          have hx_153 : z_146.toInt = Γ_147 (39, 0, 0) 10 := hv_148 10 (by decide)
          have hx_154 : (v_95 11).toInt = Γ_147 (39, 0, 0) 11 := hv_148 11 (by decide)
          have hx_155 : (v_95 12).toInt = Γ_147 (39, 0, 0) 12 := hv_148 12 (by decide)
          have hx_156 : (v_95 13).toInt = Γ_147 (39, 0, 0) 13 := hv_148 13 (by decide)
          have hx_157 : (v_95 14).toInt = Γ_147 (39, 0, 0) 14 := hv_148 14 (by decide)
          have hx_158 : (v_95 15).toInt = Γ_147 (39, 0, 0) 15 := hv_148 15 (by decide)
          have hus1 : Γ_147 (60, 300, 0) v6.toInt.toNat = v7.toInt := by rw [eΓ_147, tg_r (by decide)]; exact hsu1
          have hus2 : ∀ j : Nat, ¬ j = v6.toInt.toNat → Γ_147 (60, 300, 0) j = Γ_53 (60, 300, 0) j := fun j q => by rw [eΓ_147, tg_r (by decide)]; exact hsu2 j q
          obtain ⟨z_159, ez_159⟩ : ∃ y : Int32, y = v6 + 1 := ⟨_, rfl⟩
          refine lv_iinc (v := z_159) (lv' := [(6, .int z_159), (8, .int v8), (7, .int v7), (5, .int z_1), (0, .ref o), (1, .int p0), (2, .int p1), (3, .int p2), (4, .int p3)]) hx hb dX12_uses_144 hl (k := 2) rfl (by rw [ez_159]; rfl) (by decide) rfl (fun ls hl => ?_)
          try have iz_159 : z_159.toInt = v6.toInt + 1 := by rw [ez_159]; exact tl_addL v6 1 (by decide) (by omega) (by omega)
          refine lv_goto (tgt := 25) hx hb dX12_uses_147 (by decide) ?_
          exact ih25 (f_149, Γ_147, z_159) H locs ls (by show (300 - z_159.toInt).toNat < (300 - v6.toInt).toNat; omega) ⟨(show 0 ≤ z_159.toInt from (by omega)), (show z_159.toInt ≤ 300 from (by omega)), (show 0 ≤ Γ_147 (39, 0, 0) 10 ∧ Γ_147 (39, 0, 0) 10 ≤ z_159.toInt from (by omega)), (show Γ_147 (39, 0, 0) 11 = p2.toInt ∧ Γ_147 (39, 0, 0) 12 = p3.toInt from (by omega)), (show ∀ j : Nat, (j : Int) < z_159.toInt → ¬ Γ_147 (60, 300, 0) j = 0 → 0 < Γ_147 (39, 0, 0) 10 from (fun j9 q9 q8 => by by_cases q7 : j9 = v6.toInt.toNat; (rw [q7, hus1] at q8; omega); (have q6 := hus j9 (by omega) (by rw [← hus2 j9 q7]; exact q8); omega))), (show Γ_147 (39, 0, 0) 0 = Γ (39, 0, 0) 0 from (by omega)), (show Γ_147 (39, 0, 0) 13 = Γ (39, 0, 0) 13 from (by omega)), (show Γ_147 (39, 0, 0) 14 = Γ (39, 0, 0) 14 from (by omega)), (show Γ_147 (39, 0, 0) 15 = Γ (39, 0, 0) 15 from (by omega)), hP, hI, hfr, hgr, hS, lv_sub hl [0, 3, 4, 5, 6, 7, 8] rfl⟩
      · have c_112 : v8.toInt < z_111.toInt := tl_nle c_112
        refine lv_iload hx hb dX12_uses_87 (lv_at hl 1 rfl) ?_
        refine lv_if_eq (tgt := 116) hx hb dX12_uses_89 (by decide) (fun c_160 => ?_) (fun c_160 => ?_)
        · have c_160 : v7.toInt = (0 : Int) := tl_eq c_160
          refine lv_aload_n hx hb dX12_uses_116 rfl (lv_at hl 4 rfl) ?_
          refine tp_get (cy := cy) (ci := 12) (v := .ref (r_94 20)) (C := RX12) (T := TX12) (N := 49) hx hb hta inlX12 hown hK hP ho.1 hf_93 rfl 31 (by decide) (hta _ wk_170) (fun _ h9 => h9) rfl dX12_uses_117 ?_
          refine lv_iload hx hb dX12_uses_120 (lv_at hl 2 rfl) ?_
          refine lv_iload hx hb dX12_uses_122 (lv_at hl 1 rfl) ?_
          obtain ⟨g_162, hf_161, hg_163⟩ := (show tp_gz cy (300) (Γ_92 (60, 300, 0)) (f_91 (r_94 20)) from hI.at (show tp_r L K 60 300 0 (r_94 20) from hr_97 20 (by decide)))
          have hn_164 : vp_in v6 (300) := tl_in (by omega) (by omega)
          have nz_165 : (vp_nar .boolean v7).toInt = v7.toInt := tl_b01 hv7
          obtain ⟨Γ_166, eΓ_166⟩ : ∃ y : tk_G, y = tg Γ_92 (60, 300, 0) v6.toInt.toNat v7.toInt := ⟨_, rfl⟩
          have hI9 : tp_I cy L K Γ_166 (va_up f_91 (r_94 20) (.inl (cy 2, 300, .inl (upd g_162 v6.toNatClampNeg (vp_nar .boolean v7))))) := by rw [eΓ_166]; exact hI.setg hU rfl (show tp_r L K 60 300 0 (r_94 20) from hr_97 20 (by decide)) (show tp_gz cy (300) (tgu (Γ_92 (60, 300, 0)) v6.toInt.toNat v7.toInt) _ from ⟨_, rfl, tp_gz_upd hg_163 nz_165⟩)
          have hfr9 : ∀ b, (K b).1 ∉ ([39, 58, 57, 60] : List Nat) → va_up f_91 (r_94 20) (.inl (cy 2, 300, .inl (upd g_162 v6.toNatClampNeg (vp_nar .boolean v7)))) b = f b := tp_fr hfr (show tp_r L K 60 300 0 (r_94 20) from hr_97 20 (by decide)) (by decide)
          refine tp_zast (cy := cy) hx hb hK hP hD hS (show tp_r L K 60 300 0 (r_94 20) from hr_97 20 (by decide)).1 hf_161 hn_164 dX12_uses_124 (fun H locs hP hD hS => ?_)
          have hP : va_P D vwCl (va_pl L (va_up f_91 (r_94 20) (.inl (cy 2, 300, .inl (upd g_162 v6.toNatClampNeg (vp_nar .boolean v7)))))) H := hP
          generalize hfe : va_up f_91 (r_94 20) (.inl (cy 2, 300, .inl (upd g_162 v6.toNatClampNeg (vp_nar .boolean v7)))) = f_167 at hP hI9 hfr9
          have hD : va_D A (va_pl L f_167) := tp_D hL hAL
          have hf_168 := (show f_167 o = _ from by rw [← hfe, va_up_ne _ _ (tp_ne ho (show tp_r L K 60 300 0 (r_94 20) from hr_97 20 (by decide)) (by decide))]).trans hf_93
          have hf_169 : f_167 (r_94 20) = .inl (cy 2, 300, .inl (upd g_162 v6.toNatClampNeg (vp_nar .boolean v7))) := by rw [← hfe]; exact va_up_self _ _ _
          clear hfe
          have hI := hI9
          have hfr := hfr9
          clear hI9 hfr9
          have hgr : ∀ κ : tk_K, κ.1 ∉ ([39, 58, 57, 60] : List Nat) → Γ_166 κ = Γ κ := tg_fr hgr eΓ_166 (by decide)
          have hv_170 : ∀ i : Nat, i < 16 → (v_95 i).toInt = Γ_166 (39, 0, 0) i := fun i hi => by rw [eΓ_166, tg_r (by decide)]; exact hv_98 i hi
          have hx_171 : (v_95 0).toInt = Γ_166 (39, 0, 0) 0 := hv_170 0 (by decide)
          have hx_172 : (v_95 9).toInt = Γ_166 (39, 0, 0) 9 := hv_170 9 (by decide)
          have hx_173 : (v_95 10).toInt = Γ_166 (39, 0, 0) 10 := hv_170 10 (by decide)
          have hx_174 : (v_95 11).toInt = Γ_166 (39, 0, 0) 11 := hv_170 11 (by decide)
          have hx_175 : (v_95 12).toInt = Γ_166 (39, 0, 0) 12 := hv_170 12 (by decide)
          have hx_176 : (v_95 13).toInt = Γ_166 (39, 0, 0) 13 := hv_170 13 (by decide)
          have hx_177 : (v_95 14).toInt = Γ_166 (39, 0, 0) 14 := hv_170 14 (by decide)
          have hx_178 : (v_95 15).toInt = Γ_166 (39, 0, 0) 15 := hv_170 15 (by decide)
          have hsu1 : Γ_166 (60, 300, 0) v6.toInt.toNat = v7.toInt := by rw [eΓ_166]; exact tg_s
          have hsu2 : ∀ j : Nat, ¬ j = v6.toInt.toNat → Γ_166 (60, 300, 0) j = Γ_53 (60, 300, 0) j := fun j q => by rw [eΓ_166, tg_i q, iu, hwu]
          refine lv_aload_n hx hb dX12_uses_125 rfl (lv_at hl 4 rfl) ?_
          refine lv_dup hx hb dX12_uses_126 rfl ?_
          refine tp_get (cy := cy) (ci := 12) (v := .int (v_95 10)) (C := RX12) (T := TX12) (N := 49) hx hb hta inlX12 hown hK hP ho.1 hf_168 rfl 32 (by decide) (hta _ wk_933) (fun _ h9 => h9) rfl dX12_uses_127 ?_
          refine lv_iload hx hb dX12_uses_130 (lv_at hl 1 rfl) ?_
          refine lv_if_eq (tgt := 139) hx hb dX12_uses_132 (by decide) (fun c_179 => ?_) (fun c_179 => ?_)
          · have c_179 : v7.toInt = (0 : Int) := tl_eq c_179
            refine lv_iconst (v := 0) hx hb dX12_uses_139 (by decide) ?_
            refine lv_iadd hx hb dX12_uses_140 ?_
            refine lv_topi (fun z_180 ez_180 => ?_)
            try have iz_180 : z_180.toInt = (v_95 10).toInt + (0 : Int) := by rw [ez_180]; exact tl_addN (v_95 10) 0 rfl rfl (by omega) (by omega)
            obtain ⟨Γ_181, eΓ_181⟩ : ∃ y : tk_G, y = tg Γ_166 (39, 0, 0) 10 z_180.toInt := ⟨_, rfl⟩
            have hv_182 : ∀ i : Nat, i < 16 → ((upd v_95 10 z_180) i).toInt = Γ_181 (39, 0, 0) i := by rw [eΓ_181, tg_f]; exact tp_gi_upd hv_170
            have hI9 : tp_I cy L K Γ_181 (va_up f_167 o (.inr (12, [.ref (r_94 0), .ref (r_94 1), .int (v_95 0), .ref (r_94 2), .ref (r_94 3), .ref (r_94 4), .ref (r_94 5), .ref (r_94 6), .ref (r_94 7), .ref (r_94 8), .ref (r_94 9), .ref (r_94 10), .ref (r_94 11), .ref (r_94 12), .ref (r_94 13), .ref (r_94 14), .ref (r_94 15), .int (v_95 1), .int (v_95 2), .int (v_95 3), .int (v_95 4), .int (v_95 5), .int (v_95 6), .int (v_95 7), .ref (r_94 16), .int (v_95 8), .ref (r_94 17), .int (v_95 9), .ref (r_94 18), .long q_96, .ref (r_94 19), .ref (r_94 20), .int z_180, .int (v_95 11), .int (v_95 12), .ref (r_94 21), .ref (r_94 22), .int (v_95 13), .ref (r_94 23), .int (v_95 14), .int (v_95 15), .ref (r_94 24), .ref (r_94 25), .ref (r_94 26), .ref (r_94 27), .ref (r_94 28), .ref (r_94 29), .ref (r_94 30), .ref (r_94 31)]))) := by have q9 := hv_182; rw [eΓ_181, tg_f] at q9; rw [eΓ_181]; exact hI.setg hU rfl ho (show tp_o_M L K 0 0 (tgu (Γ_166 (39, 0, 0)) 10 z_180.toInt) _ from ⟨r_94, (upd v_95 10 z_180), q_96, rfl, hr_97, q9⟩)
            have hfr9 : ∀ b, (K b).1 ∉ ([39, 58, 57, 60] : List Nat) → va_up f_167 o (.inr (12, [.ref (r_94 0), .ref (r_94 1), .int (v_95 0), .ref (r_94 2), .ref (r_94 3), .ref (r_94 4), .ref (r_94 5), .ref (r_94 6), .ref (r_94 7), .ref (r_94 8), .ref (r_94 9), .ref (r_94 10), .ref (r_94 11), .ref (r_94 12), .ref (r_94 13), .ref (r_94 14), .ref (r_94 15), .int (v_95 1), .int (v_95 2), .int (v_95 3), .int (v_95 4), .int (v_95 5), .int (v_95 6), .int (v_95 7), .ref (r_94 16), .int (v_95 8), .ref (r_94 17), .int (v_95 9), .ref (r_94 18), .long q_96, .ref (r_94 19), .ref (r_94 20), .int z_180, .int (v_95 11), .int (v_95 12), .ref (r_94 21), .ref (r_94 22), .int (v_95 13), .ref (r_94 23), .int (v_95 14), .int (v_95 15), .ref (r_94 24), .ref (r_94 25), .ref (r_94 26), .ref (r_94 27), .ref (r_94 28), .ref (r_94 29), .ref (r_94 30), .ref (r_94 31)])) b = f b := tp_fr hfr ho (by decide)
            refine tp_put (cy := cy) (ci := 12) (v := .int z_180) (ty := tyX12 32) (C := RX12) (T := TX12) (N := 49) hx hb hta inlX12 tyX12 tyX12_ok nmX12 hown hK hP hD hS ho.1 hf_168 rfl 32 (by decide) (hta _ wk_933) (fun _ h9 => h9) rfl (tyX12_ok 32 (by decide)) rfl rfl (Nat.le_of_ble_eq_true rfl) dX12_uses_141 (fun H locs hP hD hS => ?_)
            have hP : va_P D vwCl (va_pl L (va_up f_167 o (.inr (12, [.ref (r_94 0), .ref (r_94 1), .int (v_95 0), .ref (r_94 2), .ref (r_94 3), .ref (r_94 4), .ref (r_94 5), .ref (r_94 6), .ref (r_94 7), .ref (r_94 8), .ref (r_94 9), .ref (r_94 10), .ref (r_94 11), .ref (r_94 12), .ref (r_94 13), .ref (r_94 14), .ref (r_94 15), .int (v_95 1), .int (v_95 2), .int (v_95 3), .int (v_95 4), .int (v_95 5), .int (v_95 6), .int (v_95 7), .ref (r_94 16), .int (v_95 8), .ref (r_94 17), .int (v_95 9), .ref (r_94 18), .long q_96, .ref (r_94 19), .ref (r_94 20), .int z_180, .int (v_95 11), .int (v_95 12), .ref (r_94 21), .ref (r_94 22), .int (v_95 13), .ref (r_94 23), .int (v_95 14), .int (v_95 15), .ref (r_94 24), .ref (r_94 25), .ref (r_94 26), .ref (r_94 27), .ref (r_94 28), .ref (r_94 29), .ref (r_94 30), .ref (r_94 31)])))) H := hP
            generalize hfe : va_up f_167 o (.inr (12, [.ref (r_94 0), .ref (r_94 1), .int (v_95 0), .ref (r_94 2), .ref (r_94 3), .ref (r_94 4), .ref (r_94 5), .ref (r_94 6), .ref (r_94 7), .ref (r_94 8), .ref (r_94 9), .ref (r_94 10), .ref (r_94 11), .ref (r_94 12), .ref (r_94 13), .ref (r_94 14), .ref (r_94 15), .int (v_95 1), .int (v_95 2), .int (v_95 3), .int (v_95 4), .int (v_95 5), .int (v_95 6), .int (v_95 7), .ref (r_94 16), .int (v_95 8), .ref (r_94 17), .int (v_95 9), .ref (r_94 18), .long q_96, .ref (r_94 19), .ref (r_94 20), .int z_180, .int (v_95 11), .int (v_95 12), .ref (r_94 21), .ref (r_94 22), .int (v_95 13), .ref (r_94 23), .int (v_95 14), .int (v_95 15), .ref (r_94 24), .ref (r_94 25), .ref (r_94 26), .ref (r_94 27), .ref (r_94 28), .ref (r_94 29), .ref (r_94 30), .ref (r_94 31)])) = f_183 at hP hI9 hfr9
            have hD : va_D A (va_pl L f_183) := tp_D hL hAL
            have hf_184 : f_183 o = .inr (12, [.ref (r_94 0), .ref (r_94 1), .int (v_95 0), .ref (r_94 2), .ref (r_94 3), .ref (r_94 4), .ref (r_94 5), .ref (r_94 6), .ref (r_94 7), .ref (r_94 8), .ref (r_94 9), .ref (r_94 10), .ref (r_94 11), .ref (r_94 12), .ref (r_94 13), .ref (r_94 14), .ref (r_94 15), .int (v_95 1), .int (v_95 2), .int (v_95 3), .int (v_95 4), .int (v_95 5), .int (v_95 6), .int (v_95 7), .ref (r_94 16), .int (v_95 8), .ref (r_94 17), .int (v_95 9), .ref (r_94 18), .long q_96, .ref (r_94 19), .ref (r_94 20), .int z_180, .int (v_95 11), .int (v_95 12), .ref (r_94 21), .ref (r_94 22), .int (v_95 13), .ref (r_94 23), .int (v_95 14), .int (v_95 15), .ref (r_94 24), .ref (r_94 25), .ref (r_94 26), .ref (r_94 27), .ref (r_94 28), .ref (r_94 29), .ref (r_94 30), .ref (r_94 31)]) := by rw [← hfe]; exact va_up_self _ _ _
            clear hfe
            have hI := hI9
            have hfr := hfr9
            clear hI9 hfr9
            have hgr : ∀ κ : tk_K, κ.1 ∉ ([39, 58, 57, 60] : List Nat) → Γ_181 κ = Γ κ := tg_fr hgr eΓ_181 (by decide)
            have hx_185 : (v_95 0).toInt = Γ_181 (39, 0, 0) 0 := hv_182 0 (by decide)
            have hx_186 : (v_95 9).toInt = Γ_181 (39, 0, 0) 9 := hv_182 9 (by decide)
            have hx_187 : z_180.toInt = Γ_181 (39, 0, 0) 10 := hv_182 10 (by decide)
            have hx_188 : (v_95 11).toInt = Γ_181 (39, 0, 0) 11 := hv_182 11 (by decide)
            have hx_189 : (v_95 12).toInt = Γ_181 (39, 0, 0) 12 := hv_182 12 (by decide)
            have hx_190 : (v_95 13).toInt = Γ_181 (39, 0, 0) 13 := hv_182 13 (by decide)
            have hx_191 : (v_95 14).toInt = Γ_181 (39, 0, 0) 14 := hv_182 14 (by decide)
            have hx_192 : (v_95 15).toInt = Γ_181 (39, 0, 0) 15 := hv_182 15 (by decide)
            have hus1 : Γ_181 (60, 300, 0) v6.toInt.toNat = v7.toInt := by rw [eΓ_181, tg_r (by decide)]; exact hsu1
            have hus2 : ∀ j : Nat, ¬ j = v6.toInt.toNat → Γ_181 (60, 300, 0) j = Γ_53 (60, 300, 0) j := fun j q => by rw [eΓ_181, tg_r (by decide)]; exact hsu2 j q
            obtain ⟨z_193, ez_193⟩ : ∃ y : Int32, y = v6 + 1 := ⟨_, rfl⟩
            refine lv_iinc (v := z_193) (lv' := [(6, .int z_193), (8, .int v8), (7, .int v7), (5, .int z_1), (0, .ref o), (1, .int p0), (2, .int p1), (3, .int p2), (4, .int p3)]) hx hb dX12_uses_144 hl (k := 2) rfl (by rw [ez_193]; rfl) (by decide) rfl (fun ls hl => ?_)
            try have iz_193 : z_193.toInt = v6.toInt + 1 := by rw [ez_193]; exact tl_addL v6 1 (by decide) (by omega) (by omega)
            refine lv_goto (tgt := 25) hx hb dX12_uses_147 (by decide) ?_
            exact ih25 (f_183, Γ_181, z_193) H locs ls (by show (300 - z_193.toInt).toNat < (300 - v6.toInt).toNat; omega) ⟨(show 0 ≤ z_193.toInt from (by omega)), (show z_193.toInt ≤ 300 from (by omega)), (show 0 ≤ Γ_181 (39, 0, 0) 10 ∧ Γ_181 (39, 0, 0) 10 ≤ z_193.toInt from (by omega)), (show Γ_181 (39, 0, 0) 11 = p2.toInt ∧ Γ_181 (39, 0, 0) 12 = p3.toInt from (by omega)), (show ∀ j : Nat, (j : Int) < z_193.toInt → ¬ Γ_181 (60, 300, 0) j = 0 → 0 < Γ_181 (39, 0, 0) 10 from (fun j9 q9 q8 => by by_cases q7 : j9 = v6.toInt.toNat; (rw [q7, hus1] at q8; omega); (have q6 := hus j9 (by omega) (by rw [← hus2 j9 q7]; exact q8); omega))), (show Γ_181 (39, 0, 0) 0 = Γ (39, 0, 0) 0 from (by omega)), (show Γ_181 (39, 0, 0) 13 = Γ (39, 0, 0) 13 from (by omega)), (show Γ_181 (39, 0, 0) 14 = Γ (39, 0, 0) 14 from (by omega)), (show Γ_181 (39, 0, 0) 15 = Γ (39, 0, 0) 15 from (by omega)), hP, hI, hfr, hgr, hS, lv_sub hl [0, 3, 4, 5, 6, 7, 8] rfl⟩
          · have c_179 : ¬ v7.toInt = (0 : Int) := tl_neq c_179
            exfalso; omega
        · have c_160 : ¬ v7.toInt = (0 : Int) := tl_neq c_160
          refine lv_aload_n hx hb dX12_uses_92 rfl (lv_at hl 4 rfl) ?_
          refine lv_iload hx hb dX12_uses_93 (lv_at hl 3 rfl) ?_
          refine lv_iload hx hb dX12_uses_95 (lv_at hl 0 rfl) ?_
          refine tq_ciR hS (hAf _ hS.1) (tq_rV (As := [.int z_1, .int v8]) (rest := []) ⟨hx, hb, hml, hown, hta⟩ (tp_P.pre hK hN hL hU hI hP) (tp_recv hK hP ho.1 hf_93 rfl) lk_X12_355 (r_X12_isHolding l D cy H.size L K Γ_92 f_91 o z_1 v8 ho (by first | omega | (simp only [Int32.toInt_toInt64]; omega) | decide | assumption) (by first | omega | (simp only [Int32.toInt_toInt64]; omega) | decide | assumption) (by rw [hgr (45, 1056, 0) (by decide), hgr (43, 8800, 0) (by decide)]; have q9 := htst v8.toInt.toNat (by omega); rw [show ((v8.toInt.toNat : Nat) : Int) = v8.toInt from by omega, show t1 = z_1.toInt from by omega] at q9; exact q9)) rfl rfl ⟨Nat.le_of_ble_eq_true rfl, Nat.le_of_ble_eq_true rfl⟩ rfl hl.1 rfl (Nat.le_of_ble_eq_true rfl) dX12_uses_97 ⟨Nat.le_of_ble_eq_true rfl, Nat.le_of_ble_eq_true rfl⟩) (fun r_195 f_196 Γ_198 H locs hw_194 hP hI hc_197 hcg_199 hS => ?_)
          have hD : va_D A (va_pl L f_196) := tp_D hL hAL
          have hfr := tp_fr2 hfr hc_197 (by decide)
          have hgr : ∀ κ : tk_K, κ.1 ∉ ([39, 58, 57, 60] : List Nat) → Γ_198 κ = Γ κ := tg_fr2 hgr hcg_199 (by decide)
          obtain ⟨hE_200, hw_194⟩ := hw_194
          have hE_200 : tl_J r_195 (True) := hE_200
          have hw_194 : Γ_198 (39, 0, 0) 0 = Γ_92 (39, 0, 0) 0 ∧ Γ_198 (39, 0, 0) 10 = Γ_92 (39, 0, 0) 10 ∧ Γ_198 (39, 0, 0) 11 = Γ_92 (39, 0, 0) 11 ∧ Γ_198 (39, 0, 0) 12 = Γ_92 (39, 0, 0) 12 ∧ Γ_198 (39, 0, 0) 13 = Γ_92 (39, 0, 0) 13 ∧ Γ_198 (39, 0, 0) 14 = Γ_92 (39, 0, 0) 14 ∧ Γ_198 (39, 0, 0) 15 = Γ_92 (39, 0, 0) 15 := hw_194
          refine lv_if_ne (tgt := 107) hx hb dX12_uses_100 (by decide) (fun c_201 => ?_) (fun c_201 => ?_)
          · have c_201 := hE_200.t c_201
            refine lv_iconst (v := 0) hx hb dX12_uses_107 (by decide) ?_
            refine lv_istore (lv' := [(7, .int 0), (8, .int v8), (6, .int v6), (5, .int z_1), (0, .ref o), (1, .int p0), (2, .int p1), (3, .int p2), (4, .int p3)]) hx hb dX12_uses_108 hl (by decide) rfl (fun ls hl => ?_)
            obtain ⟨z_202, ez_202⟩ : ∃ y : Int32, y = v8 + 1 := ⟨_, rfl⟩
            refine lv_iinc (v := z_202) (lv' := [(8, .int z_202), (7, .int 0), (6, .int v6), (5, .int z_1), (0, .ref o), (1, .int p0), (2, .int p1), (3, .int p2), (4, .int p3)]) hx hb dX12_uses_110 hl (k := 1) rfl (by rw [ez_202]; rfl) (by decide) rfl (fun ls hl => ?_)
            try have iz_202 : z_202.toInt = v8.toInt + 1 := by rw [ez_202]; exact tl_addL v8 1 (by decide) (by omega) (by omega)
            refine lv_goto (tgt := 75) hx hb dX12_uses_113 (by decide) ?_
            exact ih75 (f_196, Γ_198, z_202, 0) H locs ls (by show (12 - z_202.toInt).toNat < (12 - v8.toInt).toNat; omega) ⟨(show 0 ≤ z_202.toInt ∧ z_202.toInt ≤ 12 from (by omega)), (show (0 : Int) = 0 ∨ (0 : Int) = 1 from (by decide)), (show Γ_198 (39, 0, 0) 0 = Γ_79 (39, 0, 0) 0 from (by omega)), (show Γ_198 (39, 0, 0) 11 = Γ_79 (39, 0, 0) 11 from (by omega)), (show Γ_198 (39, 0, 0) 12 = Γ_79 (39, 0, 0) 12 from (by omega)), (show Γ_198 (39, 0, 0) 13 = Γ_79 (39, 0, 0) 13 from (by omega)), (show Γ_198 (39, 0, 0) 14 = Γ_79 (39, 0, 0) 14 from (by omega)), (show Γ_198 (39, 0, 0) 15 = Γ_79 (39, 0, 0) 15 from (by omega)), (show Γ_198 (39, 0, 0) 10 = Γ_79 (39, 0, 0) 10 from (by omega)), (show Γ_198 (60, 300, 0) = Γ_79 (60, 300, 0) from ((hcg_199 _ (by decide)).trans iu)), hP, hI, hfr, hgr, hS, lv_sub hl [0, 1, 2, 3, 4, 5, 6, 7, 8] rfl⟩
          · have c_201 := c_201
            refine lv_iconst (v := 1) hx hb dX12_uses_103 (by decide) ?_
            refine lv_goto (tgt := 108) hx hb dX12_uses_104 (by decide) ?_
            refine lv_istore (lv' := [(7, .int 1), (8, .int v8), (6, .int v6), (5, .int z_1), (0, .ref o), (1, .int p0), (2, .int p1), (3, .int p2), (4, .int p3)]) hx hb dX12_uses_108 hl (by decide) rfl (fun ls hl => ?_)
            obtain ⟨z_203, ez_203⟩ : ∃ y : Int32, y = v8 + 1 := ⟨_, rfl⟩
            refine lv_iinc (v := z_203) (lv' := [(8, .int z_203), (7, .int 1), (6, .int v6), (5, .int z_1), (0, .ref o), (1, .int p0), (2, .int p1), (3, .int p2), (4, .int p3)]) hx hb dX12_uses_110 hl (k := 1) rfl (by rw [ez_203]; rfl) (by decide) rfl (fun ls hl => ?_)
            try have iz_203 : z_203.toInt = v8.toInt + 1 := by rw [ez_203]; exact tl_addL v8 1 (by decide) (by omega) (by omega)
            refine lv_goto (tgt := 75) hx hb dX12_uses_113 (by decide) ?_
            exact ih75 (f_196, Γ_198, z_203, 1) H locs ls (by show (12 - z_203.toInt).toNat < (12 - v8.toInt).toNat; omega) ⟨(show 0 ≤ z_203.toInt ∧ z_203.toInt ≤ 12 from (by omega)), (show (1 : Int) = 0 ∨ (1 : Int) = 1 from (by decide)), (show Γ_198 (39, 0, 0) 0 = Γ_79 (39, 0, 0) 0 from (by omega)), (show Γ_198 (39, 0, 0) 11 = Γ_79 (39, 0, 0) 11 from (by omega)), (show Γ_198 (39, 0, 0) 12 = Γ_79 (39, 0, 0) 12 from (by omega)), (show Γ_198 (39, 0, 0) 13 = Γ_79 (39, 0, 0) 13 from (by omega)), (show Γ_198 (39, 0, 0) 14 = Γ_79 (39, 0, 0) 14 from (by omega)), (show Γ_198 (39, 0, 0) 15 = Γ_79 (39, 0, 0) 15 from (by omega)), (show Γ_198 (39, 0, 0) 10 = Γ_79 (39, 0, 0) 10 from (by omega)), (show Γ_198 (60, 300, 0) = Γ_79 (60, 300, 0) from ((hcg_199 _ (by decide)).trans iu)), hP, hI, hfr, hgr, hS, lv_sub hl [0, 1, 2, 3, 4, 5, 6, 7, 8] rfl⟩
    · have c_74 : ¬ z_73.toInt = (-1000000 : Int) := tl_neq c_74
      refine lv_iload hx hb dX12_uses_45 (lv_at hl 0 rfl) ?_
      refine lv_iload_n hx hb dX12_uses_47 rfl (lv_at hl 5 rfl) ?_
      refine lv_icmp_lt (tgt := 58) hx hb dX12_uses_48 (by decide) (fun c_204 => ?_) (fun c_204 => ?_)
      · have c_204 : v6.toInt < p2.toInt := tl_lt c_204
        refine lv_iconst (v := 1) hx hb dX12_uses_58 (by decide) ?_
        refine lv_goto (tgt := 63) hx hb dX12_uses_59 (by decide) ?_
        refine lv_istore (lv' := [(7, .int 1), (6, .int v6), (5, .int z_1), (0, .ref o), (1, .int p0), (2, .int p1), (3, .int p2), (4, .int p3)]) hx hb dX12_uses_63 hl (by decide) rfl (fun ls hl => ?_)
        refine lv_aload_n hx hb dX12_uses_65 rfl (lv_at hl 3 rfl) ?_
        refine lv_iload_n hx hb dX12_uses_66 rfl (lv_at hl 5 rfl) ?_
        refine lv_iload hx hb dX12_uses_67 (lv_at hl 1 rfl) ?_
        refine tq_cvR hS (hAf _ hS.1) (tq_rV (As := [.int p1, .int v6]) (rest := []) ⟨hx, hb, hml, hown, hta⟩ (tp_P.pre hK hN hL hU hI hP) (tp_recv hK hP ho.1 hf_55 rfl) lk_X12_352 (r_X12_words l D cy H.size L K Γ_53 f_52 o p1 v6 ho (by first | omega | (simp only [Int32.toInt_toInt64]; omega) | decide | assumption)) rfl rfl ⟨Nat.le_of_ble_eq_true rfl, Nat.le_of_ble_eq_true rfl⟩ rfl hl.1 rfl (Nat.le_of_ble_eq_true rfl) dX12_uses_69 ⟨Nat.le_of_ble_eq_true rfl, Nat.le_of_ble_eq_true rfl⟩) (fun f_207 Γ_209 H locs hw_205 hP hI hc_208 hcg_210 hS => ?_)
        have hD : va_D A (va_pl L f_207) := tp_D hL hAL
        have hfr := tp_fr2 hfr hc_208 (by decide)
        have hgr : ∀ κ : tk_K, κ.1 ∉ ([39, 58, 57, 60] : List Nat) → Γ_209 κ = Γ κ := tg_fr2 hgr hcg_210 (by decide)
        have hf_211 := (tp_un hc_208 ho (by decide)).trans hf_55
        have hv_212 : ∀ i : Nat, i < 16 → (v_57 i).toInt = Γ_209 (39, 0, 0) i := fun i hi => by rw [hcg_210 _ (by decide)]; exact hv_60 i hi
        have hx_213 : (v_57 0).toInt = Γ_209 (39, 0, 0) 0 := hv_212 0 (by decide)
        have hx_214 : (v_57 9).toInt = Γ_209 (39, 0, 0) 9 := hv_212 9 (by decide)
        have hx_215 : (v_57 10).toInt = Γ_209 (39, 0, 0) 10 := hv_212 10 (by decide)
        have hx_216 : (v_57 11).toInt = Γ_209 (39, 0, 0) 11 := hv_212 11 (by decide)
        have hx_217 : (v_57 12).toInt = Γ_209 (39, 0, 0) 12 := hv_212 12 (by decide)
        have hx_218 : (v_57 13).toInt = Γ_209 (39, 0, 0) 13 := hv_212 13 (by decide)
        have hx_219 : (v_57 14).toInt = Γ_209 (39, 0, 0) 14 := hv_212 14 (by decide)
        have hx_220 : (v_57 15).toInt = Γ_209 (39, 0, 0) 15 := hv_212 15 (by decide)
        have hwu := hcg_210 (60, 300, 0) (by decide)
        refine lv_iconst (v := 0) hx hb dX12_uses_72 (by decide) ?_
        refine lv_istore (lv' := [(8, .int 0), (7, .int 1), (6, .int v6), (5, .int z_1), (0, .ref o), (1, .int p0), (2, .int p1), (3, .int p2), (4, .int p3)]) hx hb dX12_uses_73 hl (by decide) rfl (fun ls hl => ?_)
        refine tl_ind (G := fun H locs ls => W p l e ((headSpec (tl_w yX12_uses cX12_uses 9 none) ({ frames := 3, cells := 0, slots := 0, locals := 77 })).room) s m #[.ref o, .int p0, .int p1, .int p2, .int p3] below meth c H locs 0 0 (MQ below (va_Qv (fun (u : (Nat → va_E) × tk_G) => 0 ≤ u.2 (39, 0, 0) 10 ∧ (u.2 (39, 0, 0) 11 = p2.toInt ∧ u.2 (39, 0, 0) 12 = p3.toInt) ∧ u.2 (39, 0, 0) 0 = Γ (39, 0, 0) 0 ∧ u.2 (39, 0, 0) 13 = Γ (39, 0, 0) 13 ∧ u.2 (39, 0, 0) 14 = Γ (39, 0, 0) 14 ∧ u.2 (39, 0, 0) 15 = Γ (39, 0, 0) 15 ∧ (∀ j : Nat, j < 300 → ¬ u.2 (60, 300, 0) j = 0 → 0 < u.2 (39, 0, 0) 10)) (tp_BG D cy L K Γ f [39, 58, 57, 60]) A) #[.ref o, .int p0, .int p1, .int p2, .int p3] s 0 0 A) (F0 m 75 ls [])) (α := (Nat → va_E) × tk_G × Int32 × Int32) (fun aq => (12 - aq.2.2.1.toInt).toNat) (fun aq H locs ls => (0 ≤ aq.2.2.1.toInt ∧ aq.2.2.1.toInt ≤ 12) ∧ (aq.2.2.2.toInt = 0 ∨ aq.2.2.2.toInt = 1) ∧ (aq.2.1 (39, 0, 0) 0 = Γ_209 (39, 0, 0) 0) ∧ (aq.2.1 (39, 0, 0) 11 = Γ_209 (39, 0, 0) 11) ∧ (aq.2.1 (39, 0, 0) 12 = Γ_209 (39, 0, 0) 12) ∧ (aq.2.1 (39, 0, 0) 13 = Γ_209 (39, 0, 0) 13) ∧ (aq.2.1 (39, 0, 0) 14 = Γ_209 (39, 0, 0) 14) ∧ (aq.2.1 (39, 0, 0) 15 = Γ_209 (39, 0, 0) 15) ∧ (aq.2.1 (39, 0, 0) 10 = Γ_209 (39, 0, 0) 10) ∧ (aq.2.1 (60, 300, 0) = Γ_209 (60, 300, 0)) ∧ va_P D vwCl (va_pl L aq.1) H ∧ tp_I cy L K aq.2.1 aq.1 ∧ (∀ b, (K b).1 ∉ ([39, 58, 57, 60] : List Nat) → aq.1 b = f b) ∧ (∀ κ : tk_K, κ.1 ∉ ([39, 58, 57, 60] : List Nat) → aq.2.1 κ = Γ κ) ∧ va_S A s.heap H locs ∧ lv_has ls 9 [(8, .int aq.2.2.1), (7, .int aq.2.2.2), (6, .int v6), (5, .int z_1), (0, .ref o), (1, .int p0), (2, .int p1), (3, .int p2), (4, .int p3)]) ?_ (f_207, Γ_209, (0 : Int32), (1 : Int32)) H locs ls ⟨(show 0 ≤ (0 : Int) ∧ (0 : Int) ≤ 12 from (by omega)), (show (1 : Int) = 0 ∨ (1 : Int) = 1 from (by decide)), (show Γ_209 (39, 0, 0) 0 = Γ_209 (39, 0, 0) 0 from (by omega)), (show Γ_209 (39, 0, 0) 11 = Γ_209 (39, 0, 0) 11 from (by omega)), (show Γ_209 (39, 0, 0) 12 = Γ_209 (39, 0, 0) 12 from (by omega)), (show Γ_209 (39, 0, 0) 13 = Γ_209 (39, 0, 0) 13 from (by omega)), (show Γ_209 (39, 0, 0) 14 = Γ_209 (39, 0, 0) 14 from (by omega)), (show Γ_209 (39, 0, 0) 15 = Γ_209 (39, 0, 0) 15 from (by omega)), (show Γ_209 (39, 0, 0) 10 = Γ_209 (39, 0, 0) 10 from (by omega)), (show Γ_209 (60, 300, 0) = Γ_209 (60, 300, 0) from rfl), hP, hI, hfr, hgr, hS, lv_sub hl [0, 1, 2, 3, 4, 5, 6, 7, 8] rfl⟩
        rintro ⟨f_221, Γ_222, v8, v7⟩ H locs ls ⟨h8, hv7, j0, j11, j12, j13, j14, j15, j10, iu, hP, hI, hfr, hgr, hS, hl⟩ ih75
        have hgr : ∀ κ : tk_K, κ.1 ∉ ([39, 58, 57, 60] : List Nat) → Γ_222 κ = Γ κ := hgr
        have hP : va_P D vwCl (va_pl L f_221) H := hP
        have hI : tp_I cy L K Γ_222 f_221 := hI
        have hfr : ∀ b, (K b).1 ∉ ([39, 58, 57, 60] : List Nat) → f_221 b = f b := hfr
        have hD : va_D A (va_pl L f_221) := tp_D hL hAL
        have h8 : 0 ≤ v8.toInt ∧ v8.toInt ≤ 12 := h8
        have hv7 : v7.toInt = 0 ∨ v7.toInt = 1 := hv7
        have j0 : Γ_222 (39, 0, 0) 0 = Γ_209 (39, 0, 0) 0 := j0
        have j11 : Γ_222 (39, 0, 0) 11 = Γ_209 (39, 0, 0) 11 := j11
        have j12 : Γ_222 (39, 0, 0) 12 = Γ_209 (39, 0, 0) 12 := j12
        have j13 : Γ_222 (39, 0, 0) 13 = Γ_209 (39, 0, 0) 13 := j13
        have j14 : Γ_222 (39, 0, 0) 14 = Γ_209 (39, 0, 0) 14 := j14
        have j15 : Γ_222 (39, 0, 0) 15 = Γ_209 (39, 0, 0) 15 := j15
        have j10 : Γ_222 (39, 0, 0) 10 = Γ_209 (39, 0, 0) 10 := j10
        have iu : Γ_222 (60, 300, 0) = Γ_209 (60, 300, 0) := iu
        have hl : lv_has ls 9 [(8, .int v8), (7, .int v7), (6, .int v6), (5, .int z_1), (0, .ref o), (1, .int p0), (2, .int p1), (3, .int p2), (4, .int p3)] := hl
        refine lv_iload hx hb dX12_uses_75 (lv_at hl 0 rfl) ?_
        refine lv_aload_n hx hb dX12_uses_77 rfl (lv_at hl 4 rfl) ?_
        obtain ⟨r_224, v_225, q_226, hf_223, hr_227, hv_228⟩ := (show tp_o_M L K 0 0 (Γ_222 (39, 0, 0)) (f_221 o) from hI.at ho)
        have hx_229 : (v_225 0).toInt = Γ_222 (39, 0, 0) 0 := hv_228 0 (by decide)
        have hx_230 : (v_225 9).toInt = Γ_222 (39, 0, 0) 9 := hv_228 9 (by decide)
        have hx_231 : (v_225 10).toInt = Γ_222 (39, 0, 0) 10 := hv_228 10 (by decide)
        have hx_232 : (v_225 11).toInt = Γ_222 (39, 0, 0) 11 := hv_228 11 (by decide)
        have hx_233 : (v_225 12).toInt = Γ_222 (39, 0, 0) 12 := hv_228 12 (by decide)
        have hx_234 : (v_225 13).toInt = Γ_222 (39, 0, 0) 13 := hv_228 13 (by decide)
        have hx_235 : (v_225 14).toInt = Γ_222 (39, 0, 0) 14 := hv_228 14 (by decide)
        have hx_236 : (v_225 15).toInt = Γ_222 (39, 0, 0) 15 := hv_228 15 (by decide)
        refine tp_get (cy := cy) (ci := 12) (v := .ref (r_224 6)) (C := RX12) (T := TX12) (N := 49) hx hb hta inlX12 hown hK hP ho.1 hf_223 rfl 7 (by decide) (hta _ wk_156) (fun _ h9 => h9) rfl dX12_uses_78 ?_
        refine lv_iload hx hb dX12_uses_81 (lv_at hl 3 rfl) ?_
        obtain ⟨g_238, hf_237, hg_239⟩ := (show tp_gi cy (22) (Γ (46, 22, 0)) (f (r_224 6)) from hI0.at (show tp_r L K 46 22 0 (r_224 6) from hr_227 6 (by decide)))
        have hn_240 : vp_in z_1 (22) := tl_in (by omega) (by omega)
        refine tp_iald (cy := cy) hx hb hK hP (show tp_r L K 46 22 0 (r_224 6) from hr_227 6 (by decide)).1 ((tp_un hfr (show tp_r L K 46 22 0 (r_224 6) from hr_227 6 (by decide)) (by decide)).trans hf_237) hn_240 dX12_uses_83 ?_
        refine lv_topi (fun z_241 ez_241 => ?_)
        have iz_241 : z_241.toInt = Γ (46, 22, 0) z_1.toInt.toNat := by rw [ez_241]; exact hg_239 _ (tp_pin hn_240)
        have hnc9 : z_241.toInt = Γ (46, 22, 0) t1.toNat := iz_241.trans (congrArg _ (by omega))
        refine lv_icmp_ge (tgt := 116) hx hb dX12_uses_84 (by decide) (fun c_242 => ?_) (fun c_242 => ?_)
        · have c_242 : z_241.toInt ≤ v8.toInt := tl_le c_242
          refine lv_aload_n hx hb dX12_uses_116 rfl (lv_at hl 4 rfl) ?_
          refine tp_get (cy := cy) (ci := 12) (v := .ref (r_224 20)) (C := RX12) (T := TX12) (N := 49) hx hb hta inlX12 hown hK hP ho.1 hf_223 rfl 31 (by decide) (hta _ wk_170) (fun _ h9 => h9) rfl dX12_uses_117 ?_
          refine lv_iload hx hb dX12_uses_120 (lv_at hl 2 rfl) ?_
          refine lv_iload hx hb dX12_uses_122 (lv_at hl 1 rfl) ?_
          obtain ⟨g_244, hf_243, hg_245⟩ := (show tp_gz cy (300) (Γ_222 (60, 300, 0)) (f_221 (r_224 20)) from hI.at (show tp_r L K 60 300 0 (r_224 20) from hr_227 20 (by decide)))
          have hn_246 : vp_in v6 (300) := tl_in (by omega) (by omega)
          have nz_247 : (vp_nar .boolean v7).toInt = v7.toInt := tl_b01 hv7
          obtain ⟨Γ_248, eΓ_248⟩ : ∃ y : tk_G, y = tg Γ_222 (60, 300, 0) v6.toInt.toNat v7.toInt := ⟨_, rfl⟩
          have hI9 : tp_I cy L K Γ_248 (va_up f_221 (r_224 20) (.inl (cy 2, 300, .inl (upd g_244 v6.toNatClampNeg (vp_nar .boolean v7))))) := by rw [eΓ_248]; exact hI.setg hU rfl (show tp_r L K 60 300 0 (r_224 20) from hr_227 20 (by decide)) (show tp_gz cy (300) (tgu (Γ_222 (60, 300, 0)) v6.toInt.toNat v7.toInt) _ from ⟨_, rfl, tp_gz_upd hg_245 nz_247⟩)
          have hfr9 : ∀ b, (K b).1 ∉ ([39, 58, 57, 60] : List Nat) → va_up f_221 (r_224 20) (.inl (cy 2, 300, .inl (upd g_244 v6.toNatClampNeg (vp_nar .boolean v7)))) b = f b := tp_fr hfr (show tp_r L K 60 300 0 (r_224 20) from hr_227 20 (by decide)) (by decide)
          refine tp_zast (cy := cy) hx hb hK hP hD hS (show tp_r L K 60 300 0 (r_224 20) from hr_227 20 (by decide)).1 hf_243 hn_246 dX12_uses_124 (fun H locs hP hD hS => ?_)
          have hP : va_P D vwCl (va_pl L (va_up f_221 (r_224 20) (.inl (cy 2, 300, .inl (upd g_244 v6.toNatClampNeg (vp_nar .boolean v7)))))) H := hP
          generalize hfe : va_up f_221 (r_224 20) (.inl (cy 2, 300, .inl (upd g_244 v6.toNatClampNeg (vp_nar .boolean v7)))) = f_249 at hP hI9 hfr9
          have hD : va_D A (va_pl L f_249) := tp_D hL hAL
          have hf_250 := (show f_249 o = _ from by rw [← hfe, va_up_ne _ _ (tp_ne ho (show tp_r L K 60 300 0 (r_224 20) from hr_227 20 (by decide)) (by decide))]).trans hf_223
          have hf_251 : f_249 (r_224 20) = .inl (cy 2, 300, .inl (upd g_244 v6.toNatClampNeg (vp_nar .boolean v7))) := by rw [← hfe]; exact va_up_self _ _ _
          clear hfe
          have hI := hI9
          have hfr := hfr9
          clear hI9 hfr9
          have hgr : ∀ κ : tk_K, κ.1 ∉ ([39, 58, 57, 60] : List Nat) → Γ_248 κ = Γ κ := tg_fr hgr eΓ_248 (by decide)
          have hv_252 : ∀ i : Nat, i < 16 → (v_225 i).toInt = Γ_248 (39, 0, 0) i := fun i hi => by rw [eΓ_248, tg_r (by decide)]; exact hv_228 i hi
          have hx_253 : (v_225 0).toInt = Γ_248 (39, 0, 0) 0 := hv_252 0 (by decide)
          have hx_254 : (v_225 9).toInt = Γ_248 (39, 0, 0) 9 := hv_252 9 (by decide)
          have hx_255 : (v_225 10).toInt = Γ_248 (39, 0, 0) 10 := hv_252 10 (by decide)
          have hx_256 : (v_225 11).toInt = Γ_248 (39, 0, 0) 11 := hv_252 11 (by decide)
          have hx_257 : (v_225 12).toInt = Γ_248 (39, 0, 0) 12 := hv_252 12 (by decide)
          have hx_258 : (v_225 13).toInt = Γ_248 (39, 0, 0) 13 := hv_252 13 (by decide)
          have hx_259 : (v_225 14).toInt = Γ_248 (39, 0, 0) 14 := hv_252 14 (by decide)
          have hx_260 : (v_225 15).toInt = Γ_248 (39, 0, 0) 15 := hv_252 15 (by decide)
          have hsu1 : Γ_248 (60, 300, 0) v6.toInt.toNat = v7.toInt := by rw [eΓ_248]; exact tg_s
          have hsu2 : ∀ j : Nat, ¬ j = v6.toInt.toNat → Γ_248 (60, 300, 0) j = Γ_53 (60, 300, 0) j := fun j q => by rw [eΓ_248, tg_i q, iu, hwu]
          refine lv_aload_n hx hb dX12_uses_125 rfl (lv_at hl 4 rfl) ?_
          refine lv_dup hx hb dX12_uses_126 rfl ?_
          refine tp_get (cy := cy) (ci := 12) (v := .int (v_225 10)) (C := RX12) (T := TX12) (N := 49) hx hb hta inlX12 hown hK hP ho.1 hf_250 rfl 32 (by decide) (hta _ wk_933) (fun _ h9 => h9) rfl dX12_uses_127 ?_
          refine lv_iload hx hb dX12_uses_130 (lv_at hl 1 rfl) ?_
          refine lv_if_eq (tgt := 139) hx hb dX12_uses_132 (by decide) (fun c_261 => ?_) (fun c_261 => ?_)
          · have c_261 : v7.toInt = (0 : Int) := tl_eq c_261
            refine lv_iconst (v := 0) hx hb dX12_uses_139 (by decide) ?_
            refine lv_iadd hx hb dX12_uses_140 ?_
            refine lv_topi (fun z_262 ez_262 => ?_)
            try have iz_262 : z_262.toInt = (v_225 10).toInt + (0 : Int) := by rw [ez_262]; exact tl_addN (v_225 10) 0 rfl rfl (by omega) (by omega)
            obtain ⟨Γ_263, eΓ_263⟩ : ∃ y : tk_G, y = tg Γ_248 (39, 0, 0) 10 z_262.toInt := ⟨_, rfl⟩
            have hv_264 : ∀ i : Nat, i < 16 → ((upd v_225 10 z_262) i).toInt = Γ_263 (39, 0, 0) i := by rw [eΓ_263, tg_f]; exact tp_gi_upd hv_252
            have hI9 : tp_I cy L K Γ_263 (va_up f_249 o (.inr (12, [.ref (r_224 0), .ref (r_224 1), .int (v_225 0), .ref (r_224 2), .ref (r_224 3), .ref (r_224 4), .ref (r_224 5), .ref (r_224 6), .ref (r_224 7), .ref (r_224 8), .ref (r_224 9), .ref (r_224 10), .ref (r_224 11), .ref (r_224 12), .ref (r_224 13), .ref (r_224 14), .ref (r_224 15), .int (v_225 1), .int (v_225 2), .int (v_225 3), .int (v_225 4), .int (v_225 5), .int (v_225 6), .int (v_225 7), .ref (r_224 16), .int (v_225 8), .ref (r_224 17), .int (v_225 9), .ref (r_224 18), .long q_226, .ref (r_224 19), .ref (r_224 20), .int z_262, .int (v_225 11), .int (v_225 12), .ref (r_224 21), .ref (r_224 22), .int (v_225 13), .ref (r_224 23), .int (v_225 14), .int (v_225 15), .ref (r_224 24), .ref (r_224 25), .ref (r_224 26), .ref (r_224 27), .ref (r_224 28), .ref (r_224 29), .ref (r_224 30), .ref (r_224 31)]))) := by have q9 := hv_264; rw [eΓ_263, tg_f] at q9; rw [eΓ_263]; exact hI.setg hU rfl ho (show tp_o_M L K 0 0 (tgu (Γ_248 (39, 0, 0)) 10 z_262.toInt) _ from ⟨r_224, (upd v_225 10 z_262), q_226, rfl, hr_227, q9⟩)
            have hfr9 : ∀ b, (K b).1 ∉ ([39, 58, 57, 60] : List Nat) → va_up f_249 o (.inr (12, [.ref (r_224 0), .ref (r_224 1), .int (v_225 0), .ref (r_224 2), .ref (r_224 3), .ref (r_224 4), .ref (r_224 5), .ref (r_224 6), .ref (r_224 7), .ref (r_224 8), .ref (r_224 9), .ref (r_224 10), .ref (r_224 11), .ref (r_224 12), .ref (r_224 13), .ref (r_224 14), .ref (r_224 15), .int (v_225 1), .int (v_225 2), .int (v_225 3), .int (v_225 4), .int (v_225 5), .int (v_225 6), .int (v_225 7), .ref (r_224 16), .int (v_225 8), .ref (r_224 17), .int (v_225 9), .ref (r_224 18), .long q_226, .ref (r_224 19), .ref (r_224 20), .int z_262, .int (v_225 11), .int (v_225 12), .ref (r_224 21), .ref (r_224 22), .int (v_225 13), .ref (r_224 23), .int (v_225 14), .int (v_225 15), .ref (r_224 24), .ref (r_224 25), .ref (r_224 26), .ref (r_224 27), .ref (r_224 28), .ref (r_224 29), .ref (r_224 30), .ref (r_224 31)])) b = f b := tp_fr hfr ho (by decide)
            refine tp_put (cy := cy) (ci := 12) (v := .int z_262) (ty := tyX12 32) (C := RX12) (T := TX12) (N := 49) hx hb hta inlX12 tyX12 tyX12_ok nmX12 hown hK hP hD hS ho.1 hf_250 rfl 32 (by decide) (hta _ wk_933) (fun _ h9 => h9) rfl (tyX12_ok 32 (by decide)) rfl rfl (Nat.le_of_ble_eq_true rfl) dX12_uses_141 (fun H locs hP hD hS => ?_)
            have hP : va_P D vwCl (va_pl L (va_up f_249 o (.inr (12, [.ref (r_224 0), .ref (r_224 1), .int (v_225 0), .ref (r_224 2), .ref (r_224 3), .ref (r_224 4), .ref (r_224 5), .ref (r_224 6), .ref (r_224 7), .ref (r_224 8), .ref (r_224 9), .ref (r_224 10), .ref (r_224 11), .ref (r_224 12), .ref (r_224 13), .ref (r_224 14), .ref (r_224 15), .int (v_225 1), .int (v_225 2), .int (v_225 3), .int (v_225 4), .int (v_225 5), .int (v_225 6), .int (v_225 7), .ref (r_224 16), .int (v_225 8), .ref (r_224 17), .int (v_225 9), .ref (r_224 18), .long q_226, .ref (r_224 19), .ref (r_224 20), .int z_262, .int (v_225 11), .int (v_225 12), .ref (r_224 21), .ref (r_224 22), .int (v_225 13), .ref (r_224 23), .int (v_225 14), .int (v_225 15), .ref (r_224 24), .ref (r_224 25), .ref (r_224 26), .ref (r_224 27), .ref (r_224 28), .ref (r_224 29), .ref (r_224 30), .ref (r_224 31)])))) H := hP
            generalize hfe : va_up f_249 o (.inr (12, [.ref (r_224 0), .ref (r_224 1), .int (v_225 0), .ref (r_224 2), .ref (r_224 3), .ref (r_224 4), .ref (r_224 5), .ref (r_224 6), .ref (r_224 7), .ref (r_224 8), .ref (r_224 9), .ref (r_224 10), .ref (r_224 11), .ref (r_224 12), .ref (r_224 13), .ref (r_224 14), .ref (r_224 15), .int (v_225 1), .int (v_225 2), .int (v_225 3), .int (v_225 4), .int (v_225 5), .int (v_225 6), .int (v_225 7), .ref (r_224 16), .int (v_225 8), .ref (r_224 17), .int (v_225 9), .ref (r_224 18), .long q_226, .ref (r_224 19), .ref (r_224 20), .int z_262, .int (v_225 11), .int (v_225 12), .ref (r_224 21), .ref (r_224 22), .int (v_225 13), .ref (r_224 23), .int (v_225 14), .int (v_225 15), .ref (r_224 24), .ref (r_224 25), .ref (r_224 26), .ref (r_224 27), .ref (r_224 28), .ref (r_224 29), .ref (r_224 30), .ref (r_224 31)])) = f_265 at hP hI9 hfr9
            have hD : va_D A (va_pl L f_265) := tp_D hL hAL
            have hf_266 : f_265 o = .inr (12, [.ref (r_224 0), .ref (r_224 1), .int (v_225 0), .ref (r_224 2), .ref (r_224 3), .ref (r_224 4), .ref (r_224 5), .ref (r_224 6), .ref (r_224 7), .ref (r_224 8), .ref (r_224 9), .ref (r_224 10), .ref (r_224 11), .ref (r_224 12), .ref (r_224 13), .ref (r_224 14), .ref (r_224 15), .int (v_225 1), .int (v_225 2), .int (v_225 3), .int (v_225 4), .int (v_225 5), .int (v_225 6), .int (v_225 7), .ref (r_224 16), .int (v_225 8), .ref (r_224 17), .int (v_225 9), .ref (r_224 18), .long q_226, .ref (r_224 19), .ref (r_224 20), .int z_262, .int (v_225 11), .int (v_225 12), .ref (r_224 21), .ref (r_224 22), .int (v_225 13), .ref (r_224 23), .int (v_225 14), .int (v_225 15), .ref (r_224 24), .ref (r_224 25), .ref (r_224 26), .ref (r_224 27), .ref (r_224 28), .ref (r_224 29), .ref (r_224 30), .ref (r_224 31)]) := by rw [← hfe]; exact va_up_self _ _ _
            clear hfe
            have hI := hI9
            have hfr := hfr9
            clear hI9 hfr9
            have hgr : ∀ κ : tk_K, κ.1 ∉ ([39, 58, 57, 60] : List Nat) → Γ_263 κ = Γ κ := tg_fr hgr eΓ_263 (by decide)
            have hx_267 : (v_225 0).toInt = Γ_263 (39, 0, 0) 0 := hv_264 0 (by decide)
            have hx_268 : (v_225 9).toInt = Γ_263 (39, 0, 0) 9 := hv_264 9 (by decide)
            have hx_269 : z_262.toInt = Γ_263 (39, 0, 0) 10 := hv_264 10 (by decide)
            have hx_270 : (v_225 11).toInt = Γ_263 (39, 0, 0) 11 := hv_264 11 (by decide)
            have hx_271 : (v_225 12).toInt = Γ_263 (39, 0, 0) 12 := hv_264 12 (by decide)
            have hx_272 : (v_225 13).toInt = Γ_263 (39, 0, 0) 13 := hv_264 13 (by decide)
            have hx_273 : (v_225 14).toInt = Γ_263 (39, 0, 0) 14 := hv_264 14 (by decide)
            have hx_274 : (v_225 15).toInt = Γ_263 (39, 0, 0) 15 := hv_264 15 (by decide)
            have hus1 : Γ_263 (60, 300, 0) v6.toInt.toNat = v7.toInt := by rw [eΓ_263, tg_r (by decide)]; exact hsu1
            have hus2 : ∀ j : Nat, ¬ j = v6.toInt.toNat → Γ_263 (60, 300, 0) j = Γ_53 (60, 300, 0) j := fun j q => by rw [eΓ_263, tg_r (by decide)]; exact hsu2 j q
            obtain ⟨z_275, ez_275⟩ : ∃ y : Int32, y = v6 + 1 := ⟨_, rfl⟩
            refine lv_iinc (v := z_275) (lv' := [(6, .int z_275), (8, .int v8), (7, .int v7), (5, .int z_1), (0, .ref o), (1, .int p0), (2, .int p1), (3, .int p2), (4, .int p3)]) hx hb dX12_uses_144 hl (k := 2) rfl (by rw [ez_275]; rfl) (by decide) rfl (fun ls hl => ?_)
            try have iz_275 : z_275.toInt = v6.toInt + 1 := by rw [ez_275]; exact tl_addL v6 1 (by decide) (by omega) (by omega)
            refine lv_goto (tgt := 25) hx hb dX12_uses_147 (by decide) ?_
            exact ih25 (f_265, Γ_263, z_275) H locs ls (by show (300 - z_275.toInt).toNat < (300 - v6.toInt).toNat; omega) ⟨(show 0 ≤ z_275.toInt from (by omega)), (show z_275.toInt ≤ 300 from (by omega)), (show 0 ≤ Γ_263 (39, 0, 0) 10 ∧ Γ_263 (39, 0, 0) 10 ≤ z_275.toInt from (by omega)), (show Γ_263 (39, 0, 0) 11 = p2.toInt ∧ Γ_263 (39, 0, 0) 12 = p3.toInt from (by omega)), (show ∀ j : Nat, (j : Int) < z_275.toInt → ¬ Γ_263 (60, 300, 0) j = 0 → 0 < Γ_263 (39, 0, 0) 10 from (fun j9 q9 q8 => by by_cases q7 : j9 = v6.toInt.toNat; (rw [q7, hus1] at q8; omega); (have q6 := hus j9 (by omega) (by rw [← hus2 j9 q7]; exact q8); omega))), (show Γ_263 (39, 0, 0) 0 = Γ (39, 0, 0) 0 from (by omega)), (show Γ_263 (39, 0, 0) 13 = Γ (39, 0, 0) 13 from (by omega)), (show Γ_263 (39, 0, 0) 14 = Γ (39, 0, 0) 14 from (by omega)), (show Γ_263 (39, 0, 0) 15 = Γ (39, 0, 0) 15 from (by omega)), hP, hI, hfr, hgr, hS, lv_sub hl [0, 3, 4, 5, 6, 7, 8] rfl⟩
          · have c_261 : ¬ v7.toInt = (0 : Int) := tl_neq c_261
            refine lv_iconst (v := 1) hx hb dX12_uses_135 (by decide) ?_
            refine lv_goto (tgt := 140) hx hb dX12_uses_136 (by decide) ?_
            refine lv_iadd hx hb dX12_uses_140 ?_
            refine lv_topi (fun z_276 ez_276 => ?_)
            try have iz_276 : z_276.toInt = (v_225 10).toInt + (1 : Int) := by rw [ez_276]; exact tl_addN (v_225 10) 1 rfl rfl (by omega) (by omega)
            obtain ⟨Γ_277, eΓ_277⟩ : ∃ y : tk_G, y = tg Γ_248 (39, 0, 0) 10 z_276.toInt := ⟨_, rfl⟩
            have hv_278 : ∀ i : Nat, i < 16 → ((upd v_225 10 z_276) i).toInt = Γ_277 (39, 0, 0) i := by rw [eΓ_277, tg_f]; exact tp_gi_upd hv_252
            have hI9 : tp_I cy L K Γ_277 (va_up f_249 o (.inr (12, [.ref (r_224 0), .ref (r_224 1), .int (v_225 0), .ref (r_224 2), .ref (r_224 3), .ref (r_224 4), .ref (r_224 5), .ref (r_224 6), .ref (r_224 7), .ref (r_224 8), .ref (r_224 9), .ref (r_224 10), .ref (r_224 11), .ref (r_224 12), .ref (r_224 13), .ref (r_224 14), .ref (r_224 15), .int (v_225 1), .int (v_225 2), .int (v_225 3), .int (v_225 4), .int (v_225 5), .int (v_225 6), .int (v_225 7), .ref (r_224 16), .int (v_225 8), .ref (r_224 17), .int (v_225 9), .ref (r_224 18), .long q_226, .ref (r_224 19), .ref (r_224 20), .int z_276, .int (v_225 11), .int (v_225 12), .ref (r_224 21), .ref (r_224 22), .int (v_225 13), .ref (r_224 23), .int (v_225 14), .int (v_225 15), .ref (r_224 24), .ref (r_224 25), .ref (r_224 26), .ref (r_224 27), .ref (r_224 28), .ref (r_224 29), .ref (r_224 30), .ref (r_224 31)]))) := by have q9 := hv_278; rw [eΓ_277, tg_f] at q9; rw [eΓ_277]; exact hI.setg hU rfl ho (show tp_o_M L K 0 0 (tgu (Γ_248 (39, 0, 0)) 10 z_276.toInt) _ from ⟨r_224, (upd v_225 10 z_276), q_226, rfl, hr_227, q9⟩)
            have hfr9 : ∀ b, (K b).1 ∉ ([39, 58, 57, 60] : List Nat) → va_up f_249 o (.inr (12, [.ref (r_224 0), .ref (r_224 1), .int (v_225 0), .ref (r_224 2), .ref (r_224 3), .ref (r_224 4), .ref (r_224 5), .ref (r_224 6), .ref (r_224 7), .ref (r_224 8), .ref (r_224 9), .ref (r_224 10), .ref (r_224 11), .ref (r_224 12), .ref (r_224 13), .ref (r_224 14), .ref (r_224 15), .int (v_225 1), .int (v_225 2), .int (v_225 3), .int (v_225 4), .int (v_225 5), .int (v_225 6), .int (v_225 7), .ref (r_224 16), .int (v_225 8), .ref (r_224 17), .int (v_225 9), .ref (r_224 18), .long q_226, .ref (r_224 19), .ref (r_224 20), .int z_276, .int (v_225 11), .int (v_225 12), .ref (r_224 21), .ref (r_224 22), .int (v_225 13), .ref (r_224 23), .int (v_225 14), .int (v_225 15), .ref (r_224 24), .ref (r_224 25), .ref (r_224 26), .ref (r_224 27), .ref (r_224 28), .ref (r_224 29), .ref (r_224 30), .ref (r_224 31)])) b = f b := tp_fr hfr ho (by decide)
            refine tp_put (cy := cy) (ci := 12) (v := .int z_276) (ty := tyX12 32) (C := RX12) (T := TX12) (N := 49) hx hb hta inlX12 tyX12 tyX12_ok nmX12 hown hK hP hD hS ho.1 hf_250 rfl 32 (by decide) (hta _ wk_933) (fun _ h9 => h9) rfl (tyX12_ok 32 (by decide)) rfl rfl (Nat.le_of_ble_eq_true rfl) dX12_uses_141 (fun H locs hP hD hS => ?_)
            have hP : va_P D vwCl (va_pl L (va_up f_249 o (.inr (12, [.ref (r_224 0), .ref (r_224 1), .int (v_225 0), .ref (r_224 2), .ref (r_224 3), .ref (r_224 4), .ref (r_224 5), .ref (r_224 6), .ref (r_224 7), .ref (r_224 8), .ref (r_224 9), .ref (r_224 10), .ref (r_224 11), .ref (r_224 12), .ref (r_224 13), .ref (r_224 14), .ref (r_224 15), .int (v_225 1), .int (v_225 2), .int (v_225 3), .int (v_225 4), .int (v_225 5), .int (v_225 6), .int (v_225 7), .ref (r_224 16), .int (v_225 8), .ref (r_224 17), .int (v_225 9), .ref (r_224 18), .long q_226, .ref (r_224 19), .ref (r_224 20), .int z_276, .int (v_225 11), .int (v_225 12), .ref (r_224 21), .ref (r_224 22), .int (v_225 13), .ref (r_224 23), .int (v_225 14), .int (v_225 15), .ref (r_224 24), .ref (r_224 25), .ref (r_224 26), .ref (r_224 27), .ref (r_224 28), .ref (r_224 29), .ref (r_224 30), .ref (r_224 31)])))) H := hP
            generalize hfe : va_up f_249 o (.inr (12, [.ref (r_224 0), .ref (r_224 1), .int (v_225 0), .ref (r_224 2), .ref (r_224 3), .ref (r_224 4), .ref (r_224 5), .ref (r_224 6), .ref (r_224 7), .ref (r_224 8), .ref (r_224 9), .ref (r_224 10), .ref (r_224 11), .ref (r_224 12), .ref (r_224 13), .ref (r_224 14), .ref (r_224 15), .int (v_225 1), .int (v_225 2), .int (v_225 3), .int (v_225 4), .int (v_225 5), .int (v_225 6), .int (v_225 7), .ref (r_224 16), .int (v_225 8), .ref (r_224 17), .int (v_225 9), .ref (r_224 18), .long q_226, .ref (r_224 19), .ref (r_224 20), .int z_276, .int (v_225 11), .int (v_225 12), .ref (r_224 21), .ref (r_224 22), .int (v_225 13), .ref (r_224 23), .int (v_225 14), .int (v_225 15), .ref (r_224 24), .ref (r_224 25), .ref (r_224 26), .ref (r_224 27), .ref (r_224 28), .ref (r_224 29), .ref (r_224 30), .ref (r_224 31)])) = f_279 at hP hI9 hfr9
            have hD : va_D A (va_pl L f_279) := tp_D hL hAL
            have hf_280 : f_279 o = .inr (12, [.ref (r_224 0), .ref (r_224 1), .int (v_225 0), .ref (r_224 2), .ref (r_224 3), .ref (r_224 4), .ref (r_224 5), .ref (r_224 6), .ref (r_224 7), .ref (r_224 8), .ref (r_224 9), .ref (r_224 10), .ref (r_224 11), .ref (r_224 12), .ref (r_224 13), .ref (r_224 14), .ref (r_224 15), .int (v_225 1), .int (v_225 2), .int (v_225 3), .int (v_225 4), .int (v_225 5), .int (v_225 6), .int (v_225 7), .ref (r_224 16), .int (v_225 8), .ref (r_224 17), .int (v_225 9), .ref (r_224 18), .long q_226, .ref (r_224 19), .ref (r_224 20), .int z_276, .int (v_225 11), .int (v_225 12), .ref (r_224 21), .ref (r_224 22), .int (v_225 13), .ref (r_224 23), .int (v_225 14), .int (v_225 15), .ref (r_224 24), .ref (r_224 25), .ref (r_224 26), .ref (r_224 27), .ref (r_224 28), .ref (r_224 29), .ref (r_224 30), .ref (r_224 31)]) := by rw [← hfe]; exact va_up_self _ _ _
            clear hfe
            have hI := hI9
            have hfr := hfr9
            clear hI9 hfr9
            have hgr : ∀ κ : tk_K, κ.1 ∉ ([39, 58, 57, 60] : List Nat) → Γ_277 κ = Γ κ := tg_fr hgr eΓ_277 (by decide)
            have hx_281 : (v_225 0).toInt = Γ_277 (39, 0, 0) 0 := hv_278 0 (by decide)
            have hx_282 : (v_225 9).toInt = Γ_277 (39, 0, 0) 9 := hv_278 9 (by decide)
            have hx_283 : z_276.toInt = Γ_277 (39, 0, 0) 10 := hv_278 10 (by decide)
            have hx_284 : (v_225 11).toInt = Γ_277 (39, 0, 0) 11 := hv_278 11 (by decide)
            have hx_285 : (v_225 12).toInt = Γ_277 (39, 0, 0) 12 := hv_278 12 (by decide)
            have hx_286 : (v_225 13).toInt = Γ_277 (39, 0, 0) 13 := hv_278 13 (by decide)
            have hx_287 : (v_225 14).toInt = Γ_277 (39, 0, 0) 14 := hv_278 14 (by decide)
            have hx_288 : (v_225 15).toInt = Γ_277 (39, 0, 0) 15 := hv_278 15 (by decide)
            have hus1 : Γ_277 (60, 300, 0) v6.toInt.toNat = v7.toInt := by rw [eΓ_277, tg_r (by decide)]; exact hsu1
            have hus2 : ∀ j : Nat, ¬ j = v6.toInt.toNat → Γ_277 (60, 300, 0) j = Γ_53 (60, 300, 0) j := fun j q => by rw [eΓ_277, tg_r (by decide)]; exact hsu2 j q
            obtain ⟨z_289, ez_289⟩ : ∃ y : Int32, y = v6 + 1 := ⟨_, rfl⟩
            refine lv_iinc (v := z_289) (lv' := [(6, .int z_289), (8, .int v8), (7, .int v7), (5, .int z_1), (0, .ref o), (1, .int p0), (2, .int p1), (3, .int p2), (4, .int p3)]) hx hb dX12_uses_144 hl (k := 2) rfl (by rw [ez_289]; rfl) (by decide) rfl (fun ls hl => ?_)
            try have iz_289 : z_289.toInt = v6.toInt + 1 := by rw [ez_289]; exact tl_addL v6 1 (by decide) (by omega) (by omega)
            refine lv_goto (tgt := 25) hx hb dX12_uses_147 (by decide) ?_
            exact ih25 (f_279, Γ_277, z_289) H locs ls (by show (300 - z_289.toInt).toNat < (300 - v6.toInt).toNat; omega) ⟨(show 0 ≤ z_289.toInt from (by omega)), (show z_289.toInt ≤ 300 from (by omega)), (show 0 ≤ Γ_277 (39, 0, 0) 10 ∧ Γ_277 (39, 0, 0) 10 ≤ z_289.toInt from (by omega)), (show Γ_277 (39, 0, 0) 11 = p2.toInt ∧ Γ_277 (39, 0, 0) 12 = p3.toInt from (by omega)), (show ∀ j : Nat, (j : Int) < z_289.toInt → ¬ Γ_277 (60, 300, 0) j = 0 → 0 < Γ_277 (39, 0, 0) 10 from (fun j9 q9 q8 => by by_cases q7 : j9 = v6.toInt.toNat; (rw [q7, hus1] at q8; omega); (have q6 := hus j9 (by omega) (by rw [← hus2 j9 q7]; exact q8); omega))), (show Γ_277 (39, 0, 0) 0 = Γ (39, 0, 0) 0 from (by omega)), (show Γ_277 (39, 0, 0) 13 = Γ (39, 0, 0) 13 from (by omega)), (show Γ_277 (39, 0, 0) 14 = Γ (39, 0, 0) 14 from (by omega)), (show Γ_277 (39, 0, 0) 15 = Γ (39, 0, 0) 15 from (by omega)), hP, hI, hfr, hgr, hS, lv_sub hl [0, 3, 4, 5, 6, 7, 8] rfl⟩
        · have c_242 : v8.toInt < z_241.toInt := tl_nle c_242
          refine lv_iload hx hb dX12_uses_87 (lv_at hl 1 rfl) ?_
          refine lv_if_eq (tgt := 116) hx hb dX12_uses_89 (by decide) (fun c_290 => ?_) (fun c_290 => ?_)
          · have c_290 : v7.toInt = (0 : Int) := tl_eq c_290
            refine lv_aload_n hx hb dX12_uses_116 rfl (lv_at hl 4 rfl) ?_
            refine tp_get (cy := cy) (ci := 12) (v := .ref (r_224 20)) (C := RX12) (T := TX12) (N := 49) hx hb hta inlX12 hown hK hP ho.1 hf_223 rfl 31 (by decide) (hta _ wk_170) (fun _ h9 => h9) rfl dX12_uses_117 ?_
            refine lv_iload hx hb dX12_uses_120 (lv_at hl 2 rfl) ?_
            refine lv_iload hx hb dX12_uses_122 (lv_at hl 1 rfl) ?_
            obtain ⟨g_292, hf_291, hg_293⟩ := (show tp_gz cy (300) (Γ_222 (60, 300, 0)) (f_221 (r_224 20)) from hI.at (show tp_r L K 60 300 0 (r_224 20) from hr_227 20 (by decide)))
            have hn_294 : vp_in v6 (300) := tl_in (by omega) (by omega)
            have nz_295 : (vp_nar .boolean v7).toInt = v7.toInt := tl_b01 hv7
            obtain ⟨Γ_296, eΓ_296⟩ : ∃ y : tk_G, y = tg Γ_222 (60, 300, 0) v6.toInt.toNat v7.toInt := ⟨_, rfl⟩
            have hI9 : tp_I cy L K Γ_296 (va_up f_221 (r_224 20) (.inl (cy 2, 300, .inl (upd g_292 v6.toNatClampNeg (vp_nar .boolean v7))))) := by rw [eΓ_296]; exact hI.setg hU rfl (show tp_r L K 60 300 0 (r_224 20) from hr_227 20 (by decide)) (show tp_gz cy (300) (tgu (Γ_222 (60, 300, 0)) v6.toInt.toNat v7.toInt) _ from ⟨_, rfl, tp_gz_upd hg_293 nz_295⟩)
            have hfr9 : ∀ b, (K b).1 ∉ ([39, 58, 57, 60] : List Nat) → va_up f_221 (r_224 20) (.inl (cy 2, 300, .inl (upd g_292 v6.toNatClampNeg (vp_nar .boolean v7)))) b = f b := tp_fr hfr (show tp_r L K 60 300 0 (r_224 20) from hr_227 20 (by decide)) (by decide)
            refine tp_zast (cy := cy) hx hb hK hP hD hS (show tp_r L K 60 300 0 (r_224 20) from hr_227 20 (by decide)).1 hf_291 hn_294 dX12_uses_124 (fun H locs hP hD hS => ?_)
            have hP : va_P D vwCl (va_pl L (va_up f_221 (r_224 20) (.inl (cy 2, 300, .inl (upd g_292 v6.toNatClampNeg (vp_nar .boolean v7)))))) H := hP
            generalize hfe : va_up f_221 (r_224 20) (.inl (cy 2, 300, .inl (upd g_292 v6.toNatClampNeg (vp_nar .boolean v7)))) = f_297 at hP hI9 hfr9
            have hD : va_D A (va_pl L f_297) := tp_D hL hAL
            have hf_298 := (show f_297 o = _ from by rw [← hfe, va_up_ne _ _ (tp_ne ho (show tp_r L K 60 300 0 (r_224 20) from hr_227 20 (by decide)) (by decide))]).trans hf_223
            have hf_299 : f_297 (r_224 20) = .inl (cy 2, 300, .inl (upd g_292 v6.toNatClampNeg (vp_nar .boolean v7))) := by rw [← hfe]; exact va_up_self _ _ _
            clear hfe
            have hI := hI9
            have hfr := hfr9
            clear hI9 hfr9
            have hgr : ∀ κ : tk_K, κ.1 ∉ ([39, 58, 57, 60] : List Nat) → Γ_296 κ = Γ κ := tg_fr hgr eΓ_296 (by decide)
            have hv_300 : ∀ i : Nat, i < 16 → (v_225 i).toInt = Γ_296 (39, 0, 0) i := fun i hi => by rw [eΓ_296, tg_r (by decide)]; exact hv_228 i hi
            have hx_301 : (v_225 0).toInt = Γ_296 (39, 0, 0) 0 := hv_300 0 (by decide)
            have hx_302 : (v_225 9).toInt = Γ_296 (39, 0, 0) 9 := hv_300 9 (by decide)
            have hx_303 : (v_225 10).toInt = Γ_296 (39, 0, 0) 10 := hv_300 10 (by decide)
            have hx_304 : (v_225 11).toInt = Γ_296 (39, 0, 0) 11 := hv_300 11 (by decide)
            have hx_305 : (v_225 12).toInt = Γ_296 (39, 0, 0) 12 := hv_300 12 (by decide)
            have hx_306 : (v_225 13).toInt = Γ_296 (39, 0, 0) 13 := hv_300 13 (by decide)
            have hx_307 : (v_225 14).toInt = Γ_296 (39, 0, 0) 14 := hv_300 14 (by decide)
            have hx_308 : (v_225 15).toInt = Γ_296 (39, 0, 0) 15 := hv_300 15 (by decide)
            have hsu1 : Γ_296 (60, 300, 0) v6.toInt.toNat = v7.toInt := by rw [eΓ_296]; exact tg_s
            have hsu2 : ∀ j : Nat, ¬ j = v6.toInt.toNat → Γ_296 (60, 300, 0) j = Γ_53 (60, 300, 0) j := fun j q => by rw [eΓ_296, tg_i q, iu, hwu]
            refine lv_aload_n hx hb dX12_uses_125 rfl (lv_at hl 4 rfl) ?_
            refine lv_dup hx hb dX12_uses_126 rfl ?_
            refine tp_get (cy := cy) (ci := 12) (v := .int (v_225 10)) (C := RX12) (T := TX12) (N := 49) hx hb hta inlX12 hown hK hP ho.1 hf_298 rfl 32 (by decide) (hta _ wk_933) (fun _ h9 => h9) rfl dX12_uses_127 ?_
            refine lv_iload hx hb dX12_uses_130 (lv_at hl 1 rfl) ?_
            refine lv_if_eq (tgt := 139) hx hb dX12_uses_132 (by decide) (fun c_309 => ?_) (fun c_309 => ?_)
            · have c_309 : v7.toInt = (0 : Int) := tl_eq c_309
              refine lv_iconst (v := 0) hx hb dX12_uses_139 (by decide) ?_
              refine lv_iadd hx hb dX12_uses_140 ?_
              refine lv_topi (fun z_310 ez_310 => ?_)
              try have iz_310 : z_310.toInt = (v_225 10).toInt + (0 : Int) := by rw [ez_310]; exact tl_addN (v_225 10) 0 rfl rfl (by omega) (by omega)
              obtain ⟨Γ_311, eΓ_311⟩ : ∃ y : tk_G, y = tg Γ_296 (39, 0, 0) 10 z_310.toInt := ⟨_, rfl⟩
              have hv_312 : ∀ i : Nat, i < 16 → ((upd v_225 10 z_310) i).toInt = Γ_311 (39, 0, 0) i := by rw [eΓ_311, tg_f]; exact tp_gi_upd hv_300
              have hI9 : tp_I cy L K Γ_311 (va_up f_297 o (.inr (12, [.ref (r_224 0), .ref (r_224 1), .int (v_225 0), .ref (r_224 2), .ref (r_224 3), .ref (r_224 4), .ref (r_224 5), .ref (r_224 6), .ref (r_224 7), .ref (r_224 8), .ref (r_224 9), .ref (r_224 10), .ref (r_224 11), .ref (r_224 12), .ref (r_224 13), .ref (r_224 14), .ref (r_224 15), .int (v_225 1), .int (v_225 2), .int (v_225 3), .int (v_225 4), .int (v_225 5), .int (v_225 6), .int (v_225 7), .ref (r_224 16), .int (v_225 8), .ref (r_224 17), .int (v_225 9), .ref (r_224 18), .long q_226, .ref (r_224 19), .ref (r_224 20), .int z_310, .int (v_225 11), .int (v_225 12), .ref (r_224 21), .ref (r_224 22), .int (v_225 13), .ref (r_224 23), .int (v_225 14), .int (v_225 15), .ref (r_224 24), .ref (r_224 25), .ref (r_224 26), .ref (r_224 27), .ref (r_224 28), .ref (r_224 29), .ref (r_224 30), .ref (r_224 31)]))) := by have q9 := hv_312; rw [eΓ_311, tg_f] at q9; rw [eΓ_311]; exact hI.setg hU rfl ho (show tp_o_M L K 0 0 (tgu (Γ_296 (39, 0, 0)) 10 z_310.toInt) _ from ⟨r_224, (upd v_225 10 z_310), q_226, rfl, hr_227, q9⟩)
              have hfr9 : ∀ b, (K b).1 ∉ ([39, 58, 57, 60] : List Nat) → va_up f_297 o (.inr (12, [.ref (r_224 0), .ref (r_224 1), .int (v_225 0), .ref (r_224 2), .ref (r_224 3), .ref (r_224 4), .ref (r_224 5), .ref (r_224 6), .ref (r_224 7), .ref (r_224 8), .ref (r_224 9), .ref (r_224 10), .ref (r_224 11), .ref (r_224 12), .ref (r_224 13), .ref (r_224 14), .ref (r_224 15), .int (v_225 1), .int (v_225 2), .int (v_225 3), .int (v_225 4), .int (v_225 5), .int (v_225 6), .int (v_225 7), .ref (r_224 16), .int (v_225 8), .ref (r_224 17), .int (v_225 9), .ref (r_224 18), .long q_226, .ref (r_224 19), .ref (r_224 20), .int z_310, .int (v_225 11), .int (v_225 12), .ref (r_224 21), .ref (r_224 22), .int (v_225 13), .ref (r_224 23), .int (v_225 14), .int (v_225 15), .ref (r_224 24), .ref (r_224 25), .ref (r_224 26), .ref (r_224 27), .ref (r_224 28), .ref (r_224 29), .ref (r_224 30), .ref (r_224 31)])) b = f b := tp_fr hfr ho (by decide)
              refine tp_put (cy := cy) (ci := 12) (v := .int z_310) (ty := tyX12 32) (C := RX12) (T := TX12) (N := 49) hx hb hta inlX12 tyX12 tyX12_ok nmX12 hown hK hP hD hS ho.1 hf_298 rfl 32 (by decide) (hta _ wk_933) (fun _ h9 => h9) rfl (tyX12_ok 32 (by decide)) rfl rfl (Nat.le_of_ble_eq_true rfl) dX12_uses_141 (fun H locs hP hD hS => ?_)
              have hP : va_P D vwCl (va_pl L (va_up f_297 o (.inr (12, [.ref (r_224 0), .ref (r_224 1), .int (v_225 0), .ref (r_224 2), .ref (r_224 3), .ref (r_224 4), .ref (r_224 5), .ref (r_224 6), .ref (r_224 7), .ref (r_224 8), .ref (r_224 9), .ref (r_224 10), .ref (r_224 11), .ref (r_224 12), .ref (r_224 13), .ref (r_224 14), .ref (r_224 15), .int (v_225 1), .int (v_225 2), .int (v_225 3), .int (v_225 4), .int (v_225 5), .int (v_225 6), .int (v_225 7), .ref (r_224 16), .int (v_225 8), .ref (r_224 17), .int (v_225 9), .ref (r_224 18), .long q_226, .ref (r_224 19), .ref (r_224 20), .int z_310, .int (v_225 11), .int (v_225 12), .ref (r_224 21), .ref (r_224 22), .int (v_225 13), .ref (r_224 23), .int (v_225 14), .int (v_225 15), .ref (r_224 24), .ref (r_224 25), .ref (r_224 26), .ref (r_224 27), .ref (r_224 28), .ref (r_224 29), .ref (r_224 30), .ref (r_224 31)])))) H := hP
              generalize hfe : va_up f_297 o (.inr (12, [.ref (r_224 0), .ref (r_224 1), .int (v_225 0), .ref (r_224 2), .ref (r_224 3), .ref (r_224 4), .ref (r_224 5), .ref (r_224 6), .ref (r_224 7), .ref (r_224 8), .ref (r_224 9), .ref (r_224 10), .ref (r_224 11), .ref (r_224 12), .ref (r_224 13), .ref (r_224 14), .ref (r_224 15), .int (v_225 1), .int (v_225 2), .int (v_225 3), .int (v_225 4), .int (v_225 5), .int (v_225 6), .int (v_225 7), .ref (r_224 16), .int (v_225 8), .ref (r_224 17), .int (v_225 9), .ref (r_224 18), .long q_226, .ref (r_224 19), .ref (r_224 20), .int z_310, .int (v_225 11), .int (v_225 12), .ref (r_224 21), .ref (r_224 22), .int (v_225 13), .ref (r_224 23), .int (v_225 14), .int (v_225 15), .ref (r_224 24), .ref (r_224 25), .ref (r_224 26), .ref (r_224 27), .ref (r_224 28), .ref (r_224 29), .ref (r_224 30), .ref (r_224 31)])) = f_313 at hP hI9 hfr9
              have hD : va_D A (va_pl L f_313) := tp_D hL hAL
              have hf_314 : f_313 o = .inr (12, [.ref (r_224 0), .ref (r_224 1), .int (v_225 0), .ref (r_224 2), .ref (r_224 3), .ref (r_224 4), .ref (r_224 5), .ref (r_224 6), .ref (r_224 7), .ref (r_224 8), .ref (r_224 9), .ref (r_224 10), .ref (r_224 11), .ref (r_224 12), .ref (r_224 13), .ref (r_224 14), .ref (r_224 15), .int (v_225 1), .int (v_225 2), .int (v_225 3), .int (v_225 4), .int (v_225 5), .int (v_225 6), .int (v_225 7), .ref (r_224 16), .int (v_225 8), .ref (r_224 17), .int (v_225 9), .ref (r_224 18), .long q_226, .ref (r_224 19), .ref (r_224 20), .int z_310, .int (v_225 11), .int (v_225 12), .ref (r_224 21), .ref (r_224 22), .int (v_225 13), .ref (r_224 23), .int (v_225 14), .int (v_225 15), .ref (r_224 24), .ref (r_224 25), .ref (r_224 26), .ref (r_224 27), .ref (r_224 28), .ref (r_224 29), .ref (r_224 30), .ref (r_224 31)]) := by rw [← hfe]; exact va_up_self _ _ _
              clear hfe
              have hI := hI9
              have hfr := hfr9
              clear hI9 hfr9
              have hgr : ∀ κ : tk_K, κ.1 ∉ ([39, 58, 57, 60] : List Nat) → Γ_311 κ = Γ κ := tg_fr hgr eΓ_311 (by decide)
              have hx_315 : (v_225 0).toInt = Γ_311 (39, 0, 0) 0 := hv_312 0 (by decide)
              have hx_316 : (v_225 9).toInt = Γ_311 (39, 0, 0) 9 := hv_312 9 (by decide)
              have hx_317 : z_310.toInt = Γ_311 (39, 0, 0) 10 := hv_312 10 (by decide)
              have hx_318 : (v_225 11).toInt = Γ_311 (39, 0, 0) 11 := hv_312 11 (by decide)
              have hx_319 : (v_225 12).toInt = Γ_311 (39, 0, 0) 12 := hv_312 12 (by decide)
              have hx_320 : (v_225 13).toInt = Γ_311 (39, 0, 0) 13 := hv_312 13 (by decide)
              have hx_321 : (v_225 14).toInt = Γ_311 (39, 0, 0) 14 := hv_312 14 (by decide)
              have hx_322 : (v_225 15).toInt = Γ_311 (39, 0, 0) 15 := hv_312 15 (by decide)
              have hus1 : Γ_311 (60, 300, 0) v6.toInt.toNat = v7.toInt := by rw [eΓ_311, tg_r (by decide)]; exact hsu1
              have hus2 : ∀ j : Nat, ¬ j = v6.toInt.toNat → Γ_311 (60, 300, 0) j = Γ_53 (60, 300, 0) j := fun j q => by rw [eΓ_311, tg_r (by decide)]; exact hsu2 j q
              obtain ⟨z_323, ez_323⟩ : ∃ y : Int32, y = v6 + 1 := ⟨_, rfl⟩
              refine lv_iinc (v := z_323) (lv' := [(6, .int z_323), (8, .int v8), (7, .int v7), (5, .int z_1), (0, .ref o), (1, .int p0), (2, .int p1), (3, .int p2), (4, .int p3)]) hx hb dX12_uses_144 hl (k := 2) rfl (by rw [ez_323]; rfl) (by decide) rfl (fun ls hl => ?_)
              try have iz_323 : z_323.toInt = v6.toInt + 1 := by rw [ez_323]; exact tl_addL v6 1 (by decide) (by omega) (by omega)
              refine lv_goto (tgt := 25) hx hb dX12_uses_147 (by decide) ?_
              exact ih25 (f_313, Γ_311, z_323) H locs ls (by show (300 - z_323.toInt).toNat < (300 - v6.toInt).toNat; omega) ⟨(show 0 ≤ z_323.toInt from (by omega)), (show z_323.toInt ≤ 300 from (by omega)), (show 0 ≤ Γ_311 (39, 0, 0) 10 ∧ Γ_311 (39, 0, 0) 10 ≤ z_323.toInt from (by omega)), (show Γ_311 (39, 0, 0) 11 = p2.toInt ∧ Γ_311 (39, 0, 0) 12 = p3.toInt from (by omega)), (show ∀ j : Nat, (j : Int) < z_323.toInt → ¬ Γ_311 (60, 300, 0) j = 0 → 0 < Γ_311 (39, 0, 0) 10 from (fun j9 q9 q8 => by by_cases q7 : j9 = v6.toInt.toNat; (rw [q7, hus1] at q8; omega); (have q6 := hus j9 (by omega) (by rw [← hus2 j9 q7]; exact q8); omega))), (show Γ_311 (39, 0, 0) 0 = Γ (39, 0, 0) 0 from (by omega)), (show Γ_311 (39, 0, 0) 13 = Γ (39, 0, 0) 13 from (by omega)), (show Γ_311 (39, 0, 0) 14 = Γ (39, 0, 0) 14 from (by omega)), (show Γ_311 (39, 0, 0) 15 = Γ (39, 0, 0) 15 from (by omega)), hP, hI, hfr, hgr, hS, lv_sub hl [0, 3, 4, 5, 6, 7, 8] rfl⟩
            · have c_309 : ¬ v7.toInt = (0 : Int) := tl_neq c_309
              exfalso; omega
          · have c_290 : ¬ v7.toInt = (0 : Int) := tl_neq c_290
            refine lv_aload_n hx hb dX12_uses_92 rfl (lv_at hl 4 rfl) ?_
            refine lv_iload hx hb dX12_uses_93 (lv_at hl 3 rfl) ?_
            refine lv_iload hx hb dX12_uses_95 (lv_at hl 0 rfl) ?_
            refine tq_ciR hS (hAf _ hS.1) (tq_rV (As := [.int z_1, .int v8]) (rest := []) ⟨hx, hb, hml, hown, hta⟩ (tp_P.pre hK hN hL hU hI hP) (tp_recv hK hP ho.1 hf_223 rfl) lk_X12_355 (r_X12_isHolding l D cy H.size L K Γ_222 f_221 o z_1 v8 ho (by first | omega | (simp only [Int32.toInt_toInt64]; omega) | decide | assumption) (by first | omega | (simp only [Int32.toInt_toInt64]; omega) | decide | assumption) (by rw [hgr (45, 1056, 0) (by decide), hgr (43, 8800, 0) (by decide)]; have q9 := htst v8.toInt.toNat (by omega); rw [show ((v8.toInt.toNat : Nat) : Int) = v8.toInt from by omega, show t1 = z_1.toInt from by omega] at q9; exact q9)) rfl rfl ⟨Nat.le_of_ble_eq_true rfl, Nat.le_of_ble_eq_true rfl⟩ rfl hl.1 rfl (Nat.le_of_ble_eq_true rfl) dX12_uses_97 ⟨Nat.le_of_ble_eq_true rfl, Nat.le_of_ble_eq_true rfl⟩) (fun r_325 f_326 Γ_328 H locs hw_324 hP hI hc_327 hcg_329 hS => ?_)
            have hD : va_D A (va_pl L f_326) := tp_D hL hAL
            have hfr := tp_fr2 hfr hc_327 (by decide)
            have hgr : ∀ κ : tk_K, κ.1 ∉ ([39, 58, 57, 60] : List Nat) → Γ_328 κ = Γ κ := tg_fr2 hgr hcg_329 (by decide)
            obtain ⟨hE_330, hw_324⟩ := hw_324
            have hE_330 : tl_J r_325 (True) := hE_330
            have hw_324 : Γ_328 (39, 0, 0) 0 = Γ_222 (39, 0, 0) 0 ∧ Γ_328 (39, 0, 0) 10 = Γ_222 (39, 0, 0) 10 ∧ Γ_328 (39, 0, 0) 11 = Γ_222 (39, 0, 0) 11 ∧ Γ_328 (39, 0, 0) 12 = Γ_222 (39, 0, 0) 12 ∧ Γ_328 (39, 0, 0) 13 = Γ_222 (39, 0, 0) 13 ∧ Γ_328 (39, 0, 0) 14 = Γ_222 (39, 0, 0) 14 ∧ Γ_328 (39, 0, 0) 15 = Γ_222 (39, 0, 0) 15 := hw_324
            refine lv_if_ne (tgt := 107) hx hb dX12_uses_100 (by decide) (fun c_331 => ?_) (fun c_331 => ?_)
            · have c_331 := hE_330.t c_331
              refine lv_iconst (v := 0) hx hb dX12_uses_107 (by decide) ?_
              refine lv_istore (lv' := [(7, .int 0), (8, .int v8), (6, .int v6), (5, .int z_1), (0, .ref o), (1, .int p0), (2, .int p1), (3, .int p2), (4, .int p3)]) hx hb dX12_uses_108 hl (by decide) rfl (fun ls hl => ?_)
              obtain ⟨z_332, ez_332⟩ : ∃ y : Int32, y = v8 + 1 := ⟨_, rfl⟩
              refine lv_iinc (v := z_332) (lv' := [(8, .int z_332), (7, .int 0), (6, .int v6), (5, .int z_1), (0, .ref o), (1, .int p0), (2, .int p1), (3, .int p2), (4, .int p3)]) hx hb dX12_uses_110 hl (k := 1) rfl (by rw [ez_332]; rfl) (by decide) rfl (fun ls hl => ?_)
              try have iz_332 : z_332.toInt = v8.toInt + 1 := by rw [ez_332]; exact tl_addL v8 1 (by decide) (by omega) (by omega)
              refine lv_goto (tgt := 75) hx hb dX12_uses_113 (by decide) ?_
              exact ih75 (f_326, Γ_328, z_332, 0) H locs ls (by show (12 - z_332.toInt).toNat < (12 - v8.toInt).toNat; omega) ⟨(show 0 ≤ z_332.toInt ∧ z_332.toInt ≤ 12 from (by omega)), (show (0 : Int) = 0 ∨ (0 : Int) = 1 from (by decide)), (show Γ_328 (39, 0, 0) 0 = Γ_209 (39, 0, 0) 0 from (by omega)), (show Γ_328 (39, 0, 0) 11 = Γ_209 (39, 0, 0) 11 from (by omega)), (show Γ_328 (39, 0, 0) 12 = Γ_209 (39, 0, 0) 12 from (by omega)), (show Γ_328 (39, 0, 0) 13 = Γ_209 (39, 0, 0) 13 from (by omega)), (show Γ_328 (39, 0, 0) 14 = Γ_209 (39, 0, 0) 14 from (by omega)), (show Γ_328 (39, 0, 0) 15 = Γ_209 (39, 0, 0) 15 from (by omega)), (show Γ_328 (39, 0, 0) 10 = Γ_209 (39, 0, 0) 10 from (by omega)), (show Γ_328 (60, 300, 0) = Γ_209 (60, 300, 0) from ((hcg_329 _ (by decide)).trans iu)), hP, hI, hfr, hgr, hS, lv_sub hl [0, 1, 2, 3, 4, 5, 6, 7, 8] rfl⟩
            · have c_331 := c_331
              refine lv_iconst (v := 1) hx hb dX12_uses_103 (by decide) ?_
              refine lv_goto (tgt := 108) hx hb dX12_uses_104 (by decide) ?_
              refine lv_istore (lv' := [(7, .int 1), (8, .int v8), (6, .int v6), (5, .int z_1), (0, .ref o), (1, .int p0), (2, .int p1), (3, .int p2), (4, .int p3)]) hx hb dX12_uses_108 hl (by decide) rfl (fun ls hl => ?_)
              obtain ⟨z_333, ez_333⟩ : ∃ y : Int32, y = v8 + 1 := ⟨_, rfl⟩
              refine lv_iinc (v := z_333) (lv' := [(8, .int z_333), (7, .int 1), (6, .int v6), (5, .int z_1), (0, .ref o), (1, .int p0), (2, .int p1), (3, .int p2), (4, .int p3)]) hx hb dX12_uses_110 hl (k := 1) rfl (by rw [ez_333]; rfl) (by decide) rfl (fun ls hl => ?_)
              try have iz_333 : z_333.toInt = v8.toInt + 1 := by rw [ez_333]; exact tl_addL v8 1 (by decide) (by omega) (by omega)
              refine lv_goto (tgt := 75) hx hb dX12_uses_113 (by decide) ?_
              exact ih75 (f_326, Γ_328, z_333, 1) H locs ls (by show (12 - z_333.toInt).toNat < (12 - v8.toInt).toNat; omega) ⟨(show 0 ≤ z_333.toInt ∧ z_333.toInt ≤ 12 from (by omega)), (show (1 : Int) = 0 ∨ (1 : Int) = 1 from (by decide)), (show Γ_328 (39, 0, 0) 0 = Γ_209 (39, 0, 0) 0 from (by omega)), (show Γ_328 (39, 0, 0) 11 = Γ_209 (39, 0, 0) 11 from (by omega)), (show Γ_328 (39, 0, 0) 12 = Γ_209 (39, 0, 0) 12 from (by omega)), (show Γ_328 (39, 0, 0) 13 = Γ_209 (39, 0, 0) 13 from (by omega)), (show Γ_328 (39, 0, 0) 14 = Γ_209 (39, 0, 0) 14 from (by omega)), (show Γ_328 (39, 0, 0) 15 = Γ_209 (39, 0, 0) 15 from (by omega)), (show Γ_328 (39, 0, 0) 10 = Γ_209 (39, 0, 0) 10 from (by omega)), (show Γ_328 (60, 300, 0) = Γ_209 (60, 300, 0) from ((hcg_329 _ (by decide)).trans iu)), hP, hI, hfr, hgr, hS, lv_sub hl [0, 1, 2, 3, 4, 5, 6, 7, 8] rfl⟩
      · have c_204 : p2.toInt ≤ v6.toInt := tl_nlt c_204
        refine lv_iload hx hb dX12_uses_51 (lv_at hl 0 rfl) ?_
        refine lv_iload hx hb dX12_uses_53 (lv_at hl 6 rfl) ?_
        refine lv_icmp_le (tgt := 62) hx hb dX12_uses_55 (by decide) (fun c_334 => ?_) (fun c_334 => ?_)
        · have c_334 : v6.toInt ≤ p3.toInt := tl_le c_334
          refine lv_iconst (v := 0) hx hb dX12_uses_62 (by decide) ?_
          refine lv_istore (lv' := [(7, .int 0), (6, .int v6), (5, .int z_1), (0, .ref o), (1, .int p0), (2, .int p1), (3, .int p2), (4, .int p3)]) hx hb dX12_uses_63 hl (by decide) rfl (fun ls hl => ?_)
          refine lv_aload_n hx hb dX12_uses_65 rfl (lv_at hl 3 rfl) ?_
          refine lv_iload_n hx hb dX12_uses_66 rfl (lv_at hl 5 rfl) ?_
          refine lv_iload hx hb dX12_uses_67 (lv_at hl 1 rfl) ?_
          refine tq_cvR hS (hAf _ hS.1) (tq_rV (As := [.int p1, .int v6]) (rest := []) ⟨hx, hb, hml, hown, hta⟩ (tp_P.pre hK hN hL hU hI hP) (tp_recv hK hP ho.1 hf_55 rfl) lk_X12_352 (r_X12_words l D cy H.size L K Γ_53 f_52 o p1 v6 ho (by first | omega | (simp only [Int32.toInt_toInt64]; omega) | decide | assumption)) rfl rfl ⟨Nat.le_of_ble_eq_true rfl, Nat.le_of_ble_eq_true rfl⟩ rfl hl.1 rfl (Nat.le_of_ble_eq_true rfl) dX12_uses_69 ⟨Nat.le_of_ble_eq_true rfl, Nat.le_of_ble_eq_true rfl⟩) (fun f_337 Γ_339 H locs hw_335 hP hI hc_338 hcg_340 hS => ?_)
          have hD : va_D A (va_pl L f_337) := tp_D hL hAL
          have hfr := tp_fr2 hfr hc_338 (by decide)
          have hgr : ∀ κ : tk_K, κ.1 ∉ ([39, 58, 57, 60] : List Nat) → Γ_339 κ = Γ κ := tg_fr2 hgr hcg_340 (by decide)
          have hf_341 := (tp_un hc_338 ho (by decide)).trans hf_55
          have hv_342 : ∀ i : Nat, i < 16 → (v_57 i).toInt = Γ_339 (39, 0, 0) i := fun i hi => by rw [hcg_340 _ (by decide)]; exact hv_60 i hi
          have hx_343 : (v_57 0).toInt = Γ_339 (39, 0, 0) 0 := hv_342 0 (by decide)
          have hx_344 : (v_57 9).toInt = Γ_339 (39, 0, 0) 9 := hv_342 9 (by decide)
          have hx_345 : (v_57 10).toInt = Γ_339 (39, 0, 0) 10 := hv_342 10 (by decide)
          have hx_346 : (v_57 11).toInt = Γ_339 (39, 0, 0) 11 := hv_342 11 (by decide)
          have hx_347 : (v_57 12).toInt = Γ_339 (39, 0, 0) 12 := hv_342 12 (by decide)
          have hx_348 : (v_57 13).toInt = Γ_339 (39, 0, 0) 13 := hv_342 13 (by decide)
          have hx_349 : (v_57 14).toInt = Γ_339 (39, 0, 0) 14 := hv_342 14 (by decide)
          have hx_350 : (v_57 15).toInt = Γ_339 (39, 0, 0) 15 := hv_342 15 (by decide)
          have hwu := hcg_340 (60, 300, 0) (by decide)
          refine lv_iconst (v := 0) hx hb dX12_uses_72 (by decide) ?_
          refine lv_istore (lv' := [(8, .int 0), (7, .int 0), (6, .int v6), (5, .int z_1), (0, .ref o), (1, .int p0), (2, .int p1), (3, .int p2), (4, .int p3)]) hx hb dX12_uses_73 hl (by decide) rfl (fun ls hl => ?_)
          refine tl_ind (G := fun H locs ls => W p l e ((headSpec (tl_w yX12_uses cX12_uses 9 none) ({ frames := 3, cells := 0, slots := 0, locals := 77 })).room) s m #[.ref o, .int p0, .int p1, .int p2, .int p3] below meth c H locs 0 0 (MQ below (va_Qv (fun (u : (Nat → va_E) × tk_G) => 0 ≤ u.2 (39, 0, 0) 10 ∧ (u.2 (39, 0, 0) 11 = p2.toInt ∧ u.2 (39, 0, 0) 12 = p3.toInt) ∧ u.2 (39, 0, 0) 0 = Γ (39, 0, 0) 0 ∧ u.2 (39, 0, 0) 13 = Γ (39, 0, 0) 13 ∧ u.2 (39, 0, 0) 14 = Γ (39, 0, 0) 14 ∧ u.2 (39, 0, 0) 15 = Γ (39, 0, 0) 15 ∧ (∀ j : Nat, j < 300 → ¬ u.2 (60, 300, 0) j = 0 → 0 < u.2 (39, 0, 0) 10)) (tp_BG D cy L K Γ f [39, 58, 57, 60]) A) #[.ref o, .int p0, .int p1, .int p2, .int p3] s 0 0 A) (F0 m 75 ls [])) (α := (Nat → va_E) × tk_G × Int32 × Int32) (fun aq => (12 - aq.2.2.1.toInt).toNat) (fun aq H locs ls => (0 ≤ aq.2.2.1.toInt ∧ aq.2.2.1.toInt ≤ 12) ∧ (aq.2.2.2.toInt = 0 ∨ aq.2.2.2.toInt = 1) ∧ (aq.2.1 (39, 0, 0) 0 = Γ_339 (39, 0, 0) 0) ∧ (aq.2.1 (39, 0, 0) 11 = Γ_339 (39, 0, 0) 11) ∧ (aq.2.1 (39, 0, 0) 12 = Γ_339 (39, 0, 0) 12) ∧ (aq.2.1 (39, 0, 0) 13 = Γ_339 (39, 0, 0) 13) ∧ (aq.2.1 (39, 0, 0) 14 = Γ_339 (39, 0, 0) 14) ∧ (aq.2.1 (39, 0, 0) 15 = Γ_339 (39, 0, 0) 15) ∧ (aq.2.1 (39, 0, 0) 10 = Γ_339 (39, 0, 0) 10) ∧ (aq.2.1 (60, 300, 0) = Γ_339 (60, 300, 0)) ∧ va_P D vwCl (va_pl L aq.1) H ∧ tp_I cy L K aq.2.1 aq.1 ∧ (∀ b, (K b).1 ∉ ([39, 58, 57, 60] : List Nat) → aq.1 b = f b) ∧ (∀ κ : tk_K, κ.1 ∉ ([39, 58, 57, 60] : List Nat) → aq.2.1 κ = Γ κ) ∧ va_S A s.heap H locs ∧ lv_has ls 9 [(8, .int aq.2.2.1), (7, .int aq.2.2.2), (6, .int v6), (5, .int z_1), (0, .ref o), (1, .int p0), (2, .int p1), (3, .int p2), (4, .int p3)]) ?_ (f_337, Γ_339, (0 : Int32), (0 : Int32)) H locs ls ⟨(show 0 ≤ (0 : Int) ∧ (0 : Int) ≤ 12 from (by omega)), (show (0 : Int) = 0 ∨ (0 : Int) = 1 from (by decide)), (show Γ_339 (39, 0, 0) 0 = Γ_339 (39, 0, 0) 0 from (by omega)), (show Γ_339 (39, 0, 0) 11 = Γ_339 (39, 0, 0) 11 from (by omega)), (show Γ_339 (39, 0, 0) 12 = Γ_339 (39, 0, 0) 12 from (by omega)), (show Γ_339 (39, 0, 0) 13 = Γ_339 (39, 0, 0) 13 from (by omega)), (show Γ_339 (39, 0, 0) 14 = Γ_339 (39, 0, 0) 14 from (by omega)), (show Γ_339 (39, 0, 0) 15 = Γ_339 (39, 0, 0) 15 from (by omega)), (show Γ_339 (39, 0, 0) 10 = Γ_339 (39, 0, 0) 10 from (by omega)), (show Γ_339 (60, 300, 0) = Γ_339 (60, 300, 0) from rfl), hP, hI, hfr, hgr, hS, lv_sub hl [0, 1, 2, 3, 4, 5, 6, 7, 8] rfl⟩
          rintro ⟨f_351, Γ_352, v8, v7⟩ H locs ls ⟨h8, hv7, j0, j11, j12, j13, j14, j15, j10, iu, hP, hI, hfr, hgr, hS, hl⟩ ih75
          have hgr : ∀ κ : tk_K, κ.1 ∉ ([39, 58, 57, 60] : List Nat) → Γ_352 κ = Γ κ := hgr
          have hP : va_P D vwCl (va_pl L f_351) H := hP
          have hI : tp_I cy L K Γ_352 f_351 := hI
          have hfr : ∀ b, (K b).1 ∉ ([39, 58, 57, 60] : List Nat) → f_351 b = f b := hfr
          have hD : va_D A (va_pl L f_351) := tp_D hL hAL
          have h8 : 0 ≤ v8.toInt ∧ v8.toInt ≤ 12 := h8
          have hv7 : v7.toInt = 0 ∨ v7.toInt = 1 := hv7
          have j0 : Γ_352 (39, 0, 0) 0 = Γ_339 (39, 0, 0) 0 := j0
          have j11 : Γ_352 (39, 0, 0) 11 = Γ_339 (39, 0, 0) 11 := j11
          have j12 : Γ_352 (39, 0, 0) 12 = Γ_339 (39, 0, 0) 12 := j12
          have j13 : Γ_352 (39, 0, 0) 13 = Γ_339 (39, 0, 0) 13 := j13
          have j14 : Γ_352 (39, 0, 0) 14 = Γ_339 (39, 0, 0) 14 := j14
          have j15 : Γ_352 (39, 0, 0) 15 = Γ_339 (39, 0, 0) 15 := j15
          have j10 : Γ_352 (39, 0, 0) 10 = Γ_339 (39, 0, 0) 10 := j10
          have iu : Γ_352 (60, 300, 0) = Γ_339 (60, 300, 0) := iu
          have hl : lv_has ls 9 [(8, .int v8), (7, .int v7), (6, .int v6), (5, .int z_1), (0, .ref o), (1, .int p0), (2, .int p1), (3, .int p2), (4, .int p3)] := hl
          refine lv_iload hx hb dX12_uses_75 (lv_at hl 0 rfl) ?_
          refine lv_aload_n hx hb dX12_uses_77 rfl (lv_at hl 4 rfl) ?_
          obtain ⟨r_354, v_355, q_356, hf_353, hr_357, hv_358⟩ := (show tp_o_M L K 0 0 (Γ_352 (39, 0, 0)) (f_351 o) from hI.at ho)
          have hx_359 : (v_355 0).toInt = Γ_352 (39, 0, 0) 0 := hv_358 0 (by decide)
          have hx_360 : (v_355 9).toInt = Γ_352 (39, 0, 0) 9 := hv_358 9 (by decide)
          have hx_361 : (v_355 10).toInt = Γ_352 (39, 0, 0) 10 := hv_358 10 (by decide)
          have hx_362 : (v_355 11).toInt = Γ_352 (39, 0, 0) 11 := hv_358 11 (by decide)
          have hx_363 : (v_355 12).toInt = Γ_352 (39, 0, 0) 12 := hv_358 12 (by decide)
          have hx_364 : (v_355 13).toInt = Γ_352 (39, 0, 0) 13 := hv_358 13 (by decide)
          have hx_365 : (v_355 14).toInt = Γ_352 (39, 0, 0) 14 := hv_358 14 (by decide)
          have hx_366 : (v_355 15).toInt = Γ_352 (39, 0, 0) 15 := hv_358 15 (by decide)
          refine tp_get (cy := cy) (ci := 12) (v := .ref (r_354 6)) (C := RX12) (T := TX12) (N := 49) hx hb hta inlX12 hown hK hP ho.1 hf_353 rfl 7 (by decide) (hta _ wk_156) (fun _ h9 => h9) rfl dX12_uses_78 ?_
          refine lv_iload hx hb dX12_uses_81 (lv_at hl 3 rfl) ?_
          obtain ⟨g_368, hf_367, hg_369⟩ := (show tp_gi cy (22) (Γ (46, 22, 0)) (f (r_354 6)) from hI0.at (show tp_r L K 46 22 0 (r_354 6) from hr_357 6 (by decide)))
          have hn_370 : vp_in z_1 (22) := tl_in (by omega) (by omega)
          refine tp_iald (cy := cy) hx hb hK hP (show tp_r L K 46 22 0 (r_354 6) from hr_357 6 (by decide)).1 ((tp_un hfr (show tp_r L K 46 22 0 (r_354 6) from hr_357 6 (by decide)) (by decide)).trans hf_367) hn_370 dX12_uses_83 ?_
          refine lv_topi (fun z_371 ez_371 => ?_)
          have iz_371 : z_371.toInt = Γ (46, 22, 0) z_1.toInt.toNat := by rw [ez_371]; exact hg_369 _ (tp_pin hn_370)
          have hnc9 : z_371.toInt = Γ (46, 22, 0) t1.toNat := iz_371.trans (congrArg _ (by omega))
          refine lv_icmp_ge (tgt := 116) hx hb dX12_uses_84 (by decide) (fun c_372 => ?_) (fun c_372 => ?_)
          · have c_372 : z_371.toInt ≤ v8.toInt := tl_le c_372
            refine lv_aload_n hx hb dX12_uses_116 rfl (lv_at hl 4 rfl) ?_
            refine tp_get (cy := cy) (ci := 12) (v := .ref (r_354 20)) (C := RX12) (T := TX12) (N := 49) hx hb hta inlX12 hown hK hP ho.1 hf_353 rfl 31 (by decide) (hta _ wk_170) (fun _ h9 => h9) rfl dX12_uses_117 ?_
            refine lv_iload hx hb dX12_uses_120 (lv_at hl 2 rfl) ?_
            refine lv_iload hx hb dX12_uses_122 (lv_at hl 1 rfl) ?_
            obtain ⟨g_374, hf_373, hg_375⟩ := (show tp_gz cy (300) (Γ_352 (60, 300, 0)) (f_351 (r_354 20)) from hI.at (show tp_r L K 60 300 0 (r_354 20) from hr_357 20 (by decide)))
            have hn_376 : vp_in v6 (300) := tl_in (by omega) (by omega)
            have nz_377 : (vp_nar .boolean v7).toInt = v7.toInt := tl_b01 hv7
            obtain ⟨Γ_378, eΓ_378⟩ : ∃ y : tk_G, y = tg Γ_352 (60, 300, 0) v6.toInt.toNat v7.toInt := ⟨_, rfl⟩
            have hI9 : tp_I cy L K Γ_378 (va_up f_351 (r_354 20) (.inl (cy 2, 300, .inl (upd g_374 v6.toNatClampNeg (vp_nar .boolean v7))))) := by rw [eΓ_378]; exact hI.setg hU rfl (show tp_r L K 60 300 0 (r_354 20) from hr_357 20 (by decide)) (show tp_gz cy (300) (tgu (Γ_352 (60, 300, 0)) v6.toInt.toNat v7.toInt) _ from ⟨_, rfl, tp_gz_upd hg_375 nz_377⟩)
            have hfr9 : ∀ b, (K b).1 ∉ ([39, 58, 57, 60] : List Nat) → va_up f_351 (r_354 20) (.inl (cy 2, 300, .inl (upd g_374 v6.toNatClampNeg (vp_nar .boolean v7)))) b = f b := tp_fr hfr (show tp_r L K 60 300 0 (r_354 20) from hr_357 20 (by decide)) (by decide)
            refine tp_zast (cy := cy) hx hb hK hP hD hS (show tp_r L K 60 300 0 (r_354 20) from hr_357 20 (by decide)).1 hf_373 hn_376 dX12_uses_124 (fun H locs hP hD hS => ?_)
            have hP : va_P D vwCl (va_pl L (va_up f_351 (r_354 20) (.inl (cy 2, 300, .inl (upd g_374 v6.toNatClampNeg (vp_nar .boolean v7)))))) H := hP
            generalize hfe : va_up f_351 (r_354 20) (.inl (cy 2, 300, .inl (upd g_374 v6.toNatClampNeg (vp_nar .boolean v7)))) = f_379 at hP hI9 hfr9
            have hD : va_D A (va_pl L f_379) := tp_D hL hAL
            have hf_380 := (show f_379 o = _ from by rw [← hfe, va_up_ne _ _ (tp_ne ho (show tp_r L K 60 300 0 (r_354 20) from hr_357 20 (by decide)) (by decide))]).trans hf_353
            have hf_381 : f_379 (r_354 20) = .inl (cy 2, 300, .inl (upd g_374 v6.toNatClampNeg (vp_nar .boolean v7))) := by rw [← hfe]; exact va_up_self _ _ _
            clear hfe
            have hI := hI9
            have hfr := hfr9
            clear hI9 hfr9
            have hgr : ∀ κ : tk_K, κ.1 ∉ ([39, 58, 57, 60] : List Nat) → Γ_378 κ = Γ κ := tg_fr hgr eΓ_378 (by decide)
            have hv_382 : ∀ i : Nat, i < 16 → (v_355 i).toInt = Γ_378 (39, 0, 0) i := fun i hi => by rw [eΓ_378, tg_r (by decide)]; exact hv_358 i hi
            have hx_383 : (v_355 0).toInt = Γ_378 (39, 0, 0) 0 := hv_382 0 (by decide)
            have hx_384 : (v_355 9).toInt = Γ_378 (39, 0, 0) 9 := hv_382 9 (by decide)
            have hx_385 : (v_355 10).toInt = Γ_378 (39, 0, 0) 10 := hv_382 10 (by decide)
            have hx_386 : (v_355 11).toInt = Γ_378 (39, 0, 0) 11 := hv_382 11 (by decide)
            have hx_387 : (v_355 12).toInt = Γ_378 (39, 0, 0) 12 := hv_382 12 (by decide)
            have hx_388 : (v_355 13).toInt = Γ_378 (39, 0, 0) 13 := hv_382 13 (by decide)
            have hx_389 : (v_355 14).toInt = Γ_378 (39, 0, 0) 14 := hv_382 14 (by decide)
            have hx_390 : (v_355 15).toInt = Γ_378 (39, 0, 0) 15 := hv_382 15 (by decide)
            have hsu1 : Γ_378 (60, 300, 0) v6.toInt.toNat = v7.toInt := by rw [eΓ_378]; exact tg_s
            have hsu2 : ∀ j : Nat, ¬ j = v6.toInt.toNat → Γ_378 (60, 300, 0) j = Γ_53 (60, 300, 0) j := fun j q => by rw [eΓ_378, tg_i q, iu, hwu]
            refine lv_aload_n hx hb dX12_uses_125 rfl (lv_at hl 4 rfl) ?_
            refine lv_dup hx hb dX12_uses_126 rfl ?_
            refine tp_get (cy := cy) (ci := 12) (v := .int (v_355 10)) (C := RX12) (T := TX12) (N := 49) hx hb hta inlX12 hown hK hP ho.1 hf_380 rfl 32 (by decide) (hta _ wk_933) (fun _ h9 => h9) rfl dX12_uses_127 ?_
            refine lv_iload hx hb dX12_uses_130 (lv_at hl 1 rfl) ?_
            refine lv_if_eq (tgt := 139) hx hb dX12_uses_132 (by decide) (fun c_391 => ?_) (fun c_391 => ?_)
            · have c_391 : v7.toInt = (0 : Int) := tl_eq c_391
              refine lv_iconst (v := 0) hx hb dX12_uses_139 (by decide) ?_
              refine lv_iadd hx hb dX12_uses_140 ?_
              refine lv_topi (fun z_392 ez_392 => ?_)
              try have iz_392 : z_392.toInt = (v_355 10).toInt + (0 : Int) := by rw [ez_392]; exact tl_addN (v_355 10) 0 rfl rfl (by omega) (by omega)
              obtain ⟨Γ_393, eΓ_393⟩ : ∃ y : tk_G, y = tg Γ_378 (39, 0, 0) 10 z_392.toInt := ⟨_, rfl⟩
              have hv_394 : ∀ i : Nat, i < 16 → ((upd v_355 10 z_392) i).toInt = Γ_393 (39, 0, 0) i := by rw [eΓ_393, tg_f]; exact tp_gi_upd hv_382
              have hI9 : tp_I cy L K Γ_393 (va_up f_379 o (.inr (12, [.ref (r_354 0), .ref (r_354 1), .int (v_355 0), .ref (r_354 2), .ref (r_354 3), .ref (r_354 4), .ref (r_354 5), .ref (r_354 6), .ref (r_354 7), .ref (r_354 8), .ref (r_354 9), .ref (r_354 10), .ref (r_354 11), .ref (r_354 12), .ref (r_354 13), .ref (r_354 14), .ref (r_354 15), .int (v_355 1), .int (v_355 2), .int (v_355 3), .int (v_355 4), .int (v_355 5), .int (v_355 6), .int (v_355 7), .ref (r_354 16), .int (v_355 8), .ref (r_354 17), .int (v_355 9), .ref (r_354 18), .long q_356, .ref (r_354 19), .ref (r_354 20), .int z_392, .int (v_355 11), .int (v_355 12), .ref (r_354 21), .ref (r_354 22), .int (v_355 13), .ref (r_354 23), .int (v_355 14), .int (v_355 15), .ref (r_354 24), .ref (r_354 25), .ref (r_354 26), .ref (r_354 27), .ref (r_354 28), .ref (r_354 29), .ref (r_354 30), .ref (r_354 31)]))) := by have q9 := hv_394; rw [eΓ_393, tg_f] at q9; rw [eΓ_393]; exact hI.setg hU rfl ho (show tp_o_M L K 0 0 (tgu (Γ_378 (39, 0, 0)) 10 z_392.toInt) _ from ⟨r_354, (upd v_355 10 z_392), q_356, rfl, hr_357, q9⟩)
              have hfr9 : ∀ b, (K b).1 ∉ ([39, 58, 57, 60] : List Nat) → va_up f_379 o (.inr (12, [.ref (r_354 0), .ref (r_354 1), .int (v_355 0), .ref (r_354 2), .ref (r_354 3), .ref (r_354 4), .ref (r_354 5), .ref (r_354 6), .ref (r_354 7), .ref (r_354 8), .ref (r_354 9), .ref (r_354 10), .ref (r_354 11), .ref (r_354 12), .ref (r_354 13), .ref (r_354 14), .ref (r_354 15), .int (v_355 1), .int (v_355 2), .int (v_355 3), .int (v_355 4), .int (v_355 5), .int (v_355 6), .int (v_355 7), .ref (r_354 16), .int (v_355 8), .ref (r_354 17), .int (v_355 9), .ref (r_354 18), .long q_356, .ref (r_354 19), .ref (r_354 20), .int z_392, .int (v_355 11), .int (v_355 12), .ref (r_354 21), .ref (r_354 22), .int (v_355 13), .ref (r_354 23), .int (v_355 14), .int (v_355 15), .ref (r_354 24), .ref (r_354 25), .ref (r_354 26), .ref (r_354 27), .ref (r_354 28), .ref (r_354 29), .ref (r_354 30), .ref (r_354 31)])) b = f b := tp_fr hfr ho (by decide)
              refine tp_put (cy := cy) (ci := 12) (v := .int z_392) (ty := tyX12 32) (C := RX12) (T := TX12) (N := 49) hx hb hta inlX12 tyX12 tyX12_ok nmX12 hown hK hP hD hS ho.1 hf_380 rfl 32 (by decide) (hta _ wk_933) (fun _ h9 => h9) rfl (tyX12_ok 32 (by decide)) rfl rfl (Nat.le_of_ble_eq_true rfl) dX12_uses_141 (fun H locs hP hD hS => ?_)
              have hP : va_P D vwCl (va_pl L (va_up f_379 o (.inr (12, [.ref (r_354 0), .ref (r_354 1), .int (v_355 0), .ref (r_354 2), .ref (r_354 3), .ref (r_354 4), .ref (r_354 5), .ref (r_354 6), .ref (r_354 7), .ref (r_354 8), .ref (r_354 9), .ref (r_354 10), .ref (r_354 11), .ref (r_354 12), .ref (r_354 13), .ref (r_354 14), .ref (r_354 15), .int (v_355 1), .int (v_355 2), .int (v_355 3), .int (v_355 4), .int (v_355 5), .int (v_355 6), .int (v_355 7), .ref (r_354 16), .int (v_355 8), .ref (r_354 17), .int (v_355 9), .ref (r_354 18), .long q_356, .ref (r_354 19), .ref (r_354 20), .int z_392, .int (v_355 11), .int (v_355 12), .ref (r_354 21), .ref (r_354 22), .int (v_355 13), .ref (r_354 23), .int (v_355 14), .int (v_355 15), .ref (r_354 24), .ref (r_354 25), .ref (r_354 26), .ref (r_354 27), .ref (r_354 28), .ref (r_354 29), .ref (r_354 30), .ref (r_354 31)])))) H := hP
              generalize hfe : va_up f_379 o (.inr (12, [.ref (r_354 0), .ref (r_354 1), .int (v_355 0), .ref (r_354 2), .ref (r_354 3), .ref (r_354 4), .ref (r_354 5), .ref (r_354 6), .ref (r_354 7), .ref (r_354 8), .ref (r_354 9), .ref (r_354 10), .ref (r_354 11), .ref (r_354 12), .ref (r_354 13), .ref (r_354 14), .ref (r_354 15), .int (v_355 1), .int (v_355 2), .int (v_355 3), .int (v_355 4), .int (v_355 5), .int (v_355 6), .int (v_355 7), .ref (r_354 16), .int (v_355 8), .ref (r_354 17), .int (v_355 9), .ref (r_354 18), .long q_356, .ref (r_354 19), .ref (r_354 20), .int z_392, .int (v_355 11), .int (v_355 12), .ref (r_354 21), .ref (r_354 22), .int (v_355 13), .ref (r_354 23), .int (v_355 14), .int (v_355 15), .ref (r_354 24), .ref (r_354 25), .ref (r_354 26), .ref (r_354 27), .ref (r_354 28), .ref (r_354 29), .ref (r_354 30), .ref (r_354 31)])) = f_395 at hP hI9 hfr9
              have hD : va_D A (va_pl L f_395) := tp_D hL hAL
              have hf_396 : f_395 o = .inr (12, [.ref (r_354 0), .ref (r_354 1), .int (v_355 0), .ref (r_354 2), .ref (r_354 3), .ref (r_354 4), .ref (r_354 5), .ref (r_354 6), .ref (r_354 7), .ref (r_354 8), .ref (r_354 9), .ref (r_354 10), .ref (r_354 11), .ref (r_354 12), .ref (r_354 13), .ref (r_354 14), .ref (r_354 15), .int (v_355 1), .int (v_355 2), .int (v_355 3), .int (v_355 4), .int (v_355 5), .int (v_355 6), .int (v_355 7), .ref (r_354 16), .int (v_355 8), .ref (r_354 17), .int (v_355 9), .ref (r_354 18), .long q_356, .ref (r_354 19), .ref (r_354 20), .int z_392, .int (v_355 11), .int (v_355 12), .ref (r_354 21), .ref (r_354 22), .int (v_355 13), .ref (r_354 23), .int (v_355 14), .int (v_355 15), .ref (r_354 24), .ref (r_354 25), .ref (r_354 26), .ref (r_354 27), .ref (r_354 28), .ref (r_354 29), .ref (r_354 30), .ref (r_354 31)]) := by rw [← hfe]; exact va_up_self _ _ _
              clear hfe
              have hI := hI9
              have hfr := hfr9
              clear hI9 hfr9
              have hgr : ∀ κ : tk_K, κ.1 ∉ ([39, 58, 57, 60] : List Nat) → Γ_393 κ = Γ κ := tg_fr hgr eΓ_393 (by decide)
              have hx_397 : (v_355 0).toInt = Γ_393 (39, 0, 0) 0 := hv_394 0 (by decide)
              have hx_398 : (v_355 9).toInt = Γ_393 (39, 0, 0) 9 := hv_394 9 (by decide)
              have hx_399 : z_392.toInt = Γ_393 (39, 0, 0) 10 := hv_394 10 (by decide)
              have hx_400 : (v_355 11).toInt = Γ_393 (39, 0, 0) 11 := hv_394 11 (by decide)
              have hx_401 : (v_355 12).toInt = Γ_393 (39, 0, 0) 12 := hv_394 12 (by decide)
              have hx_402 : (v_355 13).toInt = Γ_393 (39, 0, 0) 13 := hv_394 13 (by decide)
              have hx_403 : (v_355 14).toInt = Γ_393 (39, 0, 0) 14 := hv_394 14 (by decide)
              have hx_404 : (v_355 15).toInt = Γ_393 (39, 0, 0) 15 := hv_394 15 (by decide)
              have hus1 : Γ_393 (60, 300, 0) v6.toInt.toNat = v7.toInt := by rw [eΓ_393, tg_r (by decide)]; exact hsu1
              have hus2 : ∀ j : Nat, ¬ j = v6.toInt.toNat → Γ_393 (60, 300, 0) j = Γ_53 (60, 300, 0) j := fun j q => by rw [eΓ_393, tg_r (by decide)]; exact hsu2 j q
              obtain ⟨z_405, ez_405⟩ : ∃ y : Int32, y = v6 + 1 := ⟨_, rfl⟩
              refine lv_iinc (v := z_405) (lv' := [(6, .int z_405), (8, .int v8), (7, .int v7), (5, .int z_1), (0, .ref o), (1, .int p0), (2, .int p1), (3, .int p2), (4, .int p3)]) hx hb dX12_uses_144 hl (k := 2) rfl (by rw [ez_405]; rfl) (by decide) rfl (fun ls hl => ?_)
              try have iz_405 : z_405.toInt = v6.toInt + 1 := by rw [ez_405]; exact tl_addL v6 1 (by decide) (by omega) (by omega)
              refine lv_goto (tgt := 25) hx hb dX12_uses_147 (by decide) ?_
              exact ih25 (f_395, Γ_393, z_405) H locs ls (by show (300 - z_405.toInt).toNat < (300 - v6.toInt).toNat; omega) ⟨(show 0 ≤ z_405.toInt from (by omega)), (show z_405.toInt ≤ 300 from (by omega)), (show 0 ≤ Γ_393 (39, 0, 0) 10 ∧ Γ_393 (39, 0, 0) 10 ≤ z_405.toInt from (by omega)), (show Γ_393 (39, 0, 0) 11 = p2.toInt ∧ Γ_393 (39, 0, 0) 12 = p3.toInt from (by omega)), (show ∀ j : Nat, (j : Int) < z_405.toInt → ¬ Γ_393 (60, 300, 0) j = 0 → 0 < Γ_393 (39, 0, 0) 10 from (fun j9 q9 q8 => by by_cases q7 : j9 = v6.toInt.toNat; (rw [q7, hus1] at q8; omega); (have q6 := hus j9 (by omega) (by rw [← hus2 j9 q7]; exact q8); omega))), (show Γ_393 (39, 0, 0) 0 = Γ (39, 0, 0) 0 from (by omega)), (show Γ_393 (39, 0, 0) 13 = Γ (39, 0, 0) 13 from (by omega)), (show Γ_393 (39, 0, 0) 14 = Γ (39, 0, 0) 14 from (by omega)), (show Γ_393 (39, 0, 0) 15 = Γ (39, 0, 0) 15 from (by omega)), hP, hI, hfr, hgr, hS, lv_sub hl [0, 3, 4, 5, 6, 7, 8] rfl⟩
            · have c_391 : ¬ v7.toInt = (0 : Int) := tl_neq c_391
              refine lv_iconst (v := 1) hx hb dX12_uses_135 (by decide) ?_
              refine lv_goto (tgt := 140) hx hb dX12_uses_136 (by decide) ?_
              refine lv_iadd hx hb dX12_uses_140 ?_
              refine lv_topi (fun z_406 ez_406 => ?_)
              try have iz_406 : z_406.toInt = (v_355 10).toInt + (1 : Int) := by rw [ez_406]; exact tl_addN (v_355 10) 1 rfl rfl (by omega) (by omega)
              obtain ⟨Γ_407, eΓ_407⟩ : ∃ y : tk_G, y = tg Γ_378 (39, 0, 0) 10 z_406.toInt := ⟨_, rfl⟩
              have hv_408 : ∀ i : Nat, i < 16 → ((upd v_355 10 z_406) i).toInt = Γ_407 (39, 0, 0) i := by rw [eΓ_407, tg_f]; exact tp_gi_upd hv_382
              have hI9 : tp_I cy L K Γ_407 (va_up f_379 o (.inr (12, [.ref (r_354 0), .ref (r_354 1), .int (v_355 0), .ref (r_354 2), .ref (r_354 3), .ref (r_354 4), .ref (r_354 5), .ref (r_354 6), .ref (r_354 7), .ref (r_354 8), .ref (r_354 9), .ref (r_354 10), .ref (r_354 11), .ref (r_354 12), .ref (r_354 13), .ref (r_354 14), .ref (r_354 15), .int (v_355 1), .int (v_355 2), .int (v_355 3), .int (v_355 4), .int (v_355 5), .int (v_355 6), .int (v_355 7), .ref (r_354 16), .int (v_355 8), .ref (r_354 17), .int (v_355 9), .ref (r_354 18), .long q_356, .ref (r_354 19), .ref (r_354 20), .int z_406, .int (v_355 11), .int (v_355 12), .ref (r_354 21), .ref (r_354 22), .int (v_355 13), .ref (r_354 23), .int (v_355 14), .int (v_355 15), .ref (r_354 24), .ref (r_354 25), .ref (r_354 26), .ref (r_354 27), .ref (r_354 28), .ref (r_354 29), .ref (r_354 30), .ref (r_354 31)]))) := by have q9 := hv_408; rw [eΓ_407, tg_f] at q9; rw [eΓ_407]; exact hI.setg hU rfl ho (show tp_o_M L K 0 0 (tgu (Γ_378 (39, 0, 0)) 10 z_406.toInt) _ from ⟨r_354, (upd v_355 10 z_406), q_356, rfl, hr_357, q9⟩)
              have hfr9 : ∀ b, (K b).1 ∉ ([39, 58, 57, 60] : List Nat) → va_up f_379 o (.inr (12, [.ref (r_354 0), .ref (r_354 1), .int (v_355 0), .ref (r_354 2), .ref (r_354 3), .ref (r_354 4), .ref (r_354 5), .ref (r_354 6), .ref (r_354 7), .ref (r_354 8), .ref (r_354 9), .ref (r_354 10), .ref (r_354 11), .ref (r_354 12), .ref (r_354 13), .ref (r_354 14), .ref (r_354 15), .int (v_355 1), .int (v_355 2), .int (v_355 3), .int (v_355 4), .int (v_355 5), .int (v_355 6), .int (v_355 7), .ref (r_354 16), .int (v_355 8), .ref (r_354 17), .int (v_355 9), .ref (r_354 18), .long q_356, .ref (r_354 19), .ref (r_354 20), .int z_406, .int (v_355 11), .int (v_355 12), .ref (r_354 21), .ref (r_354 22), .int (v_355 13), .ref (r_354 23), .int (v_355 14), .int (v_355 15), .ref (r_354 24), .ref (r_354 25), .ref (r_354 26), .ref (r_354 27), .ref (r_354 28), .ref (r_354 29), .ref (r_354 30), .ref (r_354 31)])) b = f b := tp_fr hfr ho (by decide)
              refine tp_put (cy := cy) (ci := 12) (v := .int z_406) (ty := tyX12 32) (C := RX12) (T := TX12) (N := 49) hx hb hta inlX12 tyX12 tyX12_ok nmX12 hown hK hP hD hS ho.1 hf_380 rfl 32 (by decide) (hta _ wk_933) (fun _ h9 => h9) rfl (tyX12_ok 32 (by decide)) rfl rfl (Nat.le_of_ble_eq_true rfl) dX12_uses_141 (fun H locs hP hD hS => ?_)
              have hP : va_P D vwCl (va_pl L (va_up f_379 o (.inr (12, [.ref (r_354 0), .ref (r_354 1), .int (v_355 0), .ref (r_354 2), .ref (r_354 3), .ref (r_354 4), .ref (r_354 5), .ref (r_354 6), .ref (r_354 7), .ref (r_354 8), .ref (r_354 9), .ref (r_354 10), .ref (r_354 11), .ref (r_354 12), .ref (r_354 13), .ref (r_354 14), .ref (r_354 15), .int (v_355 1), .int (v_355 2), .int (v_355 3), .int (v_355 4), .int (v_355 5), .int (v_355 6), .int (v_355 7), .ref (r_354 16), .int (v_355 8), .ref (r_354 17), .int (v_355 9), .ref (r_354 18), .long q_356, .ref (r_354 19), .ref (r_354 20), .int z_406, .int (v_355 11), .int (v_355 12), .ref (r_354 21), .ref (r_354 22), .int (v_355 13), .ref (r_354 23), .int (v_355 14), .int (v_355 15), .ref (r_354 24), .ref (r_354 25), .ref (r_354 26), .ref (r_354 27), .ref (r_354 28), .ref (r_354 29), .ref (r_354 30), .ref (r_354 31)])))) H := hP
              generalize hfe : va_up f_379 o (.inr (12, [.ref (r_354 0), .ref (r_354 1), .int (v_355 0), .ref (r_354 2), .ref (r_354 3), .ref (r_354 4), .ref (r_354 5), .ref (r_354 6), .ref (r_354 7), .ref (r_354 8), .ref (r_354 9), .ref (r_354 10), .ref (r_354 11), .ref (r_354 12), .ref (r_354 13), .ref (r_354 14), .ref (r_354 15), .int (v_355 1), .int (v_355 2), .int (v_355 3), .int (v_355 4), .int (v_355 5), .int (v_355 6), .int (v_355 7), .ref (r_354 16), .int (v_355 8), .ref (r_354 17), .int (v_355 9), .ref (r_354 18), .long q_356, .ref (r_354 19), .ref (r_354 20), .int z_406, .int (v_355 11), .int (v_355 12), .ref (r_354 21), .ref (r_354 22), .int (v_355 13), .ref (r_354 23), .int (v_355 14), .int (v_355 15), .ref (r_354 24), .ref (r_354 25), .ref (r_354 26), .ref (r_354 27), .ref (r_354 28), .ref (r_354 29), .ref (r_354 30), .ref (r_354 31)])) = f_409 at hP hI9 hfr9
              have hD : va_D A (va_pl L f_409) := tp_D hL hAL
              have hf_410 : f_409 o = .inr (12, [.ref (r_354 0), .ref (r_354 1), .int (v_355 0), .ref (r_354 2), .ref (r_354 3), .ref (r_354 4), .ref (r_354 5), .ref (r_354 6), .ref (r_354 7), .ref (r_354 8), .ref (r_354 9), .ref (r_354 10), .ref (r_354 11), .ref (r_354 12), .ref (r_354 13), .ref (r_354 14), .ref (r_354 15), .int (v_355 1), .int (v_355 2), .int (v_355 3), .int (v_355 4), .int (v_355 5), .int (v_355 6), .int (v_355 7), .ref (r_354 16), .int (v_355 8), .ref (r_354 17), .int (v_355 9), .ref (r_354 18), .long q_356, .ref (r_354 19), .ref (r_354 20), .int z_406, .int (v_355 11), .int (v_355 12), .ref (r_354 21), .ref (r_354 22), .int (v_355 13), .ref (r_354 23), .int (v_355 14), .int (v_355 15), .ref (r_354 24), .ref (r_354 25), .ref (r_354 26), .ref (r_354 27), .ref (r_354 28), .ref (r_354 29), .ref (r_354 30), .ref (r_354 31)]) := by rw [← hfe]; exact va_up_self _ _ _
              clear hfe
              have hI := hI9
              have hfr := hfr9
              clear hI9 hfr9
              have hgr : ∀ κ : tk_K, κ.1 ∉ ([39, 58, 57, 60] : List Nat) → Γ_407 κ = Γ κ := tg_fr hgr eΓ_407 (by decide)
              have hx_411 : (v_355 0).toInt = Γ_407 (39, 0, 0) 0 := hv_408 0 (by decide)
              have hx_412 : (v_355 9).toInt = Γ_407 (39, 0, 0) 9 := hv_408 9 (by decide)
              have hx_413 : z_406.toInt = Γ_407 (39, 0, 0) 10 := hv_408 10 (by decide)
              have hx_414 : (v_355 11).toInt = Γ_407 (39, 0, 0) 11 := hv_408 11 (by decide)
              have hx_415 : (v_355 12).toInt = Γ_407 (39, 0, 0) 12 := hv_408 12 (by decide)
              have hx_416 : (v_355 13).toInt = Γ_407 (39, 0, 0) 13 := hv_408 13 (by decide)
              have hx_417 : (v_355 14).toInt = Γ_407 (39, 0, 0) 14 := hv_408 14 (by decide)
              have hx_418 : (v_355 15).toInt = Γ_407 (39, 0, 0) 15 := hv_408 15 (by decide)
              have hus1 : Γ_407 (60, 300, 0) v6.toInt.toNat = v7.toInt := by rw [eΓ_407, tg_r (by decide)]; exact hsu1
              have hus2 : ∀ j : Nat, ¬ j = v6.toInt.toNat → Γ_407 (60, 300, 0) j = Γ_53 (60, 300, 0) j := fun j q => by rw [eΓ_407, tg_r (by decide)]; exact hsu2 j q
              obtain ⟨z_419, ez_419⟩ : ∃ y : Int32, y = v6 + 1 := ⟨_, rfl⟩
              refine lv_iinc (v := z_419) (lv' := [(6, .int z_419), (8, .int v8), (7, .int v7), (5, .int z_1), (0, .ref o), (1, .int p0), (2, .int p1), (3, .int p2), (4, .int p3)]) hx hb dX12_uses_144 hl (k := 2) rfl (by rw [ez_419]; rfl) (by decide) rfl (fun ls hl => ?_)
              try have iz_419 : z_419.toInt = v6.toInt + 1 := by rw [ez_419]; exact tl_addL v6 1 (by decide) (by omega) (by omega)
              refine lv_goto (tgt := 25) hx hb dX12_uses_147 (by decide) ?_
              exact ih25 (f_409, Γ_407, z_419) H locs ls (by show (300 - z_419.toInt).toNat < (300 - v6.toInt).toNat; omega) ⟨(show 0 ≤ z_419.toInt from (by omega)), (show z_419.toInt ≤ 300 from (by omega)), (show 0 ≤ Γ_407 (39, 0, 0) 10 ∧ Γ_407 (39, 0, 0) 10 ≤ z_419.toInt from (by omega)), (show Γ_407 (39, 0, 0) 11 = p2.toInt ∧ Γ_407 (39, 0, 0) 12 = p3.toInt from (by omega)), (show ∀ j : Nat, (j : Int) < z_419.toInt → ¬ Γ_407 (60, 300, 0) j = 0 → 0 < Γ_407 (39, 0, 0) 10 from (fun j9 q9 q8 => by by_cases q7 : j9 = v6.toInt.toNat; (rw [q7, hus1] at q8; omega); (have q6 := hus j9 (by omega) (by rw [← hus2 j9 q7]; exact q8); omega))), (show Γ_407 (39, 0, 0) 0 = Γ (39, 0, 0) 0 from (by omega)), (show Γ_407 (39, 0, 0) 13 = Γ (39, 0, 0) 13 from (by omega)), (show Γ_407 (39, 0, 0) 14 = Γ (39, 0, 0) 14 from (by omega)), (show Γ_407 (39, 0, 0) 15 = Γ (39, 0, 0) 15 from (by omega)), hP, hI, hfr, hgr, hS, lv_sub hl [0, 3, 4, 5, 6, 7, 8] rfl⟩
          · have c_372 : v8.toInt < z_371.toInt := tl_nle c_372
            refine lv_iload hx hb dX12_uses_87 (lv_at hl 1 rfl) ?_
            refine lv_if_eq (tgt := 116) hx hb dX12_uses_89 (by decide) (fun c_420 => ?_) (fun c_420 => ?_)
            · have c_420 : v7.toInt = (0 : Int) := tl_eq c_420
              refine lv_aload_n hx hb dX12_uses_116 rfl (lv_at hl 4 rfl) ?_
              refine tp_get (cy := cy) (ci := 12) (v := .ref (r_354 20)) (C := RX12) (T := TX12) (N := 49) hx hb hta inlX12 hown hK hP ho.1 hf_353 rfl 31 (by decide) (hta _ wk_170) (fun _ h9 => h9) rfl dX12_uses_117 ?_
              refine lv_iload hx hb dX12_uses_120 (lv_at hl 2 rfl) ?_
              refine lv_iload hx hb dX12_uses_122 (lv_at hl 1 rfl) ?_
              obtain ⟨g_422, hf_421, hg_423⟩ := (show tp_gz cy (300) (Γ_352 (60, 300, 0)) (f_351 (r_354 20)) from hI.at (show tp_r L K 60 300 0 (r_354 20) from hr_357 20 (by decide)))
              have hn_424 : vp_in v6 (300) := tl_in (by omega) (by omega)
              have nz_425 : (vp_nar .boolean v7).toInt = v7.toInt := tl_b01 hv7
              obtain ⟨Γ_426, eΓ_426⟩ : ∃ y : tk_G, y = tg Γ_352 (60, 300, 0) v6.toInt.toNat v7.toInt := ⟨_, rfl⟩
              have hI9 : tp_I cy L K Γ_426 (va_up f_351 (r_354 20) (.inl (cy 2, 300, .inl (upd g_422 v6.toNatClampNeg (vp_nar .boolean v7))))) := by rw [eΓ_426]; exact hI.setg hU rfl (show tp_r L K 60 300 0 (r_354 20) from hr_357 20 (by decide)) (show tp_gz cy (300) (tgu (Γ_352 (60, 300, 0)) v6.toInt.toNat v7.toInt) _ from ⟨_, rfl, tp_gz_upd hg_423 nz_425⟩)
              have hfr9 : ∀ b, (K b).1 ∉ ([39, 58, 57, 60] : List Nat) → va_up f_351 (r_354 20) (.inl (cy 2, 300, .inl (upd g_422 v6.toNatClampNeg (vp_nar .boolean v7)))) b = f b := tp_fr hfr (show tp_r L K 60 300 0 (r_354 20) from hr_357 20 (by decide)) (by decide)
              refine tp_zast (cy := cy) hx hb hK hP hD hS (show tp_r L K 60 300 0 (r_354 20) from hr_357 20 (by decide)).1 hf_421 hn_424 dX12_uses_124 (fun H locs hP hD hS => ?_)
              have hP : va_P D vwCl (va_pl L (va_up f_351 (r_354 20) (.inl (cy 2, 300, .inl (upd g_422 v6.toNatClampNeg (vp_nar .boolean v7)))))) H := hP
              generalize hfe : va_up f_351 (r_354 20) (.inl (cy 2, 300, .inl (upd g_422 v6.toNatClampNeg (vp_nar .boolean v7)))) = f_427 at hP hI9 hfr9
              have hD : va_D A (va_pl L f_427) := tp_D hL hAL
              have hf_428 := (show f_427 o = _ from by rw [← hfe, va_up_ne _ _ (tp_ne ho (show tp_r L K 60 300 0 (r_354 20) from hr_357 20 (by decide)) (by decide))]).trans hf_353
              have hf_429 : f_427 (r_354 20) = .inl (cy 2, 300, .inl (upd g_422 v6.toNatClampNeg (vp_nar .boolean v7))) := by rw [← hfe]; exact va_up_self _ _ _
              clear hfe
              have hI := hI9
              have hfr := hfr9
              clear hI9 hfr9
              have hgr : ∀ κ : tk_K, κ.1 ∉ ([39, 58, 57, 60] : List Nat) → Γ_426 κ = Γ κ := tg_fr hgr eΓ_426 (by decide)
              have hv_430 : ∀ i : Nat, i < 16 → (v_355 i).toInt = Γ_426 (39, 0, 0) i := fun i hi => by rw [eΓ_426, tg_r (by decide)]; exact hv_358 i hi
              have hx_431 : (v_355 0).toInt = Γ_426 (39, 0, 0) 0 := hv_430 0 (by decide)
              have hx_432 : (v_355 9).toInt = Γ_426 (39, 0, 0) 9 := hv_430 9 (by decide)
              have hx_433 : (v_355 10).toInt = Γ_426 (39, 0, 0) 10 := hv_430 10 (by decide)
              have hx_434 : (v_355 11).toInt = Γ_426 (39, 0, 0) 11 := hv_430 11 (by decide)
              have hx_435 : (v_355 12).toInt = Γ_426 (39, 0, 0) 12 := hv_430 12 (by decide)
              have hx_436 : (v_355 13).toInt = Γ_426 (39, 0, 0) 13 := hv_430 13 (by decide)
              have hx_437 : (v_355 14).toInt = Γ_426 (39, 0, 0) 14 := hv_430 14 (by decide)
              have hx_438 : (v_355 15).toInt = Γ_426 (39, 0, 0) 15 := hv_430 15 (by decide)
              have hsu1 : Γ_426 (60, 300, 0) v6.toInt.toNat = v7.toInt := by rw [eΓ_426]; exact tg_s
              have hsu2 : ∀ j : Nat, ¬ j = v6.toInt.toNat → Γ_426 (60, 300, 0) j = Γ_53 (60, 300, 0) j := fun j q => by rw [eΓ_426, tg_i q, iu, hwu]
              refine lv_aload_n hx hb dX12_uses_125 rfl (lv_at hl 4 rfl) ?_
              refine lv_dup hx hb dX12_uses_126 rfl ?_
              refine tp_get (cy := cy) (ci := 12) (v := .int (v_355 10)) (C := RX12) (T := TX12) (N := 49) hx hb hta inlX12 hown hK hP ho.1 hf_428 rfl 32 (by decide) (hta _ wk_933) (fun _ h9 => h9) rfl dX12_uses_127 ?_
              refine lv_iload hx hb dX12_uses_130 (lv_at hl 1 rfl) ?_
              refine lv_if_eq (tgt := 139) hx hb dX12_uses_132 (by decide) (fun c_439 => ?_) (fun c_439 => ?_)
              · have c_439 : v7.toInt = (0 : Int) := tl_eq c_439
                refine lv_iconst (v := 0) hx hb dX12_uses_139 (by decide) ?_
                refine lv_iadd hx hb dX12_uses_140 ?_
                refine lv_topi (fun z_440 ez_440 => ?_)
                try have iz_440 : z_440.toInt = (v_355 10).toInt + (0 : Int) := by rw [ez_440]; exact tl_addN (v_355 10) 0 rfl rfl (by omega) (by omega)
                obtain ⟨Γ_441, eΓ_441⟩ : ∃ y : tk_G, y = tg Γ_426 (39, 0, 0) 10 z_440.toInt := ⟨_, rfl⟩
                have hv_442 : ∀ i : Nat, i < 16 → ((upd v_355 10 z_440) i).toInt = Γ_441 (39, 0, 0) i := by rw [eΓ_441, tg_f]; exact tp_gi_upd hv_430
                have hI9 : tp_I cy L K Γ_441 (va_up f_427 o (.inr (12, [.ref (r_354 0), .ref (r_354 1), .int (v_355 0), .ref (r_354 2), .ref (r_354 3), .ref (r_354 4), .ref (r_354 5), .ref (r_354 6), .ref (r_354 7), .ref (r_354 8), .ref (r_354 9), .ref (r_354 10), .ref (r_354 11), .ref (r_354 12), .ref (r_354 13), .ref (r_354 14), .ref (r_354 15), .int (v_355 1), .int (v_355 2), .int (v_355 3), .int (v_355 4), .int (v_355 5), .int (v_355 6), .int (v_355 7), .ref (r_354 16), .int (v_355 8), .ref (r_354 17), .int (v_355 9), .ref (r_354 18), .long q_356, .ref (r_354 19), .ref (r_354 20), .int z_440, .int (v_355 11), .int (v_355 12), .ref (r_354 21), .ref (r_354 22), .int (v_355 13), .ref (r_354 23), .int (v_355 14), .int (v_355 15), .ref (r_354 24), .ref (r_354 25), .ref (r_354 26), .ref (r_354 27), .ref (r_354 28), .ref (r_354 29), .ref (r_354 30), .ref (r_354 31)]))) := by have q9 := hv_442; rw [eΓ_441, tg_f] at q9; rw [eΓ_441]; exact hI.setg hU rfl ho (show tp_o_M L K 0 0 (tgu (Γ_426 (39, 0, 0)) 10 z_440.toInt) _ from ⟨r_354, (upd v_355 10 z_440), q_356, rfl, hr_357, q9⟩)
                have hfr9 : ∀ b, (K b).1 ∉ ([39, 58, 57, 60] : List Nat) → va_up f_427 o (.inr (12, [.ref (r_354 0), .ref (r_354 1), .int (v_355 0), .ref (r_354 2), .ref (r_354 3), .ref (r_354 4), .ref (r_354 5), .ref (r_354 6), .ref (r_354 7), .ref (r_354 8), .ref (r_354 9), .ref (r_354 10), .ref (r_354 11), .ref (r_354 12), .ref (r_354 13), .ref (r_354 14), .ref (r_354 15), .int (v_355 1), .int (v_355 2), .int (v_355 3), .int (v_355 4), .int (v_355 5), .int (v_355 6), .int (v_355 7), .ref (r_354 16), .int (v_355 8), .ref (r_354 17), .int (v_355 9), .ref (r_354 18), .long q_356, .ref (r_354 19), .ref (r_354 20), .int z_440, .int (v_355 11), .int (v_355 12), .ref (r_354 21), .ref (r_354 22), .int (v_355 13), .ref (r_354 23), .int (v_355 14), .int (v_355 15), .ref (r_354 24), .ref (r_354 25), .ref (r_354 26), .ref (r_354 27), .ref (r_354 28), .ref (r_354 29), .ref (r_354 30), .ref (r_354 31)])) b = f b := tp_fr hfr ho (by decide)
                refine tp_put (cy := cy) (ci := 12) (v := .int z_440) (ty := tyX12 32) (C := RX12) (T := TX12) (N := 49) hx hb hta inlX12 tyX12 tyX12_ok nmX12 hown hK hP hD hS ho.1 hf_428 rfl 32 (by decide) (hta _ wk_933) (fun _ h9 => h9) rfl (tyX12_ok 32 (by decide)) rfl rfl (Nat.le_of_ble_eq_true rfl) dX12_uses_141 (fun H locs hP hD hS => ?_)
                have hP : va_P D vwCl (va_pl L (va_up f_427 o (.inr (12, [.ref (r_354 0), .ref (r_354 1), .int (v_355 0), .ref (r_354 2), .ref (r_354 3), .ref (r_354 4), .ref (r_354 5), .ref (r_354 6), .ref (r_354 7), .ref (r_354 8), .ref (r_354 9), .ref (r_354 10), .ref (r_354 11), .ref (r_354 12), .ref (r_354 13), .ref (r_354 14), .ref (r_354 15), .int (v_355 1), .int (v_355 2), .int (v_355 3), .int (v_355 4), .int (v_355 5), .int (v_355 6), .int (v_355 7), .ref (r_354 16), .int (v_355 8), .ref (r_354 17), .int (v_355 9), .ref (r_354 18), .long q_356, .ref (r_354 19), .ref (r_354 20), .int z_440, .int (v_355 11), .int (v_355 12), .ref (r_354 21), .ref (r_354 22), .int (v_355 13), .ref (r_354 23), .int (v_355 14), .int (v_355 15), .ref (r_354 24), .ref (r_354 25), .ref (r_354 26), .ref (r_354 27), .ref (r_354 28), .ref (r_354 29), .ref (r_354 30), .ref (r_354 31)])))) H := hP
                generalize hfe : va_up f_427 o (.inr (12, [.ref (r_354 0), .ref (r_354 1), .int (v_355 0), .ref (r_354 2), .ref (r_354 3), .ref (r_354 4), .ref (r_354 5), .ref (r_354 6), .ref (r_354 7), .ref (r_354 8), .ref (r_354 9), .ref (r_354 10), .ref (r_354 11), .ref (r_354 12), .ref (r_354 13), .ref (r_354 14), .ref (r_354 15), .int (v_355 1), .int (v_355 2), .int (v_355 3), .int (v_355 4), .int (v_355 5), .int (v_355 6), .int (v_355 7), .ref (r_354 16), .int (v_355 8), .ref (r_354 17), .int (v_355 9), .ref (r_354 18), .long q_356, .ref (r_354 19), .ref (r_354 20), .int z_440, .int (v_355 11), .int (v_355 12), .ref (r_354 21), .ref (r_354 22), .int (v_355 13), .ref (r_354 23), .int (v_355 14), .int (v_355 15), .ref (r_354 24), .ref (r_354 25), .ref (r_354 26), .ref (r_354 27), .ref (r_354 28), .ref (r_354 29), .ref (r_354 30), .ref (r_354 31)])) = f_443 at hP hI9 hfr9
                have hD : va_D A (va_pl L f_443) := tp_D hL hAL
                have hf_444 : f_443 o = .inr (12, [.ref (r_354 0), .ref (r_354 1), .int (v_355 0), .ref (r_354 2), .ref (r_354 3), .ref (r_354 4), .ref (r_354 5), .ref (r_354 6), .ref (r_354 7), .ref (r_354 8), .ref (r_354 9), .ref (r_354 10), .ref (r_354 11), .ref (r_354 12), .ref (r_354 13), .ref (r_354 14), .ref (r_354 15), .int (v_355 1), .int (v_355 2), .int (v_355 3), .int (v_355 4), .int (v_355 5), .int (v_355 6), .int (v_355 7), .ref (r_354 16), .int (v_355 8), .ref (r_354 17), .int (v_355 9), .ref (r_354 18), .long q_356, .ref (r_354 19), .ref (r_354 20), .int z_440, .int (v_355 11), .int (v_355 12), .ref (r_354 21), .ref (r_354 22), .int (v_355 13), .ref (r_354 23), .int (v_355 14), .int (v_355 15), .ref (r_354 24), .ref (r_354 25), .ref (r_354 26), .ref (r_354 27), .ref (r_354 28), .ref (r_354 29), .ref (r_354 30), .ref (r_354 31)]) := by rw [← hfe]; exact va_up_self _ _ _
                clear hfe
                have hI := hI9
                have hfr := hfr9
                clear hI9 hfr9
                have hgr : ∀ κ : tk_K, κ.1 ∉ ([39, 58, 57, 60] : List Nat) → Γ_441 κ = Γ κ := tg_fr hgr eΓ_441 (by decide)
                have hx_445 : (v_355 0).toInt = Γ_441 (39, 0, 0) 0 := hv_442 0 (by decide)
                have hx_446 : (v_355 9).toInt = Γ_441 (39, 0, 0) 9 := hv_442 9 (by decide)
                have hx_447 : z_440.toInt = Γ_441 (39, 0, 0) 10 := hv_442 10 (by decide)
                have hx_448 : (v_355 11).toInt = Γ_441 (39, 0, 0) 11 := hv_442 11 (by decide)
                have hx_449 : (v_355 12).toInt = Γ_441 (39, 0, 0) 12 := hv_442 12 (by decide)
                have hx_450 : (v_355 13).toInt = Γ_441 (39, 0, 0) 13 := hv_442 13 (by decide)
                have hx_451 : (v_355 14).toInt = Γ_441 (39, 0, 0) 14 := hv_442 14 (by decide)
                have hx_452 : (v_355 15).toInt = Γ_441 (39, 0, 0) 15 := hv_442 15 (by decide)
                have hus1 : Γ_441 (60, 300, 0) v6.toInt.toNat = v7.toInt := by rw [eΓ_441, tg_r (by decide)]; exact hsu1
                have hus2 : ∀ j : Nat, ¬ j = v6.toInt.toNat → Γ_441 (60, 300, 0) j = Γ_53 (60, 300, 0) j := fun j q => by rw [eΓ_441, tg_r (by decide)]; exact hsu2 j q
                obtain ⟨z_453, ez_453⟩ : ∃ y : Int32, y = v6 + 1 := ⟨_, rfl⟩
                refine lv_iinc (v := z_453) (lv' := [(6, .int z_453), (8, .int v8), (7, .int v7), (5, .int z_1), (0, .ref o), (1, .int p0), (2, .int p1), (3, .int p2), (4, .int p3)]) hx hb dX12_uses_144 hl (k := 2) rfl (by rw [ez_453]; rfl) (by decide) rfl (fun ls hl => ?_)
                try have iz_453 : z_453.toInt = v6.toInt + 1 := by rw [ez_453]; exact tl_addL v6 1 (by decide) (by omega) (by omega)
                refine lv_goto (tgt := 25) hx hb dX12_uses_147 (by decide) ?_
                exact ih25 (f_443, Γ_441, z_453) H locs ls (by show (300 - z_453.toInt).toNat < (300 - v6.toInt).toNat; omega) ⟨(show 0 ≤ z_453.toInt from (by omega)), (show z_453.toInt ≤ 300 from (by omega)), (show 0 ≤ Γ_441 (39, 0, 0) 10 ∧ Γ_441 (39, 0, 0) 10 ≤ z_453.toInt from (by omega)), (show Γ_441 (39, 0, 0) 11 = p2.toInt ∧ Γ_441 (39, 0, 0) 12 = p3.toInt from (by omega)), (show ∀ j : Nat, (j : Int) < z_453.toInt → ¬ Γ_441 (60, 300, 0) j = 0 → 0 < Γ_441 (39, 0, 0) 10 from (fun j9 q9 q8 => by by_cases q7 : j9 = v6.toInt.toNat; (rw [q7, hus1] at q8; omega); (have q6 := hus j9 (by omega) (by rw [← hus2 j9 q7]; exact q8); omega))), (show Γ_441 (39, 0, 0) 0 = Γ (39, 0, 0) 0 from (by omega)), (show Γ_441 (39, 0, 0) 13 = Γ (39, 0, 0) 13 from (by omega)), (show Γ_441 (39, 0, 0) 14 = Γ (39, 0, 0) 14 from (by omega)), (show Γ_441 (39, 0, 0) 15 = Γ (39, 0, 0) 15 from (by omega)), hP, hI, hfr, hgr, hS, lv_sub hl [0, 3, 4, 5, 6, 7, 8] rfl⟩
              · have c_439 : ¬ v7.toInt = (0 : Int) := tl_neq c_439
                exfalso; omega
            · have c_420 : ¬ v7.toInt = (0 : Int) := tl_neq c_420
              refine lv_aload_n hx hb dX12_uses_92 rfl (lv_at hl 4 rfl) ?_
              refine lv_iload hx hb dX12_uses_93 (lv_at hl 3 rfl) ?_
              refine lv_iload hx hb dX12_uses_95 (lv_at hl 0 rfl) ?_
              refine tq_ciR hS (hAf _ hS.1) (tq_rV (As := [.int z_1, .int v8]) (rest := []) ⟨hx, hb, hml, hown, hta⟩ (tp_P.pre hK hN hL hU hI hP) (tp_recv hK hP ho.1 hf_353 rfl) lk_X12_355 (r_X12_isHolding l D cy H.size L K Γ_352 f_351 o z_1 v8 ho (by first | omega | (simp only [Int32.toInt_toInt64]; omega) | decide | assumption) (by first | omega | (simp only [Int32.toInt_toInt64]; omega) | decide | assumption) (by rw [hgr (45, 1056, 0) (by decide), hgr (43, 8800, 0) (by decide)]; have q9 := htst v8.toInt.toNat (by omega); rw [show ((v8.toInt.toNat : Nat) : Int) = v8.toInt from by omega, show t1 = z_1.toInt from by omega] at q9; exact q9)) rfl rfl ⟨Nat.le_of_ble_eq_true rfl, Nat.le_of_ble_eq_true rfl⟩ rfl hl.1 rfl (Nat.le_of_ble_eq_true rfl) dX12_uses_97 ⟨Nat.le_of_ble_eq_true rfl, Nat.le_of_ble_eq_true rfl⟩) (fun r_455 f_456 Γ_458 H locs hw_454 hP hI hc_457 hcg_459 hS => ?_)
              have hD : va_D A (va_pl L f_456) := tp_D hL hAL
              have hfr := tp_fr2 hfr hc_457 (by decide)
              have hgr : ∀ κ : tk_K, κ.1 ∉ ([39, 58, 57, 60] : List Nat) → Γ_458 κ = Γ κ := tg_fr2 hgr hcg_459 (by decide)
              obtain ⟨hE_460, hw_454⟩ := hw_454
              have hE_460 : tl_J r_455 (True) := hE_460
              have hw_454 : Γ_458 (39, 0, 0) 0 = Γ_352 (39, 0, 0) 0 ∧ Γ_458 (39, 0, 0) 10 = Γ_352 (39, 0, 0) 10 ∧ Γ_458 (39, 0, 0) 11 = Γ_352 (39, 0, 0) 11 ∧ Γ_458 (39, 0, 0) 12 = Γ_352 (39, 0, 0) 12 ∧ Γ_458 (39, 0, 0) 13 = Γ_352 (39, 0, 0) 13 ∧ Γ_458 (39, 0, 0) 14 = Γ_352 (39, 0, 0) 14 ∧ Γ_458 (39, 0, 0) 15 = Γ_352 (39, 0, 0) 15 := hw_454
              refine lv_if_ne (tgt := 107) hx hb dX12_uses_100 (by decide) (fun c_461 => ?_) (fun c_461 => ?_)
              · have c_461 := hE_460.t c_461
                refine lv_iconst (v := 0) hx hb dX12_uses_107 (by decide) ?_
                refine lv_istore (lv' := [(7, .int 0), (8, .int v8), (6, .int v6), (5, .int z_1), (0, .ref o), (1, .int p0), (2, .int p1), (3, .int p2), (4, .int p3)]) hx hb dX12_uses_108 hl (by decide) rfl (fun ls hl => ?_)
                obtain ⟨z_462, ez_462⟩ : ∃ y : Int32, y = v8 + 1 := ⟨_, rfl⟩
                refine lv_iinc (v := z_462) (lv' := [(8, .int z_462), (7, .int 0), (6, .int v6), (5, .int z_1), (0, .ref o), (1, .int p0), (2, .int p1), (3, .int p2), (4, .int p3)]) hx hb dX12_uses_110 hl (k := 1) rfl (by rw [ez_462]; rfl) (by decide) rfl (fun ls hl => ?_)
                try have iz_462 : z_462.toInt = v8.toInt + 1 := by rw [ez_462]; exact tl_addL v8 1 (by decide) (by omega) (by omega)
                refine lv_goto (tgt := 75) hx hb dX12_uses_113 (by decide) ?_
                exact ih75 (f_456, Γ_458, z_462, 0) H locs ls (by show (12 - z_462.toInt).toNat < (12 - v8.toInt).toNat; omega) ⟨(show 0 ≤ z_462.toInt ∧ z_462.toInt ≤ 12 from (by omega)), (show (0 : Int) = 0 ∨ (0 : Int) = 1 from (by decide)), (show Γ_458 (39, 0, 0) 0 = Γ_339 (39, 0, 0) 0 from (by omega)), (show Γ_458 (39, 0, 0) 11 = Γ_339 (39, 0, 0) 11 from (by omega)), (show Γ_458 (39, 0, 0) 12 = Γ_339 (39, 0, 0) 12 from (by omega)), (show Γ_458 (39, 0, 0) 13 = Γ_339 (39, 0, 0) 13 from (by omega)), (show Γ_458 (39, 0, 0) 14 = Γ_339 (39, 0, 0) 14 from (by omega)), (show Γ_458 (39, 0, 0) 15 = Γ_339 (39, 0, 0) 15 from (by omega)), (show Γ_458 (39, 0, 0) 10 = Γ_339 (39, 0, 0) 10 from (by omega)), (show Γ_458 (60, 300, 0) = Γ_339 (60, 300, 0) from ((hcg_459 _ (by decide)).trans iu)), hP, hI, hfr, hgr, hS, lv_sub hl [0, 1, 2, 3, 4, 5, 6, 7, 8] rfl⟩
              · have c_461 := c_461
                refine lv_iconst (v := 1) hx hb dX12_uses_103 (by decide) ?_
                refine lv_goto (tgt := 108) hx hb dX12_uses_104 (by decide) ?_
                refine lv_istore (lv' := [(7, .int 1), (8, .int v8), (6, .int v6), (5, .int z_1), (0, .ref o), (1, .int p0), (2, .int p1), (3, .int p2), (4, .int p3)]) hx hb dX12_uses_108 hl (by decide) rfl (fun ls hl => ?_)
                obtain ⟨z_463, ez_463⟩ : ∃ y : Int32, y = v8 + 1 := ⟨_, rfl⟩
                refine lv_iinc (v := z_463) (lv' := [(8, .int z_463), (7, .int 1), (6, .int v6), (5, .int z_1), (0, .ref o), (1, .int p0), (2, .int p1), (3, .int p2), (4, .int p3)]) hx hb dX12_uses_110 hl (k := 1) rfl (by rw [ez_463]; rfl) (by decide) rfl (fun ls hl => ?_)
                try have iz_463 : z_463.toInt = v8.toInt + 1 := by rw [ez_463]; exact tl_addL v8 1 (by decide) (by omega) (by omega)
                refine lv_goto (tgt := 75) hx hb dX12_uses_113 (by decide) ?_
                exact ih75 (f_456, Γ_458, z_463, 1) H locs ls (by show (12 - z_463.toInt).toNat < (12 - v8.toInt).toNat; omega) ⟨(show 0 ≤ z_463.toInt ∧ z_463.toInt ≤ 12 from (by omega)), (show (1 : Int) = 0 ∨ (1 : Int) = 1 from (by decide)), (show Γ_458 (39, 0, 0) 0 = Γ_339 (39, 0, 0) 0 from (by omega)), (show Γ_458 (39, 0, 0) 11 = Γ_339 (39, 0, 0) 11 from (by omega)), (show Γ_458 (39, 0, 0) 12 = Γ_339 (39, 0, 0) 12 from (by omega)), (show Γ_458 (39, 0, 0) 13 = Γ_339 (39, 0, 0) 13 from (by omega)), (show Γ_458 (39, 0, 0) 14 = Γ_339 (39, 0, 0) 14 from (by omega)), (show Γ_458 (39, 0, 0) 15 = Γ_339 (39, 0, 0) 15 from (by omega)), (show Γ_458 (39, 0, 0) 10 = Γ_339 (39, 0, 0) 10 from (by omega)), (show Γ_458 (60, 300, 0) = Γ_339 (60, 300, 0) from ((hcg_459 _ (by decide)).trans iu)), hP, hI, hfr, hgr, hS, lv_sub hl [0, 1, 2, 3, 4, 5, 6, 7, 8] rfl⟩
        · have c_334 : p3.toInt < v6.toInt := tl_nle c_334
          refine lv_iconst (v := 1) hx hb dX12_uses_58 (by decide) ?_
          refine lv_goto (tgt := 63) hx hb dX12_uses_59 (by decide) ?_
          refine lv_istore (lv' := [(7, .int 1), (6, .int v6), (5, .int z_1), (0, .ref o), (1, .int p0), (2, .int p1), (3, .int p2), (4, .int p3)]) hx hb dX12_uses_63 hl (by decide) rfl (fun ls hl => ?_)
          refine lv_aload_n hx hb dX12_uses_65 rfl (lv_at hl 3 rfl) ?_
          refine lv_iload_n hx hb dX12_uses_66 rfl (lv_at hl 5 rfl) ?_
          refine lv_iload hx hb dX12_uses_67 (lv_at hl 1 rfl) ?_
          refine tq_cvR hS (hAf _ hS.1) (tq_rV (As := [.int p1, .int v6]) (rest := []) ⟨hx, hb, hml, hown, hta⟩ (tp_P.pre hK hN hL hU hI hP) (tp_recv hK hP ho.1 hf_55 rfl) lk_X12_352 (r_X12_words l D cy H.size L K Γ_53 f_52 o p1 v6 ho (by first | omega | (simp only [Int32.toInt_toInt64]; omega) | decide | assumption)) rfl rfl ⟨Nat.le_of_ble_eq_true rfl, Nat.le_of_ble_eq_true rfl⟩ rfl hl.1 rfl (Nat.le_of_ble_eq_true rfl) dX12_uses_69 ⟨Nat.le_of_ble_eq_true rfl, Nat.le_of_ble_eq_true rfl⟩) (fun f_466 Γ_468 H locs hw_464 hP hI hc_467 hcg_469 hS => ?_)
          have hD : va_D A (va_pl L f_466) := tp_D hL hAL
          have hfr := tp_fr2 hfr hc_467 (by decide)
          have hgr : ∀ κ : tk_K, κ.1 ∉ ([39, 58, 57, 60] : List Nat) → Γ_468 κ = Γ κ := tg_fr2 hgr hcg_469 (by decide)
          have hf_470 := (tp_un hc_467 ho (by decide)).trans hf_55
          have hv_471 : ∀ i : Nat, i < 16 → (v_57 i).toInt = Γ_468 (39, 0, 0) i := fun i hi => by rw [hcg_469 _ (by decide)]; exact hv_60 i hi
          have hx_472 : (v_57 0).toInt = Γ_468 (39, 0, 0) 0 := hv_471 0 (by decide)
          have hx_473 : (v_57 9).toInt = Γ_468 (39, 0, 0) 9 := hv_471 9 (by decide)
          have hx_474 : (v_57 10).toInt = Γ_468 (39, 0, 0) 10 := hv_471 10 (by decide)
          have hx_475 : (v_57 11).toInt = Γ_468 (39, 0, 0) 11 := hv_471 11 (by decide)
          have hx_476 : (v_57 12).toInt = Γ_468 (39, 0, 0) 12 := hv_471 12 (by decide)
          have hx_477 : (v_57 13).toInt = Γ_468 (39, 0, 0) 13 := hv_471 13 (by decide)
          have hx_478 : (v_57 14).toInt = Γ_468 (39, 0, 0) 14 := hv_471 14 (by decide)
          have hx_479 : (v_57 15).toInt = Γ_468 (39, 0, 0) 15 := hv_471 15 (by decide)
          have hwu := hcg_469 (60, 300, 0) (by decide)
          refine lv_iconst (v := 0) hx hb dX12_uses_72 (by decide) ?_
          refine lv_istore (lv' := [(8, .int 0), (7, .int 1), (6, .int v6), (5, .int z_1), (0, .ref o), (1, .int p0), (2, .int p1), (3, .int p2), (4, .int p3)]) hx hb dX12_uses_73 hl (by decide) rfl (fun ls hl => ?_)
          refine tl_ind (G := fun H locs ls => W p l e ((headSpec (tl_w yX12_uses cX12_uses 9 none) ({ frames := 3, cells := 0, slots := 0, locals := 77 })).room) s m #[.ref o, .int p0, .int p1, .int p2, .int p3] below meth c H locs 0 0 (MQ below (va_Qv (fun (u : (Nat → va_E) × tk_G) => 0 ≤ u.2 (39, 0, 0) 10 ∧ (u.2 (39, 0, 0) 11 = p2.toInt ∧ u.2 (39, 0, 0) 12 = p3.toInt) ∧ u.2 (39, 0, 0) 0 = Γ (39, 0, 0) 0 ∧ u.2 (39, 0, 0) 13 = Γ (39, 0, 0) 13 ∧ u.2 (39, 0, 0) 14 = Γ (39, 0, 0) 14 ∧ u.2 (39, 0, 0) 15 = Γ (39, 0, 0) 15 ∧ (∀ j : Nat, j < 300 → ¬ u.2 (60, 300, 0) j = 0 → 0 < u.2 (39, 0, 0) 10)) (tp_BG D cy L K Γ f [39, 58, 57, 60]) A) #[.ref o, .int p0, .int p1, .int p2, .int p3] s 0 0 A) (F0 m 75 ls [])) (α := (Nat → va_E) × tk_G × Int32 × Int32) (fun aq => (12 - aq.2.2.1.toInt).toNat) (fun aq H locs ls => (0 ≤ aq.2.2.1.toInt ∧ aq.2.2.1.toInt ≤ 12) ∧ (aq.2.2.2.toInt = 0 ∨ aq.2.2.2.toInt = 1) ∧ (aq.2.1 (39, 0, 0) 0 = Γ_468 (39, 0, 0) 0) ∧ (aq.2.1 (39, 0, 0) 11 = Γ_468 (39, 0, 0) 11) ∧ (aq.2.1 (39, 0, 0) 12 = Γ_468 (39, 0, 0) 12) ∧ (aq.2.1 (39, 0, 0) 13 = Γ_468 (39, 0, 0) 13) ∧ (aq.2.1 (39, 0, 0) 14 = Γ_468 (39, 0, 0) 14) ∧ (aq.2.1 (39, 0, 0) 15 = Γ_468 (39, 0, 0) 15) ∧ (aq.2.1 (39, 0, 0) 10 = Γ_468 (39, 0, 0) 10) ∧ (aq.2.1 (60, 300, 0) = Γ_468 (60, 300, 0)) ∧ va_P D vwCl (va_pl L aq.1) H ∧ tp_I cy L K aq.2.1 aq.1 ∧ (∀ b, (K b).1 ∉ ([39, 58, 57, 60] : List Nat) → aq.1 b = f b) ∧ (∀ κ : tk_K, κ.1 ∉ ([39, 58, 57, 60] : List Nat) → aq.2.1 κ = Γ κ) ∧ va_S A s.heap H locs ∧ lv_has ls 9 [(8, .int aq.2.2.1), (7, .int aq.2.2.2), (6, .int v6), (5, .int z_1), (0, .ref o), (1, .int p0), (2, .int p1), (3, .int p2), (4, .int p3)]) ?_ (f_466, Γ_468, (0 : Int32), (1 : Int32)) H locs ls ⟨(show 0 ≤ (0 : Int) ∧ (0 : Int) ≤ 12 from (by omega)), (show (1 : Int) = 0 ∨ (1 : Int) = 1 from (by decide)), (show Γ_468 (39, 0, 0) 0 = Γ_468 (39, 0, 0) 0 from (by omega)), (show Γ_468 (39, 0, 0) 11 = Γ_468 (39, 0, 0) 11 from (by omega)), (show Γ_468 (39, 0, 0) 12 = Γ_468 (39, 0, 0) 12 from (by omega)), (show Γ_468 (39, 0, 0) 13 = Γ_468 (39, 0, 0) 13 from (by omega)), (show Γ_468 (39, 0, 0) 14 = Γ_468 (39, 0, 0) 14 from (by omega)), (show Γ_468 (39, 0, 0) 15 = Γ_468 (39, 0, 0) 15 from (by omega)), (show Γ_468 (39, 0, 0) 10 = Γ_468 (39, 0, 0) 10 from (by omega)), (show Γ_468 (60, 300, 0) = Γ_468 (60, 300, 0) from rfl), hP, hI, hfr, hgr, hS, lv_sub hl [0, 1, 2, 3, 4, 5, 6, 7, 8] rfl⟩
          rintro ⟨f_480, Γ_481, v8, v7⟩ H locs ls ⟨h8, hv7, j0, j11, j12, j13, j14, j15, j10, iu, hP, hI, hfr, hgr, hS, hl⟩ ih75
          have hgr : ∀ κ : tk_K, κ.1 ∉ ([39, 58, 57, 60] : List Nat) → Γ_481 κ = Γ κ := hgr
          have hP : va_P D vwCl (va_pl L f_480) H := hP
          have hI : tp_I cy L K Γ_481 f_480 := hI
          have hfr : ∀ b, (K b).1 ∉ ([39, 58, 57, 60] : List Nat) → f_480 b = f b := hfr
          have hD : va_D A (va_pl L f_480) := tp_D hL hAL
          have h8 : 0 ≤ v8.toInt ∧ v8.toInt ≤ 12 := h8
          have hv7 : v7.toInt = 0 ∨ v7.toInt = 1 := hv7
          have j0 : Γ_481 (39, 0, 0) 0 = Γ_468 (39, 0, 0) 0 := j0
          have j11 : Γ_481 (39, 0, 0) 11 = Γ_468 (39, 0, 0) 11 := j11
          have j12 : Γ_481 (39, 0, 0) 12 = Γ_468 (39, 0, 0) 12 := j12
          have j13 : Γ_481 (39, 0, 0) 13 = Γ_468 (39, 0, 0) 13 := j13
          have j14 : Γ_481 (39, 0, 0) 14 = Γ_468 (39, 0, 0) 14 := j14
          have j15 : Γ_481 (39, 0, 0) 15 = Γ_468 (39, 0, 0) 15 := j15
          have j10 : Γ_481 (39, 0, 0) 10 = Γ_468 (39, 0, 0) 10 := j10
          have iu : Γ_481 (60, 300, 0) = Γ_468 (60, 300, 0) := iu
          have hl : lv_has ls 9 [(8, .int v8), (7, .int v7), (6, .int v6), (5, .int z_1), (0, .ref o), (1, .int p0), (2, .int p1), (3, .int p2), (4, .int p3)] := hl
          refine lv_iload hx hb dX12_uses_75 (lv_at hl 0 rfl) ?_
          refine lv_aload_n hx hb dX12_uses_77 rfl (lv_at hl 4 rfl) ?_
          obtain ⟨r_483, v_484, q_485, hf_482, hr_486, hv_487⟩ := (show tp_o_M L K 0 0 (Γ_481 (39, 0, 0)) (f_480 o) from hI.at ho)
          have hx_488 : (v_484 0).toInt = Γ_481 (39, 0, 0) 0 := hv_487 0 (by decide)
          have hx_489 : (v_484 9).toInt = Γ_481 (39, 0, 0) 9 := hv_487 9 (by decide)
          have hx_490 : (v_484 10).toInt = Γ_481 (39, 0, 0) 10 := hv_487 10 (by decide)
          have hx_491 : (v_484 11).toInt = Γ_481 (39, 0, 0) 11 := hv_487 11 (by decide)
          have hx_492 : (v_484 12).toInt = Γ_481 (39, 0, 0) 12 := hv_487 12 (by decide)
          have hx_493 : (v_484 13).toInt = Γ_481 (39, 0, 0) 13 := hv_487 13 (by decide)
          have hx_494 : (v_484 14).toInt = Γ_481 (39, 0, 0) 14 := hv_487 14 (by decide)
          have hx_495 : (v_484 15).toInt = Γ_481 (39, 0, 0) 15 := hv_487 15 (by decide)
          refine tp_get (cy := cy) (ci := 12) (v := .ref (r_483 6)) (C := RX12) (T := TX12) (N := 49) hx hb hta inlX12 hown hK hP ho.1 hf_482 rfl 7 (by decide) (hta _ wk_156) (fun _ h9 => h9) rfl dX12_uses_78 ?_
          refine lv_iload hx hb dX12_uses_81 (lv_at hl 3 rfl) ?_
          obtain ⟨g_497, hf_496, hg_498⟩ := (show tp_gi cy (22) (Γ (46, 22, 0)) (f (r_483 6)) from hI0.at (show tp_r L K 46 22 0 (r_483 6) from hr_486 6 (by decide)))
          have hn_499 : vp_in z_1 (22) := tl_in (by omega) (by omega)
          refine tp_iald (cy := cy) hx hb hK hP (show tp_r L K 46 22 0 (r_483 6) from hr_486 6 (by decide)).1 ((tp_un hfr (show tp_r L K 46 22 0 (r_483 6) from hr_486 6 (by decide)) (by decide)).trans hf_496) hn_499 dX12_uses_83 ?_
          refine lv_topi (fun z_500 ez_500 => ?_)
          have iz_500 : z_500.toInt = Γ (46, 22, 0) z_1.toInt.toNat := by rw [ez_500]; exact hg_498 _ (tp_pin hn_499)
          have hnc9 : z_500.toInt = Γ (46, 22, 0) t1.toNat := iz_500.trans (congrArg _ (by omega))
          refine lv_icmp_ge (tgt := 116) hx hb dX12_uses_84 (by decide) (fun c_501 => ?_) (fun c_501 => ?_)
          · have c_501 : z_500.toInt ≤ v8.toInt := tl_le c_501
            refine lv_aload_n hx hb dX12_uses_116 rfl (lv_at hl 4 rfl) ?_
            refine tp_get (cy := cy) (ci := 12) (v := .ref (r_483 20)) (C := RX12) (T := TX12) (N := 49) hx hb hta inlX12 hown hK hP ho.1 hf_482 rfl 31 (by decide) (hta _ wk_170) (fun _ h9 => h9) rfl dX12_uses_117 ?_
            refine lv_iload hx hb dX12_uses_120 (lv_at hl 2 rfl) ?_
            refine lv_iload hx hb dX12_uses_122 (lv_at hl 1 rfl) ?_
            obtain ⟨g_503, hf_502, hg_504⟩ := (show tp_gz cy (300) (Γ_481 (60, 300, 0)) (f_480 (r_483 20)) from hI.at (show tp_r L K 60 300 0 (r_483 20) from hr_486 20 (by decide)))
            have hn_505 : vp_in v6 (300) := tl_in (by omega) (by omega)
            have nz_506 : (vp_nar .boolean v7).toInt = v7.toInt := tl_b01 hv7
            obtain ⟨Γ_507, eΓ_507⟩ : ∃ y : tk_G, y = tg Γ_481 (60, 300, 0) v6.toInt.toNat v7.toInt := ⟨_, rfl⟩
            have hI9 : tp_I cy L K Γ_507 (va_up f_480 (r_483 20) (.inl (cy 2, 300, .inl (upd g_503 v6.toNatClampNeg (vp_nar .boolean v7))))) := by rw [eΓ_507]; exact hI.setg hU rfl (show tp_r L K 60 300 0 (r_483 20) from hr_486 20 (by decide)) (show tp_gz cy (300) (tgu (Γ_481 (60, 300, 0)) v6.toInt.toNat v7.toInt) _ from ⟨_, rfl, tp_gz_upd hg_504 nz_506⟩)
            have hfr9 : ∀ b, (K b).1 ∉ ([39, 58, 57, 60] : List Nat) → va_up f_480 (r_483 20) (.inl (cy 2, 300, .inl (upd g_503 v6.toNatClampNeg (vp_nar .boolean v7)))) b = f b := tp_fr hfr (show tp_r L K 60 300 0 (r_483 20) from hr_486 20 (by decide)) (by decide)
            refine tp_zast (cy := cy) hx hb hK hP hD hS (show tp_r L K 60 300 0 (r_483 20) from hr_486 20 (by decide)).1 hf_502 hn_505 dX12_uses_124 (fun H locs hP hD hS => ?_)
            have hP : va_P D vwCl (va_pl L (va_up f_480 (r_483 20) (.inl (cy 2, 300, .inl (upd g_503 v6.toNatClampNeg (vp_nar .boolean v7)))))) H := hP
            generalize hfe : va_up f_480 (r_483 20) (.inl (cy 2, 300, .inl (upd g_503 v6.toNatClampNeg (vp_nar .boolean v7)))) = f_508 at hP hI9 hfr9
            have hD : va_D A (va_pl L f_508) := tp_D hL hAL
            have hf_509 := (show f_508 o = _ from by rw [← hfe, va_up_ne _ _ (tp_ne ho (show tp_r L K 60 300 0 (r_483 20) from hr_486 20 (by decide)) (by decide))]).trans hf_482
            have hf_510 : f_508 (r_483 20) = .inl (cy 2, 300, .inl (upd g_503 v6.toNatClampNeg (vp_nar .boolean v7))) := by rw [← hfe]; exact va_up_self _ _ _
            clear hfe
            have hI := hI9
            have hfr := hfr9
            clear hI9 hfr9
            have hgr : ∀ κ : tk_K, κ.1 ∉ ([39, 58, 57, 60] : List Nat) → Γ_507 κ = Γ κ := tg_fr hgr eΓ_507 (by decide)
            have hv_511 : ∀ i : Nat, i < 16 → (v_484 i).toInt = Γ_507 (39, 0, 0) i := fun i hi => by rw [eΓ_507, tg_r (by decide)]; exact hv_487 i hi
            have hx_512 : (v_484 0).toInt = Γ_507 (39, 0, 0) 0 := hv_511 0 (by decide)
            have hx_513 : (v_484 9).toInt = Γ_507 (39, 0, 0) 9 := hv_511 9 (by decide)
            have hx_514 : (v_484 10).toInt = Γ_507 (39, 0, 0) 10 := hv_511 10 (by decide)
            have hx_515 : (v_484 11).toInt = Γ_507 (39, 0, 0) 11 := hv_511 11 (by decide)
            have hx_516 : (v_484 12).toInt = Γ_507 (39, 0, 0) 12 := hv_511 12 (by decide)
            have hx_517 : (v_484 13).toInt = Γ_507 (39, 0, 0) 13 := hv_511 13 (by decide)
            have hx_518 : (v_484 14).toInt = Γ_507 (39, 0, 0) 14 := hv_511 14 (by decide)
            have hx_519 : (v_484 15).toInt = Γ_507 (39, 0, 0) 15 := hv_511 15 (by decide)
            have hsu1 : Γ_507 (60, 300, 0) v6.toInt.toNat = v7.toInt := by rw [eΓ_507]; exact tg_s
            have hsu2 : ∀ j : Nat, ¬ j = v6.toInt.toNat → Γ_507 (60, 300, 0) j = Γ_53 (60, 300, 0) j := fun j q => by rw [eΓ_507, tg_i q, iu, hwu]
            refine lv_aload_n hx hb dX12_uses_125 rfl (lv_at hl 4 rfl) ?_
            refine lv_dup hx hb dX12_uses_126 rfl ?_
            refine tp_get (cy := cy) (ci := 12) (v := .int (v_484 10)) (C := RX12) (T := TX12) (N := 49) hx hb hta inlX12 hown hK hP ho.1 hf_509 rfl 32 (by decide) (hta _ wk_933) (fun _ h9 => h9) rfl dX12_uses_127 ?_
            refine lv_iload hx hb dX12_uses_130 (lv_at hl 1 rfl) ?_
            refine lv_if_eq (tgt := 139) hx hb dX12_uses_132 (by decide) (fun c_520 => ?_) (fun c_520 => ?_)
            · have c_520 : v7.toInt = (0 : Int) := tl_eq c_520
              refine lv_iconst (v := 0) hx hb dX12_uses_139 (by decide) ?_
              refine lv_iadd hx hb dX12_uses_140 ?_
              refine lv_topi (fun z_521 ez_521 => ?_)
              try have iz_521 : z_521.toInt = (v_484 10).toInt + (0 : Int) := by rw [ez_521]; exact tl_addN (v_484 10) 0 rfl rfl (by omega) (by omega)
              obtain ⟨Γ_522, eΓ_522⟩ : ∃ y : tk_G, y = tg Γ_507 (39, 0, 0) 10 z_521.toInt := ⟨_, rfl⟩
              have hv_523 : ∀ i : Nat, i < 16 → ((upd v_484 10 z_521) i).toInt = Γ_522 (39, 0, 0) i := by rw [eΓ_522, tg_f]; exact tp_gi_upd hv_511
              have hI9 : tp_I cy L K Γ_522 (va_up f_508 o (.inr (12, [.ref (r_483 0), .ref (r_483 1), .int (v_484 0), .ref (r_483 2), .ref (r_483 3), .ref (r_483 4), .ref (r_483 5), .ref (r_483 6), .ref (r_483 7), .ref (r_483 8), .ref (r_483 9), .ref (r_483 10), .ref (r_483 11), .ref (r_483 12), .ref (r_483 13), .ref (r_483 14), .ref (r_483 15), .int (v_484 1), .int (v_484 2), .int (v_484 3), .int (v_484 4), .int (v_484 5), .int (v_484 6), .int (v_484 7), .ref (r_483 16), .int (v_484 8), .ref (r_483 17), .int (v_484 9), .ref (r_483 18), .long q_485, .ref (r_483 19), .ref (r_483 20), .int z_521, .int (v_484 11), .int (v_484 12), .ref (r_483 21), .ref (r_483 22), .int (v_484 13), .ref (r_483 23), .int (v_484 14), .int (v_484 15), .ref (r_483 24), .ref (r_483 25), .ref (r_483 26), .ref (r_483 27), .ref (r_483 28), .ref (r_483 29), .ref (r_483 30), .ref (r_483 31)]))) := by have q9 := hv_523; rw [eΓ_522, tg_f] at q9; rw [eΓ_522]; exact hI.setg hU rfl ho (show tp_o_M L K 0 0 (tgu (Γ_507 (39, 0, 0)) 10 z_521.toInt) _ from ⟨r_483, (upd v_484 10 z_521), q_485, rfl, hr_486, q9⟩)
              have hfr9 : ∀ b, (K b).1 ∉ ([39, 58, 57, 60] : List Nat) → va_up f_508 o (.inr (12, [.ref (r_483 0), .ref (r_483 1), .int (v_484 0), .ref (r_483 2), .ref (r_483 3), .ref (r_483 4), .ref (r_483 5), .ref (r_483 6), .ref (r_483 7), .ref (r_483 8), .ref (r_483 9), .ref (r_483 10), .ref (r_483 11), .ref (r_483 12), .ref (r_483 13), .ref (r_483 14), .ref (r_483 15), .int (v_484 1), .int (v_484 2), .int (v_484 3), .int (v_484 4), .int (v_484 5), .int (v_484 6), .int (v_484 7), .ref (r_483 16), .int (v_484 8), .ref (r_483 17), .int (v_484 9), .ref (r_483 18), .long q_485, .ref (r_483 19), .ref (r_483 20), .int z_521, .int (v_484 11), .int (v_484 12), .ref (r_483 21), .ref (r_483 22), .int (v_484 13), .ref (r_483 23), .int (v_484 14), .int (v_484 15), .ref (r_483 24), .ref (r_483 25), .ref (r_483 26), .ref (r_483 27), .ref (r_483 28), .ref (r_483 29), .ref (r_483 30), .ref (r_483 31)])) b = f b := tp_fr hfr ho (by decide)
              refine tp_put (cy := cy) (ci := 12) (v := .int z_521) (ty := tyX12 32) (C := RX12) (T := TX12) (N := 49) hx hb hta inlX12 tyX12 tyX12_ok nmX12 hown hK hP hD hS ho.1 hf_509 rfl 32 (by decide) (hta _ wk_933) (fun _ h9 => h9) rfl (tyX12_ok 32 (by decide)) rfl rfl (Nat.le_of_ble_eq_true rfl) dX12_uses_141 (fun H locs hP hD hS => ?_)
              have hP : va_P D vwCl (va_pl L (va_up f_508 o (.inr (12, [.ref (r_483 0), .ref (r_483 1), .int (v_484 0), .ref (r_483 2), .ref (r_483 3), .ref (r_483 4), .ref (r_483 5), .ref (r_483 6), .ref (r_483 7), .ref (r_483 8), .ref (r_483 9), .ref (r_483 10), .ref (r_483 11), .ref (r_483 12), .ref (r_483 13), .ref (r_483 14), .ref (r_483 15), .int (v_484 1), .int (v_484 2), .int (v_484 3), .int (v_484 4), .int (v_484 5), .int (v_484 6), .int (v_484 7), .ref (r_483 16), .int (v_484 8), .ref (r_483 17), .int (v_484 9), .ref (r_483 18), .long q_485, .ref (r_483 19), .ref (r_483 20), .int z_521, .int (v_484 11), .int (v_484 12), .ref (r_483 21), .ref (r_483 22), .int (v_484 13), .ref (r_483 23), .int (v_484 14), .int (v_484 15), .ref (r_483 24), .ref (r_483 25), .ref (r_483 26), .ref (r_483 27), .ref (r_483 28), .ref (r_483 29), .ref (r_483 30), .ref (r_483 31)])))) H := hP
              generalize hfe : va_up f_508 o (.inr (12, [.ref (r_483 0), .ref (r_483 1), .int (v_484 0), .ref (r_483 2), .ref (r_483 3), .ref (r_483 4), .ref (r_483 5), .ref (r_483 6), .ref (r_483 7), .ref (r_483 8), .ref (r_483 9), .ref (r_483 10), .ref (r_483 11), .ref (r_483 12), .ref (r_483 13), .ref (r_483 14), .ref (r_483 15), .int (v_484 1), .int (v_484 2), .int (v_484 3), .int (v_484 4), .int (v_484 5), .int (v_484 6), .int (v_484 7), .ref (r_483 16), .int (v_484 8), .ref (r_483 17), .int (v_484 9), .ref (r_483 18), .long q_485, .ref (r_483 19), .ref (r_483 20), .int z_521, .int (v_484 11), .int (v_484 12), .ref (r_483 21), .ref (r_483 22), .int (v_484 13), .ref (r_483 23), .int (v_484 14), .int (v_484 15), .ref (r_483 24), .ref (r_483 25), .ref (r_483 26), .ref (r_483 27), .ref (r_483 28), .ref (r_483 29), .ref (r_483 30), .ref (r_483 31)])) = f_524 at hP hI9 hfr9
              have hD : va_D A (va_pl L f_524) := tp_D hL hAL
              have hf_525 : f_524 o = .inr (12, [.ref (r_483 0), .ref (r_483 1), .int (v_484 0), .ref (r_483 2), .ref (r_483 3), .ref (r_483 4), .ref (r_483 5), .ref (r_483 6), .ref (r_483 7), .ref (r_483 8), .ref (r_483 9), .ref (r_483 10), .ref (r_483 11), .ref (r_483 12), .ref (r_483 13), .ref (r_483 14), .ref (r_483 15), .int (v_484 1), .int (v_484 2), .int (v_484 3), .int (v_484 4), .int (v_484 5), .int (v_484 6), .int (v_484 7), .ref (r_483 16), .int (v_484 8), .ref (r_483 17), .int (v_484 9), .ref (r_483 18), .long q_485, .ref (r_483 19), .ref (r_483 20), .int z_521, .int (v_484 11), .int (v_484 12), .ref (r_483 21), .ref (r_483 22), .int (v_484 13), .ref (r_483 23), .int (v_484 14), .int (v_484 15), .ref (r_483 24), .ref (r_483 25), .ref (r_483 26), .ref (r_483 27), .ref (r_483 28), .ref (r_483 29), .ref (r_483 30), .ref (r_483 31)]) := by rw [← hfe]; exact va_up_self _ _ _
              clear hfe
              have hI := hI9
              have hfr := hfr9
              clear hI9 hfr9
              have hgr : ∀ κ : tk_K, κ.1 ∉ ([39, 58, 57, 60] : List Nat) → Γ_522 κ = Γ κ := tg_fr hgr eΓ_522 (by decide)
              have hx_526 : (v_484 0).toInt = Γ_522 (39, 0, 0) 0 := hv_523 0 (by decide)
              have hx_527 : (v_484 9).toInt = Γ_522 (39, 0, 0) 9 := hv_523 9 (by decide)
              have hx_528 : z_521.toInt = Γ_522 (39, 0, 0) 10 := hv_523 10 (by decide)
              have hx_529 : (v_484 11).toInt = Γ_522 (39, 0, 0) 11 := hv_523 11 (by decide)
              have hx_530 : (v_484 12).toInt = Γ_522 (39, 0, 0) 12 := hv_523 12 (by decide)
              have hx_531 : (v_484 13).toInt = Γ_522 (39, 0, 0) 13 := hv_523 13 (by decide)
              have hx_532 : (v_484 14).toInt = Γ_522 (39, 0, 0) 14 := hv_523 14 (by decide)
              have hx_533 : (v_484 15).toInt = Γ_522 (39, 0, 0) 15 := hv_523 15 (by decide)
              have hus1 : Γ_522 (60, 300, 0) v6.toInt.toNat = v7.toInt := by rw [eΓ_522, tg_r (by decide)]; exact hsu1
              have hus2 : ∀ j : Nat, ¬ j = v6.toInt.toNat → Γ_522 (60, 300, 0) j = Γ_53 (60, 300, 0) j := fun j q => by rw [eΓ_522, tg_r (by decide)]; exact hsu2 j q
              obtain ⟨z_534, ez_534⟩ : ∃ y : Int32, y = v6 + 1 := ⟨_, rfl⟩
              refine lv_iinc (v := z_534) (lv' := [(6, .int z_534), (8, .int v8), (7, .int v7), (5, .int z_1), (0, .ref o), (1, .int p0), (2, .int p1), (3, .int p2), (4, .int p3)]) hx hb dX12_uses_144 hl (k := 2) rfl (by rw [ez_534]; rfl) (by decide) rfl (fun ls hl => ?_)
              try have iz_534 : z_534.toInt = v6.toInt + 1 := by rw [ez_534]; exact tl_addL v6 1 (by decide) (by omega) (by omega)
              refine lv_goto (tgt := 25) hx hb dX12_uses_147 (by decide) ?_
              exact ih25 (f_524, Γ_522, z_534) H locs ls (by show (300 - z_534.toInt).toNat < (300 - v6.toInt).toNat; omega) ⟨(show 0 ≤ z_534.toInt from (by omega)), (show z_534.toInt ≤ 300 from (by omega)), (show 0 ≤ Γ_522 (39, 0, 0) 10 ∧ Γ_522 (39, 0, 0) 10 ≤ z_534.toInt from (by omega)), (show Γ_522 (39, 0, 0) 11 = p2.toInt ∧ Γ_522 (39, 0, 0) 12 = p3.toInt from (by omega)), (show ∀ j : Nat, (j : Int) < z_534.toInt → ¬ Γ_522 (60, 300, 0) j = 0 → 0 < Γ_522 (39, 0, 0) 10 from (fun j9 q9 q8 => by by_cases q7 : j9 = v6.toInt.toNat; (rw [q7, hus1] at q8; omega); (have q6 := hus j9 (by omega) (by rw [← hus2 j9 q7]; exact q8); omega))), (show Γ_522 (39, 0, 0) 0 = Γ (39, 0, 0) 0 from (by omega)), (show Γ_522 (39, 0, 0) 13 = Γ (39, 0, 0) 13 from (by omega)), (show Γ_522 (39, 0, 0) 14 = Γ (39, 0, 0) 14 from (by omega)), (show Γ_522 (39, 0, 0) 15 = Γ (39, 0, 0) 15 from (by omega)), hP, hI, hfr, hgr, hS, lv_sub hl [0, 3, 4, 5, 6, 7, 8] rfl⟩
            · have c_520 : ¬ v7.toInt = (0 : Int) := tl_neq c_520
              refine lv_iconst (v := 1) hx hb dX12_uses_135 (by decide) ?_
              refine lv_goto (tgt := 140) hx hb dX12_uses_136 (by decide) ?_
              refine lv_iadd hx hb dX12_uses_140 ?_
              refine lv_topi (fun z_535 ez_535 => ?_)
              try have iz_535 : z_535.toInt = (v_484 10).toInt + (1 : Int) := by rw [ez_535]; exact tl_addN (v_484 10) 1 rfl rfl (by omega) (by omega)
              obtain ⟨Γ_536, eΓ_536⟩ : ∃ y : tk_G, y = tg Γ_507 (39, 0, 0) 10 z_535.toInt := ⟨_, rfl⟩
              have hv_537 : ∀ i : Nat, i < 16 → ((upd v_484 10 z_535) i).toInt = Γ_536 (39, 0, 0) i := by rw [eΓ_536, tg_f]; exact tp_gi_upd hv_511
              have hI9 : tp_I cy L K Γ_536 (va_up f_508 o (.inr (12, [.ref (r_483 0), .ref (r_483 1), .int (v_484 0), .ref (r_483 2), .ref (r_483 3), .ref (r_483 4), .ref (r_483 5), .ref (r_483 6), .ref (r_483 7), .ref (r_483 8), .ref (r_483 9), .ref (r_483 10), .ref (r_483 11), .ref (r_483 12), .ref (r_483 13), .ref (r_483 14), .ref (r_483 15), .int (v_484 1), .int (v_484 2), .int (v_484 3), .int (v_484 4), .int (v_484 5), .int (v_484 6), .int (v_484 7), .ref (r_483 16), .int (v_484 8), .ref (r_483 17), .int (v_484 9), .ref (r_483 18), .long q_485, .ref (r_483 19), .ref (r_483 20), .int z_535, .int (v_484 11), .int (v_484 12), .ref (r_483 21), .ref (r_483 22), .int (v_484 13), .ref (r_483 23), .int (v_484 14), .int (v_484 15), .ref (r_483 24), .ref (r_483 25), .ref (r_483 26), .ref (r_483 27), .ref (r_483 28), .ref (r_483 29), .ref (r_483 30), .ref (r_483 31)]))) := by have q9 := hv_537; rw [eΓ_536, tg_f] at q9; rw [eΓ_536]; exact hI.setg hU rfl ho (show tp_o_M L K 0 0 (tgu (Γ_507 (39, 0, 0)) 10 z_535.toInt) _ from ⟨r_483, (upd v_484 10 z_535), q_485, rfl, hr_486, q9⟩)
              have hfr9 : ∀ b, (K b).1 ∉ ([39, 58, 57, 60] : List Nat) → va_up f_508 o (.inr (12, [.ref (r_483 0), .ref (r_483 1), .int (v_484 0), .ref (r_483 2), .ref (r_483 3), .ref (r_483 4), .ref (r_483 5), .ref (r_483 6), .ref (r_483 7), .ref (r_483 8), .ref (r_483 9), .ref (r_483 10), .ref (r_483 11), .ref (r_483 12), .ref (r_483 13), .ref (r_483 14), .ref (r_483 15), .int (v_484 1), .int (v_484 2), .int (v_484 3), .int (v_484 4), .int (v_484 5), .int (v_484 6), .int (v_484 7), .ref (r_483 16), .int (v_484 8), .ref (r_483 17), .int (v_484 9), .ref (r_483 18), .long q_485, .ref (r_483 19), .ref (r_483 20), .int z_535, .int (v_484 11), .int (v_484 12), .ref (r_483 21), .ref (r_483 22), .int (v_484 13), .ref (r_483 23), .int (v_484 14), .int (v_484 15), .ref (r_483 24), .ref (r_483 25), .ref (r_483 26), .ref (r_483 27), .ref (r_483 28), .ref (r_483 29), .ref (r_483 30), .ref (r_483 31)])) b = f b := tp_fr hfr ho (by decide)
              refine tp_put (cy := cy) (ci := 12) (v := .int z_535) (ty := tyX12 32) (C := RX12) (T := TX12) (N := 49) hx hb hta inlX12 tyX12 tyX12_ok nmX12 hown hK hP hD hS ho.1 hf_509 rfl 32 (by decide) (hta _ wk_933) (fun _ h9 => h9) rfl (tyX12_ok 32 (by decide)) rfl rfl (Nat.le_of_ble_eq_true rfl) dX12_uses_141 (fun H locs hP hD hS => ?_)
              have hP : va_P D vwCl (va_pl L (va_up f_508 o (.inr (12, [.ref (r_483 0), .ref (r_483 1), .int (v_484 0), .ref (r_483 2), .ref (r_483 3), .ref (r_483 4), .ref (r_483 5), .ref (r_483 6), .ref (r_483 7), .ref (r_483 8), .ref (r_483 9), .ref (r_483 10), .ref (r_483 11), .ref (r_483 12), .ref (r_483 13), .ref (r_483 14), .ref (r_483 15), .int (v_484 1), .int (v_484 2), .int (v_484 3), .int (v_484 4), .int (v_484 5), .int (v_484 6), .int (v_484 7), .ref (r_483 16), .int (v_484 8), .ref (r_483 17), .int (v_484 9), .ref (r_483 18), .long q_485, .ref (r_483 19), .ref (r_483 20), .int z_535, .int (v_484 11), .int (v_484 12), .ref (r_483 21), .ref (r_483 22), .int (v_484 13), .ref (r_483 23), .int (v_484 14), .int (v_484 15), .ref (r_483 24), .ref (r_483 25), .ref (r_483 26), .ref (r_483 27), .ref (r_483 28), .ref (r_483 29), .ref (r_483 30), .ref (r_483 31)])))) H := hP
              generalize hfe : va_up f_508 o (.inr (12, [.ref (r_483 0), .ref (r_483 1), .int (v_484 0), .ref (r_483 2), .ref (r_483 3), .ref (r_483 4), .ref (r_483 5), .ref (r_483 6), .ref (r_483 7), .ref (r_483 8), .ref (r_483 9), .ref (r_483 10), .ref (r_483 11), .ref (r_483 12), .ref (r_483 13), .ref (r_483 14), .ref (r_483 15), .int (v_484 1), .int (v_484 2), .int (v_484 3), .int (v_484 4), .int (v_484 5), .int (v_484 6), .int (v_484 7), .ref (r_483 16), .int (v_484 8), .ref (r_483 17), .int (v_484 9), .ref (r_483 18), .long q_485, .ref (r_483 19), .ref (r_483 20), .int z_535, .int (v_484 11), .int (v_484 12), .ref (r_483 21), .ref (r_483 22), .int (v_484 13), .ref (r_483 23), .int (v_484 14), .int (v_484 15), .ref (r_483 24), .ref (r_483 25), .ref (r_483 26), .ref (r_483 27), .ref (r_483 28), .ref (r_483 29), .ref (r_483 30), .ref (r_483 31)])) = f_538 at hP hI9 hfr9
              have hD : va_D A (va_pl L f_538) := tp_D hL hAL
              have hf_539 : f_538 o = .inr (12, [.ref (r_483 0), .ref (r_483 1), .int (v_484 0), .ref (r_483 2), .ref (r_483 3), .ref (r_483 4), .ref (r_483 5), .ref (r_483 6), .ref (r_483 7), .ref (r_483 8), .ref (r_483 9), .ref (r_483 10), .ref (r_483 11), .ref (r_483 12), .ref (r_483 13), .ref (r_483 14), .ref (r_483 15), .int (v_484 1), .int (v_484 2), .int (v_484 3), .int (v_484 4), .int (v_484 5), .int (v_484 6), .int (v_484 7), .ref (r_483 16), .int (v_484 8), .ref (r_483 17), .int (v_484 9), .ref (r_483 18), .long q_485, .ref (r_483 19), .ref (r_483 20), .int z_535, .int (v_484 11), .int (v_484 12), .ref (r_483 21), .ref (r_483 22), .int (v_484 13), .ref (r_483 23), .int (v_484 14), .int (v_484 15), .ref (r_483 24), .ref (r_483 25), .ref (r_483 26), .ref (r_483 27), .ref (r_483 28), .ref (r_483 29), .ref (r_483 30), .ref (r_483 31)]) := by rw [← hfe]; exact va_up_self _ _ _
              clear hfe
              have hI := hI9
              have hfr := hfr9
              clear hI9 hfr9
              have hgr : ∀ κ : tk_K, κ.1 ∉ ([39, 58, 57, 60] : List Nat) → Γ_536 κ = Γ κ := tg_fr hgr eΓ_536 (by decide)
              have hx_540 : (v_484 0).toInt = Γ_536 (39, 0, 0) 0 := hv_537 0 (by decide)
              have hx_541 : (v_484 9).toInt = Γ_536 (39, 0, 0) 9 := hv_537 9 (by decide)
              have hx_542 : z_535.toInt = Γ_536 (39, 0, 0) 10 := hv_537 10 (by decide)
              have hx_543 : (v_484 11).toInt = Γ_536 (39, 0, 0) 11 := hv_537 11 (by decide)
              have hx_544 : (v_484 12).toInt = Γ_536 (39, 0, 0) 12 := hv_537 12 (by decide)
              have hx_545 : (v_484 13).toInt = Γ_536 (39, 0, 0) 13 := hv_537 13 (by decide)
              have hx_546 : (v_484 14).toInt = Γ_536 (39, 0, 0) 14 := hv_537 14 (by decide)
              have hx_547 : (v_484 15).toInt = Γ_536 (39, 0, 0) 15 := hv_537 15 (by decide)
              have hus1 : Γ_536 (60, 300, 0) v6.toInt.toNat = v7.toInt := by rw [eΓ_536, tg_r (by decide)]; exact hsu1
              have hus2 : ∀ j : Nat, ¬ j = v6.toInt.toNat → Γ_536 (60, 300, 0) j = Γ_53 (60, 300, 0) j := fun j q => by rw [eΓ_536, tg_r (by decide)]; exact hsu2 j q
              obtain ⟨z_548, ez_548⟩ : ∃ y : Int32, y = v6 + 1 := ⟨_, rfl⟩
              refine lv_iinc (v := z_548) (lv' := [(6, .int z_548), (8, .int v8), (7, .int v7), (5, .int z_1), (0, .ref o), (1, .int p0), (2, .int p1), (3, .int p2), (4, .int p3)]) hx hb dX12_uses_144 hl (k := 2) rfl (by rw [ez_548]; rfl) (by decide) rfl (fun ls hl => ?_)
              try have iz_548 : z_548.toInt = v6.toInt + 1 := by rw [ez_548]; exact tl_addL v6 1 (by decide) (by omega) (by omega)
              refine lv_goto (tgt := 25) hx hb dX12_uses_147 (by decide) ?_
              exact ih25 (f_538, Γ_536, z_548) H locs ls (by show (300 - z_548.toInt).toNat < (300 - v6.toInt).toNat; omega) ⟨(show 0 ≤ z_548.toInt from (by omega)), (show z_548.toInt ≤ 300 from (by omega)), (show 0 ≤ Γ_536 (39, 0, 0) 10 ∧ Γ_536 (39, 0, 0) 10 ≤ z_548.toInt from (by omega)), (show Γ_536 (39, 0, 0) 11 = p2.toInt ∧ Γ_536 (39, 0, 0) 12 = p3.toInt from (by omega)), (show ∀ j : Nat, (j : Int) < z_548.toInt → ¬ Γ_536 (60, 300, 0) j = 0 → 0 < Γ_536 (39, 0, 0) 10 from (fun j9 q9 q8 => by by_cases q7 : j9 = v6.toInt.toNat; (rw [q7, hus1] at q8; omega); (have q6 := hus j9 (by omega) (by rw [← hus2 j9 q7]; exact q8); omega))), (show Γ_536 (39, 0, 0) 0 = Γ (39, 0, 0) 0 from (by omega)), (show Γ_536 (39, 0, 0) 13 = Γ (39, 0, 0) 13 from (by omega)), (show Γ_536 (39, 0, 0) 14 = Γ (39, 0, 0) 14 from (by omega)), (show Γ_536 (39, 0, 0) 15 = Γ (39, 0, 0) 15 from (by omega)), hP, hI, hfr, hgr, hS, lv_sub hl [0, 3, 4, 5, 6, 7, 8] rfl⟩
          · have c_501 : v8.toInt < z_500.toInt := tl_nle c_501
            refine lv_iload hx hb dX12_uses_87 (lv_at hl 1 rfl) ?_
            refine lv_if_eq (tgt := 116) hx hb dX12_uses_89 (by decide) (fun c_549 => ?_) (fun c_549 => ?_)
            · have c_549 : v7.toInt = (0 : Int) := tl_eq c_549
              refine lv_aload_n hx hb dX12_uses_116 rfl (lv_at hl 4 rfl) ?_
              refine tp_get (cy := cy) (ci := 12) (v := .ref (r_483 20)) (C := RX12) (T := TX12) (N := 49) hx hb hta inlX12 hown hK hP ho.1 hf_482 rfl 31 (by decide) (hta _ wk_170) (fun _ h9 => h9) rfl dX12_uses_117 ?_
              refine lv_iload hx hb dX12_uses_120 (lv_at hl 2 rfl) ?_
              refine lv_iload hx hb dX12_uses_122 (lv_at hl 1 rfl) ?_
              obtain ⟨g_551, hf_550, hg_552⟩ := (show tp_gz cy (300) (Γ_481 (60, 300, 0)) (f_480 (r_483 20)) from hI.at (show tp_r L K 60 300 0 (r_483 20) from hr_486 20 (by decide)))
              have hn_553 : vp_in v6 (300) := tl_in (by omega) (by omega)
              have nz_554 : (vp_nar .boolean v7).toInt = v7.toInt := tl_b01 hv7
              obtain ⟨Γ_555, eΓ_555⟩ : ∃ y : tk_G, y = tg Γ_481 (60, 300, 0) v6.toInt.toNat v7.toInt := ⟨_, rfl⟩
              have hI9 : tp_I cy L K Γ_555 (va_up f_480 (r_483 20) (.inl (cy 2, 300, .inl (upd g_551 v6.toNatClampNeg (vp_nar .boolean v7))))) := by rw [eΓ_555]; exact hI.setg hU rfl (show tp_r L K 60 300 0 (r_483 20) from hr_486 20 (by decide)) (show tp_gz cy (300) (tgu (Γ_481 (60, 300, 0)) v6.toInt.toNat v7.toInt) _ from ⟨_, rfl, tp_gz_upd hg_552 nz_554⟩)
              have hfr9 : ∀ b, (K b).1 ∉ ([39, 58, 57, 60] : List Nat) → va_up f_480 (r_483 20) (.inl (cy 2, 300, .inl (upd g_551 v6.toNatClampNeg (vp_nar .boolean v7)))) b = f b := tp_fr hfr (show tp_r L K 60 300 0 (r_483 20) from hr_486 20 (by decide)) (by decide)
              refine tp_zast (cy := cy) hx hb hK hP hD hS (show tp_r L K 60 300 0 (r_483 20) from hr_486 20 (by decide)).1 hf_550 hn_553 dX12_uses_124 (fun H locs hP hD hS => ?_)
              have hP : va_P D vwCl (va_pl L (va_up f_480 (r_483 20) (.inl (cy 2, 300, .inl (upd g_551 v6.toNatClampNeg (vp_nar .boolean v7)))))) H := hP
              generalize hfe : va_up f_480 (r_483 20) (.inl (cy 2, 300, .inl (upd g_551 v6.toNatClampNeg (vp_nar .boolean v7)))) = f_556 at hP hI9 hfr9
              have hD : va_D A (va_pl L f_556) := tp_D hL hAL
              have hf_557 := (show f_556 o = _ from by rw [← hfe, va_up_ne _ _ (tp_ne ho (show tp_r L K 60 300 0 (r_483 20) from hr_486 20 (by decide)) (by decide))]).trans hf_482
              have hf_558 : f_556 (r_483 20) = .inl (cy 2, 300, .inl (upd g_551 v6.toNatClampNeg (vp_nar .boolean v7))) := by rw [← hfe]; exact va_up_self _ _ _
              clear hfe
              have hI := hI9
              have hfr := hfr9
              clear hI9 hfr9
              have hgr : ∀ κ : tk_K, κ.1 ∉ ([39, 58, 57, 60] : List Nat) → Γ_555 κ = Γ κ := tg_fr hgr eΓ_555 (by decide)
              have hv_559 : ∀ i : Nat, i < 16 → (v_484 i).toInt = Γ_555 (39, 0, 0) i := fun i hi => by rw [eΓ_555, tg_r (by decide)]; exact hv_487 i hi
              have hx_560 : (v_484 0).toInt = Γ_555 (39, 0, 0) 0 := hv_559 0 (by decide)
              have hx_561 : (v_484 9).toInt = Γ_555 (39, 0, 0) 9 := hv_559 9 (by decide)
              have hx_562 : (v_484 10).toInt = Γ_555 (39, 0, 0) 10 := hv_559 10 (by decide)
              have hx_563 : (v_484 11).toInt = Γ_555 (39, 0, 0) 11 := hv_559 11 (by decide)
              have hx_564 : (v_484 12).toInt = Γ_555 (39, 0, 0) 12 := hv_559 12 (by decide)
              have hx_565 : (v_484 13).toInt = Γ_555 (39, 0, 0) 13 := hv_559 13 (by decide)
              have hx_566 : (v_484 14).toInt = Γ_555 (39, 0, 0) 14 := hv_559 14 (by decide)
              have hx_567 : (v_484 15).toInt = Γ_555 (39, 0, 0) 15 := hv_559 15 (by decide)
              have hsu1 : Γ_555 (60, 300, 0) v6.toInt.toNat = v7.toInt := by rw [eΓ_555]; exact tg_s
              have hsu2 : ∀ j : Nat, ¬ j = v6.toInt.toNat → Γ_555 (60, 300, 0) j = Γ_53 (60, 300, 0) j := fun j q => by rw [eΓ_555, tg_i q, iu, hwu]
              refine lv_aload_n hx hb dX12_uses_125 rfl (lv_at hl 4 rfl) ?_
              refine lv_dup hx hb dX12_uses_126 rfl ?_
              refine tp_get (cy := cy) (ci := 12) (v := .int (v_484 10)) (C := RX12) (T := TX12) (N := 49) hx hb hta inlX12 hown hK hP ho.1 hf_557 rfl 32 (by decide) (hta _ wk_933) (fun _ h9 => h9) rfl dX12_uses_127 ?_
              refine lv_iload hx hb dX12_uses_130 (lv_at hl 1 rfl) ?_
              refine lv_if_eq (tgt := 139) hx hb dX12_uses_132 (by decide) (fun c_568 => ?_) (fun c_568 => ?_)
              · have c_568 : v7.toInt = (0 : Int) := tl_eq c_568
                refine lv_iconst (v := 0) hx hb dX12_uses_139 (by decide) ?_
                refine lv_iadd hx hb dX12_uses_140 ?_
                refine lv_topi (fun z_569 ez_569 => ?_)
                try have iz_569 : z_569.toInt = (v_484 10).toInt + (0 : Int) := by rw [ez_569]; exact tl_addN (v_484 10) 0 rfl rfl (by omega) (by omega)
                obtain ⟨Γ_570, eΓ_570⟩ : ∃ y : tk_G, y = tg Γ_555 (39, 0, 0) 10 z_569.toInt := ⟨_, rfl⟩
                have hv_571 : ∀ i : Nat, i < 16 → ((upd v_484 10 z_569) i).toInt = Γ_570 (39, 0, 0) i := by rw [eΓ_570, tg_f]; exact tp_gi_upd hv_559
                have hI9 : tp_I cy L K Γ_570 (va_up f_556 o (.inr (12, [.ref (r_483 0), .ref (r_483 1), .int (v_484 0), .ref (r_483 2), .ref (r_483 3), .ref (r_483 4), .ref (r_483 5), .ref (r_483 6), .ref (r_483 7), .ref (r_483 8), .ref (r_483 9), .ref (r_483 10), .ref (r_483 11), .ref (r_483 12), .ref (r_483 13), .ref (r_483 14), .ref (r_483 15), .int (v_484 1), .int (v_484 2), .int (v_484 3), .int (v_484 4), .int (v_484 5), .int (v_484 6), .int (v_484 7), .ref (r_483 16), .int (v_484 8), .ref (r_483 17), .int (v_484 9), .ref (r_483 18), .long q_485, .ref (r_483 19), .ref (r_483 20), .int z_569, .int (v_484 11), .int (v_484 12), .ref (r_483 21), .ref (r_483 22), .int (v_484 13), .ref (r_483 23), .int (v_484 14), .int (v_484 15), .ref (r_483 24), .ref (r_483 25), .ref (r_483 26), .ref (r_483 27), .ref (r_483 28), .ref (r_483 29), .ref (r_483 30), .ref (r_483 31)]))) := by have q9 := hv_571; rw [eΓ_570, tg_f] at q9; rw [eΓ_570]; exact hI.setg hU rfl ho (show tp_o_M L K 0 0 (tgu (Γ_555 (39, 0, 0)) 10 z_569.toInt) _ from ⟨r_483, (upd v_484 10 z_569), q_485, rfl, hr_486, q9⟩)
                have hfr9 : ∀ b, (K b).1 ∉ ([39, 58, 57, 60] : List Nat) → va_up f_556 o (.inr (12, [.ref (r_483 0), .ref (r_483 1), .int (v_484 0), .ref (r_483 2), .ref (r_483 3), .ref (r_483 4), .ref (r_483 5), .ref (r_483 6), .ref (r_483 7), .ref (r_483 8), .ref (r_483 9), .ref (r_483 10), .ref (r_483 11), .ref (r_483 12), .ref (r_483 13), .ref (r_483 14), .ref (r_483 15), .int (v_484 1), .int (v_484 2), .int (v_484 3), .int (v_484 4), .int (v_484 5), .int (v_484 6), .int (v_484 7), .ref (r_483 16), .int (v_484 8), .ref (r_483 17), .int (v_484 9), .ref (r_483 18), .long q_485, .ref (r_483 19), .ref (r_483 20), .int z_569, .int (v_484 11), .int (v_484 12), .ref (r_483 21), .ref (r_483 22), .int (v_484 13), .ref (r_483 23), .int (v_484 14), .int (v_484 15), .ref (r_483 24), .ref (r_483 25), .ref (r_483 26), .ref (r_483 27), .ref (r_483 28), .ref (r_483 29), .ref (r_483 30), .ref (r_483 31)])) b = f b := tp_fr hfr ho (by decide)
                refine tp_put (cy := cy) (ci := 12) (v := .int z_569) (ty := tyX12 32) (C := RX12) (T := TX12) (N := 49) hx hb hta inlX12 tyX12 tyX12_ok nmX12 hown hK hP hD hS ho.1 hf_557 rfl 32 (by decide) (hta _ wk_933) (fun _ h9 => h9) rfl (tyX12_ok 32 (by decide)) rfl rfl (Nat.le_of_ble_eq_true rfl) dX12_uses_141 (fun H locs hP hD hS => ?_)
                have hP : va_P D vwCl (va_pl L (va_up f_556 o (.inr (12, [.ref (r_483 0), .ref (r_483 1), .int (v_484 0), .ref (r_483 2), .ref (r_483 3), .ref (r_483 4), .ref (r_483 5), .ref (r_483 6), .ref (r_483 7), .ref (r_483 8), .ref (r_483 9), .ref (r_483 10), .ref (r_483 11), .ref (r_483 12), .ref (r_483 13), .ref (r_483 14), .ref (r_483 15), .int (v_484 1), .int (v_484 2), .int (v_484 3), .int (v_484 4), .int (v_484 5), .int (v_484 6), .int (v_484 7), .ref (r_483 16), .int (v_484 8), .ref (r_483 17), .int (v_484 9), .ref (r_483 18), .long q_485, .ref (r_483 19), .ref (r_483 20), .int z_569, .int (v_484 11), .int (v_484 12), .ref (r_483 21), .ref (r_483 22), .int (v_484 13), .ref (r_483 23), .int (v_484 14), .int (v_484 15), .ref (r_483 24), .ref (r_483 25), .ref (r_483 26), .ref (r_483 27), .ref (r_483 28), .ref (r_483 29), .ref (r_483 30), .ref (r_483 31)])))) H := hP
                generalize hfe : va_up f_556 o (.inr (12, [.ref (r_483 0), .ref (r_483 1), .int (v_484 0), .ref (r_483 2), .ref (r_483 3), .ref (r_483 4), .ref (r_483 5), .ref (r_483 6), .ref (r_483 7), .ref (r_483 8), .ref (r_483 9), .ref (r_483 10), .ref (r_483 11), .ref (r_483 12), .ref (r_483 13), .ref (r_483 14), .ref (r_483 15), .int (v_484 1), .int (v_484 2), .int (v_484 3), .int (v_484 4), .int (v_484 5), .int (v_484 6), .int (v_484 7), .ref (r_483 16), .int (v_484 8), .ref (r_483 17), .int (v_484 9), .ref (r_483 18), .long q_485, .ref (r_483 19), .ref (r_483 20), .int z_569, .int (v_484 11), .int (v_484 12), .ref (r_483 21), .ref (r_483 22), .int (v_484 13), .ref (r_483 23), .int (v_484 14), .int (v_484 15), .ref (r_483 24), .ref (r_483 25), .ref (r_483 26), .ref (r_483 27), .ref (r_483 28), .ref (r_483 29), .ref (r_483 30), .ref (r_483 31)])) = f_572 at hP hI9 hfr9
                have hD : va_D A (va_pl L f_572) := tp_D hL hAL
                have hf_573 : f_572 o = .inr (12, [.ref (r_483 0), .ref (r_483 1), .int (v_484 0), .ref (r_483 2), .ref (r_483 3), .ref (r_483 4), .ref (r_483 5), .ref (r_483 6), .ref (r_483 7), .ref (r_483 8), .ref (r_483 9), .ref (r_483 10), .ref (r_483 11), .ref (r_483 12), .ref (r_483 13), .ref (r_483 14), .ref (r_483 15), .int (v_484 1), .int (v_484 2), .int (v_484 3), .int (v_484 4), .int (v_484 5), .int (v_484 6), .int (v_484 7), .ref (r_483 16), .int (v_484 8), .ref (r_483 17), .int (v_484 9), .ref (r_483 18), .long q_485, .ref (r_483 19), .ref (r_483 20), .int z_569, .int (v_484 11), .int (v_484 12), .ref (r_483 21), .ref (r_483 22), .int (v_484 13), .ref (r_483 23), .int (v_484 14), .int (v_484 15), .ref (r_483 24), .ref (r_483 25), .ref (r_483 26), .ref (r_483 27), .ref (r_483 28), .ref (r_483 29), .ref (r_483 30), .ref (r_483 31)]) := by rw [← hfe]; exact va_up_self _ _ _
                clear hfe
                have hI := hI9
                have hfr := hfr9
                clear hI9 hfr9
                have hgr : ∀ κ : tk_K, κ.1 ∉ ([39, 58, 57, 60] : List Nat) → Γ_570 κ = Γ κ := tg_fr hgr eΓ_570 (by decide)
                have hx_574 : (v_484 0).toInt = Γ_570 (39, 0, 0) 0 := hv_571 0 (by decide)
                have hx_575 : (v_484 9).toInt = Γ_570 (39, 0, 0) 9 := hv_571 9 (by decide)
                have hx_576 : z_569.toInt = Γ_570 (39, 0, 0) 10 := hv_571 10 (by decide)
                have hx_577 : (v_484 11).toInt = Γ_570 (39, 0, 0) 11 := hv_571 11 (by decide)
                have hx_578 : (v_484 12).toInt = Γ_570 (39, 0, 0) 12 := hv_571 12 (by decide)
                have hx_579 : (v_484 13).toInt = Γ_570 (39, 0, 0) 13 := hv_571 13 (by decide)
                have hx_580 : (v_484 14).toInt = Γ_570 (39, 0, 0) 14 := hv_571 14 (by decide)
                have hx_581 : (v_484 15).toInt = Γ_570 (39, 0, 0) 15 := hv_571 15 (by decide)
                have hus1 : Γ_570 (60, 300, 0) v6.toInt.toNat = v7.toInt := by rw [eΓ_570, tg_r (by decide)]; exact hsu1
                have hus2 : ∀ j : Nat, ¬ j = v6.toInt.toNat → Γ_570 (60, 300, 0) j = Γ_53 (60, 300, 0) j := fun j q => by rw [eΓ_570, tg_r (by decide)]; exact hsu2 j q
                obtain ⟨z_582, ez_582⟩ : ∃ y : Int32, y = v6 + 1 := ⟨_, rfl⟩
                refine lv_iinc (v := z_582) (lv' := [(6, .int z_582), (8, .int v8), (7, .int v7), (5, .int z_1), (0, .ref o), (1, .int p0), (2, .int p1), (3, .int p2), (4, .int p3)]) hx hb dX12_uses_144 hl (k := 2) rfl (by rw [ez_582]; rfl) (by decide) rfl (fun ls hl => ?_)
                try have iz_582 : z_582.toInt = v6.toInt + 1 := by rw [ez_582]; exact tl_addL v6 1 (by decide) (by omega) (by omega)
                refine lv_goto (tgt := 25) hx hb dX12_uses_147 (by decide) ?_
                exact ih25 (f_572, Γ_570, z_582) H locs ls (by show (300 - z_582.toInt).toNat < (300 - v6.toInt).toNat; omega) ⟨(show 0 ≤ z_582.toInt from (by omega)), (show z_582.toInt ≤ 300 from (by omega)), (show 0 ≤ Γ_570 (39, 0, 0) 10 ∧ Γ_570 (39, 0, 0) 10 ≤ z_582.toInt from (by omega)), (show Γ_570 (39, 0, 0) 11 = p2.toInt ∧ Γ_570 (39, 0, 0) 12 = p3.toInt from (by omega)), (show ∀ j : Nat, (j : Int) < z_582.toInt → ¬ Γ_570 (60, 300, 0) j = 0 → 0 < Γ_570 (39, 0, 0) 10 from (fun j9 q9 q8 => by by_cases q7 : j9 = v6.toInt.toNat; (rw [q7, hus1] at q8; omega); (have q6 := hus j9 (by omega) (by rw [← hus2 j9 q7]; exact q8); omega))), (show Γ_570 (39, 0, 0) 0 = Γ (39, 0, 0) 0 from (by omega)), (show Γ_570 (39, 0, 0) 13 = Γ (39, 0, 0) 13 from (by omega)), (show Γ_570 (39, 0, 0) 14 = Γ (39, 0, 0) 14 from (by omega)), (show Γ_570 (39, 0, 0) 15 = Γ (39, 0, 0) 15 from (by omega)), hP, hI, hfr, hgr, hS, lv_sub hl [0, 3, 4, 5, 6, 7, 8] rfl⟩
              · have c_568 : ¬ v7.toInt = (0 : Int) := tl_neq c_568
                exfalso; omega
            · have c_549 : ¬ v7.toInt = (0 : Int) := tl_neq c_549
              refine lv_aload_n hx hb dX12_uses_92 rfl (lv_at hl 4 rfl) ?_
              refine lv_iload hx hb dX12_uses_93 (lv_at hl 3 rfl) ?_
              refine lv_iload hx hb dX12_uses_95 (lv_at hl 0 rfl) ?_
              refine tq_ciR hS (hAf _ hS.1) (tq_rV (As := [.int z_1, .int v8]) (rest := []) ⟨hx, hb, hml, hown, hta⟩ (tp_P.pre hK hN hL hU hI hP) (tp_recv hK hP ho.1 hf_482 rfl) lk_X12_355 (r_X12_isHolding l D cy H.size L K Γ_481 f_480 o z_1 v8 ho (by first | omega | (simp only [Int32.toInt_toInt64]; omega) | decide | assumption) (by first | omega | (simp only [Int32.toInt_toInt64]; omega) | decide | assumption) (by rw [hgr (45, 1056, 0) (by decide), hgr (43, 8800, 0) (by decide)]; have q9 := htst v8.toInt.toNat (by omega); rw [show ((v8.toInt.toNat : Nat) : Int) = v8.toInt from by omega, show t1 = z_1.toInt from by omega] at q9; exact q9)) rfl rfl ⟨Nat.le_of_ble_eq_true rfl, Nat.le_of_ble_eq_true rfl⟩ rfl hl.1 rfl (Nat.le_of_ble_eq_true rfl) dX12_uses_97 ⟨Nat.le_of_ble_eq_true rfl, Nat.le_of_ble_eq_true rfl⟩) (fun r_584 f_585 Γ_587 H locs hw_583 hP hI hc_586 hcg_588 hS => ?_)
              have hD : va_D A (va_pl L f_585) := tp_D hL hAL
              have hfr := tp_fr2 hfr hc_586 (by decide)
              have hgr : ∀ κ : tk_K, κ.1 ∉ ([39, 58, 57, 60] : List Nat) → Γ_587 κ = Γ κ := tg_fr2 hgr hcg_588 (by decide)
              obtain ⟨hE_589, hw_583⟩ := hw_583
              have hE_589 : tl_J r_584 (True) := hE_589
              have hw_583 : Γ_587 (39, 0, 0) 0 = Γ_481 (39, 0, 0) 0 ∧ Γ_587 (39, 0, 0) 10 = Γ_481 (39, 0, 0) 10 ∧ Γ_587 (39, 0, 0) 11 = Γ_481 (39, 0, 0) 11 ∧ Γ_587 (39, 0, 0) 12 = Γ_481 (39, 0, 0) 12 ∧ Γ_587 (39, 0, 0) 13 = Γ_481 (39, 0, 0) 13 ∧ Γ_587 (39, 0, 0) 14 = Γ_481 (39, 0, 0) 14 ∧ Γ_587 (39, 0, 0) 15 = Γ_481 (39, 0, 0) 15 := hw_583
              refine lv_if_ne (tgt := 107) hx hb dX12_uses_100 (by decide) (fun c_590 => ?_) (fun c_590 => ?_)
              · have c_590 := hE_589.t c_590
                refine lv_iconst (v := 0) hx hb dX12_uses_107 (by decide) ?_
                refine lv_istore (lv' := [(7, .int 0), (8, .int v8), (6, .int v6), (5, .int z_1), (0, .ref o), (1, .int p0), (2, .int p1), (3, .int p2), (4, .int p3)]) hx hb dX12_uses_108 hl (by decide) rfl (fun ls hl => ?_)
                obtain ⟨z_591, ez_591⟩ : ∃ y : Int32, y = v8 + 1 := ⟨_, rfl⟩
                refine lv_iinc (v := z_591) (lv' := [(8, .int z_591), (7, .int 0), (6, .int v6), (5, .int z_1), (0, .ref o), (1, .int p0), (2, .int p1), (3, .int p2), (4, .int p3)]) hx hb dX12_uses_110 hl (k := 1) rfl (by rw [ez_591]; rfl) (by decide) rfl (fun ls hl => ?_)
                try have iz_591 : z_591.toInt = v8.toInt + 1 := by rw [ez_591]; exact tl_addL v8 1 (by decide) (by omega) (by omega)
                refine lv_goto (tgt := 75) hx hb dX12_uses_113 (by decide) ?_
                exact ih75 (f_585, Γ_587, z_591, 0) H locs ls (by show (12 - z_591.toInt).toNat < (12 - v8.toInt).toNat; omega) ⟨(show 0 ≤ z_591.toInt ∧ z_591.toInt ≤ 12 from (by omega)), (show (0 : Int) = 0 ∨ (0 : Int) = 1 from (by decide)), (show Γ_587 (39, 0, 0) 0 = Γ_468 (39, 0, 0) 0 from (by omega)), (show Γ_587 (39, 0, 0) 11 = Γ_468 (39, 0, 0) 11 from (by omega)), (show Γ_587 (39, 0, 0) 12 = Γ_468 (39, 0, 0) 12 from (by omega)), (show Γ_587 (39, 0, 0) 13 = Γ_468 (39, 0, 0) 13 from (by omega)), (show Γ_587 (39, 0, 0) 14 = Γ_468 (39, 0, 0) 14 from (by omega)), (show Γ_587 (39, 0, 0) 15 = Γ_468 (39, 0, 0) 15 from (by omega)), (show Γ_587 (39, 0, 0) 10 = Γ_468 (39, 0, 0) 10 from (by omega)), (show Γ_587 (60, 300, 0) = Γ_468 (60, 300, 0) from ((hcg_588 _ (by decide)).trans iu)), hP, hI, hfr, hgr, hS, lv_sub hl [0, 1, 2, 3, 4, 5, 6, 7, 8] rfl⟩
              · have c_590 := c_590
                refine lv_iconst (v := 1) hx hb dX12_uses_103 (by decide) ?_
                refine lv_goto (tgt := 108) hx hb dX12_uses_104 (by decide) ?_
                refine lv_istore (lv' := [(7, .int 1), (8, .int v8), (6, .int v6), (5, .int z_1), (0, .ref o), (1, .int p0), (2, .int p1), (3, .int p2), (4, .int p3)]) hx hb dX12_uses_108 hl (by decide) rfl (fun ls hl => ?_)
                obtain ⟨z_592, ez_592⟩ : ∃ y : Int32, y = v8 + 1 := ⟨_, rfl⟩
                refine lv_iinc (v := z_592) (lv' := [(8, .int z_592), (7, .int 1), (6, .int v6), (5, .int z_1), (0, .ref o), (1, .int p0), (2, .int p1), (3, .int p2), (4, .int p3)]) hx hb dX12_uses_110 hl (k := 1) rfl (by rw [ez_592]; rfl) (by decide) rfl (fun ls hl => ?_)
                try have iz_592 : z_592.toInt = v8.toInt + 1 := by rw [ez_592]; exact tl_addL v8 1 (by decide) (by omega) (by omega)
                refine lv_goto (tgt := 75) hx hb dX12_uses_113 (by decide) ?_
                exact ih75 (f_585, Γ_587, z_592, 1) H locs ls (by show (12 - z_592.toInt).toNat < (12 - v8.toInt).toNat; omega) ⟨(show 0 ≤ z_592.toInt ∧ z_592.toInt ≤ 12 from (by omega)), (show (1 : Int) = 0 ∨ (1 : Int) = 1 from (by decide)), (show Γ_587 (39, 0, 0) 0 = Γ_468 (39, 0, 0) 0 from (by omega)), (show Γ_587 (39, 0, 0) 11 = Γ_468 (39, 0, 0) 11 from (by omega)), (show Γ_587 (39, 0, 0) 12 = Γ_468 (39, 0, 0) 12 from (by omega)), (show Γ_587 (39, 0, 0) 13 = Γ_468 (39, 0, 0) 13 from (by omega)), (show Γ_587 (39, 0, 0) 14 = Γ_468 (39, 0, 0) 14 from (by omega)), (show Γ_587 (39, 0, 0) 15 = Γ_468 (39, 0, 0) 15 from (by omega)), (show Γ_587 (39, 0, 0) 10 = Γ_468 (39, 0, 0) 10 from (by omega)), (show Γ_587 (60, 300, 0) = Γ_468 (60, 300, 0) from ((hcg_588 _ (by decide)).trans iu)), hP, hI, hfr, hgr, hS, lv_sub hl [0, 1, 2, 3, 4, 5, 6, 7, 8] rfl⟩
