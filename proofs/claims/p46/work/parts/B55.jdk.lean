theorem dJ9_floorDiv_7cf53_0 : decode cJ9_floorDiv_7cf53 0 = .ok (.iload_n 0, 1) := by decide +kernel
theorem dJ9_floorDiv_7cf53_1 : decode cJ9_floorDiv_7cf53 1 = .ok (.iload_n 1, 1) := by decide +kernel
theorem dJ9_floorDiv_7cf53_2 : decode cJ9_floorDiv_7cf53 2 = .ok (.idiv, 1) := by decide +kernel
theorem dJ9_floorDiv_7cf53_3 : decode cJ9_floorDiv_7cf53 3 = .ok (.istore_n 2, 1) := by decide +kernel
theorem dJ9_floorDiv_7cf53_4 : decode cJ9_floorDiv_7cf53 4 = .ok (.iload_n 0, 1) := by decide +kernel
theorem dJ9_floorDiv_7cf53_5 : decode cJ9_floorDiv_7cf53 5 = .ok (.iload_n 1, 1) := by decide +kernel
theorem dJ9_floorDiv_7cf53_6 : decode cJ9_floorDiv_7cf53 6 = .ok (.ixor, 1) := by decide +kernel
theorem dJ9_floorDiv_7cf53_7 : decode cJ9_floorDiv_7cf53 7 = .ok (.ifCond .ge 14, 3) := by decide +kernel
theorem dJ9_floorDiv_7cf53_10 : decode cJ9_floorDiv_7cf53 10 = .ok (.iload_n 2, 1) := by decide +kernel
theorem dJ9_floorDiv_7cf53_11 : decode cJ9_floorDiv_7cf53 11 = .ok (.iload_n 1, 1) := by decide +kernel
theorem dJ9_floorDiv_7cf53_12 : decode cJ9_floorDiv_7cf53 12 = .ok (.imul, 1) := by decide +kernel
theorem dJ9_floorDiv_7cf53_13 : decode cJ9_floorDiv_7cf53 13 = .ok (.iload_n 0, 1) := by decide +kernel
theorem dJ9_floorDiv_7cf53_14 : decode cJ9_floorDiv_7cf53 14 = .ok (.if_icmp .eq 7, 3) := by decide +kernel
theorem dJ9_floorDiv_7cf53_17 : decode cJ9_floorDiv_7cf53 17 = .ok (.iload_n 2, 1) := by decide +kernel
theorem dJ9_floorDiv_7cf53_18 : decode cJ9_floorDiv_7cf53 18 = .ok (.iconst 1, 1) := by decide +kernel
theorem dJ9_floorDiv_7cf53_19 : decode cJ9_floorDiv_7cf53 19 = .ok (.isub, 1) := by decide +kernel
theorem dJ9_floorDiv_7cf53_20 : decode cJ9_floorDiv_7cf53 20 = .ok (.ireturn, 1) := by decide +kernel
theorem dJ9_floorDiv_7cf53_21 : decode cJ9_floorDiv_7cf53 21 = .ok (.iload_n 2, 1) := by decide +kernel
theorem dJ9_floorDiv_7cf53_22 : decode cJ9_floorDiv_7cf53 22 = .ok (.ireturn, 1) := by decide +kernel
theorem dJ9_floorDiv_f86c9_0 : decode cJ9_floorDiv_f86c9 0 = .ok (.lload_n 0, 1) := by decide +kernel
theorem dJ9_floorDiv_f86c9_1 : decode cJ9_floorDiv_f86c9 1 = .ok (.lload_n 2, 1) := by decide +kernel
theorem dJ9_floorDiv_f86c9_2 : decode cJ9_floorDiv_f86c9 2 = .ok (.ldiv, 1) := by decide +kernel
theorem dJ9_floorDiv_f86c9_3 : decode cJ9_floorDiv_f86c9 3 = .ok (.lstore 4, 2) := by decide +kernel
theorem dJ9_floorDiv_f86c9_5 : decode cJ9_floorDiv_f86c9 5 = .ok (.lload_n 0, 1) := by decide +kernel
theorem dJ9_floorDiv_f86c9_6 : decode cJ9_floorDiv_f86c9 6 = .ok (.lload_n 2, 1) := by decide +kernel
theorem dJ9_floorDiv_f86c9_7 : decode cJ9_floorDiv_f86c9 7 = .ok (.lxor, 1) := by decide +kernel
theorem dJ9_floorDiv_f86c9_8 : decode cJ9_floorDiv_f86c9 8 = .ok (.lconst 0, 1) := by decide +kernel
theorem dJ9_floorDiv_f86c9_9 : decode cJ9_floorDiv_f86c9 9 = .ok (.lcmp, 1) := by decide +kernel
theorem dJ9_floorDiv_f86c9_10 : decode cJ9_floorDiv_f86c9 10 = .ok (.ifCond .ge 17, 3) := by decide +kernel
theorem dJ9_floorDiv_f86c9_13 : decode cJ9_floorDiv_f86c9 13 = .ok (.lload 4, 2) := by decide +kernel
theorem dJ9_floorDiv_f86c9_15 : decode cJ9_floorDiv_f86c9 15 = .ok (.lload_n 2, 1) := by decide +kernel
theorem dJ9_floorDiv_f86c9_16 : decode cJ9_floorDiv_f86c9 16 = .ok (.lmul, 1) := by decide +kernel
theorem dJ9_floorDiv_f86c9_17 : decode cJ9_floorDiv_f86c9 17 = .ok (.lload_n 0, 1) := by decide +kernel
theorem dJ9_floorDiv_f86c9_18 : decode cJ9_floorDiv_f86c9 18 = .ok (.lcmp, 1) := by decide +kernel
theorem dJ9_floorDiv_f86c9_19 : decode cJ9_floorDiv_f86c9 19 = .ok (.ifCond .eq 8, 3) := by decide +kernel
theorem dJ9_floorDiv_f86c9_22 : decode cJ9_floorDiv_f86c9 22 = .ok (.lload 4, 2) := by decide +kernel
theorem dJ9_floorDiv_f86c9_24 : decode cJ9_floorDiv_f86c9 24 = .ok (.lconst 1, 1) := by decide +kernel
theorem dJ9_floorDiv_f86c9_25 : decode cJ9_floorDiv_f86c9 25 = .ok (.lsub, 1) := by decide +kernel
theorem dJ9_floorDiv_f86c9_26 : decode cJ9_floorDiv_f86c9 26 = .ok (.lreturn, 1) := by decide +kernel
theorem dJ9_floorDiv_f86c9_27 : decode cJ9_floorDiv_f86c9 27 = .ok (.lload 4, 2) := by decide +kernel
theorem dJ9_floorDiv_f86c9_29 : decode cJ9_floorDiv_f86c9 29 = .ok (.lreturn, 1) := by decide +kernel
theorem dJ6_bitCount_0f7a4_0 : decode cJ6_bitCount_0f7a4 0 = .ok (.iload_n 0, 1) := by decide +kernel
theorem dJ6_bitCount_0f7a4_1 : decode cJ6_bitCount_0f7a4 1 = .ok (.iload_n 0, 1) := by decide +kernel
theorem dJ6_bitCount_0f7a4_2 : decode cJ6_bitCount_0f7a4 2 = .ok (.iconst 1, 1) := by decide +kernel
theorem dJ6_bitCount_0f7a4_3 : decode cJ6_bitCount_0f7a4 3 = .ok (.iushr, 1) := by decide +kernel
theorem dJ6_bitCount_0f7a4_4 : decode cJ6_bitCount_0f7a4 4 = .ok (.ldc_w 265, 3) := by decide +kernel
theorem dJ6_bitCount_0f7a4_7 : decode cJ6_bitCount_0f7a4 7 = .ok (.iand, 1) := by decide +kernel
theorem dJ6_bitCount_0f7a4_8 : decode cJ6_bitCount_0f7a4 8 = .ok (.isub, 1) := by decide +kernel
theorem dJ6_bitCount_0f7a4_9 : decode cJ6_bitCount_0f7a4 9 = .ok (.istore_n 0, 1) := by decide +kernel
theorem dJ6_bitCount_0f7a4_10 : decode cJ6_bitCount_0f7a4 10 = .ok (.iload_n 0, 1) := by decide +kernel
theorem dJ6_bitCount_0f7a4_11 : decode cJ6_bitCount_0f7a4 11 = .ok (.ldc_w 266, 3) := by decide +kernel
theorem dJ6_bitCount_0f7a4_14 : decode cJ6_bitCount_0f7a4 14 = .ok (.iand, 1) := by decide +kernel
theorem dJ6_bitCount_0f7a4_15 : decode cJ6_bitCount_0f7a4 15 = .ok (.iload_n 0, 1) := by decide +kernel
theorem dJ6_bitCount_0f7a4_16 : decode cJ6_bitCount_0f7a4 16 = .ok (.iconst 2, 1) := by decide +kernel
theorem dJ6_bitCount_0f7a4_17 : decode cJ6_bitCount_0f7a4 17 = .ok (.iushr, 1) := by decide +kernel
theorem dJ6_bitCount_0f7a4_18 : decode cJ6_bitCount_0f7a4 18 = .ok (.ldc_w 266, 3) := by decide +kernel
theorem dJ6_bitCount_0f7a4_21 : decode cJ6_bitCount_0f7a4 21 = .ok (.iand, 1) := by decide +kernel
theorem dJ6_bitCount_0f7a4_22 : decode cJ6_bitCount_0f7a4 22 = .ok (.iadd, 1) := by decide +kernel
theorem dJ6_bitCount_0f7a4_23 : decode cJ6_bitCount_0f7a4 23 = .ok (.istore_n 0, 1) := by decide +kernel
theorem dJ6_bitCount_0f7a4_24 : decode cJ6_bitCount_0f7a4 24 = .ok (.iload_n 0, 1) := by decide +kernel
theorem dJ6_bitCount_0f7a4_25 : decode cJ6_bitCount_0f7a4 25 = .ok (.iload_n 0, 1) := by decide +kernel
theorem dJ6_bitCount_0f7a4_26 : decode cJ6_bitCount_0f7a4 26 = .ok (.iconst 4, 1) := by decide +kernel
theorem dJ6_bitCount_0f7a4_27 : decode cJ6_bitCount_0f7a4 27 = .ok (.iushr, 1) := by decide +kernel
theorem dJ6_bitCount_0f7a4_28 : decode cJ6_bitCount_0f7a4 28 = .ok (.iadd, 1) := by decide +kernel
theorem dJ6_bitCount_0f7a4_29 : decode cJ6_bitCount_0f7a4 29 = .ok (.ldc_w 267, 3) := by decide +kernel
theorem dJ6_bitCount_0f7a4_32 : decode cJ6_bitCount_0f7a4 32 = .ok (.iand, 1) := by decide +kernel
theorem dJ6_bitCount_0f7a4_33 : decode cJ6_bitCount_0f7a4 33 = .ok (.istore_n 0, 1) := by decide +kernel
theorem dJ6_bitCount_0f7a4_34 : decode cJ6_bitCount_0f7a4 34 = .ok (.iload_n 0, 1) := by decide +kernel
theorem dJ6_bitCount_0f7a4_35 : decode cJ6_bitCount_0f7a4 35 = .ok (.iload_n 0, 1) := by decide +kernel
theorem dJ6_bitCount_0f7a4_36 : decode cJ6_bitCount_0f7a4 36 = .ok (.bipush 8, 2) := by decide +kernel
theorem dJ6_bitCount_0f7a4_38 : decode cJ6_bitCount_0f7a4 38 = .ok (.iushr, 1) := by decide +kernel
theorem dJ6_bitCount_0f7a4_39 : decode cJ6_bitCount_0f7a4 39 = .ok (.iadd, 1) := by decide +kernel
theorem dJ6_bitCount_0f7a4_40 : decode cJ6_bitCount_0f7a4 40 = .ok (.istore_n 0, 1) := by decide +kernel
theorem dJ6_bitCount_0f7a4_41 : decode cJ6_bitCount_0f7a4 41 = .ok (.iload_n 0, 1) := by decide +kernel
theorem dJ6_bitCount_0f7a4_42 : decode cJ6_bitCount_0f7a4 42 = .ok (.iload_n 0, 1) := by decide +kernel
theorem dJ6_bitCount_0f7a4_43 : decode cJ6_bitCount_0f7a4 43 = .ok (.bipush 16, 2) := by decide +kernel
theorem dJ6_bitCount_0f7a4_45 : decode cJ6_bitCount_0f7a4 45 = .ok (.iushr, 1) := by decide +kernel
theorem dJ6_bitCount_0f7a4_46 : decode cJ6_bitCount_0f7a4 46 = .ok (.iadd, 1) := by decide +kernel
theorem dJ6_bitCount_0f7a4_47 : decode cJ6_bitCount_0f7a4 47 = .ok (.istore_n 0, 1) := by decide +kernel
theorem dJ6_bitCount_0f7a4_48 : decode cJ6_bitCount_0f7a4 48 = .ok (.iload_n 0, 1) := by decide +kernel
theorem dJ6_bitCount_0f7a4_49 : decode cJ6_bitCount_0f7a4 49 = .ok (.bipush 63, 2) := by decide +kernel
theorem dJ6_bitCount_0f7a4_51 : decode cJ6_bitCount_0f7a4 51 = .ok (.iand, 1) := by decide +kernel
theorem dJ6_bitCount_0f7a4_52 : decode cJ6_bitCount_0f7a4 52 = .ok (.ireturn, 1) := by decide +kernel
theorem wk_1473 : Cond.constant RJ6 265 (1431655765) ∈ tl_L := List.mem_filter.mpr ⟨lw_m6 (i := 21) rfl, rfl⟩
theorem wk_1474 : Cond.constant RJ6 266 (858993459) ∈ tl_L := List.mem_filter.mpr ⟨lw_m6 (i := 22) rfl, rfl⟩
theorem wk_1475 : Cond.constant RJ6 267 (252645135) ∈ tl_L := List.mem_filter.mpr ⟨lw_m6 (i := 23) rfl, rfl⟩
theorem dJ7_fill_53178_0 : decode cJ7_fill_53178 0 = .ok (.iconst 0, 1) := by decide +kernel
theorem dJ7_fill_53178_1 : decode cJ7_fill_53178 1 = .ok (.istore_n 2, 1) := by decide +kernel
theorem dJ7_fill_53178_2 : decode cJ7_fill_53178 2 = .ok (.aload_n 0, 1) := by decide +kernel
theorem dJ7_fill_53178_3 : decode cJ7_fill_53178 3 = .ok (.arraylength, 1) := by decide +kernel
theorem dJ7_fill_53178_4 : decode cJ7_fill_53178 4 = .ok (.istore_n 3, 1) := by decide +kernel
theorem dJ7_fill_53178_5 : decode cJ7_fill_53178 5 = .ok (.iload_n 2, 1) := by decide +kernel
theorem dJ7_fill_53178_6 : decode cJ7_fill_53178 6 = .ok (.iload_n 3, 1) := by decide +kernel
theorem dJ7_fill_53178_7 : decode cJ7_fill_53178 7 = .ok (.if_icmp .ge 13, 3) := by decide +kernel
theorem dJ7_fill_53178_10 : decode cJ7_fill_53178 10 = .ok (.aload_n 0, 1) := by decide +kernel
theorem dJ7_fill_53178_11 : decode cJ7_fill_53178 11 = .ok (.iload_n 2, 1) := by decide +kernel
theorem dJ7_fill_53178_12 : decode cJ7_fill_53178 12 = .ok (.iload_n 1, 1) := by decide +kernel
theorem dJ7_fill_53178_13 : decode cJ7_fill_53178 13 = .ok (.iastore, 1) := by decide +kernel
theorem dJ7_fill_53178_14 : decode cJ7_fill_53178 14 = .ok (.iinc 2 1, 3) := by decide +kernel
theorem dJ7_fill_53178_17 : decode cJ7_fill_53178 17 = .ok (.goto (-12), 3) := by decide +kernel
theorem dJ7_fill_53178_20 : decode cJ7_fill_53178 20 = .ok (.return_, 1) := by decide +kernel
theorem dJ7_fill_d0a16_0 : decode cJ7_fill_d0a16 0 = .ok (.iconst 0, 1) := by decide +kernel
theorem dJ7_fill_d0a16_1 : decode cJ7_fill_d0a16 1 = .ok (.istore_n 3, 1) := by decide +kernel
theorem dJ7_fill_d0a16_2 : decode cJ7_fill_d0a16 2 = .ok (.aload_n 0, 1) := by decide +kernel
theorem dJ7_fill_d0a16_3 : decode cJ7_fill_d0a16 3 = .ok (.arraylength, 1) := by decide +kernel
theorem dJ7_fill_d0a16_4 : decode cJ7_fill_d0a16 4 = .ok (.istore 4, 2) := by decide +kernel
theorem dJ7_fill_d0a16_6 : decode cJ7_fill_d0a16 6 = .ok (.iload_n 3, 1) := by decide +kernel
theorem dJ7_fill_d0a16_7 : decode cJ7_fill_d0a16 7 = .ok (.iload 4, 2) := by decide +kernel
theorem dJ7_fill_d0a16_9 : decode cJ7_fill_d0a16 9 = .ok (.if_icmp .ge 13, 3) := by decide +kernel
theorem dJ7_fill_d0a16_12 : decode cJ7_fill_d0a16 12 = .ok (.aload_n 0, 1) := by decide +kernel
theorem dJ7_fill_d0a16_13 : decode cJ7_fill_d0a16 13 = .ok (.iload_n 3, 1) := by decide +kernel
theorem dJ7_fill_d0a16_14 : decode cJ7_fill_d0a16 14 = .ok (.lload_n 1, 1) := by decide +kernel
theorem dJ7_fill_d0a16_15 : decode cJ7_fill_d0a16 15 = .ok (.lastore, 1) := by decide +kernel
theorem dJ7_fill_d0a16_16 : decode cJ7_fill_d0a16 16 = .ok (.iinc 3 1, 3) := by decide +kernel
theorem dJ7_fill_d0a16_19 : decode cJ7_fill_d0a16 19 = .ok (.goto (-13), 3) := by decide +kernel
theorem dJ7_fill_d0a16_22 : decode cJ7_fill_d0a16 22 = .ok (.return_, 1) := by decide +kernel
theorem dX4_add_0 : decode cX4_add 0 = .ok (.aload_n 0, 1) := by decide +kernel
theorem dX4_add_1 : decode cX4_add 1 = .ok (.getfield 26, 3) := by decide +kernel
theorem dX4_add_4 : decode cX4_add 4 = .ok (.bipush 24, 2) := by decide +kernel
theorem dX4_add_6 : decode cX4_add 6 = .ok (.if_icmp .lt 5, 3) := by decide +kernel
theorem dX4_add_9 : decode cX4_add 9 = .ok (.iconst (-1), 1) := by decide +kernel
theorem dX4_add_10 : decode cX4_add 10 = .ok (.ireturn, 1) := by decide +kernel
theorem dX4_add_11 : decode cX4_add 11 = .ok (.aload_n 0, 1) := by decide +kernel
theorem dX4_add_12 : decode cX4_add 12 = .ok (.getfield 9, 3) := by decide +kernel
theorem dX4_add_15 : decode cX4_add 15 = .ok (.aload_n 0, 1) := by decide +kernel
theorem dX4_add_16 : decode cX4_add 16 = .ok (.getfield 26, 3) := by decide +kernel
theorem dX4_add_19 : decode cX4_add 19 = .ok (.iload_n 1, 1) := by decide +kernel
theorem dX4_add_20 : decode cX4_add 20 = .ok (.iastore, 1) := by decide +kernel
theorem dX4_add_21 : decode cX4_add 21 = .ok (.aload_n 0, 1) := by decide +kernel
theorem dX4_add_22 : decode cX4_add 22 = .ok (.getfield 15, 3) := by decide +kernel
theorem dX4_add_25 : decode cX4_add 25 = .ok (.aload_n 0, 1) := by decide +kernel
theorem dX4_add_26 : decode cX4_add 26 = .ok (.getfield 26, 3) := by decide +kernel
theorem dX4_add_29 : decode cX4_add 29 = .ok (.iload_n 2, 1) := by decide +kernel
theorem dX4_add_30 : decode cX4_add 30 = .ok (.iastore, 1) := by decide +kernel
theorem dX4_add_31 : decode cX4_add 31 = .ok (.aload_n 0, 1) := by decide +kernel
theorem dX4_add_32 : decode cX4_add 32 = .ok (.getfield 18, 3) := by decide +kernel
theorem dX4_add_35 : decode cX4_add 35 = .ok (.aload_n 0, 1) := by decide +kernel
theorem dX4_add_36 : decode cX4_add 36 = .ok (.getfield 26, 3) := by decide +kernel
theorem dX4_add_39 : decode cX4_add 39 = .ok (.iload_n 3, 1) := by decide +kernel
theorem dX4_add_40 : decode cX4_add 40 = .ok (.iastore, 1) := by decide +kernel
theorem dX4_add_41 : decode cX4_add 41 = .ok (.aload_n 0, 1) := by decide +kernel
theorem dX4_add_42 : decode cX4_add 42 = .ok (.getfield 23, 3) := by decide +kernel
theorem dX4_add_45 : decode cX4_add 45 = .ok (.aload_n 0, 1) := by decide +kernel
theorem dX4_add_46 : decode cX4_add 46 = .ok (.getfield 26, 3) := by decide +kernel
theorem dX4_add_49 : decode cX4_add 49 = .ok (.aaload, 1) := by decide +kernel
theorem dX4_add_50 : decode cX4_add 50 = .ok (.ldc 30, 2) := by decide +kernel
theorem dX4_add_52 : decode cX4_add 52 = .ok (.invokestatic 31, 3) := by decide +kernel
theorem dX4_add_55 : decode cX4_add 55 = .ok (.aload_n 0, 1) := by decide +kernel
theorem dX4_add_56 : decode cX4_add 56 = .ok (.dup, 1) := by decide +kernel
theorem dX4_add_57 : decode cX4_add 57 = .ok (.getfield 26, 3) := by decide +kernel
theorem dX4_add_60 : decode cX4_add 60 = .ok (.iconst 1, 1) := by decide +kernel
theorem dX4_add_61 : decode cX4_add 61 = .ok (.iadd, 1) := by decide +kernel
theorem dX4_add_62 : decode cX4_add 62 = .ok (.putfield 26, 3) := by decide +kernel
theorem dX4_add_65 : decode cX4_add 65 = .ok (.aload_n 0, 1) := by decide +kernel
theorem dX4_add_66 : decode cX4_add 66 = .ok (.getfield 26, 3) := by decide +kernel
theorem dX4_add_69 : decode cX4_add 69 = .ok (.iconst 1, 1) := by decide +kernel
theorem dX4_add_70 : decode cX4_add 70 = .ok (.isub, 1) := by decide +kernel
theorem dX4_add_71 : decode cX4_add 71 = .ok (.ireturn, 1) := by decide +kernel
theorem wk_73 : Cond.fieldLink RX4 9 "ThinLine$Rows" "glass" "[I" ∈ tl_L := List.mem_filter.mpr ⟨lw_m1 (i := 48) rfl, rfl⟩
theorem wk_74 : Cond.fieldLink RX4 15 "ThinLine$Rows" "hour" "[I" ∈ tl_L := List.mem_filter.mpr ⟨lw_m1 (i := 52) rfl, rfl⟩
theorem wk_75 : Cond.fieldLink RX4 18 "ThinLine$Rows" "known" "[I" ∈ tl_L := List.mem_filter.mpr ⟨lw_m1 (i := 55) rfl, rfl⟩
theorem wk_213 : Cond.methodLink RX4 31 yJ7_fill_53178 ∈ tl_L := List.mem_filter.mpr ⟨lw_m2 (i := 210) rfl, rfl⟩
theorem wk_214 : Cond.static yJ7_fill_53178 ∈ tl_L := List.mem_filter.mpr ⟨lw_m2 (i := 211) rfl, rfl⟩
theorem wk_215 : Cond.initialized RJ7 ∈ tl_L := List.mem_filter.mpr ⟨lw_m1 (i := 15) rfl, rfl⟩
theorem wk_216 : Cond.code yJ7_fill_53178 cJ7_fill_53178 4 none ∈ tl_L := List.mem_filter.mpr ⟨lw_m2 (i := 212) rfl, rfl⟩
theorem lk_X4_31 : tl_kS RX4 31 yJ7_fill_53178 cJ7_fill_53178 4 none 2 := ⟨wk_216, wk_213, wk_214, wk_215, ⟨by decide +kernel, by decide +kernel, by decide +kernel⟩⟩
theorem dX4_copyFrom_0 : decode cX4_copyFrom 0 = .ok (.aload_n 0, 1) := by decide +kernel
theorem dX4_copyFrom_1 : decode cX4_copyFrom 1 = .ok (.aload_n 1, 1) := by decide +kernel
theorem dX4_copyFrom_2 : decode cX4_copyFrom 2 = .ok (.getfield 26, 3) := by decide +kernel
theorem dX4_copyFrom_5 : decode cX4_copyFrom 5 = .ok (.putfield 26, 3) := by decide +kernel
theorem dX4_copyFrom_8 : decode cX4_copyFrom 8 = .ok (.aload_n 0, 1) := by decide +kernel
theorem dX4_copyFrom_9 : decode cX4_copyFrom 9 = .ok (.aload_n 1, 1) := by decide +kernel
theorem dX4_copyFrom_10 : decode cX4_copyFrom 10 = .ok (.getfield 44, 3) := by decide +kernel
theorem dX4_copyFrom_13 : decode cX4_copyFrom 13 = .ok (.putfield 44, 3) := by decide +kernel
theorem dX4_copyFrom_16 : decode cX4_copyFrom 16 = .ok (.aload_n 1, 1) := by decide +kernel
theorem dX4_copyFrom_17 : decode cX4_copyFrom 17 = .ok (.getfield 9, 3) := by decide +kernel
theorem dX4_copyFrom_20 : decode cX4_copyFrom 20 = .ok (.iconst 0, 1) := by decide +kernel
theorem dX4_copyFrom_21 : decode cX4_copyFrom 21 = .ok (.aload_n 0, 1) := by decide +kernel
theorem dX4_copyFrom_22 : decode cX4_copyFrom 22 = .ok (.getfield 9, 3) := by decide +kernel
theorem dX4_copyFrom_25 : decode cX4_copyFrom 25 = .ok (.iconst 0, 1) := by decide +kernel
theorem dX4_copyFrom_26 : decode cX4_copyFrom 26 = .ok (.bipush 24, 2) := by decide +kernel
theorem dX4_copyFrom_28 : decode cX4_copyFrom 28 = .ok (.invokestatic 47, 3) := by decide +kernel
theorem dX4_copyFrom_31 : decode cX4_copyFrom 31 = .ok (.aload_n 1, 1) := by decide +kernel
theorem dX4_copyFrom_32 : decode cX4_copyFrom 32 = .ok (.getfield 15, 3) := by decide +kernel
theorem dX4_copyFrom_35 : decode cX4_copyFrom 35 = .ok (.iconst 0, 1) := by decide +kernel
theorem dX4_copyFrom_36 : decode cX4_copyFrom 36 = .ok (.aload_n 0, 1) := by decide +kernel
theorem dX4_copyFrom_37 : decode cX4_copyFrom 37 = .ok (.getfield 15, 3) := by decide +kernel
theorem dX4_copyFrom_40 : decode cX4_copyFrom 40 = .ok (.iconst 0, 1) := by decide +kernel
theorem dX4_copyFrom_41 : decode cX4_copyFrom 41 = .ok (.bipush 24, 2) := by decide +kernel
theorem dX4_copyFrom_43 : decode cX4_copyFrom 43 = .ok (.invokestatic 47, 3) := by decide +kernel
theorem dX4_copyFrom_46 : decode cX4_copyFrom 46 = .ok (.aload_n 1, 1) := by decide +kernel
theorem dX4_copyFrom_47 : decode cX4_copyFrom 47 = .ok (.getfield 18, 3) := by decide +kernel
theorem dX4_copyFrom_50 : decode cX4_copyFrom 50 = .ok (.iconst 0, 1) := by decide +kernel
theorem dX4_copyFrom_51 : decode cX4_copyFrom 51 = .ok (.aload_n 0, 1) := by decide +kernel
theorem dX4_copyFrom_52 : decode cX4_copyFrom 52 = .ok (.getfield 18, 3) := by decide +kernel
theorem dX4_copyFrom_55 : decode cX4_copyFrom 55 = .ok (.iconst 0, 1) := by decide +kernel
theorem dX4_copyFrom_56 : decode cX4_copyFrom 56 = .ok (.bipush 24, 2) := by decide +kernel
theorem dX4_copyFrom_58 : decode cX4_copyFrom 58 = .ok (.invokestatic 47, 3) := by decide +kernel
theorem dX4_copyFrom_61 : decode cX4_copyFrom 61 = .ok (.iconst 0, 1) := by decide +kernel
theorem dX4_copyFrom_62 : decode cX4_copyFrom 62 = .ok (.istore_n 2, 1) := by decide +kernel
theorem dX4_copyFrom_63 : decode cX4_copyFrom 63 = .ok (.iload_n 2, 1) := by decide +kernel
theorem dX4_copyFrom_64 : decode cX4_copyFrom 64 = .ok (.aload_n 0, 1) := by decide +kernel
theorem dX4_copyFrom_65 : decode cX4_copyFrom 65 = .ok (.getfield 26, 3) := by decide +kernel
theorem dX4_copyFrom_68 : decode cX4_copyFrom 68 = .ok (.if_icmp .ge 29, 3) := by decide +kernel
theorem dX4_copyFrom_71 : decode cX4_copyFrom 71 = .ok (.aload_n 1, 1) := by decide +kernel
theorem dX4_copyFrom_72 : decode cX4_copyFrom 72 = .ok (.getfield 23, 3) := by decide +kernel
theorem dX4_copyFrom_75 : decode cX4_copyFrom 75 = .ok (.iload_n 2, 1) := by decide +kernel
theorem dX4_copyFrom_76 : decode cX4_copyFrom 76 = .ok (.aaload, 1) := by decide +kernel
theorem dX4_copyFrom_77 : decode cX4_copyFrom 77 = .ok (.iconst 0, 1) := by decide +kernel
theorem dX4_copyFrom_78 : decode cX4_copyFrom 78 = .ok (.aload_n 0, 1) := by decide +kernel
theorem dX4_copyFrom_79 : decode cX4_copyFrom 79 = .ok (.getfield 23, 3) := by decide +kernel
theorem dX4_copyFrom_82 : decode cX4_copyFrom 82 = .ok (.iload_n 2, 1) := by decide +kernel
theorem dX4_copyFrom_83 : decode cX4_copyFrom 83 = .ok (.aaload, 1) := by decide +kernel
theorem dX4_copyFrom_84 : decode cX4_copyFrom 84 = .ok (.iconst 0, 1) := by decide +kernel
theorem dX4_copyFrom_85 : decode cX4_copyFrom 85 = .ok (.sipush 300, 3) := by decide +kernel
theorem dX4_copyFrom_88 : decode cX4_copyFrom 88 = .ok (.invokestatic 47, 3) := by decide +kernel
theorem dX4_copyFrom_91 : decode cX4_copyFrom 91 = .ok (.iinc 2 1, 3) := by decide +kernel
theorem dX4_copyFrom_94 : decode cX4_copyFrom 94 = .ok (.goto (-31), 3) := by decide +kernel
theorem dX4_copyFrom_97 : decode cX4_copyFrom 97 = .ok (.return_, 1) := by decide +kernel
theorem wk_1510 : Cond.methodLink RX4 47 arraycopyName ∈ tl_L := List.mem_filter.mpr ⟨by decide +kernel, rfl⟩
theorem dX0_copyFrom_0 : decode cX0_copyFrom 0 = .ok (.aload_n 0, 1) := by decide +kernel
theorem dX0_copyFrom_1 : decode cX0_copyFrom 1 = .ok (.aload_n 1, 1) := by decide +kernel
theorem dX0_copyFrom_2 : decode cX0_copyFrom 2 = .ok (.getfield 43, 3) := by decide +kernel
theorem dX0_copyFrom_5 : decode cX0_copyFrom 5 = .ok (.putfield 43, 3) := by decide +kernel
theorem dX0_copyFrom_8 : decode cX0_copyFrom 8 = .ok (.aload_n 1, 1) := by decide +kernel
theorem dX0_copyFrom_9 : decode cX0_copyFrom 9 = .ok (.getfield 9, 3) := by decide +kernel
theorem dX0_copyFrom_12 : decode cX0_copyFrom 12 = .ok (.iconst 0, 1) := by decide +kernel
theorem dX0_copyFrom_13 : decode cX0_copyFrom 13 = .ok (.aload_n 0, 1) := by decide +kernel
theorem dX0_copyFrom_14 : decode cX0_copyFrom 14 = .ok (.getfield 9, 3) := by decide +kernel
theorem dX0_copyFrom_17 : decode cX0_copyFrom 17 = .ok (.iconst 0, 1) := by decide +kernel
theorem dX0_copyFrom_18 : decode cX0_copyFrom 18 = .ok (.aload_n 0, 1) := by decide +kernel
theorem dX0_copyFrom_19 : decode cX0_copyFrom 19 = .ok (.getfield 9, 3) := by decide +kernel
theorem dX0_copyFrom_22 : decode cX0_copyFrom 22 = .ok (.arraylength, 1) := by decide +kernel
theorem dX0_copyFrom_23 : decode cX0_copyFrom 23 = .ok (.invokestatic 47, 3) := by decide +kernel
theorem dX0_copyFrom_26 : decode cX0_copyFrom 26 = .ok (.aload_n 0, 1) := by decide +kernel
theorem dX0_copyFrom_27 : decode cX0_copyFrom 27 = .ok (.getfield 18, 3) := by decide +kernel
theorem dX0_copyFrom_30 : decode cX0_copyFrom 30 = .ok (.aload_n 1, 1) := by decide +kernel
theorem dX0_copyFrom_31 : decode cX0_copyFrom 31 = .ok (.getfield 18, 3) := by decide +kernel
theorem dX0_copyFrom_34 : decode cX0_copyFrom 34 = .ok (.invokevirtual 53, 3) := by decide +kernel
theorem dX0_copyFrom_37 : decode cX0_copyFrom 37 = .ok (.aload_n 0, 1) := by decide +kernel
theorem dX0_copyFrom_38 : decode cX0_copyFrom 38 = .ok (.getfield 27, 3) := by decide +kernel
theorem dX0_copyFrom_41 : decode cX0_copyFrom 41 = .ok (.aload_n 1, 1) := by decide +kernel
theorem dX0_copyFrom_42 : decode cX0_copyFrom 42 = .ok (.getfield 27, 3) := by decide +kernel
theorem dX0_copyFrom_45 : decode cX0_copyFrom 45 = .ok (.invokevirtual 57, 3) := by decide +kernel
theorem dX0_copyFrom_48 : decode cX0_copyFrom 48 = .ok (.aload_n 0, 1) := by decide +kernel
theorem dX0_copyFrom_49 : decode cX0_copyFrom 49 = .ok (.getfield 31, 3) := by decide +kernel
theorem dX0_copyFrom_52 : decode cX0_copyFrom 52 = .ok (.aload_n 1, 1) := by decide +kernel
theorem dX0_copyFrom_53 : decode cX0_copyFrom 53 = .ok (.getfield 31, 3) := by decide +kernel
theorem dX0_copyFrom_56 : decode cX0_copyFrom 56 = .ok (.invokevirtual 57, 3) := by decide +kernel
theorem dX0_copyFrom_59 : decode cX0_copyFrom 59 = .ok (.aload_n 0, 1) := by decide +kernel
theorem dX0_copyFrom_60 : decode cX0_copyFrom 60 = .ok (.getfield 34, 3) := by decide +kernel
theorem dX0_copyFrom_63 : decode cX0_copyFrom 63 = .ok (.aload_n 1, 1) := by decide +kernel
theorem dX0_copyFrom_64 : decode cX0_copyFrom 64 = .ok (.getfield 34, 3) := by decide +kernel
theorem dX0_copyFrom_67 : decode cX0_copyFrom 67 = .ok (.invokevirtual 57, 3) := by decide +kernel
theorem dX0_copyFrom_70 : decode cX0_copyFrom 70 = .ok (.aload_n 0, 1) := by decide +kernel
theorem dX0_copyFrom_71 : decode cX0_copyFrom 71 = .ok (.getfield 37, 3) := by decide +kernel
theorem dX0_copyFrom_74 : decode cX0_copyFrom 74 = .ok (.aload_n 1, 1) := by decide +kernel
theorem dX0_copyFrom_75 : decode cX0_copyFrom 75 = .ok (.getfield 37, 3) := by decide +kernel
theorem dX0_copyFrom_78 : decode cX0_copyFrom 78 = .ok (.invokevirtual 57, 3) := by decide +kernel
theorem dX0_copyFrom_81 : decode cX0_copyFrom 81 = .ok (.aload_n 1, 1) := by decide +kernel
theorem dX0_copyFrom_82 : decode cX0_copyFrom 82 = .ok (.getfield 40, 3) := by decide +kernel
theorem dX0_copyFrom_85 : decode cX0_copyFrom 85 = .ok (.iconst 0, 1) := by decide +kernel
theorem dX0_copyFrom_86 : decode cX0_copyFrom 86 = .ok (.aload_n 0, 1) := by decide +kernel
theorem dX0_copyFrom_87 : decode cX0_copyFrom 87 = .ok (.getfield 40, 3) := by decide +kernel
theorem dX0_copyFrom_90 : decode cX0_copyFrom 90 = .ok (.iconst 0, 1) := by decide +kernel
theorem dX0_copyFrom_91 : decode cX0_copyFrom 91 = .ok (.sipush 400, 3) := by decide +kernel
theorem dX0_copyFrom_94 : decode cX0_copyFrom 94 = .ok (.invokestatic 47, 3) := by decide +kernel
theorem dX0_copyFrom_97 : decode cX0_copyFrom 97 = .ok (.aload_n 0, 1) := by decide +kernel
theorem dX0_copyFrom_98 : decode cX0_copyFrom 98 = .ok (.aload_n 1, 1) := by decide +kernel
theorem dX0_copyFrom_99 : decode cX0_copyFrom 99 = .ok (.getfield 60, 3) := by decide +kernel
theorem dX0_copyFrom_102 : decode cX0_copyFrom 102 = .ok (.putfield 60, 3) := by decide +kernel
theorem dX0_copyFrom_105 : decode cX0_copyFrom 105 = .ok (.return_, 1) := by decide +kernel
theorem wk_57 : Cond.fieldLink RX0 9 "ThinLine$Book" "told" "[I" ∈ tl_L := List.mem_filter.mpr ⟨lw_m1 (i := 99) rfl, rfl⟩
theorem wk_67 : Cond.fieldLink RX0 34 "ThinLine$Book" "candidates" "LThinLine$Table;" ∈ tl_L := List.mem_filter.mpr ⟨lw_m1 (i := 108) rfl, rfl⟩
theorem wk_68 : Cond.fieldLink RX0 37 "ThinLine$Book" "houses" "LThinLine$Table;" ∈ tl_L := List.mem_filter.mpr ⟨lw_m1 (i := 110) rfl, rfl⟩
theorem wk_1502 : Cond.fieldLink RX0 43 "ThinLine$Book" "now" "I" ∈ tl_L := List.mem_filter.mpr ⟨lw_m1 (i := 96) rfl, rfl⟩
theorem wk_1503 : Cond.methodLink RX0 47 arraycopyName ∈ tl_L := List.mem_filter.mpr ⟨by decide +kernel, rfl⟩
theorem wk_1507 : Cond.instanceMethod yX4_copyFrom ∈ tl_L := List.mem_filter.mpr ⟨lw_m6 (i := 45) rfl, rfl⟩
theorem wk_1508 : Cond.selects RX4 yX4_copyFrom yX4_copyFrom ∈ tl_L := List.mem_filter.mpr ⟨lw_s7 (i := 6) (q := (yX4_copyFrom, 6)) rfl, rfl⟩
theorem wk_1509 : Cond.code yX4_copyFrom cX4_copyFrom 3 none ∈ tl_L := List.mem_filter.mpr ⟨lw_m6 (i := 46) rfl, rfl⟩
theorem wk_1511 : Cond.instanceMethod yX6_copyFrom ∈ tl_L := List.mem_filter.mpr ⟨lw_m6 (i := 50) rfl, rfl⟩
theorem wk_1512 : Cond.selects RX6 yX6_copyFrom yX6_copyFrom ∈ tl_L := List.mem_filter.mpr ⟨lw_s7 (i := 7) (q := (yX6_copyFrom, 3)) rfl, rfl⟩
theorem wk_1513 : Cond.code yX6_copyFrom cX6_copyFrom 2 none ∈ tl_L := List.mem_filter.mpr ⟨lw_m6 (i := 51) rfl, rfl⟩
theorem lk_X0_53 : tl_kVN RX0 53 RX4 yX4_copyFrom "ThinLine" cX4_copyFrom 3 none 1 141 := ⟨wk_1509, by decide +kernel, wk_1507, wk_1508, wk_60, ⟨by decide +kernel, by decide +kernel, by decide +kernel⟩⟩
theorem lk_X0_57 : tl_kVN RX0 57 RX6 yX6_copyFrom "ThinLine" cX6_copyFrom 2 none 1 142 := ⟨wk_1513, by decide +kernel, wk_1511, wk_1512, wk_64, ⟨by decide +kernel, by decide +kernel, by decide +kernel⟩⟩
set_option maxHeartbeats 4000000 in
set_option maxRecDepth 100000 in
theorem t_J9_floorDiv_7cf53 (l : Launch) (D : va_G) (cy : Nat → ClassId) (sz : Nat) (L : List Nat) (K : Nat → tk_K) (Γ : tk_G) (f : Nat → va_E) (p0 : Int32) (p1 : Int32) (h0 : ¬ p1.toInt = 0) : Met l yJ9_floorDiv_7cf53 (tl_w yJ9_floorDiv_7cf53 cJ9_floorDiv_7cf53 3 (some .int)) ({ frames := 0, cells := 0, slots := 0, locals := 0 }) (va_Pc [.int p0, .int p1] (tp_P D cy L K Γ f sz)) (vp_Si (fun r : Int32 => True)) 0 0 (fun _ => False) := by
  refine tl_ofWF (cc := cJ9_floorDiv_7cf53) (maxL := 3) (ret := (some .int)) (by decide +kernel) rfl ?_
  intro p e s m args below meth c s₁ B hml hv
  obtain ⟨rfl, hsz, hP, hK, hL, hI, hN, hU⟩ := hv
  have hx := B.exec
  have hb := B.bytes
  have hr := B.returns
  have hta := tl_hta (atoms_spec (ws := tl_w yJ9_floorDiv_7cf53 cJ9_floorDiv_7cf53 3 (some .int)) B.pre)
  have hown : s.vm.findClass RJ9 = some m.cls := findClass_of_methodNamed B.named
  have hlocks := B.notSynchronized
  subst hsz
  have hI0 := hI
  have hl := lv_entry ([.int p0, .int p1]) (n := 3) (Nat.le_of_ble_eq_true rfl)
  rw [lg_entry_eq]
  generalize (lg_sl ([.int p0, .int p1]) ++ List.replicate (3 - (lg_sl ([.int p0, .int p1])).length) Slot.unset).toArray = ls at hl ⊢
  have hl : lv_has ls 3 [(0, .int p0), (1, .int p1)] := hl
  refine lv_iload_n hx hb dJ9_floorDiv_7cf53_0 rfl (lv_at hl 0 rfl) ?_
  refine lv_iload_n hx hb dJ9_floorDiv_7cf53_1 rfl (lv_at hl 1 rfl) ?_
  refine lv_idiv hx hb dJ9_floorDiv_7cf53_2 (tl_ne0 (by omega)) ?_
  refine lv_topi (fun z_1 ez_1 => ?_)
  refine lv_istore_n (lv' := [(2, .int z_1), (0, .int p0), (1, .int p1)]) hx hb dJ9_floorDiv_7cf53_3 rfl hl (by decide) rfl (fun ls hl => ?_)
  refine lv_iload_n hx hb dJ9_floorDiv_7cf53_4 rfl (lv_at hl 1 rfl) ?_
  refine lv_iload_n hx hb dJ9_floorDiv_7cf53_5 rfl (lv_at hl 2 rfl) ?_
  refine lv_ixor hx hb dJ9_floorDiv_7cf53_6 ?_
  refine lv_topi (fun z_2 ez_2 => ?_)
  refine lv_if_ge (tgt := 21) hx hb dJ9_floorDiv_7cf53_7 (by decide) (fun c_3 => ?_) (fun c_3 => ?_)
  · have c_3 : (0 : Int) ≤ z_2.toInt := tl_le c_3
    refine lv_iload_n hx hb dJ9_floorDiv_7cf53_21 rfl (lv_at hl 0 rfl) ?_
    exact W.iret (v := z_1) hx hb hr (fun t ht hW => ⟨_, rfl, trivial, ht⟩) (fun q h => by cases h) dJ9_floorDiv_7cf53_22
  · have c_3 : z_2.toInt < (0 : Int) := tl_nle c_3
    refine lv_iload_n hx hb dJ9_floorDiv_7cf53_10 rfl (lv_at hl 0 rfl) ?_
    refine lv_iload_n hx hb dJ9_floorDiv_7cf53_11 rfl (lv_at hl 2 rfl) ?_
    refine lv_imul hx hb dJ9_floorDiv_7cf53_12 ?_
    refine lv_topi (fun z_4 ez_4 => ?_)
    try have iz_4 : z_4.toInt = z_1.toInt * p1.toInt := by rw [ez_4]; exact tl_mulN z_1 p1 rfl rfl (by omega) (by omega)
    refine lv_iload_n hx hb dJ9_floorDiv_7cf53_13 rfl (lv_at hl 1 rfl) ?_
    refine lv_icmp_eq (tgt := 21) hx hb dJ9_floorDiv_7cf53_14 (by decide) (fun c_5 => ?_) (fun c_5 => ?_)
    · have c_5 : z_4.toInt = p0.toInt := tl_eq c_5
      refine lv_iload_n hx hb dJ9_floorDiv_7cf53_21 rfl (lv_at hl 0 rfl) ?_
      exact W.iret (v := z_1) hx hb hr (fun t ht hW => ⟨_, rfl, trivial, ht⟩) (fun q h => by cases h) dJ9_floorDiv_7cf53_22
    · have c_5 : ¬ z_4.toInt = p0.toInt := tl_neq c_5
      refine lv_iload_n hx hb dJ9_floorDiv_7cf53_17 rfl (lv_at hl 0 rfl) ?_
      refine lv_iconst (v := 1) hx hb dJ9_floorDiv_7cf53_18 (by decide) ?_
      refine lv_isub hx hb dJ9_floorDiv_7cf53_19 ?_
      refine lv_topi (fun z_6 ez_6 => ?_)
      try have iz_6 : z_6.toInt = z_1.toInt - (1 : Int) := by rw [ez_6]; exact tl_subN z_1 1 rfl rfl (by omega) (by omega)
      exact W.iret (v := z_6) hx hb hr (fun t ht hW => ⟨_, rfl, trivial, ht⟩) (fun q h => by cases h) dJ9_floorDiv_7cf53_20
set_option maxHeartbeats 4000000 in
set_option maxRecDepth 100000 in
theorem t_J9_floorDiv_f86c9 (l : Launch) (D : va_G) (cy : Nat → ClassId) (sz : Nat) (L : List Nat) (K : Nat → tk_K) (Γ : tk_G) (f : Nat → va_E) (p0 : Int64) (p1 : Int64) (h0 : ¬ p1.toInt = 0) : Met l yJ9_floorDiv_f86c9 (tl_w yJ9_floorDiv_f86c9 cJ9_floorDiv_f86c9 6 (some .long)) ({ frames := 0, cells := 0, slots := 0, locals := 0 }) (va_Pc [.long p0, .long p1] (tp_P D cy L K Γ f sz)) (vp_Sl (fun r : Int64 => True)) 0 0 (fun _ => False) := by
  refine tl_ofWF (cc := cJ9_floorDiv_f86c9) (maxL := 6) (ret := (some .long)) (by decide +kernel) rfl ?_
  intro p e s m args below meth c s₁ B hml hv
  obtain ⟨rfl, hsz, hP, hK, hL, hI, hN, hU⟩ := hv
  have hx := B.exec
  have hb := B.bytes
  have hr := B.returns
  have hta := tl_hta (atoms_spec (ws := tl_w yJ9_floorDiv_f86c9 cJ9_floorDiv_f86c9 6 (some .long)) B.pre)
  have hown : s.vm.findClass RJ9 = some m.cls := findClass_of_methodNamed B.named
  have hlocks := B.notSynchronized
  subst hsz
  have hI0 := hI
  have hl := lv_entry ([.long p0, .long p1]) (n := 6) (Nat.le_of_ble_eq_true rfl)
  rw [lg_entry_eq]
  generalize (lg_sl ([.long p0, .long p1]) ++ List.replicate (6 - (lg_sl ([.long p0, .long p1])).length) Slot.unset).toArray = ls at hl ⊢
  have hl : lv_has ls 6 [(0, .long p0), (2, .long p1)] := hl
  refine lv_lload_n hx hb dJ9_floorDiv_f86c9_0 rfl (lv_at hl 0 rfl) ?_
  refine lv_lload_n hx hb dJ9_floorDiv_f86c9_1 rfl (lv_at hl 1 rfl) ?_
  refine lv_ldiv hx hb dJ9_floorDiv_f86c9_2 (tl_ne0L (by omega)) ?_
  refine lv_topl (fun z_1 ez_1 => ?_)
  refine lv_lstore (lv' := [(4, .long z_1), (0, .long p0), (2, .long p1)]) hx hb dJ9_floorDiv_f86c9_3 hl (by decide) rfl (fun ls hl => ?_)
  refine lv_lload_n hx hb dJ9_floorDiv_f86c9_5 rfl (lv_at hl 1 rfl) ?_
  refine lv_lload_n hx hb dJ9_floorDiv_f86c9_6 rfl (lv_at hl 2 rfl) ?_
  refine lv_lxor hx hb dJ9_floorDiv_f86c9_7 ?_
  refine lv_topl (fun z_2 ez_2 => ?_)
  refine lv_lconst (v := 0) hx hb dJ9_floorDiv_f86c9_8 (by decide) ?_
  refine W.lcmp hx hb dJ9_floorDiv_f86c9_9 ?_
  refine lv_if_ge (tgt := 27) hx hb dJ9_floorDiv_f86c9_10 (by decide) (fun c_3 => ?_) (fun c_3 => ?_)
  · have c_3 : z_2.toInt ≥ (0 : Int) := tl_cmp_ge c_3
    refine lv_lload hx hb dJ9_floorDiv_f86c9_27 (lv_at hl 0 rfl) ?_
    exact W.lret (v := z_1) hx hb hr (fun t ht hW => ⟨_, rfl, trivial, ht⟩) (fun q h => by cases h) dJ9_floorDiv_f86c9_29
  · have c_3 : z_2.toInt < (0 : Int) := tl_cmp_nge c_3
    refine lv_lload hx hb dJ9_floorDiv_f86c9_13 (lv_at hl 0 rfl) ?_
    refine lv_lload_n hx hb dJ9_floorDiv_f86c9_15 rfl (lv_at hl 2 rfl) ?_
    refine lv_lmul hx hb dJ9_floorDiv_f86c9_16 ?_
    refine lv_topl (fun z_4 ez_4 => ?_)
    refine lv_lload_n hx hb dJ9_floorDiv_f86c9_17 rfl (lv_at hl 1 rfl) ?_
    refine W.lcmp hx hb dJ9_floorDiv_f86c9_18 ?_
    refine lv_if_eq (tgt := 27) hx hb dJ9_floorDiv_f86c9_19 (by decide) (fun c_5 => ?_) (fun c_5 => ?_)
    · have c_5 : z_4.toInt = p0.toInt := tl_cmp_eq c_5
      refine lv_lload hx hb dJ9_floorDiv_f86c9_27 (lv_at hl 0 rfl) ?_
      exact W.lret (v := z_1) hx hb hr (fun t ht hW => ⟨_, rfl, trivial, ht⟩) (fun q h => by cases h) dJ9_floorDiv_f86c9_29
    · have c_5 : ¬ z_4.toInt = p0.toInt := tl_cmp_neq c_5
      refine lv_lload hx hb dJ9_floorDiv_f86c9_22 (lv_at hl 0 rfl) ?_
      refine lv_lconst (v := 1) hx hb dJ9_floorDiv_f86c9_24 (by decide) ?_
      refine lv_lsub hx hb dJ9_floorDiv_f86c9_25 ?_
      refine lv_topl (fun z_6 ez_6 => ?_)
      exact W.lret (v := z_6) hx hb hr (fun t ht hW => ⟨_, rfl, trivial, ht⟩) (fun q h => by cases h) dJ9_floorDiv_f86c9_26
set_option maxHeartbeats 4000000 in
set_option maxRecDepth 100000 in
theorem t_J6_bitCount_0f7a4 (l : Launch) (D : va_G) (cy : Nat → ClassId) (sz : Nat) (L : List Nat) (K : Nat → tk_K) (Γ : tk_G) (f : Nat → va_E) (p0 : Int32)  : Met l yJ6_bitCount_0f7a4 (tl_w yJ6_bitCount_0f7a4 cJ6_bitCount_0f7a4 1 (some .int)) ({ frames := 0, cells := 0, slots := 0, locals := 0 }) (va_Pc [.int p0] (tp_P D cy L K Γ f sz)) (vp_Si (fun r : Int32 => True)) 0 0 (fun _ => False) := by
  refine Met.ofW (cc := cJ6_bitCount_0f7a4) (maxL := 1) (ret := (some .int)) (by decide) rfl ?_
  intro p e s m args below meth c s₁ B hml hv
  obtain ⟨rfl, hsz, hP, hK, hL, hI, hN, hU⟩ := hv
  have hx := B.exec
  have hb := B.bytes
  have hr := B.returns
  have hta := tl_hta (atoms_spec (ws := tl_w yJ6_bitCount_0f7a4 cJ6_bitCount_0f7a4 1 (some .int)) B.pre)
  have hown : s.vm.findClass RJ6 = some m.cls := findClass_of_methodNamed B.named
  have hlocks := B.notSynchronized
  subst hsz
  have hI0 := hI
  have hl := lv_entry ([.int p0]) (n := 1) (Nat.le_of_ble_eq_true rfl)
  rw [lg_entry_eq]
  generalize (lg_sl ([.int p0]) ++ List.replicate (1 - (lg_sl ([.int p0])).length) Slot.unset).toArray = ls at hl ⊢
  have hl : lv_has ls 1 [(0, .int p0)] := hl
  refine lv_iload_n hx hb dJ6_bitCount_0f7a4_0 rfl (lv_at hl 0 rfl) ?_
  refine lv_iload_n hx hb dJ6_bitCount_0f7a4_1 rfl (lv_at hl 0 rfl) ?_
  refine lv_iconst (v := 1) hx hb dJ6_bitCount_0f7a4_2 (by decide) ?_
  refine lv_iushr hx hb dJ6_bitCount_0f7a4_3 rfl ?_
  refine lv_topi (fun z_1 ez_1 => ?_)
  refine lv_ldcw (v := 1431655765) hx hb hown (hta _ wk_1473) dJ6_bitCount_0f7a4_4 ?_
  refine lv_iand hx hb dJ6_bitCount_0f7a4_7 ?_
  refine lv_topi (fun z_2 ez_2 => ?_)
  refine lv_isub hx hb dJ6_bitCount_0f7a4_8 ?_
  refine lv_topi (fun z_3 ez_3 => ?_)
  try have iz_3 : z_3.toInt = p0.toInt - z_2.toInt := by rw [ez_3]; exact tl_subN p0 z_2 rfl rfl (by omega) (by omega)
  refine lv_istore_n (lv' := [(0, .int z_3)]) hx hb dJ6_bitCount_0f7a4_9 rfl hl (by decide) rfl (fun ls hl => ?_)
  refine lv_iload_n hx hb dJ6_bitCount_0f7a4_10 rfl (lv_at hl 0 rfl) ?_
  refine lv_ldcw (v := 858993459) hx hb hown (hta _ wk_1474) dJ6_bitCount_0f7a4_11 ?_
  refine lv_iand hx hb dJ6_bitCount_0f7a4_14 ?_
  refine lv_topi (fun z_4 ez_4 => ?_)
  refine lv_iload_n hx hb dJ6_bitCount_0f7a4_15 rfl (lv_at hl 0 rfl) ?_
  refine lv_iconst (v := 2) hx hb dJ6_bitCount_0f7a4_16 (by decide) ?_
  refine lv_iushr hx hb dJ6_bitCount_0f7a4_17 rfl ?_
  refine lv_topi (fun z_5 ez_5 => ?_)
  refine lv_ldcw (v := 858993459) hx hb hown (hta _ wk_1474) dJ6_bitCount_0f7a4_18 ?_
  refine lv_iand hx hb dJ6_bitCount_0f7a4_21 ?_
  refine lv_topi (fun z_6 ez_6 => ?_)
  refine lv_iadd hx hb dJ6_bitCount_0f7a4_22 ?_
  refine lv_topi (fun z_7 ez_7 => ?_)
  try have iz_7 : z_7.toInt = z_4.toInt + z_6.toInt := by rw [ez_7]; exact tl_addN z_4 z_6 rfl rfl (by omega) (by omega)
  refine lv_istore_n (lv' := [(0, .int z_7)]) hx hb dJ6_bitCount_0f7a4_23 rfl hl (by decide) rfl (fun ls hl => ?_)
  refine lv_iload_n hx hb dJ6_bitCount_0f7a4_24 rfl (lv_at hl 0 rfl) ?_
  refine lv_iload_n hx hb dJ6_bitCount_0f7a4_25 rfl (lv_at hl 0 rfl) ?_
  refine lv_iconst (v := 4) hx hb dJ6_bitCount_0f7a4_26 (by decide) ?_
  refine lv_iushr hx hb dJ6_bitCount_0f7a4_27 rfl ?_
  refine lv_topi (fun z_8 ez_8 => ?_)
  refine lv_iadd hx hb dJ6_bitCount_0f7a4_28 ?_
  refine lv_topi (fun z_9 ez_9 => ?_)
  try have iz_9 : z_9.toInt = z_7.toInt + z_8.toInt := by rw [ez_9]; exact tl_addN z_7 z_8 rfl rfl (by omega) (by omega)
  refine lv_ldcw (v := 252645135) hx hb hown (hta _ wk_1475) dJ6_bitCount_0f7a4_29 ?_
  refine lv_iand hx hb dJ6_bitCount_0f7a4_32 ?_
  refine lv_topi (fun z_10 ez_10 => ?_)
  refine lv_istore_n (lv' := [(0, .int z_10)]) hx hb dJ6_bitCount_0f7a4_33 rfl hl (by decide) rfl (fun ls hl => ?_)
  refine lv_iload_n hx hb dJ6_bitCount_0f7a4_34 rfl (lv_at hl 0 rfl) ?_
  refine lv_iload_n hx hb dJ6_bitCount_0f7a4_35 rfl (lv_at hl 0 rfl) ?_
  refine lv_bipush (v := 8) hx hb dJ6_bitCount_0f7a4_36 (by decide) ?_
  refine lv_iushr hx hb dJ6_bitCount_0f7a4_38 rfl ?_
  refine lv_topi (fun z_11 ez_11 => ?_)
  refine lv_iadd hx hb dJ6_bitCount_0f7a4_39 ?_
  refine lv_topi (fun z_12 ez_12 => ?_)
  try have iz_12 : z_12.toInt = z_10.toInt + z_11.toInt := by rw [ez_12]; exact tl_addN z_10 z_11 rfl rfl (by omega) (by omega)
  refine lv_istore_n (lv' := [(0, .int z_12)]) hx hb dJ6_bitCount_0f7a4_40 rfl hl (by decide) rfl (fun ls hl => ?_)
  refine lv_iload_n hx hb dJ6_bitCount_0f7a4_41 rfl (lv_at hl 0 rfl) ?_
  refine lv_iload_n hx hb dJ6_bitCount_0f7a4_42 rfl (lv_at hl 0 rfl) ?_
  refine lv_bipush (v := 16) hx hb dJ6_bitCount_0f7a4_43 (by decide) ?_
  refine lv_iushr hx hb dJ6_bitCount_0f7a4_45 rfl ?_
  refine lv_topi (fun z_13 ez_13 => ?_)
  refine lv_iadd hx hb dJ6_bitCount_0f7a4_46 ?_
  refine lv_topi (fun z_14 ez_14 => ?_)
  try have iz_14 : z_14.toInt = z_12.toInt + z_13.toInt := by rw [ez_14]; exact tl_addN z_12 z_13 rfl rfl (by omega) (by omega)
  refine lv_istore_n (lv' := [(0, .int z_14)]) hx hb dJ6_bitCount_0f7a4_47 rfl hl (by decide) rfl (fun ls hl => ?_)
  refine lv_iload_n hx hb dJ6_bitCount_0f7a4_48 rfl (lv_at hl 0 rfl) ?_
  refine lv_bipush (v := 63) hx hb dJ6_bitCount_0f7a4_49 (by decide) ?_
  refine lv_iand hx hb dJ6_bitCount_0f7a4_51 ?_
  refine lv_topi (fun z_15 ez_15 => ?_)
  exact W.iret (v := z_15) hx hb hr (fun t ht hW => ⟨_, rfl, trivial, ht⟩) (fun q h => by cases h) dJ6_bitCount_0f7a4_52
set_option maxHeartbeats 4000000 in
set_option maxRecDepth 100000 in
theorem t_fill_RAWR (l : Launch) (D : va_G) (cy : Nat → ClassId) (sz : Nat) (L : List Nat) (K : Nat → tk_K) (Γ : tk_G) (f : Nat → va_E) (w : Nat) (a : Nat) (p0 : Int32) (ha : tp_r L K 6 (300) w a) : Met l yJ7_fill_53178 (tl_w yJ7_fill_53178 cJ7_fill_53178 4 none) ({ frames := 0, cells := 0, slots := 0, locals := 0 }) (va_Pc [.ref a, .int p0] (tp_P D cy L K Γ f sz)) (va_Qv (fun (u : Nat → va_E) => True) (tp_B D cy L K Γ f [6]) (tp_A L sz)) 0 0 (tp_A L sz) := by
  refine Met.ofW (cc := cJ7_fill_53178) (maxL := 4) (ret := none) (by decide) rfl ?_
  intro p e s m args below meth c s₁ B hml hv
  obtain ⟨rfl, hsz, hP, hK, hL, hI, hN, hU⟩ := hv
  have hx := B.exec
  have hb := B.bytes
  have hr := B.returns
  have hta := tl_hta (atoms_spec (ws := tl_w yJ7_fill_53178 cJ7_fill_53178 4 none) B.pre)
  have hown : s.vm.findClass RJ7 = some m.cls := findClass_of_methodNamed B.named
  have hlocks := B.notSynchronized
  subst hsz
  have hI0 := hI
  generalize hAe : tp_A L s.heap.size = A
  have hA : ∀ q : Nat, s.heap.size ≤ q → A q := fun q h => by rw [← hAe]; exact Or.inr h
  have hAL : ∀ q ∈ L, A q := fun q h => by rw [← hAe]; exact Or.inl h
  have hAf : ∀ (H : Heap), s.heap.size ≤ H.size → ∀ q, tp_A L H.size q → A q := fun H h q hq => hq.elim (hAL q) (fun h2 => hA q (Nat.le_trans h h2))
  have hS : va_S A s.heap s.heap [] := va_S.rf
  have hD : va_D A (va_pl L f) := tp_D hL hAL
  have hfr : ∀ b, (K b).1 ∉ ([6] : List Nat) → f b = f b := fun _ _ => rfl
  have hl := lv_entry ([.ref a, .int p0]) (n := 4) (Nat.le_of_ble_eq_true rfl)
  rw [lg_entry_eq]
  generalize (lg_sl ([.ref a, .int p0]) ++ List.replicate (4 - (lg_sl ([.ref a, .int p0])).length) Slot.unset).toArray = ls at hl ⊢
  have hl : lv_has ls 4 [(0, .ref a), (1, .int p0)] := hl
  refine lv_iconst (v := 0) hx hb dJ7_fill_53178_0 (by decide) ?_
  refine lv_istore_n (lv' := [(2, .int 0), (0, .ref a), (1, .int p0)]) hx hb dJ7_fill_53178_1 rfl hl (by decide) rfl (fun ls hl => ?_)
  refine lv_aload_n hx hb dJ7_fill_53178_2 rfl (lv_at hl 1 rfl) ?_
  obtain ⟨g_2, hf_1, hg_3⟩ := (show tp_ai cy 6 (300) (f a) from hI.at ha)
  refine tp_alen (cy := cy) (t0 := 0) (v := 300) hx hb hK hP ha.1 rfl hf_1 rfl dJ7_fill_53178_3 ?_
  refine lv_istore_n (lv' := [(3, .int 300), (2, .int 0), (0, .ref a), (1, .int p0)]) hx hb dJ7_fill_53178_4 rfl hl (by decide) rfl (fun ls hl => ?_)
  refine tq_start hP hS (fun H locs hP hS => ?_)
  refine tl_ind (G := fun H locs ls => W p l e ((headSpec (tl_w yJ7_fill_53178 cJ7_fill_53178 4 none) ({ frames := 0, cells := 0, slots := 0, locals := 0 })).room) s m #[.ref a, .int p0] below meth c H locs 0 0 (MQ below (va_Qv (fun (u : Nat → va_E) => True) (tp_B D cy L K Γ f [6]) A) #[.ref a, .int p0] s 0 0 A) (F0 m 5 ls [])) (α := (Nat → va_E) × Int32) (fun aq => (300 - aq.2.toInt).toNat) (fun aq H locs ls => (0 ≤ aq.2.toInt) ∧ (aq.2.toInt ≤ 300) ∧ va_P D vwCl (va_pl L aq.1) H ∧ tp_I cy L K Γ aq.1 ∧ (∀ b, (K b).1 ∉ ([6] : List Nat) → aq.1 b = f b) ∧ va_S A s.heap H locs ∧ lv_has ls 4 [(3, .int 300), (2, .int aq.2), (0, .ref a), (1, .int p0)]) ?_ (f, (0 : Int32)) H locs ls ⟨(show 0 ≤ (0 : Int) from (by omega)), (show (0 : Int) ≤ 300 from (by omega)), hP, hI, hfr, hS, lv_sub hl [0, 1, 2, 3] rfl⟩
  rintro ⟨f_4, v2⟩ H locs ls ⟨h0, h1, hP, hI, hfr, hS, hl⟩ ih5
  have hP : va_P D vwCl (va_pl L f_4) H := hP
  have hI : tp_I cy L K Γ f_4 := hI
  have hfr : ∀ b, (K b).1 ∉ ([6] : List Nat) → f_4 b = f b := hfr
  have hD : va_D A (va_pl L f_4) := tp_D hL hAL
  have h0 : 0 ≤ v2.toInt := h0
  have h1 : v2.toInt ≤ 300 := h1
  have hl : lv_has ls 4 [(3, .int 300), (2, .int v2), (0, .ref a), (1, .int p0)] := hl
  refine lv_iload_n hx hb dJ7_fill_53178_5 rfl (lv_at hl 1 rfl) ?_
  refine lv_iload_n hx hb dJ7_fill_53178_6 rfl (lv_at hl 0 rfl) ?_
  refine lv_icmp_ge (tgt := 20) hx hb dJ7_fill_53178_7 (by decide) (fun c_5 => ?_) (fun c_5 => ?_)
  · have c_5 : (300 : Int) ≤ v2.toInt := tl_le c_5
    exact W.vret hx hb hr (fun t ht hW => ⟨⟨f_4, rfl, trivial, by rw [ht]; exact hP, hI, hfr⟩, hS.F ht⟩) hS.2.2 dJ7_fill_53178_20
  · have c_5 : v2.toInt < (300 : Int) := tl_nle c_5
    refine lv_aload_n hx hb dJ7_fill_53178_10 rfl (lv_at hl 2 rfl) ?_
    refine lv_iload_n hx hb dJ7_fill_53178_11 rfl (lv_at hl 1 rfl) ?_
    refine lv_iload_n hx hb dJ7_fill_53178_12 rfl (lv_at hl 3 rfl) ?_
    obtain ⟨g_7, hf_6, hg_8⟩ := (show tp_ai cy 6 (300) (f_4 a) from hI.at ha)
    have hn_9 : vp_in v2 (300) := tl_in (by omega) (by omega)
    have hI9 : tp_I cy L K Γ (va_up f_4 a (.inl (cy 0, 300, .inl (upd g_7 v2.toNatClampNeg p0)))) := hI.set ha (show tp_ai cy 6 (300) _ from ⟨_, rfl, tp_pi_upd hg_8 trivial⟩)
    have hfr9 : ∀ b, (K b).1 ∉ ([6] : List Nat) → va_up f_4 a (.inl (cy 0, 300, .inl (upd g_7 v2.toNatClampNeg p0))) b = f b := tp_fr hfr ha (by decide)
    refine tp_iast (cy := cy) hx hb hK hP hD hS ha.1 hf_6 hn_9 dJ7_fill_53178_13 (fun H locs hP hD hS => ?_)
    have hP : va_P D vwCl (va_pl L (va_up f_4 a (.inl (cy 0, 300, .inl (upd g_7 v2.toNatClampNeg p0))))) H := hP
    generalize hfe : va_up f_4 a (.inl (cy 0, 300, .inl (upd g_7 v2.toNatClampNeg p0))) = f_10 at hP hI9 hfr9
    have hD : va_D A (va_pl L f_10) := tp_D hL hAL
    have hf_11 : f_10 a = .inl (cy 0, 300, .inl (upd g_7 v2.toNatClampNeg p0)) := by rw [← hfe]; exact va_up_self _ _ _
    clear hfe
    have hI := hI9
    have hfr := hfr9
    clear hI9 hfr9
    obtain ⟨z_12, ez_12⟩ : ∃ y : Int32, y = v2 + 1 := ⟨_, rfl⟩
    refine lv_iinc (v := z_12) (lv' := [(2, .int z_12), (3, .int 300), (0, .ref a), (1, .int p0)]) hx hb dJ7_fill_53178_14 hl (k := 1) rfl (by rw [ez_12]; rfl) (by decide) rfl (fun ls hl => ?_)
    try have iz_12 : z_12.toInt = v2.toInt + 1 := by rw [ez_12]; exact tl_addL v2 1 (by decide) (by omega) (by omega)
    refine lv_goto (tgt := 5) hx hb dJ7_fill_53178_17 (by decide) ?_
    exact ih5 (f_10, z_12) H locs ls (by show (300 - z_12.toInt).toNat < (300 - v2.toInt).toNat; omega) ⟨(show 0 ≤ z_12.toInt from (by omega)), (show z_12.toInt ≤ 300 from (by omega)), hP, hI, hfr, hS, lv_sub hl [1, 0, 2, 3] rfl⟩
set_option maxHeartbeats 4000000 in
set_option maxRecDepth 100000 in
theorem t_fill_XI8 (l : Launch) (D : va_G) (cy : Nat → ClassId) (sz : Nat) (L : List Nat) (K : Nat → tk_K) (Γ : tk_G) (f : Nat → va_E) (a : Nat) (p0 : Int32) (ha : tp_r L K 37 (8) 0 a) : Met l yJ7_fill_53178 (tl_w yJ7_fill_53178 cJ7_fill_53178 4 none) ({ frames := 0, cells := 0, slots := 0, locals := 0 }) (va_Pc [.ref a, .int p0] (tp_P D cy L K Γ f sz)) (va_Qv (fun (u : Nat → va_E) => True) (tp_B D cy L K Γ f [37]) (tp_A L sz)) 0 0 (tp_A L sz) := by
  refine Met.ofW (cc := cJ7_fill_53178) (maxL := 4) (ret := none) (by decide) rfl ?_
  intro p e s m args below meth c s₁ B hml hv
  obtain ⟨rfl, hsz, hP, hK, hL, hI, hN, hU⟩ := hv
  have hx := B.exec
  have hb := B.bytes
  have hr := B.returns
  have hta := tl_hta (atoms_spec (ws := tl_w yJ7_fill_53178 cJ7_fill_53178 4 none) B.pre)
  have hown : s.vm.findClass RJ7 = some m.cls := findClass_of_methodNamed B.named
  have hlocks := B.notSynchronized
  subst hsz
  have hI0 := hI
  generalize hAe : tp_A L s.heap.size = A
  have hA : ∀ q : Nat, s.heap.size ≤ q → A q := fun q h => by rw [← hAe]; exact Or.inr h
  have hAL : ∀ q ∈ L, A q := fun q h => by rw [← hAe]; exact Or.inl h
  have hAf : ∀ (H : Heap), s.heap.size ≤ H.size → ∀ q, tp_A L H.size q → A q := fun H h q hq => hq.elim (hAL q) (fun h2 => hA q (Nat.le_trans h h2))
  have hS : va_S A s.heap s.heap [] := va_S.rf
  have hD : va_D A (va_pl L f) := tp_D hL hAL
  have hfr : ∀ b, (K b).1 ∉ ([37] : List Nat) → f b = f b := fun _ _ => rfl
  have hl := lv_entry ([.ref a, .int p0]) (n := 4) (Nat.le_of_ble_eq_true rfl)
  rw [lg_entry_eq]
  generalize (lg_sl ([.ref a, .int p0]) ++ List.replicate (4 - (lg_sl ([.ref a, .int p0])).length) Slot.unset).toArray = ls at hl ⊢
  have hl : lv_has ls 4 [(0, .ref a), (1, .int p0)] := hl
  refine lv_iconst (v := 0) hx hb dJ7_fill_53178_0 (by decide) ?_
  refine lv_istore_n (lv' := [(2, .int 0), (0, .ref a), (1, .int p0)]) hx hb dJ7_fill_53178_1 rfl hl (by decide) rfl (fun ls hl => ?_)
  refine lv_aload_n hx hb dJ7_fill_53178_2 rfl (lv_at hl 1 rfl) ?_
  obtain ⟨g_2, hf_1, hg_3⟩ := (show tp_ai cy 37 (8) (f a) from hI.at ha)
  refine tp_alen (cy := cy) (t0 := 0) (v := 8) hx hb hK hP ha.1 rfl hf_1 rfl dJ7_fill_53178_3 ?_
  refine lv_istore_n (lv' := [(3, .int 8), (2, .int 0), (0, .ref a), (1, .int p0)]) hx hb dJ7_fill_53178_4 rfl hl (by decide) rfl (fun ls hl => ?_)
  refine tq_start hP hS (fun H locs hP hS => ?_)
  refine tl_ind (G := fun H locs ls => W p l e ((headSpec (tl_w yJ7_fill_53178 cJ7_fill_53178 4 none) ({ frames := 0, cells := 0, slots := 0, locals := 0 })).room) s m #[.ref a, .int p0] below meth c H locs 0 0 (MQ below (va_Qv (fun (u : Nat → va_E) => True) (tp_B D cy L K Γ f [37]) A) #[.ref a, .int p0] s 0 0 A) (F0 m 5 ls [])) (α := (Nat → va_E) × Int32) (fun aq => (8 - aq.2.toInt).toNat) (fun aq H locs ls => (0 ≤ aq.2.toInt) ∧ (aq.2.toInt ≤ 8) ∧ va_P D vwCl (va_pl L aq.1) H ∧ tp_I cy L K Γ aq.1 ∧ (∀ b, (K b).1 ∉ ([37] : List Nat) → aq.1 b = f b) ∧ va_S A s.heap H locs ∧ lv_has ls 4 [(3, .int 8), (2, .int aq.2), (0, .ref a), (1, .int p0)]) ?_ (f, (0 : Int32)) H locs ls ⟨(show 0 ≤ (0 : Int) from (by omega)), (show (0 : Int) ≤ 8 from (by omega)), hP, hI, hfr, hS, lv_sub hl [0, 1, 2, 3] rfl⟩
  rintro ⟨f_4, v2⟩ H locs ls ⟨h0, h1, hP, hI, hfr, hS, hl⟩ ih5
  have hP : va_P D vwCl (va_pl L f_4) H := hP
  have hI : tp_I cy L K Γ f_4 := hI
  have hfr : ∀ b, (K b).1 ∉ ([37] : List Nat) → f_4 b = f b := hfr
  have hD : va_D A (va_pl L f_4) := tp_D hL hAL
  have h0 : 0 ≤ v2.toInt := h0
  have h1 : v2.toInt ≤ 8 := h1
  have hl : lv_has ls 4 [(3, .int 8), (2, .int v2), (0, .ref a), (1, .int p0)] := hl
  refine lv_iload_n hx hb dJ7_fill_53178_5 rfl (lv_at hl 1 rfl) ?_
  refine lv_iload_n hx hb dJ7_fill_53178_6 rfl (lv_at hl 0 rfl) ?_
  refine lv_icmp_ge (tgt := 20) hx hb dJ7_fill_53178_7 (by decide) (fun c_5 => ?_) (fun c_5 => ?_)
  · have c_5 : (8 : Int) ≤ v2.toInt := tl_le c_5
    exact W.vret hx hb hr (fun t ht hW => ⟨⟨f_4, rfl, trivial, by rw [ht]; exact hP, hI, hfr⟩, hS.F ht⟩) hS.2.2 dJ7_fill_53178_20
  · have c_5 : v2.toInt < (8 : Int) := tl_nle c_5
    refine lv_aload_n hx hb dJ7_fill_53178_10 rfl (lv_at hl 2 rfl) ?_
    refine lv_iload_n hx hb dJ7_fill_53178_11 rfl (lv_at hl 1 rfl) ?_
    refine lv_iload_n hx hb dJ7_fill_53178_12 rfl (lv_at hl 3 rfl) ?_
    obtain ⟨g_7, hf_6, hg_8⟩ := (show tp_ai cy 37 (8) (f_4 a) from hI.at ha)
    have hn_9 : vp_in v2 (8) := tl_in (by omega) (by omega)
    have hI9 : tp_I cy L K Γ (va_up f_4 a (.inl (cy 0, 8, .inl (upd g_7 v2.toNatClampNeg p0)))) := hI.set ha (show tp_ai cy 37 (8) _ from ⟨_, rfl, tp_pi_upd hg_8 trivial⟩)
    have hfr9 : ∀ b, (K b).1 ∉ ([37] : List Nat) → va_up f_4 a (.inl (cy 0, 8, .inl (upd g_7 v2.toNatClampNeg p0))) b = f b := tp_fr hfr ha (by decide)
    refine tp_iast (cy := cy) hx hb hK hP hD hS ha.1 hf_6 hn_9 dJ7_fill_53178_13 (fun H locs hP hD hS => ?_)
    have hP : va_P D vwCl (va_pl L (va_up f_4 a (.inl (cy 0, 8, .inl (upd g_7 v2.toNatClampNeg p0))))) H := hP
    generalize hfe : va_up f_4 a (.inl (cy 0, 8, .inl (upd g_7 v2.toNatClampNeg p0))) = f_10 at hP hI9 hfr9
    have hD : va_D A (va_pl L f_10) := tp_D hL hAL
    have hf_11 : f_10 a = .inl (cy 0, 8, .inl (upd g_7 v2.toNatClampNeg p0)) := by rw [← hfe]; exact va_up_self _ _ _
    clear hfe
    have hI := hI9
    have hfr := hfr9
    clear hI9 hfr9
    obtain ⟨z_12, ez_12⟩ : ∃ y : Int32, y = v2 + 1 := ⟨_, rfl⟩
    refine lv_iinc (v := z_12) (lv' := [(2, .int z_12), (3, .int 8), (0, .ref a), (1, .int p0)]) hx hb dJ7_fill_53178_14 hl (k := 1) rfl (by rw [ez_12]; rfl) (by decide) rfl (fun ls hl => ?_)
    try have iz_12 : z_12.toInt = v2.toInt + 1 := by rw [ez_12]; exact tl_addL v2 1 (by decide) (by omega) (by omega)
    refine lv_goto (tgt := 5) hx hb dJ7_fill_53178_17 (by decide) ?_
    exact ih5 (f_10, z_12) H locs ls (by show (8 - z_12.toInt).toNat < (8 - v2.toInt).toNat; omega) ⟨(show 0 ≤ z_12.toInt from (by omega)), (show z_12.toInt ≤ 8 from (by omega)), hP, hI, hfr, hS, lv_sub hl [1, 0, 2, 3] rfl⟩
set_option maxHeartbeats 4000000 in
set_option maxRecDepth 100000 in
theorem t_fill_EATEN (l : Launch) (D : va_G) (cy : Nat → ClassId) (sz : Nat) (L : List Nat) (K : Nat → tk_K) (Γ : tk_G) (f : Nat → va_E) (a : Nat) (p0 : Int32) (ha : tp_r L K 26 (300) 0 a) : Met l yJ7_fill_53178 (tl_w yJ7_fill_53178 cJ7_fill_53178 4 none) ({ frames := 0, cells := 0, slots := 0, locals := 0 }) (va_Pc [.ref a, .int p0] (tp_P D cy L K Γ f sz)) (va_Qv (fun (u : Nat → va_E) => True) (tp_B D cy L K Γ f [26]) (tp_A L sz)) 0 0 (tp_A L sz) := by
  refine Met.ofW (cc := cJ7_fill_53178) (maxL := 4) (ret := none) (by decide) rfl ?_
  intro p e s m args below meth c s₁ B hml hv
  obtain ⟨rfl, hsz, hP, hK, hL, hI, hN, hU⟩ := hv
  have hx := B.exec
  have hb := B.bytes
  have hr := B.returns
  have hta := tl_hta (atoms_spec (ws := tl_w yJ7_fill_53178 cJ7_fill_53178 4 none) B.pre)
  have hown : s.vm.findClass RJ7 = some m.cls := findClass_of_methodNamed B.named
  have hlocks := B.notSynchronized
  subst hsz
  have hI0 := hI
  generalize hAe : tp_A L s.heap.size = A
  have hA : ∀ q : Nat, s.heap.size ≤ q → A q := fun q h => by rw [← hAe]; exact Or.inr h
  have hAL : ∀ q ∈ L, A q := fun q h => by rw [← hAe]; exact Or.inl h
  have hAf : ∀ (H : Heap), s.heap.size ≤ H.size → ∀ q, tp_A L H.size q → A q := fun H h q hq => hq.elim (hAL q) (fun h2 => hA q (Nat.le_trans h h2))
  have hS : va_S A s.heap s.heap [] := va_S.rf
  have hD : va_D A (va_pl L f) := tp_D hL hAL
  have hfr : ∀ b, (K b).1 ∉ ([26] : List Nat) → f b = f b := fun _ _ => rfl
  have hl := lv_entry ([.ref a, .int p0]) (n := 4) (Nat.le_of_ble_eq_true rfl)
  rw [lg_entry_eq]
  generalize (lg_sl ([.ref a, .int p0]) ++ List.replicate (4 - (lg_sl ([.ref a, .int p0])).length) Slot.unset).toArray = ls at hl ⊢
  have hl : lv_has ls 4 [(0, .ref a), (1, .int p0)] := hl
  refine lv_iconst (v := 0) hx hb dJ7_fill_53178_0 (by decide) ?_
  refine lv_istore_n (lv' := [(2, .int 0), (0, .ref a), (1, .int p0)]) hx hb dJ7_fill_53178_1 rfl hl (by decide) rfl (fun ls hl => ?_)
  refine lv_aload_n hx hb dJ7_fill_53178_2 rfl (lv_at hl 1 rfl) ?_
  obtain ⟨g_2, hf_1, hg_3⟩ := (show tp_ai cy 26 (300) (f a) from hI.at ha)
  refine tp_alen (cy := cy) (t0 := 0) (v := 300) hx hb hK hP ha.1 rfl hf_1 rfl dJ7_fill_53178_3 ?_
  refine lv_istore_n (lv' := [(3, .int 300), (2, .int 0), (0, .ref a), (1, .int p0)]) hx hb dJ7_fill_53178_4 rfl hl (by decide) rfl (fun ls hl => ?_)
  refine tq_start hP hS (fun H locs hP hS => ?_)
  refine tl_ind (G := fun H locs ls => W p l e ((headSpec (tl_w yJ7_fill_53178 cJ7_fill_53178 4 none) ({ frames := 0, cells := 0, slots := 0, locals := 0 })).room) s m #[.ref a, .int p0] below meth c H locs 0 0 (MQ below (va_Qv (fun (u : Nat → va_E) => True) (tp_B D cy L K Γ f [26]) A) #[.ref a, .int p0] s 0 0 A) (F0 m 5 ls [])) (α := (Nat → va_E) × Int32) (fun aq => (300 - aq.2.toInt).toNat) (fun aq H locs ls => (0 ≤ aq.2.toInt) ∧ (aq.2.toInt ≤ 300) ∧ va_P D vwCl (va_pl L aq.1) H ∧ tp_I cy L K Γ aq.1 ∧ (∀ b, (K b).1 ∉ ([26] : List Nat) → aq.1 b = f b) ∧ va_S A s.heap H locs ∧ lv_has ls 4 [(3, .int 300), (2, .int aq.2), (0, .ref a), (1, .int p0)]) ?_ (f, (0 : Int32)) H locs ls ⟨(show 0 ≤ (0 : Int) from (by omega)), (show (0 : Int) ≤ 300 from (by omega)), hP, hI, hfr, hS, lv_sub hl [0, 1, 2, 3] rfl⟩
  rintro ⟨f_4, v2⟩ H locs ls ⟨h0, h1, hP, hI, hfr, hS, hl⟩ ih5
  have hP : va_P D vwCl (va_pl L f_4) H := hP
  have hI : tp_I cy L K Γ f_4 := hI
  have hfr : ∀ b, (K b).1 ∉ ([26] : List Nat) → f_4 b = f b := hfr
  have hD : va_D A (va_pl L f_4) := tp_D hL hAL
  have h0 : 0 ≤ v2.toInt := h0
  have h1 : v2.toInt ≤ 300 := h1
  have hl : lv_has ls 4 [(3, .int 300), (2, .int v2), (0, .ref a), (1, .int p0)] := hl
  refine lv_iload_n hx hb dJ7_fill_53178_5 rfl (lv_at hl 1 rfl) ?_
  refine lv_iload_n hx hb dJ7_fill_53178_6 rfl (lv_at hl 0 rfl) ?_
  refine lv_icmp_ge (tgt := 20) hx hb dJ7_fill_53178_7 (by decide) (fun c_5 => ?_) (fun c_5 => ?_)
  · have c_5 : (300 : Int) ≤ v2.toInt := tl_le c_5
    exact W.vret hx hb hr (fun t ht hW => ⟨⟨f_4, rfl, trivial, by rw [ht]; exact hP, hI, hfr⟩, hS.F ht⟩) hS.2.2 dJ7_fill_53178_20
  · have c_5 : v2.toInt < (300 : Int) := tl_nle c_5
    refine lv_aload_n hx hb dJ7_fill_53178_10 rfl (lv_at hl 2 rfl) ?_
    refine lv_iload_n hx hb dJ7_fill_53178_11 rfl (lv_at hl 1 rfl) ?_
    refine lv_iload_n hx hb dJ7_fill_53178_12 rfl (lv_at hl 3 rfl) ?_
    obtain ⟨g_7, hf_6, hg_8⟩ := (show tp_ai cy 26 (300) (f_4 a) from hI.at ha)
    have hn_9 : vp_in v2 (300) := tl_in (by omega) (by omega)
    have hI9 : tp_I cy L K Γ (va_up f_4 a (.inl (cy 0, 300, .inl (upd g_7 v2.toNatClampNeg p0)))) := hI.set ha (show tp_ai cy 26 (300) _ from ⟨_, rfl, tp_pi_upd hg_8 trivial⟩)
    have hfr9 : ∀ b, (K b).1 ∉ ([26] : List Nat) → va_up f_4 a (.inl (cy 0, 300, .inl (upd g_7 v2.toNatClampNeg p0))) b = f b := tp_fr hfr ha (by decide)
    refine tp_iast (cy := cy) hx hb hK hP hD hS ha.1 hf_6 hn_9 dJ7_fill_53178_13 (fun H locs hP hD hS => ?_)
    have hP : va_P D vwCl (va_pl L (va_up f_4 a (.inl (cy 0, 300, .inl (upd g_7 v2.toNatClampNeg p0))))) H := hP
    generalize hfe : va_up f_4 a (.inl (cy 0, 300, .inl (upd g_7 v2.toNatClampNeg p0))) = f_10 at hP hI9 hfr9
    have hD : va_D A (va_pl L f_10) := tp_D hL hAL
    have hf_11 : f_10 a = .inl (cy 0, 300, .inl (upd g_7 v2.toNatClampNeg p0)) := by rw [← hfe]; exact va_up_self _ _ _
    clear hfe
    have hI := hI9
    have hfr := hfr9
    clear hI9 hfr9
    obtain ⟨z_12, ez_12⟩ : ∃ y : Int32, y = v2 + 1 := ⟨_, rfl⟩
    refine lv_iinc (v := z_12) (lv' := [(2, .int z_12), (3, .int 300), (0, .ref a), (1, .int p0)]) hx hb dJ7_fill_53178_14 hl (k := 1) rfl (by rw [ez_12]; rfl) (by decide) rfl (fun ls hl => ?_)
    try have iz_12 : z_12.toInt = v2.toInt + 1 := by rw [ez_12]; exact tl_addL v2 1 (by decide) (by omega) (by omega)
    refine lv_goto (tgt := 5) hx hb dJ7_fill_53178_17 (by decide) ?_
    exact ih5 (f_10, z_12) H locs ls (by show (300 - z_12.toInt).toNat < (300 - v2.toInt).toNat; omega) ⟨(show 0 ≤ z_12.toInt from (by omega)), (show z_12.toInt ≤ 300 from (by omega)), hP, hI, hfr, hS, lv_sub hl [1, 0, 2, 3] rfl⟩
set_option maxHeartbeats 4000000 in
set_option maxRecDepth 100000 in
theorem t_fill_RM (l : Launch) (D : va_G) (cy : Nat → ClassId) (sz : Nat) (L : List Nat) (K : Nat → tk_K) (Γ : tk_G) (f : Nat → va_E) (a : Nat) (p0 : Int32) (ha : tp_r L K 35 (99) 0 a) : Met l yJ7_fill_53178 (tl_w yJ7_fill_53178 cJ7_fill_53178 4 none) ({ frames := 0, cells := 0, slots := 0, locals := 0 }) (va_Pc [.ref a, .int p0] (tp_P D cy L K Γ f sz)) (va_Qv (fun (u : Nat → va_E) => True) (tp_B D cy L K Γ f [35]) (tp_A L sz)) 0 0 (tp_A L sz) := by
  refine Met.ofW (cc := cJ7_fill_53178) (maxL := 4) (ret := none) (by decide) rfl ?_
  intro p e s m args below meth c s₁ B hml hv
  obtain ⟨rfl, hsz, hP, hK, hL, hI, hN, hU⟩ := hv
  have hx := B.exec
  have hb := B.bytes
  have hr := B.returns
  have hta := tl_hta (atoms_spec (ws := tl_w yJ7_fill_53178 cJ7_fill_53178 4 none) B.pre)
  have hown : s.vm.findClass RJ7 = some m.cls := findClass_of_methodNamed B.named
  have hlocks := B.notSynchronized
  subst hsz
  have hI0 := hI
  generalize hAe : tp_A L s.heap.size = A
  have hA : ∀ q : Nat, s.heap.size ≤ q → A q := fun q h => by rw [← hAe]; exact Or.inr h
  have hAL : ∀ q ∈ L, A q := fun q h => by rw [← hAe]; exact Or.inl h
  have hAf : ∀ (H : Heap), s.heap.size ≤ H.size → ∀ q, tp_A L H.size q → A q := fun H h q hq => hq.elim (hAL q) (fun h2 => hA q (Nat.le_trans h h2))
  have hS : va_S A s.heap s.heap [] := va_S.rf
  have hD : va_D A (va_pl L f) := tp_D hL hAL
  have hfr : ∀ b, (K b).1 ∉ ([35] : List Nat) → f b = f b := fun _ _ => rfl
  have hl := lv_entry ([.ref a, .int p0]) (n := 4) (Nat.le_of_ble_eq_true rfl)
  rw [lg_entry_eq]
  generalize (lg_sl ([.ref a, .int p0]) ++ List.replicate (4 - (lg_sl ([.ref a, .int p0])).length) Slot.unset).toArray = ls at hl ⊢
  have hl : lv_has ls 4 [(0, .ref a), (1, .int p0)] := hl
  refine lv_iconst (v := 0) hx hb dJ7_fill_53178_0 (by decide) ?_
  refine lv_istore_n (lv' := [(2, .int 0), (0, .ref a), (1, .int p0)]) hx hb dJ7_fill_53178_1 rfl hl (by decide) rfl (fun ls hl => ?_)
  refine lv_aload_n hx hb dJ7_fill_53178_2 rfl (lv_at hl 1 rfl) ?_
  obtain ⟨g_2, hf_1, hg_3⟩ := (show tp_ai cy 35 (99) (f a) from hI.at ha)
  refine tp_alen (cy := cy) (t0 := 0) (v := 99) hx hb hK hP ha.1 rfl hf_1 rfl dJ7_fill_53178_3 ?_
  refine lv_istore_n (lv' := [(3, .int 99), (2, .int 0), (0, .ref a), (1, .int p0)]) hx hb dJ7_fill_53178_4 rfl hl (by decide) rfl (fun ls hl => ?_)
  refine tq_start hP hS (fun H locs hP hS => ?_)
  refine tl_ind (G := fun H locs ls => W p l e ((headSpec (tl_w yJ7_fill_53178 cJ7_fill_53178 4 none) ({ frames := 0, cells := 0, slots := 0, locals := 0 })).room) s m #[.ref a, .int p0] below meth c H locs 0 0 (MQ below (va_Qv (fun (u : Nat → va_E) => True) (tp_B D cy L K Γ f [35]) A) #[.ref a, .int p0] s 0 0 A) (F0 m 5 ls [])) (α := (Nat → va_E) × Int32) (fun aq => (99 - aq.2.toInt).toNat) (fun aq H locs ls => (0 ≤ aq.2.toInt) ∧ (aq.2.toInt ≤ 99) ∧ va_P D vwCl (va_pl L aq.1) H ∧ tp_I cy L K Γ aq.1 ∧ (∀ b, (K b).1 ∉ ([35] : List Nat) → aq.1 b = f b) ∧ va_S A s.heap H locs ∧ lv_has ls 4 [(3, .int 99), (2, .int aq.2), (0, .ref a), (1, .int p0)]) ?_ (f, (0 : Int32)) H locs ls ⟨(show 0 ≤ (0 : Int) from (by omega)), (show (0 : Int) ≤ 99 from (by omega)), hP, hI, hfr, hS, lv_sub hl [0, 1, 2, 3] rfl⟩
  rintro ⟨f_4, v2⟩ H locs ls ⟨h0, h1, hP, hI, hfr, hS, hl⟩ ih5
  have hP : va_P D vwCl (va_pl L f_4) H := hP
  have hI : tp_I cy L K Γ f_4 := hI
  have hfr : ∀ b, (K b).1 ∉ ([35] : List Nat) → f_4 b = f b := hfr
  have hD : va_D A (va_pl L f_4) := tp_D hL hAL
  have h0 : 0 ≤ v2.toInt := h0
  have h1 : v2.toInt ≤ 99 := h1
  have hl : lv_has ls 4 [(3, .int 99), (2, .int v2), (0, .ref a), (1, .int p0)] := hl
  refine lv_iload_n hx hb dJ7_fill_53178_5 rfl (lv_at hl 1 rfl) ?_
  refine lv_iload_n hx hb dJ7_fill_53178_6 rfl (lv_at hl 0 rfl) ?_
  refine lv_icmp_ge (tgt := 20) hx hb dJ7_fill_53178_7 (by decide) (fun c_5 => ?_) (fun c_5 => ?_)
  · have c_5 : (99 : Int) ≤ v2.toInt := tl_le c_5
    exact W.vret hx hb hr (fun t ht hW => ⟨⟨f_4, rfl, trivial, by rw [ht]; exact hP, hI, hfr⟩, hS.F ht⟩) hS.2.2 dJ7_fill_53178_20
  · have c_5 : v2.toInt < (99 : Int) := tl_nle c_5
    refine lv_aload_n hx hb dJ7_fill_53178_10 rfl (lv_at hl 2 rfl) ?_
    refine lv_iload_n hx hb dJ7_fill_53178_11 rfl (lv_at hl 1 rfl) ?_
    refine lv_iload_n hx hb dJ7_fill_53178_12 rfl (lv_at hl 3 rfl) ?_
    obtain ⟨g_7, hf_6, hg_8⟩ := (show tp_ai cy 35 (99) (f_4 a) from hI.at ha)
    have hn_9 : vp_in v2 (99) := tl_in (by omega) (by omega)
    have hI9 : tp_I cy L K Γ (va_up f_4 a (.inl (cy 0, 99, .inl (upd g_7 v2.toNatClampNeg p0)))) := hI.set ha (show tp_ai cy 35 (99) _ from ⟨_, rfl, tp_pi_upd hg_8 trivial⟩)
    have hfr9 : ∀ b, (K b).1 ∉ ([35] : List Nat) → va_up f_4 a (.inl (cy 0, 99, .inl (upd g_7 v2.toNatClampNeg p0))) b = f b := tp_fr hfr ha (by decide)
    refine tp_iast (cy := cy) hx hb hK hP hD hS ha.1 hf_6 hn_9 dJ7_fill_53178_13 (fun H locs hP hD hS => ?_)
    have hP : va_P D vwCl (va_pl L (va_up f_4 a (.inl (cy 0, 99, .inl (upd g_7 v2.toNatClampNeg p0))))) H := hP
    generalize hfe : va_up f_4 a (.inl (cy 0, 99, .inl (upd g_7 v2.toNatClampNeg p0))) = f_10 at hP hI9 hfr9
    have hD : va_D A (va_pl L f_10) := tp_D hL hAL
    have hf_11 : f_10 a = .inl (cy 0, 99, .inl (upd g_7 v2.toNatClampNeg p0)) := by rw [← hfe]; exact va_up_self _ _ _
    clear hfe
    have hI := hI9
    have hfr := hfr9
    clear hI9 hfr9
    obtain ⟨z_12, ez_12⟩ : ∃ y : Int32, y = v2 + 1 := ⟨_, rfl⟩
    refine lv_iinc (v := z_12) (lv' := [(2, .int z_12), (3, .int 99), (0, .ref a), (1, .int p0)]) hx hb dJ7_fill_53178_14 hl (k := 1) rfl (by rw [ez_12]; rfl) (by decide) rfl (fun ls hl => ?_)
    try have iz_12 : z_12.toInt = v2.toInt + 1 := by rw [ez_12]; exact tl_addL v2 1 (by decide) (by omega) (by omega)
    refine lv_goto (tgt := 5) hx hb dJ7_fill_53178_17 (by decide) ?_
    exact ih5 (f_10, z_12) H locs ls (by show (99 - z_12.toInt).toNat < (99 - v2.toInt).toNat; omega) ⟨(show 0 ≤ z_12.toInt from (by omega)), (show z_12.toInt ≤ 99 from (by omega)), hP, hI, hfr, hS, lv_sub hl [1, 0, 2, 3] rfl⟩
set_option maxHeartbeats 4000000 in
set_option maxRecDepth 100000 in
theorem t_fill_RL (l : Launch) (D : va_G) (cy : Nat → ClassId) (sz : Nat) (L : List Nat) (K : Nat → tk_K) (Γ : tk_G) (f : Nat → va_E) (a : Nat) (p0 : Int64) (ha : tp_r L K 34 (99) 0 a) : Met l yJ7_fill_d0a16 (tl_w yJ7_fill_d0a16 cJ7_fill_d0a16 5 none) ({ frames := 0, cells := 0, slots := 0, locals := 0 }) (va_Pc [.ref a, .long p0] (tp_P D cy L K Γ f sz)) (va_Qv (fun (u : Nat → va_E) => True) (tp_B D cy L K Γ f [34]) (tp_A L sz)) 0 0 (tp_A L sz) := by
  refine Met.ofW (cc := cJ7_fill_d0a16) (maxL := 5) (ret := none) (by decide) rfl ?_
  intro p e s m args below meth c s₁ B hml hv
  obtain ⟨rfl, hsz, hP, hK, hL, hI, hN, hU⟩ := hv
  have hx := B.exec
  have hb := B.bytes
  have hr := B.returns
  have hta := tl_hta (atoms_spec (ws := tl_w yJ7_fill_d0a16 cJ7_fill_d0a16 5 none) B.pre)
  have hown : s.vm.findClass RJ7 = some m.cls := findClass_of_methodNamed B.named
  have hlocks := B.notSynchronized
  subst hsz
  have hI0 := hI
  generalize hAe : tp_A L s.heap.size = A
  have hA : ∀ q : Nat, s.heap.size ≤ q → A q := fun q h => by rw [← hAe]; exact Or.inr h
  have hAL : ∀ q ∈ L, A q := fun q h => by rw [← hAe]; exact Or.inl h
  have hAf : ∀ (H : Heap), s.heap.size ≤ H.size → ∀ q, tp_A L H.size q → A q := fun H h q hq => hq.elim (hAL q) (fun h2 => hA q (Nat.le_trans h h2))
  have hS : va_S A s.heap s.heap [] := va_S.rf
  have hD : va_D A (va_pl L f) := tp_D hL hAL
  have hfr : ∀ b, (K b).1 ∉ ([34] : List Nat) → f b = f b := fun _ _ => rfl
  have hl := lv_entry ([.ref a, .long p0]) (n := 5) (Nat.le_of_ble_eq_true rfl)
  rw [lg_entry_eq]
  generalize (lg_sl ([.ref a, .long p0]) ++ List.replicate (5 - (lg_sl ([.ref a, .long p0])).length) Slot.unset).toArray = ls at hl ⊢
  have hl : lv_has ls 5 [(0, .ref a), (1, .long p0)] := hl
  refine lv_iconst (v := 0) hx hb dJ7_fill_d0a16_0 (by decide) ?_
  refine lv_istore_n (lv' := [(3, .int 0), (0, .ref a), (1, .long p0)]) hx hb dJ7_fill_d0a16_1 rfl hl (by decide) rfl (fun ls hl => ?_)
  refine lv_aload_n hx hb dJ7_fill_d0a16_2 rfl (lv_at hl 1 rfl) ?_
  obtain ⟨g_2, hf_1⟩ := (show tp_aj cy (99) (f a) from hI.at ha)
  refine tp_alen (cy := cy) (t0 := 1) (v := 99) hx hb hK hP ha.1 rfl hf_1 rfl dJ7_fill_d0a16_3 ?_
  refine lv_istore (lv' := [(4, .int 99), (3, .int 0), (0, .ref a), (1, .long p0)]) hx hb dJ7_fill_d0a16_4 hl (by decide) rfl (fun ls hl => ?_)
  refine tq_start hP hS (fun H locs hP hS => ?_)
  refine tl_ind (G := fun H locs ls => W p l e ((headSpec (tl_w yJ7_fill_d0a16 cJ7_fill_d0a16 5 none) ({ frames := 0, cells := 0, slots := 0, locals := 0 })).room) s m #[.ref a, .long p0] below meth c H locs 0 0 (MQ below (va_Qv (fun (u : Nat → va_E) => True) (tp_B D cy L K Γ f [34]) A) #[.ref a, .long p0] s 0 0 A) (F0 m 6 ls [])) (α := (Nat → va_E) × Int32) (fun aq => (99 - aq.2.toInt).toNat) (fun aq H locs ls => (0 ≤ aq.2.toInt) ∧ (aq.2.toInt ≤ 99) ∧ va_P D vwCl (va_pl L aq.1) H ∧ tp_I cy L K Γ aq.1 ∧ (∀ b, (K b).1 ∉ ([34] : List Nat) → aq.1 b = f b) ∧ va_S A s.heap H locs ∧ lv_has ls 5 [(4, .int 99), (3, .int aq.2), (0, .ref a), (1, .long p0)]) ?_ (f, (0 : Int32)) H locs ls ⟨(show 0 ≤ (0 : Int) from (by omega)), (show (0 : Int) ≤ 99 from (by omega)), hP, hI, hfr, hS, lv_sub hl [0, 1, 2, 3] rfl⟩
  rintro ⟨f_4, v3⟩ H locs ls ⟨h0, h1, hP, hI, hfr, hS, hl⟩ ih6
  have hP : va_P D vwCl (va_pl L f_4) H := hP
  have hI : tp_I cy L K Γ f_4 := hI
  have hfr : ∀ b, (K b).1 ∉ ([34] : List Nat) → f_4 b = f b := hfr
  have hD : va_D A (va_pl L f_4) := tp_D hL hAL
  have h0 : 0 ≤ v3.toInt := h0
  have h1 : v3.toInt ≤ 99 := h1
  have hl : lv_has ls 5 [(4, .int 99), (3, .int v3), (0, .ref a), (1, .long p0)] := hl
  refine lv_iload_n hx hb dJ7_fill_d0a16_6 rfl (lv_at hl 1 rfl) ?_
  refine lv_iload hx hb dJ7_fill_d0a16_7 (lv_at hl 0 rfl) ?_
  refine lv_icmp_ge (tgt := 22) hx hb dJ7_fill_d0a16_9 (by decide) (fun c_5 => ?_) (fun c_5 => ?_)
  · have c_5 : (99 : Int) ≤ v3.toInt := tl_le c_5
    exact W.vret hx hb hr (fun t ht hW => ⟨⟨f_4, rfl, trivial, by rw [ht]; exact hP, hI, hfr⟩, hS.F ht⟩) hS.2.2 dJ7_fill_d0a16_22
  · have c_5 : v3.toInt < (99 : Int) := tl_nle c_5
    refine lv_aload_n hx hb dJ7_fill_d0a16_12 rfl (lv_at hl 2 rfl) ?_
    refine lv_iload_n hx hb dJ7_fill_d0a16_13 rfl (lv_at hl 1 rfl) ?_
    refine lv_lload_n hx hb dJ7_fill_d0a16_14 rfl (lv_at hl 3 rfl) ?_
    obtain ⟨g_7, hf_6⟩ := (show tp_aj cy (99) (f_4 a) from hI.at ha)
    have hn_9 : vp_in v3 (99) := tl_in (by omega) (by omega)
    have hI9 : tp_I cy L K Γ (va_up f_4 a (.inl (cy 1, 99, .inr (.inl (vp_updL g_7 v3.toNatClampNeg p0))))) := hI.set ha (show tp_aj cy (99) _ from ⟨_, rfl⟩)
    have hfr9 : ∀ b, (K b).1 ∉ ([34] : List Nat) → va_up f_4 a (.inl (cy 1, 99, .inr (.inl (vp_updL g_7 v3.toNatClampNeg p0)))) b = f b := tp_fr hfr ha (by decide)
    refine tp_last (cy := cy) hx hb hK hP hD hS ha.1 hf_6 hn_9 dJ7_fill_d0a16_15 (fun H locs hP hD hS => ?_)
    have hP : va_P D vwCl (va_pl L (va_up f_4 a (.inl (cy 1, 99, .inr (.inl (vp_updL g_7 v3.toNatClampNeg p0)))))) H := hP
    generalize hfe : va_up f_4 a (.inl (cy 1, 99, .inr (.inl (vp_updL g_7 v3.toNatClampNeg p0)))) = f_10 at hP hI9 hfr9
    have hD : va_D A (va_pl L f_10) := tp_D hL hAL
    have hf_11 : f_10 a = .inl (cy 1, 99, .inr (.inl (vp_updL g_7 v3.toNatClampNeg p0))) := by rw [← hfe]; exact va_up_self _ _ _
    clear hfe
    have hI := hI9
    have hfr := hfr9
    clear hI9 hfr9
    obtain ⟨z_12, ez_12⟩ : ∃ y : Int32, y = v3 + 1 := ⟨_, rfl⟩
    refine lv_iinc (v := z_12) (lv' := [(3, .int z_12), (4, .int 99), (0, .ref a), (1, .long p0)]) hx hb dJ7_fill_d0a16_16 hl (k := 1) rfl (by rw [ez_12]; rfl) (by decide) rfl (fun ls hl => ?_)
    try have iz_12 : z_12.toInt = v3.toInt + 1 := by rw [ez_12]; exact tl_addL v3 1 (by decide) (by omega) (by omega)
    refine lv_goto (tgt := 6) hx hb dJ7_fill_d0a16_19 (by decide) ?_
    exact ih6 (f_10, z_12) H locs ls (by show (99 - z_12.toInt).toNat < (99 - v3.toInt).toNat; omega) ⟨(show 0 ≤ z_12.toInt from (by omega)), (show z_12.toInt ≤ 99 from (by omega)), hP, hI, hfr, hS, lv_sub hl [1, 0, 2, 3] rfl⟩
set_option maxHeartbeats 4000000 in
set_option maxRecDepth 100000 in
theorem t_X4_add (l : Launch) (D : va_G) (cy : Nat → ClassId) (sz : Nat) (L : List Nat) (K : Nat → tk_K) (Γ : tk_G) (f : Nat → va_E) (w : Nat) (o : Nat) (p0 : Int32) (p1 : Int32) (p2 : Int32) (ho : tp_r L K 3 (0) w o) : Met l yX4_add (tl_w yX4_add cX4_add 4 (some .int)) ({ frames := 1, cells := 0, slots := 0, locals := 23 }) (va_Pc [.ref o, .int p0, .int p1, .int p2] (tp_P D cy L K Γ f sz)) (va_Qi (fun (r : Int32) (u : Nat → va_E) => r.toInt = tm_at 24 (Γ (3, 0, w) 0)) (tp_B D cy L K (tg Γ (3, 0, w) 0 (tm_up 24 (Γ (3, 0, w) 0))) f [3, 4, 6]) (tp_A L sz)) 0 0 (tp_A L sz) := by
  refine Met.ofW (cc := cX4_add) (maxL := 4) (ret := (some .int)) (by decide) rfl ?_
  intro p e s m args below meth c s₁ B hml hv
  obtain ⟨rfl, hsz, hP, hK, hL, hI, hN, hU⟩ := hv
  have hx := B.exec
  have hb := B.bytes
  have hr := B.returns
  have hta := tl_hta (atoms_spec (ws := tl_w yX4_add cX4_add 4 (some .int)) B.pre)
  have hown : s.vm.findClass RX4 = some m.cls := findClass_of_methodNamed B.named
  have hlocks := B.notSynchronized
  subst hsz
  have hI0 := hI
  generalize hAe : tp_A L s.heap.size = A
  have hA : ∀ q : Nat, s.heap.size ≤ q → A q := fun q h => by rw [← hAe]; exact Or.inr h
  have hAL : ∀ q ∈ L, A q := fun q h => by rw [← hAe]; exact Or.inl h
  have hAf : ∀ (H : Heap), s.heap.size ≤ H.size → ∀ q, tp_A L H.size q → A q := fun H h q hq => hq.elim (hAL q) (fun h2 => hA q (Nat.le_trans h h2))
  have hS : va_S A s.heap s.heap [] := va_S.rf
  have hD : va_D A (va_pl L f) := tp_D hL hAL
  have hfr : ∀ b, (K b).1 ∉ ([3, 4, 6] : List Nat) → f b = f b := fun _ _ => rfl
  have hl := lv_entry ([.ref o, .int p0, .int p1, .int p2]) (n := 4) (Nat.le_of_ble_eq_true rfl)
  rw [lg_entry_eq]
  generalize (lg_sl ([.ref o, .int p0, .int p1, .int p2]) ++ List.replicate (4 - (lg_sl ([.ref o, .int p0, .int p1, .int p2])).length) Slot.unset).toArray = ls at hl ⊢
  have hl : lv_has ls 4 [(0, .ref o), (1, .int p0), (2, .int p1), (3, .int p2)] := hl
  refine lv_aload_n hx hb dX4_add_0 rfl (lv_at hl 0 rfl) ?_
  obtain ⟨x_2, x_3, x_4, x_5, x_6, x_7, hf_1, hx_2, hx_4, hx_5, hx_6, hx_7⟩ := (show tp_o_ROWS L K (0) w (Γ (3, 0, w)) (f o) from hI.at ho)
  refine tp_get (cy := cy) (ci := 4) (v := .int x_2) (C := RX4) (T := TX4) (N := 6) hx hb hta inlX4 hown hK hP ho.1 hf_1 rfl 0 (by decide) (hta _ wk_211) (fun _ h9 => h9) rfl dX4_add_1 ?_
  refine lv_bipush (v := 24) hx hb dX4_add_4 (by decide) ?_
  refine lv_icmp_lt (tgt := 11) hx hb dX4_add_6 (by decide) (fun c_8 => ?_) (fun c_8 => ?_)
  · have c_8 : x_2.toInt < (24 : Int) := tl_lt c_8
    refine lv_aload_n hx hb dX4_add_11 rfl (lv_at hl 0 rfl) ?_
    refine tp_get (cy := cy) (ci := 4) (v := .ref x_4) (C := RX4) (T := TX4) (N := 6) hx hb hta inlX4 hown hK hP ho.1 hf_1 rfl 2 (by decide) (hta _ wk_73) (fun _ h9 => h9) rfl dX4_add_12 ?_
    refine lv_aload_n hx hb dX4_add_15 rfl (lv_at hl 0 rfl) ?_
    refine tp_get (cy := cy) (ci := 4) (v := .int x_2) (C := RX4) (T := TX4) (N := 6) hx hb hta inlX4 hown hK hP ho.1 hf_1 rfl 0 (by decide) (hta _ wk_211) (fun _ h9 => h9) rfl dX4_add_16 ?_
    refine lv_iload_n hx hb dX4_add_19 rfl (lv_at hl 1 rfl) ?_
    obtain ⟨g_10, hf_9, hg_11⟩ := (show tp_ai cy 4 (24) (f x_4) from hI.at hx_4)
    have hn_12 : vp_in x_2 (24) := tl_in (by omega) (by omega)
    have hI9 : tp_I cy L K Γ (va_up f x_4 (.inl (cy 0, 24, .inl (upd g_10 x_2.toNatClampNeg p0)))) := hI.set hx_4 (show tp_ai cy 4 (24) _ from ⟨_, rfl, tp_pi_upd hg_11 trivial⟩)
    have hfr9 : ∀ b, (K b).1 ∉ ([3, 4, 6] : List Nat) → va_up f x_4 (.inl (cy 0, 24, .inl (upd g_10 x_2.toNatClampNeg p0))) b = f b := tp_fr hfr hx_4 (by decide)
    refine tp_iast (cy := cy) hx hb hK hP hD hS hx_4.1 hf_9 hn_12 dX4_add_20 (fun H locs hP hD hS => ?_)
    have hP : va_P D vwCl (va_pl L (va_up f x_4 (.inl (cy 0, 24, .inl (upd g_10 x_2.toNatClampNeg p0))))) H := hP
    generalize hfe : va_up f x_4 (.inl (cy 0, 24, .inl (upd g_10 x_2.toNatClampNeg p0))) = f_13 at hP hI9 hfr9
    have hD : va_D A (va_pl L f_13) := tp_D hL hAL
    have hf_14 := (show f_13 o = _ from by rw [← hfe, va_up_ne _ _ (tp_ne ho hx_4 (by decide))]).trans hf_1
    have hf_15 : f_13 x_4 = .inl (cy 0, 24, .inl (upd g_10 x_2.toNatClampNeg p0)) := by rw [← hfe]; exact va_up_self _ _ _
    clear hfe
    have hI := hI9
    have hfr := hfr9
    clear hI9 hfr9
    refine lv_aload_n hx hb dX4_add_21 rfl (lv_at hl 0 rfl) ?_
    refine tp_get (cy := cy) (ci := 4) (v := .ref x_5) (C := RX4) (T := TX4) (N := 6) hx hb hta inlX4 hown hK hP ho.1 hf_14 rfl 3 (by decide) (hta _ wk_74) (fun _ h9 => h9) rfl dX4_add_22 ?_
    refine lv_aload_n hx hb dX4_add_25 rfl (lv_at hl 0 rfl) ?_
    refine tp_get (cy := cy) (ci := 4) (v := .int x_2) (C := RX4) (T := TX4) (N := 6) hx hb hta inlX4 hown hK hP ho.1 hf_14 rfl 0 (by decide) (hta _ wk_211) (fun _ h9 => h9) rfl dX4_add_26 ?_
    refine lv_iload_n hx hb dX4_add_29 rfl (lv_at hl 2 rfl) ?_
    obtain ⟨g_17, hf_16, hg_18⟩ := (show tp_ai cy 4 (24) (f_13 x_5) from hI.at hx_5)
    have hn_19 : vp_in x_2 (24) := tl_in (by omega) (by omega)
    have hI9 : tp_I cy L K Γ (va_up f_13 x_5 (.inl (cy 0, 24, .inl (upd g_17 x_2.toNatClampNeg p1)))) := hI.set hx_5 (show tp_ai cy 4 (24) _ from ⟨_, rfl, tp_pi_upd hg_18 trivial⟩)
    have hfr9 : ∀ b, (K b).1 ∉ ([3, 4, 6] : List Nat) → va_up f_13 x_5 (.inl (cy 0, 24, .inl (upd g_17 x_2.toNatClampNeg p1))) b = f b := tp_fr hfr hx_5 (by decide)
    refine tp_iast (cy := cy) hx hb hK hP hD hS hx_5.1 hf_16 hn_19 dX4_add_30 (fun H locs hP hD hS => ?_)
    have hP : va_P D vwCl (va_pl L (va_up f_13 x_5 (.inl (cy 0, 24, .inl (upd g_17 x_2.toNatClampNeg p1))))) H := hP
    generalize hfe : va_up f_13 x_5 (.inl (cy 0, 24, .inl (upd g_17 x_2.toNatClampNeg p1))) = f_20 at hP hI9 hfr9
    have hD : va_D A (va_pl L f_20) := tp_D hL hAL
    have hf_21 := (show f_20 o = _ from by rw [← hfe, va_up_ne _ _ (tp_ne ho hx_5 (by decide))]).trans hf_14
    have hf_22 : f_20 x_5 = .inl (cy 0, 24, .inl (upd g_17 x_2.toNatClampNeg p1)) := by rw [← hfe]; exact va_up_self _ _ _
    clear hfe
    have hI := hI9
    have hfr := hfr9
    clear hI9 hfr9
    refine lv_aload_n hx hb dX4_add_31 rfl (lv_at hl 0 rfl) ?_
    refine tp_get (cy := cy) (ci := 4) (v := .ref x_6) (C := RX4) (T := TX4) (N := 6) hx hb hta inlX4 hown hK hP ho.1 hf_21 rfl 4 (by decide) (hta _ wk_75) (fun _ h9 => h9) rfl dX4_add_32 ?_
    refine lv_aload_n hx hb dX4_add_35 rfl (lv_at hl 0 rfl) ?_
    refine tp_get (cy := cy) (ci := 4) (v := .int x_2) (C := RX4) (T := TX4) (N := 6) hx hb hta inlX4 hown hK hP ho.1 hf_21 rfl 0 (by decide) (hta _ wk_211) (fun _ h9 => h9) rfl dX4_add_36 ?_
    refine lv_iload_n hx hb dX4_add_39 rfl (lv_at hl 3 rfl) ?_
    obtain ⟨g_24, hf_23, hg_25⟩ := (show tp_ai cy 4 (24) (f_20 x_6) from hI.at hx_6)
    have hn_26 : vp_in x_2 (24) := tl_in (by omega) (by omega)
    have hI9 : tp_I cy L K Γ (va_up f_20 x_6 (.inl (cy 0, 24, .inl (upd g_24 x_2.toNatClampNeg p2)))) := hI.set hx_6 (show tp_ai cy 4 (24) _ from ⟨_, rfl, tp_pi_upd hg_25 trivial⟩)
    have hfr9 : ∀ b, (K b).1 ∉ ([3, 4, 6] : List Nat) → va_up f_20 x_6 (.inl (cy 0, 24, .inl (upd g_24 x_2.toNatClampNeg p2))) b = f b := tp_fr hfr hx_6 (by decide)
    refine tp_iast (cy := cy) hx hb hK hP hD hS hx_6.1 hf_23 hn_26 dX4_add_40 (fun H locs hP hD hS => ?_)
    have hP : va_P D vwCl (va_pl L (va_up f_20 x_6 (.inl (cy 0, 24, .inl (upd g_24 x_2.toNatClampNeg p2))))) H := hP
    generalize hfe : va_up f_20 x_6 (.inl (cy 0, 24, .inl (upd g_24 x_2.toNatClampNeg p2))) = f_27 at hP hI9 hfr9
    have hD : va_D A (va_pl L f_27) := tp_D hL hAL
    have hf_28 := (show f_27 o = _ from by rw [← hfe, va_up_ne _ _ (tp_ne ho hx_6 (by decide))]).trans hf_21
    have hf_29 : f_27 x_6 = .inl (cy 0, 24, .inl (upd g_24 x_2.toNatClampNeg p2)) := by rw [← hfe]; exact va_up_self _ _ _
    clear hfe
    have hI := hI9
    have hfr := hfr9
    clear hI9 hfr9
    refine lv_aload_n hx hb dX4_add_41 rfl (lv_at hl 0 rfl) ?_
    refine tp_get (cy := cy) (ci := 4) (v := .ref x_7) (C := RX4) (T := TX4) (N := 6) hx hb hta inlX4 hown hK hP ho.1 hf_28 rfl 5 (by decide) (hta _ wk_77) (fun _ h9 => h9) rfl dX4_add_42 ?_
    refine lv_aload_n hx hb dX4_add_45 rfl (lv_at hl 0 rfl) ?_
    refine tp_get (cy := cy) (ci := 4) (v := .int x_2) (C := RX4) (T := TX4) (N := 6) hx hb hta inlX4 hown hK hP ho.1 hf_28 rfl 0 (by decide) (hta _ wk_211) (fun _ h9 => h9) rfl dX4_add_46 ?_
    obtain ⟨g_31, hf_30, hg_32⟩ := (show tp_aa cy L K (24) w (f x_7) from hI0.at hx_7)
    have hn_33 : vp_in x_2 (24) := tl_in (by omega) (by omega)
    obtain ⟨b_34, eb_34, hb_34⟩ := hg_32 _ (tp_pin hn_33)
    refine tp_aldA (cy := cy) hx hb hK hP hx_7.1 ((tp_un hfr hx_7 (by decide)).trans hf_30) hn_33 dX4_add_49 ?_
    refine W.eq (g2 := F0 m 50 ls ([.ref b_34])) (by rw [eb_34]; rfl) ?_
    refine lv_ldc (v := (-1000000)) hx hb hown (hta _ wk_212) dX4_add_50 ?_
    refine tq_cv hS (hAf _ hS.1) (tq_rS (As := [.ref b_34, .int (-1000000)]) (rest := []) ⟨hx, hb, hml, hown, hta⟩ (tp_P.pre hK hN hL hU hI hP) lk_X4_31 (t_fill_RAWR l D cy H.size L K Γ f_27 w b_34 (-1000000) hb_34) rfl rfl ⟨Nat.le_of_ble_eq_true rfl, Nat.le_of_ble_eq_true rfl⟩ rfl hl.1 rfl (Nat.le_of_ble_eq_true rfl) dX4_add_52 ⟨Nat.le_of_ble_eq_true rfl, Nat.le_of_ble_eq_true rfl⟩) (fun f_37 H locs hw_35 hP hI hc_38 hS => ?_)
    have hD : va_D A (va_pl L f_37) := tp_D hL hAL
    have hfr := tp_fr2 hfr hc_38 (by decide)
    have hf_39 := (tp_un hc_38 ho (by decide)).trans hf_28
    refine lv_aload_n hx hb dX4_add_55 rfl (lv_at hl 0 rfl) ?_
    refine lv_dup hx hb dX4_add_56 rfl ?_
    refine tp_get (cy := cy) (ci := 4) (v := .int x_2) (C := RX4) (T := TX4) (N := 6) hx hb hta inlX4 hown hK hP ho.1 hf_39 rfl 0 (by decide) (hta _ wk_211) (fun _ h9 => h9) rfl dX4_add_57 ?_
    refine lv_iconst (v := 1) hx hb dX4_add_60 (by decide) ?_
    refine lv_iadd hx hb dX4_add_61 ?_
    refine lv_topi (fun z_40 ez_40 => ?_)
    try have iz_40 : z_40.toInt = x_2.toInt + (1 : Int) := by rw [ez_40]; exact tl_addN x_2 1 rfl rfl (by omega) (by omega)
    obtain ⟨Γ_41, eΓ_41⟩ : ∃ y : tk_G, y = tg Γ (3, 0, w) 0 (z_40.toInt) := ⟨_, rfl⟩
    have hI9 : tp_I cy L K Γ_41 (va_up f_37 o (.inr (4, [.int z_40, .int x_3, .ref x_4, .ref x_5, .ref x_6, .ref x_7]))) := by rw [eΓ_41]; exact hI.setg hU rfl ho (show tp_o_ROWS L K (0) w (tgu (Γ (3, 0, w)) 0 (z_40.toInt)) _ from ⟨z_40, x_3, x_4, x_5, x_6, x_7, rfl, (show 0 ≤ z_40.toInt ∧ z_40.toInt ≤ 24 ∧ z_40.toInt = (tgu (Γ (3, 0, w)) 0 (z_40.toInt)) 0 from by rw [tgu_s]; omega), hx_4, hx_5, hx_6, hx_7⟩)
    have sΓ_41 : Γ_41 (3, 0, w) 0 = z_40.toInt := by rw [eΓ_41]; exact tg_s
    have hfr9 : ∀ b, (K b).1 ∉ ([3, 4, 6] : List Nat) → va_up f_37 o (.inr (4, [.int z_40, .int x_3, .ref x_4, .ref x_5, .ref x_6, .ref x_7])) b = f b := tp_fr hfr ho (by decide)
    refine tp_put (cy := cy) (ci := 4) (v := .int z_40) (ty := tyX4 0) (C := RX4) (T := TX4) (N := 6) hx hb hta inlX4 tyX4 tyX4_ok nmX4 hown hK hP hD hS ho.1 hf_39 rfl 0 (by decide) (hta _ wk_211) (fun _ h9 => h9) rfl (tyX4_ok 0 (by decide)) rfl rfl (Nat.le_of_ble_eq_true rfl) dX4_add_62 (fun H locs hP hD hS => ?_)
    have hP : va_P D vwCl (va_pl L (va_up f_37 o (.inr (4, [.int z_40, .int x_3, .ref x_4, .ref x_5, .ref x_6, .ref x_7])))) H := hP
    generalize hfe : va_up f_37 o (.inr (4, [.int z_40, .int x_3, .ref x_4, .ref x_5, .ref x_6, .ref x_7])) = f_42 at hP hI9 hfr9
    have hD : va_D A (va_pl L f_42) := tp_D hL hAL
    have hf_43 : f_42 o = .inr (4, [.int z_40, .int x_3, .ref x_4, .ref x_5, .ref x_6, .ref x_7]) := by rw [← hfe]; exact va_up_self _ _ _
    clear hfe
    have hI := hI9
    have hfr := hfr9
    clear hI9 hfr9
    refine lv_aload_n hx hb dX4_add_65 rfl (lv_at hl 0 rfl) ?_
    refine tp_get (cy := cy) (ci := 4) (v := .int z_40) (C := RX4) (T := TX4) (N := 6) hx hb hta inlX4 hown hK hP ho.1 hf_43 rfl 0 (by decide) (hta _ wk_211) (fun _ h9 => h9) rfl dX4_add_66 ?_
    refine lv_iconst (v := 1) hx hb dX4_add_69 (by decide) ?_
    refine lv_isub hx hb dX4_add_70 ?_
    refine lv_topi (fun z_44 ez_44 => ?_)
    try have iz_44 : z_44.toInt = z_40.toInt - (1 : Int) := by rw [ez_44]; exact tl_subN z_40 1 rfl rfl (by omega) (by omega)
    have hG9 : Γ_41 = tg Γ (3, 0, w) 0 (tm_up 24 (Γ (3, 0, w) 0)) := (by rw [eΓ_41, tm_up_lt (by omega)]; congr 1; omega)
    exact W.iret (v := z_44) hx hb hr (fun t ht hW => ⟨⟨_, f_42, rfl, (by rw [tm_at_lt (by omega)]; omega), by rw [ht]; exact hP, (by rw [← hG9]; exact hI), hfr⟩, hS.F ht⟩) hS.2.2 dX4_add_71
  · have c_8 : (24 : Int) ≤ x_2.toInt := tl_nlt c_8
    refine lv_iconst (v := (-1)) hx hb dX4_add_9 (by decide) ?_
    have hG9 : Γ = tg Γ (3, 0, w) 0 (tm_up 24 (Γ (3, 0, w) 0)) := (by rw [tm_up_ge (by omega)]; exact (tg_id rfl).symm)
    exact W.iret (v := (-1)) hx hb hr (fun t ht hW => ⟨⟨_, f, rfl, (by rw [tm_at_ge (by omega)]; rfl), by rw [ht]; exact hP, (by rw [← hG9]; exact hI), hfr⟩, hS.F ht⟩) hS.2.2 dX4_add_10
set_option maxHeartbeats 4000000 in
set_option maxRecDepth 100000 in
theorem t_X4_copyFrom (l : Launch) (D : va_G) (cy : Nat → ClassId) (sz : Nat) (L : List Nat) (K : Nat → tk_K) (Γ : tk_G) (f : Nat → va_E) (w : Nat) (o : Nat) (w2 : Nat) (q : Nat) (ho : tp_r L K 3 (0) w o) (hq : tp_r L K 3 (0) w2 q) : Met l yX4_copyFrom (tl_w yX4_copyFrom cX4_copyFrom 3 none) ({ frames := 1, cells := 0, slots := 0, locals := 40 }) (va_Pc [.ref o, .ref q] (tp_P D cy L K Γ f sz)) (va_Qv (fun (u : Nat → va_E) => True) (tp_B D cy L K (tm_c3 Γ w w2) f [3, 4, 6]) (tp_A L sz)) 0 0 (tp_A L sz) := by
  refine Met.ofW (cc := cX4_copyFrom) (maxL := 3) (ret := none) (by decide) rfl ?_
  intro p e s m args below meth c s₁ B hml hv
  obtain ⟨rfl, hsz, hP, hK, hL, hI, hN, hU⟩ := hv
  have hx := B.exec
  have hb := B.bytes
  have hr := B.returns
  have hta := tl_hta (atoms_spec (ws := tl_w yX4_copyFrom cX4_copyFrom 3 none) B.pre)
  have hown : s.vm.findClass RX4 = some m.cls := findClass_of_methodNamed B.named
  have hlocks := B.notSynchronized
  subst hsz
  have hI0 := hI
  generalize hAe : tp_A L s.heap.size = A
  have hA : ∀ q : Nat, s.heap.size ≤ q → A q := fun q h => by rw [← hAe]; exact Or.inr h
  have hAL : ∀ q ∈ L, A q := fun q h => by rw [← hAe]; exact Or.inl h
  have hAf : ∀ (H : Heap), s.heap.size ≤ H.size → ∀ q, tp_A L H.size q → A q := fun H h q hq => hq.elim (hAL q) (fun h2 => hA q (Nat.le_trans h h2))
  have hS : va_S A s.heap s.heap [] := va_S.rf
  have hD : va_D A (va_pl L f) := tp_D hL hAL
  have hfr : ∀ b, (K b).1 ∉ ([3, 4, 6] : List Nat) → f b = f b := fun _ _ => rfl
  have hl := lv_entry ([.ref o, .ref q]) (n := 3) (Nat.le_of_ble_eq_true rfl)
  rw [lg_entry_eq]
  generalize (lg_sl ([.ref o, .ref q]) ++ List.replicate (3 - (lg_sl ([.ref o, .ref q])).length) Slot.unset).toArray = ls at hl ⊢
  have hl : lv_has ls 3 [(0, .ref o), (1, .ref q)] := hl
  refine lv_aload_n hx hb dX4_copyFrom_0 rfl (lv_at hl 0 rfl) ?_
  refine lv_aload_n hx hb dX4_copyFrom_1 rfl (lv_at hl 1 rfl) ?_
  obtain ⟨x_2, x_3, x_4, x_5, x_6, x_7, hf_1, hx_2, hx_4, hx_5, hx_6, hx_7⟩ := (show tp_o_ROWS L K (0) w2 (Γ (3, 0, w2)) (f q) from hI.at hq)
  refine tp_get (cy := cy) (ci := 4) (v := .int x_2) (C := RX4) (T := TX4) (N := 6) hx hb hta inlX4 hown hK hP hq.1 hf_1 rfl 0 (by decide) (hta _ wk_211) (fun _ h9 => h9) rfl dX4_copyFrom_2 ?_
  obtain ⟨x_9, x_10, x_11, x_12, x_13, x_14, hf_8, hx_9, hx_11, hx_12, hx_13, hx_14⟩ := (show tp_o_ROWS L K (0) w (Γ (3, 0, w)) (f o) from hI.at ho)
  obtain ⟨Γ_15, eΓ_15⟩ : ∃ y : tk_G, y = tg Γ (3, 0, w) 0 (Γ (3, 0, w2) 0) := ⟨_, rfl⟩
  have hI9 : tp_I cy L K Γ_15 (va_up f o (.inr (4, [.int x_2, .int x_10, .ref x_11, .ref x_12, .ref x_13, .ref x_14]))) := by rw [eΓ_15]; exact hI.setg hU rfl ho (show tp_o_ROWS L K (0) w (tgu (Γ (3, 0, w)) 0 (Γ (3, 0, w2) 0)) _ from ⟨x_2, x_10, x_11, x_12, x_13, x_14, rfl, (show 0 ≤ x_2.toInt ∧ x_2.toInt ≤ 24 ∧ x_2.toInt = (tgu (Γ (3, 0, w)) 0 (Γ (3, 0, w2) 0)) 0 from by rw [tgu_s]; omega), hx_11, hx_12, hx_13, hx_14⟩)
  have sΓ_15 : Γ_15 (3, 0, w) 0 = Γ (3, 0, w2) 0 := by rw [eΓ_15]; exact tg_s
  have hfr9 : ∀ b, (K b).1 ∉ ([3, 4, 6] : List Nat) → va_up f o (.inr (4, [.int x_2, .int x_10, .ref x_11, .ref x_12, .ref x_13, .ref x_14])) b = f b := tp_fr hfr ho (by decide)
  refine tp_put (cy := cy) (ci := 4) (v := .int x_2) (ty := tyX4 0) (C := RX4) (T := TX4) (N := 6) hx hb hta inlX4 tyX4 tyX4_ok nmX4 hown hK hP hD hS ho.1 hf_8 rfl 0 (by decide) (hta _ wk_211) (fun _ h9 => h9) rfl (tyX4_ok 0 (by decide)) rfl rfl (Nat.le_of_ble_eq_true rfl) dX4_copyFrom_5 (fun H locs hP hD hS => ?_)
  have hP : va_P D vwCl (va_pl L (va_up f o (.inr (4, [.int x_2, .int x_10, .ref x_11, .ref x_12, .ref x_13, .ref x_14])))) H := hP
  generalize hfe : va_up f o (.inr (4, [.int x_2, .int x_10, .ref x_11, .ref x_12, .ref x_13, .ref x_14])) = f_16 at hP hI9 hfr9
  have hD : va_D A (va_pl L f_16) := tp_D hL hAL
  have hf_17 : f_16 o = .inr (4, [.int x_2, .int x_10, .ref x_11, .ref x_12, .ref x_13, .ref x_14]) := by rw [← hfe]; exact va_up_self _ _ _
  clear hfe
  have hI := hI9
  have hfr := hfr9
  clear hI9 hfr9
  refine lv_aload_n hx hb dX4_copyFrom_8 rfl (lv_at hl 0 rfl) ?_
  refine lv_aload_n hx hb dX4_copyFrom_9 rfl (lv_at hl 1 rfl) ?_
  obtain ⟨x_19, x_20, x_21, x_22, x_23, x_24, hf_18, hx_19, hx_21, hx_22, hx_23, hx_24⟩ := (show tp_o_ROWS L K (0) w2 (Γ_15 (3, 0, w2)) (f_16 q) from hI.at hq)
  refine tp_get (cy := cy) (ci := 4) (v := .int x_20) (C := RX4) (T := TX4) (N := 6) hx hb hta inlX4 hown hK hP hq.1 hf_18 rfl 1 (by decide) (hta _ wk_240) (fun _ h9 => h9) rfl dX4_copyFrom_10 ?_
  have hI9 : tp_I cy L K Γ_15 (va_up f_16 o (.inr (4, [.int x_2, .int x_20, .ref x_11, .ref x_12, .ref x_13, .ref x_14]))) := hI.set ho (show tp_o_ROWS L K (0) w (Γ_15 (3, 0, w)) _ from ⟨x_2, x_20, x_11, x_12, x_13, x_14, rfl, (show 0 ≤ x_2.toInt ∧ x_2.toInt ≤ 24 ∧ x_2.toInt = (Γ_15 (3, 0, w)) 0 from by omega), hx_11, hx_12, hx_13, hx_14⟩)
  have hfr9 : ∀ b, (K b).1 ∉ ([3, 4, 6] : List Nat) → va_up f_16 o (.inr (4, [.int x_2, .int x_20, .ref x_11, .ref x_12, .ref x_13, .ref x_14])) b = f b := tp_fr hfr ho (by decide)
  refine tp_put (cy := cy) (ci := 4) (v := .int x_20) (ty := tyX4 1) (C := RX4) (T := TX4) (N := 6) hx hb hta inlX4 tyX4 tyX4_ok nmX4 hown hK hP hD hS ho.1 hf_17 rfl 1 (by decide) (hta _ wk_240) (fun _ h9 => h9) rfl (tyX4_ok 1 (by decide)) rfl rfl (Nat.le_of_ble_eq_true rfl) dX4_copyFrom_13 (fun H locs hP hD hS => ?_)
  have hP : va_P D vwCl (va_pl L (va_up f_16 o (.inr (4, [.int x_2, .int x_20, .ref x_11, .ref x_12, .ref x_13, .ref x_14])))) H := hP
  generalize hfe : va_up f_16 o (.inr (4, [.int x_2, .int x_20, .ref x_11, .ref x_12, .ref x_13, .ref x_14])) = f_25 at hP hI9 hfr9
  have hD : va_D A (va_pl L f_25) := tp_D hL hAL
  have hf_26 : f_25 o = .inr (4, [.int x_2, .int x_20, .ref x_11, .ref x_12, .ref x_13, .ref x_14]) := by rw [← hfe]; exact va_up_self _ _ _
  clear hfe
  have hI := hI9
  have hfr := hfr9
  clear hI9 hfr9
  refine lv_aload_n hx hb dX4_copyFrom_16 rfl (lv_at hl 1 rfl) ?_
  obtain ⟨x_28, x_29, x_30, x_31, x_32, x_33, hf_27, hx_28, hx_30, hx_31, hx_32, hx_33⟩ := (show tp_o_ROWS L K (0) w2 (Γ_15 (3, 0, w2)) (f_25 q) from hI.at hq)
  refine tp_get (cy := cy) (ci := 4) (v := .ref x_30) (C := RX4) (T := TX4) (N := 6) hx hb hta inlX4 hown hK hP hq.1 hf_27 rfl 2 (by decide) (hta _ wk_73) (fun _ h9 => h9) rfl dX4_copyFrom_17 ?_
  refine lv_iconst (v := 0) hx hb dX4_copyFrom_20 (by decide) ?_
  refine lv_aload_n hx hb dX4_copyFrom_21 rfl (lv_at hl 0 rfl) ?_
  refine tp_get (cy := cy) (ci := 4) (v := .ref x_11) (C := RX4) (T := TX4) (N := 6) hx hb hta inlX4 hown hK hP ho.1 hf_26 rfl 2 (by decide) (hta _ wk_73) (fun _ h9 => h9) rfl dX4_copyFrom_22 ?_
  refine lv_iconst (v := 0) hx hb dX4_copyFrom_25 (by decide) ?_
  refine lv_bipush (v := 24) hx hb dX4_copyFrom_26 (by decide) ?_
  obtain ⟨g_35, hf_34, hg_36⟩ := (show tp_ai cy 4 (24) (f_25 x_30) from hI.at hx_30)
  obtain ⟨g_38, hf_37, hg_39⟩ := (show tp_ai cy 4 (24) (f_25 x_11) from hI.at hx_11)
  have hI9 : tp_I cy L K Γ_15 (va_up f_25 x_11 (.inl (cy 0, 24, .inl (va_cpy g_35 g_38 0 0 24)))) := hI.set hx_11 (show tp_ai cy 4 (24) _ from ⟨_, rfl, tp_pi_cpy hg_36 hg_39⟩)
  have hfr9 : ∀ b, (K b).1 ∉ ([3, 4, 6] : List Nat) → va_up f_25 x_11 (.inl (cy 0, 24, .inl (va_cpy g_35 g_38 0 0 24))) b = f b := tp_fr hfr hx_11 (by decide)
  refine tp_copyi (cy := cy) hx hb (by rw [hml]; exact hl.1.symm) hown (hta _ wk_1510) (hta _ wk_1504) (hta _ wk_1505) (hta _ wk_1506) hK hP hD hS hx_30.1 hx_11.1 hf_34 hf_37 (k := 24) (by decide) (Nat.le_of_ble_eq_true rfl) (Nat.le_of_ble_eq_true rfl) dX4_copyFrom_28 (fun H locs hP hD hS => ?_)
  have hP : va_P D vwCl (va_pl L (va_up f_25 x_11 (.inl (cy 0, 24, .inl (va_cpy g_35 g_38 0 0 24))))) H := hP
  generalize hfe : va_up f_25 x_11 (.inl (cy 0, 24, .inl (va_cpy g_35 g_38 0 0 24))) = f_40 at hP hI9 hfr9
  have hD : va_D A (va_pl L f_40) := tp_D hL hAL
  have hf_41 := (show f_40 o = _ from by rw [← hfe, va_up_ne _ _ (tp_ne ho hx_11 (by decide))]).trans hf_26
  have hf_42 := (show f_40 q = _ from by rw [← hfe, va_up_ne _ _ (tp_ne hq hx_11 (by decide))]).trans hf_27
  have hf_43 : f_40 x_11 = .inl (cy 0, 24, .inl (va_cpy g_35 g_38 0 0 24)) := by rw [← hfe]; exact va_up_self _ _ _
  clear hfe
  have hI := hI9
  have hfr := hfr9
  clear hI9 hfr9
  refine lv_aload_n hx hb dX4_copyFrom_31 rfl (lv_at hl 1 rfl) ?_
  refine tp_get (cy := cy) (ci := 4) (v := .ref x_31) (C := RX4) (T := TX4) (N := 6) hx hb hta inlX4 hown hK hP hq.1 hf_42 rfl 3 (by decide) (hta _ wk_74) (fun _ h9 => h9) rfl dX4_copyFrom_32 ?_
  refine lv_iconst (v := 0) hx hb dX4_copyFrom_35 (by decide) ?_
  refine lv_aload_n hx hb dX4_copyFrom_36 rfl (lv_at hl 0 rfl) ?_
  refine tp_get (cy := cy) (ci := 4) (v := .ref x_12) (C := RX4) (T := TX4) (N := 6) hx hb hta inlX4 hown hK hP ho.1 hf_41 rfl 3 (by decide) (hta _ wk_74) (fun _ h9 => h9) rfl dX4_copyFrom_37 ?_
  refine lv_iconst (v := 0) hx hb dX4_copyFrom_40 (by decide) ?_
  refine lv_bipush (v := 24) hx hb dX4_copyFrom_41 (by decide) ?_
  obtain ⟨g_45, hf_44, hg_46⟩ := (show tp_ai cy 4 (24) (f_40 x_31) from hI.at hx_31)
  obtain ⟨g_48, hf_47, hg_49⟩ := (show tp_ai cy 4 (24) (f_40 x_12) from hI.at hx_12)
  have hI9 : tp_I cy L K Γ_15 (va_up f_40 x_12 (.inl (cy 0, 24, .inl (va_cpy g_45 g_48 0 0 24)))) := hI.set hx_12 (show tp_ai cy 4 (24) _ from ⟨_, rfl, tp_pi_cpy hg_46 hg_49⟩)
  have hfr9 : ∀ b, (K b).1 ∉ ([3, 4, 6] : List Nat) → va_up f_40 x_12 (.inl (cy 0, 24, .inl (va_cpy g_45 g_48 0 0 24))) b = f b := tp_fr hfr hx_12 (by decide)
  refine tp_copyi (cy := cy) hx hb (by rw [hml]; exact hl.1.symm) hown (hta _ wk_1510) (hta _ wk_1504) (hta _ wk_1505) (hta _ wk_1506) hK hP hD hS hx_31.1 hx_12.1 hf_44 hf_47 (k := 24) (by decide) (Nat.le_of_ble_eq_true rfl) (Nat.le_of_ble_eq_true rfl) dX4_copyFrom_43 (fun H locs hP hD hS => ?_)
  have hP : va_P D vwCl (va_pl L (va_up f_40 x_12 (.inl (cy 0, 24, .inl (va_cpy g_45 g_48 0 0 24))))) H := hP
  generalize hfe : va_up f_40 x_12 (.inl (cy 0, 24, .inl (va_cpy g_45 g_48 0 0 24))) = f_50 at hP hI9 hfr9
  have hD : va_D A (va_pl L f_50) := tp_D hL hAL
  have hf_51 := (show f_50 o = _ from by rw [← hfe, va_up_ne _ _ (tp_ne ho hx_12 (by decide))]).trans hf_41
  have hf_52 := (show f_50 q = _ from by rw [← hfe, va_up_ne _ _ (tp_ne hq hx_12 (by decide))]).trans hf_42
  have hf_53 : f_50 x_12 = .inl (cy 0, 24, .inl (va_cpy g_45 g_48 0 0 24)) := by rw [← hfe]; exact va_up_self _ _ _
  clear hfe
  have hI := hI9
  have hfr := hfr9
  clear hI9 hfr9
  refine lv_aload_n hx hb dX4_copyFrom_46 rfl (lv_at hl 1 rfl) ?_
  refine tp_get (cy := cy) (ci := 4) (v := .ref x_32) (C := RX4) (T := TX4) (N := 6) hx hb hta inlX4 hown hK hP hq.1 hf_52 rfl 4 (by decide) (hta _ wk_75) (fun _ h9 => h9) rfl dX4_copyFrom_47 ?_
  refine lv_iconst (v := 0) hx hb dX4_copyFrom_50 (by decide) ?_
  refine lv_aload_n hx hb dX4_copyFrom_51 rfl (lv_at hl 0 rfl) ?_
  refine tp_get (cy := cy) (ci := 4) (v := .ref x_13) (C := RX4) (T := TX4) (N := 6) hx hb hta inlX4 hown hK hP ho.1 hf_51 rfl 4 (by decide) (hta _ wk_75) (fun _ h9 => h9) rfl dX4_copyFrom_52 ?_
  refine lv_iconst (v := 0) hx hb dX4_copyFrom_55 (by decide) ?_
  refine lv_bipush (v := 24) hx hb dX4_copyFrom_56 (by decide) ?_
  obtain ⟨g_55, hf_54, hg_56⟩ := (show tp_ai cy 4 (24) (f_50 x_32) from hI.at hx_32)
  obtain ⟨g_58, hf_57, hg_59⟩ := (show tp_ai cy 4 (24) (f_50 x_13) from hI.at hx_13)
  have hI9 : tp_I cy L K Γ_15 (va_up f_50 x_13 (.inl (cy 0, 24, .inl (va_cpy g_55 g_58 0 0 24)))) := hI.set hx_13 (show tp_ai cy 4 (24) _ from ⟨_, rfl, tp_pi_cpy hg_56 hg_59⟩)
  have hfr9 : ∀ b, (K b).1 ∉ ([3, 4, 6] : List Nat) → va_up f_50 x_13 (.inl (cy 0, 24, .inl (va_cpy g_55 g_58 0 0 24))) b = f b := tp_fr hfr hx_13 (by decide)
  refine tp_copyi (cy := cy) hx hb (by rw [hml]; exact hl.1.symm) hown (hta _ wk_1510) (hta _ wk_1504) (hta _ wk_1505) (hta _ wk_1506) hK hP hD hS hx_32.1 hx_13.1 hf_54 hf_57 (k := 24) (by decide) (Nat.le_of_ble_eq_true rfl) (Nat.le_of_ble_eq_true rfl) dX4_copyFrom_58 (fun H locs hP hD hS => ?_)
  have hP : va_P D vwCl (va_pl L (va_up f_50 x_13 (.inl (cy 0, 24, .inl (va_cpy g_55 g_58 0 0 24))))) H := hP
  generalize hfe : va_up f_50 x_13 (.inl (cy 0, 24, .inl (va_cpy g_55 g_58 0 0 24))) = f_60 at hP hI9 hfr9
  have hD : va_D A (va_pl L f_60) := tp_D hL hAL
  have hf_61 := (show f_60 o = _ from by rw [← hfe, va_up_ne _ _ (tp_ne ho hx_13 (by decide))]).trans hf_51
  have hf_62 := (show f_60 q = _ from by rw [← hfe, va_up_ne _ _ (tp_ne hq hx_13 (by decide))]).trans hf_52
  have hf_63 : f_60 x_13 = .inl (cy 0, 24, .inl (va_cpy g_55 g_58 0 0 24)) := by rw [← hfe]; exact va_up_self _ _ _
  clear hfe
  have hI := hI9
  have hfr := hfr9
  clear hI9 hfr9
  refine lv_iconst (v := 0) hx hb dX4_copyFrom_61 (by decide) ?_
  refine lv_istore_n (lv' := [(2, .int 0), (0, .ref o), (1, .ref q)]) hx hb dX4_copyFrom_62 rfl hl (by decide) rfl (fun ls hl => ?_)
  refine tl_ind (G := fun H locs ls => W p l e ((headSpec (tl_w yX4_copyFrom cX4_copyFrom 3 none) ({ frames := 1, cells := 0, slots := 0, locals := 40 })).room) s m #[.ref o, .ref q] below meth c H locs 0 0 (MQ below (va_Qv (fun (u : Nat → va_E) => True) (tp_B D cy L K (tm_c3 Γ w w2) f [3, 4, 6]) A) #[.ref o, .ref q] s 0 0 A) (F0 m 63 ls [])) (α := (Nat → va_E) × Int32) (fun aq => (24 - aq.2.toInt).toNat) (fun aq H locs ls => (0 ≤ aq.2.toInt) ∧ (aq.2.toInt ≤ 24) ∧ va_P D vwCl (va_pl L aq.1) H ∧ tp_I cy L K Γ_15 aq.1 ∧ (∀ b, (K b).1 ∉ ([3, 4, 6] : List Nat) → aq.1 b = f b) ∧ va_S A s.heap H locs ∧ lv_has ls 3 [(2, .int aq.2), (0, .ref o), (1, .ref q)]) ?_ (f_60, (0 : Int32)) H locs ls ⟨(show 0 ≤ (0 : Int) from (by omega)), (show (0 : Int) ≤ 24 from (by omega)), hP, hI, hfr, hS, lv_sub hl [0, 1, 2] rfl⟩
  rintro ⟨f_64, v2⟩ H locs ls ⟨h0, h1, hP, hI, hfr, hS, hl⟩ ih63
  have hP : va_P D vwCl (va_pl L f_64) H := hP
  have hI : tp_I cy L K Γ_15 f_64 := hI
  have hfr : ∀ b, (K b).1 ∉ ([3, 4, 6] : List Nat) → f_64 b = f b := hfr
  have hD : va_D A (va_pl L f_64) := tp_D hL hAL
  have h0 : 0 ≤ v2.toInt := h0
  have h1 : v2.toInt ≤ 24 := h1
  have hl : lv_has ls 3 [(2, .int v2), (0, .ref o), (1, .ref q)] := hl
  refine lv_iload_n hx hb dX4_copyFrom_63 rfl (lv_at hl 0 rfl) ?_
  refine lv_aload_n hx hb dX4_copyFrom_64 rfl (lv_at hl 1 rfl) ?_
  obtain ⟨x_66, x_67, x_68, x_69, x_70, x_71, hf_65, hx_66, hx_68, hx_69, hx_70, hx_71⟩ := (show tp_o_ROWS L K (0) w (Γ_15 (3, 0, w)) (f_64 o) from hI.at ho)
  refine tp_get (cy := cy) (ci := 4) (v := .int x_66) (C := RX4) (T := TX4) (N := 6) hx hb hta inlX4 hown hK hP ho.1 hf_65 rfl 0 (by decide) (hta _ wk_211) (fun _ h9 => h9) rfl dX4_copyFrom_65 ?_
  refine lv_icmp_ge (tgt := 97) hx hb dX4_copyFrom_68 (by decide) (fun c_72 => ?_) (fun c_72 => ?_)
  · have c_72 : x_66.toInt ≤ v2.toInt := tl_le c_72
    have hG9 : Γ_15 = tm_c3 Γ w w2 := (by rw [eΓ_15]; rfl)
    exact W.vret hx hb hr (fun t ht hW => ⟨⟨f_64, rfl, trivial, by rw [ht]; exact hP, (by rw [← hG9]; exact hI), hfr⟩, hS.F ht⟩) hS.2.2 dX4_copyFrom_97
  · have c_72 : v2.toInt < x_66.toInt := tl_nle c_72
    refine lv_aload_n hx hb dX4_copyFrom_71 rfl (lv_at hl 2 rfl) ?_
    obtain ⟨x_74, x_75, x_76, x_77, x_78, x_79, hf_73, hx_74, hx_76, hx_77, hx_78, hx_79⟩ := (show tp_o_ROWS L K (0) w2 (Γ_15 (3, 0, w2)) (f_64 q) from hI.at hq)
    refine tp_get (cy := cy) (ci := 4) (v := .ref x_79) (C := RX4) (T := TX4) (N := 6) hx hb hta inlX4 hown hK hP hq.1 hf_73 rfl 5 (by decide) (hta _ wk_77) (fun _ h9 => h9) rfl dX4_copyFrom_72 ?_
    refine lv_iload_n hx hb dX4_copyFrom_75 rfl (lv_at hl 0 rfl) ?_
    obtain ⟨g_81, hf_80, hg_82⟩ := (show tp_aa cy L K (24) w2 (f_64 x_79) from hI.at hx_79)
    have hn_83 : vp_in v2 (24) := tl_in (by omega) (by omega)
    obtain ⟨b_84, eb_84, hb_84⟩ := hg_82 _ (tp_pin hn_83)
    refine tp_aldA (cy := cy) hx hb hK hP hx_79.1 hf_80 hn_83 dX4_copyFrom_76 ?_
    refine W.eq (g2 := F0 m 77 ls ([.ref b_84])) (by rw [eb_84]; rfl) ?_
    refine lv_iconst (v := 0) hx hb dX4_copyFrom_77 (by decide) ?_
    refine lv_aload_n hx hb dX4_copyFrom_78 rfl (lv_at hl 1 rfl) ?_
    refine tp_get (cy := cy) (ci := 4) (v := .ref x_71) (C := RX4) (T := TX4) (N := 6) hx hb hta inlX4 hown hK hP ho.1 hf_65 rfl 5 (by decide) (hta _ wk_77) (fun _ h9 => h9) rfl dX4_copyFrom_79 ?_
    refine lv_iload_n hx hb dX4_copyFrom_82 rfl (lv_at hl 0 rfl) ?_
    obtain ⟨g_86, hf_85, hg_87⟩ := (show tp_aa cy L K (24) w (f_64 x_71) from hI.at hx_71)
    have hn_88 : vp_in v2 (24) := tl_in (by omega) (by omega)
    obtain ⟨b_89, eb_89, hb_89⟩ := hg_87 _ (tp_pin hn_88)
    refine tp_aldA (cy := cy) hx hb hK hP hx_71.1 hf_85 hn_88 dX4_copyFrom_83 ?_
    refine W.eq (g2 := F0 m 84 ls ([.ref b_89, .int 0, .ref b_84])) (by rw [eb_89]; rfl) ?_
    refine lv_iconst (v := 0) hx hb dX4_copyFrom_84 (by decide) ?_
    refine lv_sipush (v := 300) hx hb dX4_copyFrom_85 (by decide) ?_
    obtain ⟨g_91, hf_90, hg_92⟩ := (show tp_ai cy 6 (300) (f_64 b_84) from hI.at hb_84)
    obtain ⟨g_94, hf_93, hg_95⟩ := (show tp_ai cy 6 (300) (f_64 b_89) from hI.at hb_89)
    have hI9 : tp_I cy L K Γ_15 (va_up f_64 b_89 (.inl (cy 0, 300, .inl (va_cpy g_91 g_94 0 0 300)))) := hI.set hb_89 (show tp_ai cy 6 (300) _ from ⟨_, rfl, tp_pi_cpy hg_92 hg_95⟩)
    have hfr9 : ∀ b, (K b).1 ∉ ([3, 4, 6] : List Nat) → va_up f_64 b_89 (.inl (cy 0, 300, .inl (va_cpy g_91 g_94 0 0 300))) b = f b := tp_fr hfr hb_89 (by decide)
    refine tp_copyi (cy := cy) hx hb (by rw [hml]; exact hl.1.symm) hown (hta _ wk_1510) (hta _ wk_1504) (hta _ wk_1505) (hta _ wk_1506) hK hP hD hS hb_84.1 hb_89.1 hf_90 hf_93 (k := 300) (by decide) (Nat.le_of_ble_eq_true rfl) (Nat.le_of_ble_eq_true rfl) dX4_copyFrom_88 (fun H locs hP hD hS => ?_)
    have hP : va_P D vwCl (va_pl L (va_up f_64 b_89 (.inl (cy 0, 300, .inl (va_cpy g_91 g_94 0 0 300))))) H := hP
    generalize hfe : va_up f_64 b_89 (.inl (cy 0, 300, .inl (va_cpy g_91 g_94 0 0 300))) = f_96 at hP hI9 hfr9
    have hD : va_D A (va_pl L f_96) := tp_D hL hAL
    have hf_97 := (show f_96 o = _ from by rw [← hfe, va_up_ne _ _ (tp_ne ho hb_89 (by decide))]).trans hf_65
    have hf_98 := (show f_96 q = _ from by rw [← hfe, va_up_ne _ _ (tp_ne hq hb_89 (by decide))]).trans hf_73
    have hf_99 := (show f_96 x_79 = _ from by rw [← hfe, va_up_ne _ _ (tp_ne hx_79 hb_89 (by decide))]).trans hf_80
    have hf_100 := (show f_96 x_71 = _ from by rw [← hfe, va_up_ne _ _ (tp_ne hx_71 hb_89 (by decide))]).trans hf_85
    have hf_101 : f_96 b_89 = .inl (cy 0, 300, .inl (va_cpy g_91 g_94 0 0 300)) := by rw [← hfe]; exact va_up_self _ _ _
    clear hfe
    have hI := hI9
    have hfr := hfr9
    clear hI9 hfr9
    obtain ⟨z_102, ez_102⟩ : ∃ y : Int32, y = v2 + 1 := ⟨_, rfl⟩
    refine lv_iinc (v := z_102) (lv' := [(2, .int z_102), (0, .ref o), (1, .ref q)]) hx hb dX4_copyFrom_91 hl (k := 0) rfl (by rw [ez_102]; rfl) (by decide) rfl (fun ls hl => ?_)
    try have iz_102 : z_102.toInt = v2.toInt + 1 := by rw [ez_102]; exact tl_addL v2 1 (by decide) (by omega) (by omega)
    refine lv_goto (tgt := 63) hx hb dX4_copyFrom_94 (by decide) ?_
    exact ih63 (f_96, z_102) H locs ls (by show (24 - z_102.toInt).toNat < (24 - v2.toInt).toNat; omega) ⟨(show 0 ≤ z_102.toInt from (by omega)), (show z_102.toInt ≤ 24 from (by omega)), hP, hI, hfr, hS, lv_sub hl [0, 1, 2] rfl⟩
set_option maxHeartbeats 4000000 in
set_option maxRecDepth 100000 in
theorem t_X0_copyFrom (l : Launch) (D : va_G) (cy : Nat → ClassId) (sz : Nat) (L : List Nat) (K : Nat → tk_K) (Γ : tk_G) (f : Nat → va_E) (w : Nat) (o : Nat) (w2 : Nat) (q : Nat) (ho : tp_r L K 1 (0) w o) (hq : tp_r L K 1 (0) w2 q) : Met l yX0_copyFrom (tl_w yX0_copyFrom cX0_copyFrom 2 none) ({ frames := 2, cells := 0, slots := 0, locals := 62 }) (va_Pc [.ref o, .ref q] (tp_P D cy L K Γ f sz)) (va_Qv (fun (u : Nat → va_E) => True) (tp_B D cy L K (tm_copy Γ w w2) f [1, 2, 3, 4, 6, 7, 8, 9, 10, 11]) (tp_A L sz)) 0 0 (tp_A L sz) := by
  refine Met.ofW (cc := cX0_copyFrom) (maxL := 2) (ret := none) (by decide) rfl ?_
  intro p e s m args below meth c s₁ B hml hv
  obtain ⟨rfl, hsz, hP, hK, hL, hI, hN, hU⟩ := hv
  have hx := B.exec
  have hb := B.bytes
  have hr := B.returns
  have hta := tl_hta (atoms_spec (ws := tl_w yX0_copyFrom cX0_copyFrom 2 none) B.pre)
  have hown : s.vm.findClass RX0 = some m.cls := findClass_of_methodNamed B.named
  have hlocks := B.notSynchronized
  subst hsz
  have hI0 := hI
  generalize hAe : tp_A L s.heap.size = A
  have hA : ∀ q : Nat, s.heap.size ≤ q → A q := fun q h => by rw [← hAe]; exact Or.inr h
  have hAL : ∀ q ∈ L, A q := fun q h => by rw [← hAe]; exact Or.inl h
  have hAf : ∀ (H : Heap), s.heap.size ≤ H.size → ∀ q, tp_A L H.size q → A q := fun H h q hq => hq.elim (hAL q) (fun h2 => hA q (Nat.le_trans h h2))
  have hS : va_S A s.heap s.heap [] := va_S.rf
  have hD : va_D A (va_pl L f) := tp_D hL hAL
  have hfr : ∀ b, (K b).1 ∉ ([1, 2, 3, 4, 6, 7, 8, 9, 10, 11] : List Nat) → f b = f b := fun _ _ => rfl
  have hl := lv_entry ([.ref o, .ref q]) (n := 2) (Nat.le_of_ble_eq_true rfl)
  rw [lg_entry_eq]
  generalize (lg_sl ([.ref o, .ref q]) ++ List.replicate (2 - (lg_sl ([.ref o, .ref q])).length) Slot.unset).toArray = ls at hl ⊢
  have hl : lv_has ls 2 [(0, .ref o), (1, .ref q)] := hl
  refine lv_aload_n hx hb dX0_copyFrom_0 rfl (lv_at hl 0 rfl) ?_
  refine lv_aload_n hx hb dX0_copyFrom_1 rfl (lv_at hl 1 rfl) ?_
  obtain ⟨x_2, x_3, x_4, x_5, x_6, x_7, x_8, x_9, x_10, hf_1, hx_2, hx_3, hx_4, hx_5, hx_6, hx_7, hx_8, hx_9, hx_10⟩ := (show tp_o_BOOK L K (0) w2 (Γ (1, 0, w2)) (f q) from hI.at hq)
  refine tp_get (cy := cy) (ci := 0) (v := .int x_2) (C := RX0) (T := TX0) (N := 9) hx hb hta inlX0 hown hK hP hq.1 hf_1 rfl 0 (by decide) (hta _ wk_1502) (fun _ h9 => h9) rfl dX0_copyFrom_2 ?_
  obtain ⟨x_12, x_13, x_14, x_15, x_16, x_17, x_18, x_19, x_20, hf_11, hx_12, hx_13, hx_14, hx_15, hx_16, hx_17, hx_18, hx_19, hx_20⟩ := (show tp_o_BOOK L K (0) w (Γ (1, 0, w)) (f o) from hI.at ho)
  obtain ⟨Γ_21, eΓ_21⟩ : ∃ y : tk_G, y = tg Γ (1, 0, w) 0 (Γ (1, 0, w2) 0) := ⟨_, rfl⟩
  have hI9 : tp_I cy L K Γ_21 (va_up f o (.inr (0, [.int x_2, .ref x_13, .ref x_14, .ref x_15, .ref x_16, .ref x_17, .ref x_18, .ref x_19, .int x_20]))) := by rw [eΓ_21]; exact hI.setg hU rfl ho (show tp_o_BOOK L K (0) w (tgu (Γ (1, 0, w)) 0 (Γ (1, 0, w2) 0)) _ from ⟨x_2, x_13, x_14, x_15, x_16, x_17, x_18, x_19, x_20, rfl, (show x_2.toInt = (tgu (Γ (1, 0, w)) 0 (Γ (1, 0, w2) 0)) 0 from by rw [tgu_s]; omega), hx_13, hx_14, hx_15, hx_16, hx_17, hx_18, hx_19, (show 0 ≤ x_20.toInt ∧ x_20.toInt ≤ 400 from by omega)⟩)
  have sΓ_21 : Γ_21 (1, 0, w) 0 = Γ (1, 0, w2) 0 := by rw [eΓ_21]; exact tg_s
  have hfr9 : ∀ b, (K b).1 ∉ ([1, 2, 3, 4, 6, 7, 8, 9, 10, 11] : List Nat) → va_up f o (.inr (0, [.int x_2, .ref x_13, .ref x_14, .ref x_15, .ref x_16, .ref x_17, .ref x_18, .ref x_19, .int x_20])) b = f b := tp_fr hfr ho (by decide)
  refine tp_put (cy := cy) (ci := 0) (v := .int x_2) (ty := tyX0 0) (C := RX0) (T := TX0) (N := 9) hx hb hta inlX0 tyX0 tyX0_ok nmX0 hown hK hP hD hS ho.1 hf_11 rfl 0 (by decide) (hta _ wk_1502) (fun _ h9 => h9) rfl (tyX0_ok 0 (by decide)) rfl rfl (Nat.le_of_ble_eq_true rfl) dX0_copyFrom_5 (fun H locs hP hD hS => ?_)
  have hP : va_P D vwCl (va_pl L (va_up f o (.inr (0, [.int x_2, .ref x_13, .ref x_14, .ref x_15, .ref x_16, .ref x_17, .ref x_18, .ref x_19, .int x_20])))) H := hP
  generalize hfe : va_up f o (.inr (0, [.int x_2, .ref x_13, .ref x_14, .ref x_15, .ref x_16, .ref x_17, .ref x_18, .ref x_19, .int x_20])) = f_22 at hP hI9 hfr9
  have hD : va_D A (va_pl L f_22) := tp_D hL hAL
  have hf_23 : f_22 o = .inr (0, [.int x_2, .ref x_13, .ref x_14, .ref x_15, .ref x_16, .ref x_17, .ref x_18, .ref x_19, .int x_20]) := by rw [← hfe]; exact va_up_self _ _ _
  clear hfe
  have hI := hI9
  have hfr := hfr9
  clear hI9 hfr9
  refine lv_aload_n hx hb dX0_copyFrom_8 rfl (lv_at hl 1 rfl) ?_
  obtain ⟨x_25, x_26, x_27, x_28, x_29, x_30, x_31, x_32, x_33, hf_24, hx_25, hx_26, hx_27, hx_28, hx_29, hx_30, hx_31, hx_32, hx_33⟩ := (show tp_o_BOOK L K (0) w2 (Γ_21 (1, 0, w2)) (f_22 q) from hI.at hq)
  refine tp_get (cy := cy) (ci := 0) (v := .ref x_26) (C := RX0) (T := TX0) (N := 9) hx hb hta inlX0 hown hK hP hq.1 hf_24 rfl 1 (by decide) (hta _ wk_57) (fun _ h9 => h9) rfl dX0_copyFrom_9 ?_
  refine lv_iconst (v := 0) hx hb dX0_copyFrom_12 (by decide) ?_
  refine lv_aload_n hx hb dX0_copyFrom_13 rfl (lv_at hl 0 rfl) ?_
  refine tp_get (cy := cy) (ci := 0) (v := .ref x_13) (C := RX0) (T := TX0) (N := 9) hx hb hta inlX0 hown hK hP ho.1 hf_23 rfl 1 (by decide) (hta _ wk_57) (fun _ h9 => h9) rfl dX0_copyFrom_14 ?_
  refine lv_iconst (v := 0) hx hb dX0_copyFrom_17 (by decide) ?_
  refine lv_aload_n hx hb dX0_copyFrom_18 rfl (lv_at hl 0 rfl) ?_
  refine tp_get (cy := cy) (ci := 0) (v := .ref x_13) (C := RX0) (T := TX0) (N := 9) hx hb hta inlX0 hown hK hP ho.1 hf_23 rfl 1 (by decide) (hta _ wk_57) (fun _ h9 => h9) rfl dX0_copyFrom_19 ?_
  obtain ⟨g_35, hf_34, hg_36⟩ := (show tp_gi cy (4) (Γ_21 (2, 4, w)) (f_22 x_13) from hI.at hx_13)
  refine tp_alen (cy := cy) (t0 := 0) (v := 4) hx hb hK hP hx_13.1 rfl hf_34 rfl dX0_copyFrom_22 ?_
  obtain ⟨g_38, hf_37, hg_39⟩ := (show tp_gi cy (4) (Γ_21 (2, 4, w2)) (f_22 x_26) from hI.at hx_26)
  obtain ⟨Γ_40, eΓ_40⟩ : ∃ y : tk_G, y = tgc Γ_21 (2, 4, w) (Γ_21 (2, 4, w2)) := ⟨_, rfl⟩
  have hI9 : tp_I cy L K Γ_40 (va_up f_22 x_13 (.inl (cy 0, 4, .inl (va_cpy g_38 g_35 0 0 4)))) := by rw [eΓ_40]; exact hI.setG hU rfl hx_13 (show tp_gi cy (4) (Γ_21 (2, 4, w2)) _ from ⟨_, rfl, tp_gi_cpy hg_39⟩)
  have hfr9 : ∀ b, (K b).1 ∉ ([1, 2, 3, 4, 6, 7, 8, 9, 10, 11] : List Nat) → va_up f_22 x_13 (.inl (cy 0, 4, .inl (va_cpy g_38 g_35 0 0 4))) b = f b := tp_fr hfr hx_13 (by decide)
  refine tp_copyi (cy := cy) hx hb (by rw [hml]; exact hl.1.symm) hown (hta _ wk_1503) (hta _ wk_1504) (hta _ wk_1505) (hta _ wk_1506) hK hP hD hS hx_26.1 hx_13.1 hf_37 hf_34 (k := 4) (by decide) (Nat.le_of_ble_eq_true rfl) (Nat.le_of_ble_eq_true rfl) dX0_copyFrom_23 (fun H locs hP hD hS => ?_)
  have hP : va_P D vwCl (va_pl L (va_up f_22 x_13 (.inl (cy 0, 4, .inl (va_cpy g_38 g_35 0 0 4))))) H := hP
  generalize hfe : va_up f_22 x_13 (.inl (cy 0, 4, .inl (va_cpy g_38 g_35 0 0 4))) = f_41 at hP hI9 hfr9
  have hD : va_D A (va_pl L f_41) := tp_D hL hAL
  have hf_42 : f_41 x_13 = .inl (cy 0, 4, .inl (va_cpy g_38 g_35 0 0 4)) := by rw [← hfe]; exact va_up_self _ _ _
  clear hfe
  have hI := hI9
  have hfr := hfr9
  clear hI9 hfr9
  refine lv_aload_n hx hb dX0_copyFrom_26 rfl (lv_at hl 0 rfl) ?_
  obtain ⟨x_44, x_45, x_46, x_47, x_48, x_49, x_50, x_51, x_52, hf_43, hx_44, hx_45, hx_46, hx_47, hx_48, hx_49, hx_50, hx_51, hx_52⟩ := (show tp_o_BOOK L K (0) w (Γ_40 (1, 0, w)) (f_41 o) from hI.at ho)
  refine tp_get (cy := cy) (ci := 0) (v := .ref x_46) (C := RX0) (T := TX0) (N := 9) hx hb hta inlX0 hown hK hP ho.1 hf_43 rfl 2 (by decide) (hta _ wk_61) (fun _ h9 => h9) rfl dX0_copyFrom_27 ?_
  refine lv_aload_n hx hb dX0_copyFrom_30 rfl (lv_at hl 1 rfl) ?_
  obtain ⟨x_54, x_55, x_56, x_57, x_58, x_59, x_60, x_61, x_62, hf_53, hx_54, hx_55, hx_56, hx_57, hx_58, hx_59, hx_60, hx_61, hx_62⟩ := (show tp_o_BOOK L K (0) w2 (Γ_40 (1, 0, w2)) (f_41 q) from hI.at hq)
  refine tp_get (cy := cy) (ci := 0) (v := .ref x_56) (C := RX0) (T := TX0) (N := 9) hx hb hta inlX0 hown hK hP hq.1 hf_53 rfl 2 (by decide) (hta _ wk_61) (fun _ h9 => h9) rfl dX0_copyFrom_31 ?_
  obtain ⟨x_64, x_65, x_66, x_67, x_68, x_69, hf_63, hx_64, hx_66, hx_67, hx_68, hx_69⟩ := (show tp_o_ROWS L K (0) w (Γ_40 (3, 0, w)) (f_41 x_46) from hI.at hx_46)
  refine tq_cv hS (hAf _ hS.1) (tq_rVN hN (As := [.ref x_56]) (rest := []) ⟨hx, hb, hml, hown, hta⟩ (tp_P.pre hK hN hL hU hI hP) (tp_recv hK hP hx_46.1 hf_63 rfl) lk_X0_53 (t_X4_copyFrom l D cy H.size L K Γ_40 f_41 w x_46 w2 x_56 hx_46 hx_56) rfl rfl ⟨Nat.le_of_ble_eq_true rfl, Nat.le_of_ble_eq_true rfl⟩ rfl hl.1 rfl (Nat.le_of_ble_eq_true rfl) dX0_copyFrom_34 ⟨Nat.le_of_ble_eq_true rfl, Nat.le_of_ble_eq_true rfl⟩) (fun f_72 H locs hw_70 hP hI hc_73 hS => ?_)
  have hD : va_D A (va_pl L f_72) := tp_D hL hAL
  have hfr := tp_fr2 hfr hc_73 (by decide)
  have hf_74 := (tp_un hc_73 ho (by decide)).trans hf_43
  have hf_75 := (tp_un hc_73 hq (by decide)).trans hf_53
  obtain ⟨Γ_76, eΓ_76⟩ : ∃ y : tk_G, y = tm_c3 Γ_40 w w2 := ⟨_, rfl⟩
  have hI : tp_I cy L K Γ_76 f_72 := by rw [eΓ_76]; exact hI
  refine lv_aload_n hx hb dX0_copyFrom_37 rfl (lv_at hl 0 rfl) ?_
  obtain ⟨x_78, x_79, x_80, x_81, x_82, x_83, x_84, x_85, x_86, hf_77, hx_78, hx_79, hx_80, hx_81, hx_82, hx_83, hx_84, hx_85, hx_86⟩ := (show tp_o_BOOK L K (0) w (Γ_76 (1, 0, w)) (f_72 o) from hI.at ho)
  refine tp_get (cy := cy) (ci := 0) (v := .ref x_81) (C := RX0) (T := TX0) (N := 9) hx hb hta inlX0 hown hK hP ho.1 hf_77 rfl 3 (by decide) (hta _ wk_65) (fun _ h9 => h9) rfl dX0_copyFrom_38 ?_
  refine lv_aload_n hx hb dX0_copyFrom_41 rfl (lv_at hl 1 rfl) ?_
  obtain ⟨x_88, x_89, x_90, x_91, x_92, x_93, x_94, x_95, x_96, hf_87, hx_88, hx_89, hx_90, hx_91, hx_92, hx_93, hx_94, hx_95, hx_96⟩ := (show tp_o_BOOK L K (0) w2 (Γ_76 (1, 0, w2)) (f_72 q) from hI.at hq)
  refine tp_get (cy := cy) (ci := 0) (v := .ref x_91) (C := RX0) (T := TX0) (N := 9) hx hb hta inlX0 hown hK hP hq.1 hf_87 rfl 3 (by decide) (hta _ wk_65) (fun _ h9 => h9) rfl dX0_copyFrom_42 ?_
  obtain ⟨x_98, x_99, x_100, hf_97, hx_98, hx_99, hx_100⟩ := (show tp_o_TABLE L K (40) w (Γ_76 (7, 40, w)) (f_72 x_81) from hI.at hx_81)
  refine tq_cv hS (hAf _ hS.1) (tq_rVN hN (As := [.ref x_91]) (rest := []) ⟨hx, hb, hml, hown, hta⟩ (tp_P.pre hK hN hL hU hI hP) (tp_recv hK hP hx_81.1 hf_97 rfl) lk_X0_57 (t_X6_copyFrom l D cy H.size L K Γ_76 f_72 40 w x_81 w2 x_91 hx_81 hx_91 (by first | omega | (simp only [Int32.toInt_toInt64]; omega) | decide | assumption)) rfl rfl ⟨Nat.le_of_ble_eq_true rfl, Nat.le_of_ble_eq_true rfl⟩ rfl hl.1 rfl (Nat.le_of_ble_eq_true rfl) dX0_copyFrom_45 ⟨Nat.le_of_ble_eq_true rfl, Nat.le_of_ble_eq_true rfl⟩) (fun f_103 H locs hw_101 hP hI hc_104 hS => ?_)
  have hD : va_D A (va_pl L f_103) := tp_D hL hAL
  have hfr := tp_fr2 hfr hc_104 (by decide)
  have hf_105 := (tp_un hc_104 ho (by decide)).trans hf_77
  have hf_106 := (tp_un hc_104 hq (by decide)).trans hf_87
  obtain ⟨Γ_107, eΓ_107⟩ : ∃ y : tk_G, y = tm_cT Γ_76 40 w w2 := ⟨_, rfl⟩
  have hI : tp_I cy L K Γ_107 f_103 := by rw [eΓ_107]; exact hI
  refine lv_aload_n hx hb dX0_copyFrom_48 rfl (lv_at hl 0 rfl) ?_
  obtain ⟨x_109, x_110, x_111, x_112, x_113, x_114, x_115, x_116, x_117, hf_108, hx_109, hx_110, hx_111, hx_112, hx_113, hx_114, hx_115, hx_116, hx_117⟩ := (show tp_o_BOOK L K (0) w (Γ_107 (1, 0, w)) (f_103 o) from hI.at ho)
  refine tp_get (cy := cy) (ci := 0) (v := .ref x_113) (C := RX0) (T := TX0) (N := 9) hx hb hta inlX0 hown hK hP ho.1 hf_108 rfl 4 (by decide) (hta _ wk_66) (fun _ h9 => h9) rfl dX0_copyFrom_49 ?_
  refine lv_aload_n hx hb dX0_copyFrom_52 rfl (lv_at hl 1 rfl) ?_
  obtain ⟨x_119, x_120, x_121, x_122, x_123, x_124, x_125, x_126, x_127, hf_118, hx_119, hx_120, hx_121, hx_122, hx_123, hx_124, hx_125, hx_126, hx_127⟩ := (show tp_o_BOOK L K (0) w2 (Γ_107 (1, 0, w2)) (f_103 q) from hI.at hq)
  refine tp_get (cy := cy) (ci := 0) (v := .ref x_123) (C := RX0) (T := TX0) (N := 9) hx hb hta inlX0 hown hK hP hq.1 hf_118 rfl 4 (by decide) (hta _ wk_66) (fun _ h9 => h9) rfl dX0_copyFrom_53 ?_
  obtain ⟨x_129, x_130, x_131, hf_128, hx_129, hx_130, hx_131⟩ := (show tp_o_TABLE L K (60) w (Γ_107 (7, 60, w)) (f_103 x_113) from hI.at hx_113)
  refine tq_cv hS (hAf _ hS.1) (tq_rVN hN (As := [.ref x_123]) (rest := []) ⟨hx, hb, hml, hown, hta⟩ (tp_P.pre hK hN hL hU hI hP) (tp_recv hK hP hx_113.1 hf_128 rfl) lk_X0_57 (t_X6_copyFrom l D cy H.size L K Γ_107 f_103 60 w x_113 w2 x_123 hx_113 hx_123 (by first | omega | (simp only [Int32.toInt_toInt64]; omega) | decide | assumption)) rfl rfl ⟨Nat.le_of_ble_eq_true rfl, Nat.le_of_ble_eq_true rfl⟩ rfl hl.1 rfl (Nat.le_of_ble_eq_true rfl) dX0_copyFrom_56 ⟨Nat.le_of_ble_eq_true rfl, Nat.le_of_ble_eq_true rfl⟩) (fun f_134 H locs hw_132 hP hI hc_135 hS => ?_)
  have hD : va_D A (va_pl L f_134) := tp_D hL hAL
  have hfr := tp_fr2 hfr hc_135 (by decide)
  have hf_136 := (tp_un hc_135 ho (by decide)).trans hf_108
  have hf_137 := (tp_un hc_135 hq (by decide)).trans hf_118
  obtain ⟨Γ_138, eΓ_138⟩ : ∃ y : tk_G, y = tm_cT Γ_107 60 w w2 := ⟨_, rfl⟩
  have hI : tp_I cy L K Γ_138 f_134 := by rw [eΓ_138]; exact hI
  refine lv_aload_n hx hb dX0_copyFrom_59 rfl (lv_at hl 0 rfl) ?_
  obtain ⟨x_140, x_141, x_142, x_143, x_144, x_145, x_146, x_147, x_148, hf_139, hx_140, hx_141, hx_142, hx_143, hx_144, hx_145, hx_146, hx_147, hx_148⟩ := (show tp_o_BOOK L K (0) w (Γ_138 (1, 0, w)) (f_134 o) from hI.at ho)
  refine tp_get (cy := cy) (ci := 0) (v := .ref x_145) (C := RX0) (T := TX0) (N := 9) hx hb hta inlX0 hown hK hP ho.1 hf_139 rfl 5 (by decide) (hta _ wk_67) (fun _ h9 => h9) rfl dX0_copyFrom_60 ?_
  refine lv_aload_n hx hb dX0_copyFrom_63 rfl (lv_at hl 1 rfl) ?_
  obtain ⟨x_150, x_151, x_152, x_153, x_154, x_155, x_156, x_157, x_158, hf_149, hx_150, hx_151, hx_152, hx_153, hx_154, hx_155, hx_156, hx_157, hx_158⟩ := (show tp_o_BOOK L K (0) w2 (Γ_138 (1, 0, w2)) (f_134 q) from hI.at hq)
  refine tp_get (cy := cy) (ci := 0) (v := .ref x_155) (C := RX0) (T := TX0) (N := 9) hx hb hta inlX0 hown hK hP hq.1 hf_149 rfl 5 (by decide) (hta _ wk_67) (fun _ h9 => h9) rfl dX0_copyFrom_64 ?_
  obtain ⟨x_160, x_161, x_162, hf_159, hx_160, hx_161, hx_162⟩ := (show tp_o_TABLE L K (10) w (Γ_138 (7, 10, w)) (f_134 x_145) from hI.at hx_145)
  refine tq_cv hS (hAf _ hS.1) (tq_rVN hN (As := [.ref x_155]) (rest := []) ⟨hx, hb, hml, hown, hta⟩ (tp_P.pre hK hN hL hU hI hP) (tp_recv hK hP hx_145.1 hf_159 rfl) lk_X0_57 (t_X6_copyFrom l D cy H.size L K Γ_138 f_134 10 w x_145 w2 x_155 hx_145 hx_155 (by first | omega | (simp only [Int32.toInt_toInt64]; omega) | decide | assumption)) rfl rfl ⟨Nat.le_of_ble_eq_true rfl, Nat.le_of_ble_eq_true rfl⟩ rfl hl.1 rfl (Nat.le_of_ble_eq_true rfl) dX0_copyFrom_67 ⟨Nat.le_of_ble_eq_true rfl, Nat.le_of_ble_eq_true rfl⟩) (fun f_165 H locs hw_163 hP hI hc_166 hS => ?_)
  have hD : va_D A (va_pl L f_165) := tp_D hL hAL
  have hfr := tp_fr2 hfr hc_166 (by decide)
  have hf_167 := (tp_un hc_166 ho (by decide)).trans hf_139
  have hf_168 := (tp_un hc_166 hq (by decide)).trans hf_149
  obtain ⟨Γ_169, eΓ_169⟩ : ∃ y : tk_G, y = tm_cT Γ_138 10 w w2 := ⟨_, rfl⟩
  have hI : tp_I cy L K Γ_169 f_165 := by rw [eΓ_169]; exact hI
  refine lv_aload_n hx hb dX0_copyFrom_70 rfl (lv_at hl 0 rfl) ?_
  obtain ⟨x_171, x_172, x_173, x_174, x_175, x_176, x_177, x_178, x_179, hf_170, hx_171, hx_172, hx_173, hx_174, hx_175, hx_176, hx_177, hx_178, hx_179⟩ := (show tp_o_BOOK L K (0) w (Γ_169 (1, 0, w)) (f_165 o) from hI.at ho)
  refine tp_get (cy := cy) (ci := 0) (v := .ref x_177) (C := RX0) (T := TX0) (N := 9) hx hb hta inlX0 hown hK hP ho.1 hf_170 rfl 6 (by decide) (hta _ wk_68) (fun _ h9 => h9) rfl dX0_copyFrom_71 ?_
  refine lv_aload_n hx hb dX0_copyFrom_74 rfl (lv_at hl 1 rfl) ?_
  obtain ⟨x_181, x_182, x_183, x_184, x_185, x_186, x_187, x_188, x_189, hf_180, hx_181, hx_182, hx_183, hx_184, hx_185, hx_186, hx_187, hx_188, hx_189⟩ := (show tp_o_BOOK L K (0) w2 (Γ_169 (1, 0, w2)) (f_165 q) from hI.at hq)
  refine tp_get (cy := cy) (ci := 0) (v := .ref x_187) (C := RX0) (T := TX0) (N := 9) hx hb hta inlX0 hown hK hP hq.1 hf_180 rfl 6 (by decide) (hta _ wk_68) (fun _ h9 => h9) rfl dX0_copyFrom_75 ?_
  obtain ⟨x_191, x_192, x_193, hf_190, hx_191, hx_192, hx_193⟩ := (show tp_o_HTABLE L K (8) w (Γ_169 (9, 8, w)) (f_165 x_177) from hI.at hx_177)
  refine tq_cv hS (hAf _ hS.1) (tq_rVN hN (As := [.ref x_187]) (rest := []) ⟨hx, hb, hml, hown, hta⟩ (tp_P.pre hK hN hL hU hI hP) (tp_recv hK hP hx_177.1 hf_190 rfl) lk_X0_57 (th_copyFrom l D cy H.size L K Γ_169 f_165 8 w x_177 w2 x_187 hx_177 hx_187 (by first | omega | (simp only [Int32.toInt_toInt64]; omega) | decide | assumption)) rfl rfl ⟨Nat.le_of_ble_eq_true rfl, Nat.le_of_ble_eq_true rfl⟩ rfl hl.1 rfl (Nat.le_of_ble_eq_true rfl) dX0_copyFrom_78 ⟨Nat.le_of_ble_eq_true rfl, Nat.le_of_ble_eq_true rfl⟩) (fun f_196 H locs hw_194 hP hI hc_197 hS => ?_)
  have hD : va_D A (va_pl L f_196) := tp_D hL hAL
  have hfr := tp_fr2 hfr hc_197 (by decide)
  have hf_198 := (tp_un hc_197 ho (by decide)).trans hf_170
  have hf_199 := (tp_un hc_197 hq (by decide)).trans hf_180
  refine lv_aload_n hx hb dX0_copyFrom_81 rfl (lv_at hl 1 rfl) ?_
  refine tp_get (cy := cy) (ci := 0) (v := .ref x_188) (C := RX0) (T := TX0) (N := 9) hx hb hta inlX0 hown hK hP hq.1 hf_199 rfl 7 (by decide) (hta _ wk_69) (fun _ h9 => h9) rfl dX0_copyFrom_82 ?_
  refine lv_iconst (v := 0) hx hb dX0_copyFrom_85 (by decide) ?_
  refine lv_aload_n hx hb dX0_copyFrom_86 rfl (lv_at hl 0 rfl) ?_
  refine tp_get (cy := cy) (ci := 0) (v := .ref x_178) (C := RX0) (T := TX0) (N := 9) hx hb hta inlX0 hown hK hP ho.1 hf_198 rfl 7 (by decide) (hta _ wk_69) (fun _ h9 => h9) rfl dX0_copyFrom_87 ?_
  refine lv_iconst (v := 0) hx hb dX0_copyFrom_90 (by decide) ?_
  refine lv_sipush (v := 400) hx hb dX0_copyFrom_91 (by decide) ?_
  obtain ⟨g_201, hf_200, hg_202⟩ := (show tp_ai cy 11 (400) (f_196 x_188) from hI.at hx_188)
  obtain ⟨g_204, hf_203, hg_205⟩ := (show tp_ai cy 11 (400) (f_196 x_178) from hI.at hx_178)
  have hI9 : tp_I cy L K Γ_169 (va_up f_196 x_178 (.inl (cy 0, 400, .inl (va_cpy g_201 g_204 0 0 400)))) := hI.set hx_178 (show tp_ai cy 11 (400) _ from ⟨_, rfl, tp_pi_cpy hg_202 hg_205⟩)
  have hfr9 : ∀ b, (K b).1 ∉ ([1, 2, 3, 4, 6, 7, 8, 9, 10, 11] : List Nat) → va_up f_196 x_178 (.inl (cy 0, 400, .inl (va_cpy g_201 g_204 0 0 400))) b = f b := tp_fr hfr hx_178 (by decide)
  refine tp_copyi (cy := cy) hx hb (by rw [hml]; exact hl.1.symm) hown (hta _ wk_1503) (hta _ wk_1504) (hta _ wk_1505) (hta _ wk_1506) hK hP hD hS hx_188.1 hx_178.1 hf_200 hf_203 (k := 400) (by decide) (Nat.le_of_ble_eq_true rfl) (Nat.le_of_ble_eq_true rfl) dX0_copyFrom_94 (fun H locs hP hD hS => ?_)
  have hP : va_P D vwCl (va_pl L (va_up f_196 x_178 (.inl (cy 0, 400, .inl (va_cpy g_201 g_204 0 0 400))))) H := hP
  generalize hfe : va_up f_196 x_178 (.inl (cy 0, 400, .inl (va_cpy g_201 g_204 0 0 400))) = f_206 at hP hI9 hfr9
  have hD : va_D A (va_pl L f_206) := tp_D hL hAL
  have hf_207 := (show f_206 o = _ from by rw [← hfe, va_up_ne _ _ (tp_ne ho hx_178 (by decide))]).trans hf_198
  have hf_208 := (show f_206 q = _ from by rw [← hfe, va_up_ne _ _ (tp_ne hq hx_178 (by decide))]).trans hf_199
  have hf_209 : f_206 x_178 = .inl (cy 0, 400, .inl (va_cpy g_201 g_204 0 0 400)) := by rw [← hfe]; exact va_up_self _ _ _
  clear hfe
  have hI := hI9
  have hfr := hfr9
  clear hI9 hfr9
  refine lv_aload_n hx hb dX0_copyFrom_97 rfl (lv_at hl 0 rfl) ?_
  refine lv_aload_n hx hb dX0_copyFrom_98 rfl (lv_at hl 1 rfl) ?_
  refine tp_get (cy := cy) (ci := 0) (v := .int x_189) (C := RX0) (T := TX0) (N := 9) hx hb hta inlX0 hown hK hP hq.1 hf_208 rfl 8 (by decide) (hta _ wk_342) (fun _ h9 => h9) rfl dX0_copyFrom_99 ?_
  have hI9 : tp_I cy L K Γ_169 (va_up f_206 o (.inr (0, [.int x_171, .ref x_172, .ref x_173, .ref x_174, .ref x_175, .ref x_176, .ref x_177, .ref x_178, .int x_189]))) := hI.set ho (show tp_o_BOOK L K (0) w (Γ_169 (1, 0, w)) _ from ⟨x_171, x_172, x_173, x_174, x_175, x_176, x_177, x_178, x_189, rfl, (show x_171.toInt = (Γ_169 (1, 0, w)) 0 from by omega), hx_172, hx_173, hx_174, hx_175, hx_176, hx_177, hx_178, (show 0 ≤ x_189.toInt ∧ x_189.toInt ≤ 400 from by omega)⟩)
  have hfr9 : ∀ b, (K b).1 ∉ ([1, 2, 3, 4, 6, 7, 8, 9, 10, 11] : List Nat) → va_up f_206 o (.inr (0, [.int x_171, .ref x_172, .ref x_173, .ref x_174, .ref x_175, .ref x_176, .ref x_177, .ref x_178, .int x_189])) b = f b := tp_fr hfr ho (by decide)
  refine tp_put (cy := cy) (ci := 0) (v := .int x_189) (ty := tyX0 8) (C := RX0) (T := TX0) (N := 9) hx hb hta inlX0 tyX0 tyX0_ok nmX0 hown hK hP hD hS ho.1 hf_207 rfl 8 (by decide) (hta _ wk_342) (fun _ h9 => h9) rfl (tyX0_ok 8 (by decide)) rfl rfl (Nat.le_of_ble_eq_true rfl) dX0_copyFrom_102 (fun H locs hP hD hS => ?_)
  have hP : va_P D vwCl (va_pl L (va_up f_206 o (.inr (0, [.int x_171, .ref x_172, .ref x_173, .ref x_174, .ref x_175, .ref x_176, .ref x_177, .ref x_178, .int x_189])))) H := hP
  generalize hfe : va_up f_206 o (.inr (0, [.int x_171, .ref x_172, .ref x_173, .ref x_174, .ref x_175, .ref x_176, .ref x_177, .ref x_178, .int x_189])) = f_210 at hP hI9 hfr9
  have hD : va_D A (va_pl L f_210) := tp_D hL hAL
  have hf_211 : f_210 o = .inr (0, [.int x_171, .ref x_172, .ref x_173, .ref x_174, .ref x_175, .ref x_176, .ref x_177, .ref x_178, .int x_189]) := by rw [← hfe]; exact va_up_self _ _ _
  clear hfe
  have hI := hI9
  have hfr := hfr9
  clear hI9 hfr9
  have hG9 : Γ_169 = tm_copy Γ w w2 := (by rw [eΓ_169, eΓ_138, eΓ_107, eΓ_76, eΓ_40, eΓ_21]; rfl)
  exact W.vret hx hb hr (fun t ht hW => ⟨⟨f_210, rfl, trivial, by rw [ht]; exact hP, (by rw [← hG9]; exact hI), hfr⟩, hS.F ht⟩) hS.2.2 dX0_copyFrom_105
