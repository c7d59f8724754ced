theorem dX0_byteAt_0 : decode cX0_byteAt 0 = .ok (.iload_n 1, 1) := by decide +kernel
theorem dX0_byteAt_1 : decode cX0_byteAt 1 = .ok (.ifCond .lt 27, 3) := by decide +kernel
theorem dX0_byteAt_4 : decode cX0_byteAt 4 = .ok (.iload_n 1, 1) := by decide +kernel
theorem dX0_byteAt_5 : decode cX0_byteAt 5 = .ok (.aload_n 0, 1) := by decide +kernel
theorem dX0_byteAt_6 : decode cX0_byteAt 6 = .ok (.getfield 60, 3) := by decide +kernel
theorem dX0_byteAt_9 : decode cX0_byteAt 9 = .ok (.if_icmp .ge 19, 3) := by decide +kernel
theorem dX0_byteAt_12 : decode cX0_byteAt 12 = .ok (.iload_n 1, 1) := by decide +kernel
theorem dX0_byteAt_13 : decode cX0_byteAt 13 = .ok (.sipush 400, 3) := by decide +kernel
theorem dX0_byteAt_16 : decode cX0_byteAt 16 = .ok (.if_icmp .ge 12, 3) := by decide +kernel
theorem dX0_byteAt_19 : decode cX0_byteAt 19 = .ok (.aload_n 0, 1) := by decide +kernel
theorem dX0_byteAt_20 : decode cX0_byteAt 20 = .ok (.getfield 40, 3) := by decide +kernel
theorem dX0_byteAt_23 : decode cX0_byteAt 23 = .ok (.iload_n 1, 1) := by decide +kernel
theorem dX0_byteAt_24 : decode cX0_byteAt 24 = .ok (.iaload, 1) := by decide +kernel
theorem dX0_byteAt_25 : decode cX0_byteAt 25 = .ok (.goto 4, 3) := by decide +kernel
theorem dX0_byteAt_28 : decode cX0_byteAt 28 = .ok (.iconst (-1), 1) := by decide +kernel
theorem dX0_byteAt_29 : decode cX0_byteAt 29 = .ok (.ireturn, 1) := by decide +kernel
theorem wk_69 : Cond.fieldLink RX0 40 "ThinLine$Book" "tape" "[I" ∈ tl_L := List.mem_filter.mpr ⟨lw_m1 (i := 112) rfl, rfl⟩
theorem wk_342 : Cond.fieldLink RX0 60 "ThinLine$Book" "taped" "I" ∈ tl_L := List.mem_filter.mpr ⟨lw_m1 (i := 114) rfl, rfl⟩
theorem dX0_append_0 : decode cX0_append 0 = .ok (.bipush 24, 2) := by decide +kernel
theorem dX0_append_2 : decode cX0_append 2 = .ok (.istore_n 2, 1) := by decide +kernel
theorem dX0_append_3 : decode cX0_append 3 = .ok (.iload_n 2, 1) := by decide +kernel
theorem dX0_append_4 : decode cX0_append 4 = .ok (.ifCond .lt 45, 3) := by decide +kernel
theorem dX0_append_7 : decode cX0_append 7 = .ok (.aload_n 0, 1) := by decide +kernel
theorem dX0_append_8 : decode cX0_append 8 = .ok (.getfield 60, 3) := by decide +kernel
theorem dX0_append_11 : decode cX0_append 11 = .ok (.sipush 400, 3) := by decide +kernel
theorem dX0_append_14 : decode cX0_append 14 = .ok (.if_icmp .ge 35, 3) := by decide +kernel
theorem dX0_append_17 : decode cX0_append 17 = .ok (.aload_n 0, 1) := by decide +kernel
theorem dX0_append_18 : decode cX0_append 18 = .ok (.getfield 40, 3) := by decide +kernel
theorem dX0_append_21 : decode cX0_append 21 = .ok (.aload_n 0, 1) := by decide +kernel
theorem dX0_append_22 : decode cX0_append 22 = .ok (.getfield 60, 3) := by decide +kernel
theorem dX0_append_25 : decode cX0_append 25 = .ok (.iload_n 1, 1) := by decide +kernel
theorem dX0_append_26 : decode cX0_append 26 = .ok (.iload_n 2, 1) := by decide +kernel
theorem dX0_append_27 : decode cX0_append 27 = .ok (.ishr, 1) := by decide +kernel
theorem dX0_append_28 : decode cX0_append 28 = .ok (.sipush 255, 3) := by decide +kernel
theorem dX0_append_31 : decode cX0_append 31 = .ok (.iand, 1) := by decide +kernel
theorem dX0_append_32 : decode cX0_append 32 = .ok (.iastore, 1) := by decide +kernel
theorem dX0_append_33 : decode cX0_append 33 = .ok (.aload_n 0, 1) := by decide +kernel
theorem dX0_append_34 : decode cX0_append 34 = .ok (.dup, 1) := by decide +kernel
theorem dX0_append_35 : decode cX0_append 35 = .ok (.getfield 60, 3) := by decide +kernel
theorem dX0_append_38 : decode cX0_append 38 = .ok (.iconst 1, 1) := by decide +kernel
theorem dX0_append_39 : decode cX0_append 39 = .ok (.iadd, 1) := by decide +kernel
theorem dX0_append_40 : decode cX0_append 40 = .ok (.putfield 60, 3) := by decide +kernel
theorem dX0_append_43 : decode cX0_append 43 = .ok (.iinc 2 (-8), 3) := by decide +kernel
theorem dX0_append_46 : decode cX0_append 46 = .ok (.goto (-43), 3) := by decide +kernel
theorem dX0_append_49 : decode cX0_append 49 = .ok (.return_, 1) := by decide +kernel
theorem dX0_hasLine_0 : decode cX0_hasLine 0 = .ok (.iconst 0, 1) := by decide +kernel
theorem dX0_hasLine_1 : decode cX0_hasLine 1 = .ok (.istore_n 3, 1) := by decide +kernel
theorem dX0_hasLine_2 : decode cX0_hasLine 2 = .ok (.iconst 0, 1) := by decide +kernel
theorem dX0_hasLine_3 : decode cX0_hasLine 3 = .ok (.istore 4, 2) := by decide +kernel
theorem dX0_hasLine_5 : decode cX0_hasLine 5 = .ok (.iload 4, 2) := by decide +kernel
theorem dX0_hasLine_7 : decode cX0_hasLine 7 = .ok (.aload_n 0, 1) := by decide +kernel
theorem dX0_hasLine_8 : decode cX0_hasLine 8 = .ok (.getfield 31, 3) := by decide +kernel
theorem dX0_hasLine_11 : decode cX0_hasLine 11 = .ok (.getfield 63, 3) := by decide +kernel
theorem dX0_hasLine_14 : decode cX0_hasLine 14 = .ok (.if_icmp .ge 45, 3) := by decide +kernel
theorem dX0_hasLine_17 : decode cX0_hasLine 17 = .ok (.iload_n 3, 1) := by decide +kernel
theorem dX0_hasLine_18 : decode cX0_hasLine 18 = .ok (.aload_n 0, 1) := by decide +kernel
theorem dX0_hasLine_19 : decode cX0_hasLine 19 = .ok (.getfield 31, 3) := by decide +kernel
theorem dX0_hasLine_22 : decode cX0_hasLine 22 = .ok (.iload 4, 2) := by decide +kernel
theorem dX0_hasLine_24 : decode cX0_hasLine 24 = .ok (.iconst 0, 1) := by decide +kernel
theorem dX0_hasLine_25 : decode cX0_hasLine 25 = .ok (.invokevirtual 66, 3) := by decide +kernel
theorem dX0_hasLine_28 : decode cX0_hasLine 28 = .ok (.iload_n 1, 1) := by decide +kernel
theorem dX0_hasLine_29 : decode cX0_hasLine 29 = .ok (.if_icmp .ne 21, 3) := by decide +kernel
theorem dX0_hasLine_32 : decode cX0_hasLine 32 = .ok (.aload_n 0, 1) := by decide +kernel
theorem dX0_hasLine_33 : decode cX0_hasLine 33 = .ok (.getfield 31, 3) := by decide +kernel
theorem dX0_hasLine_36 : decode cX0_hasLine 36 = .ok (.iload 4, 2) := by decide +kernel
theorem dX0_hasLine_38 : decode cX0_hasLine 38 = .ok (.iconst 1, 1) := by decide +kernel
theorem dX0_hasLine_39 : decode cX0_hasLine 39 = .ok (.invokevirtual 66, 3) := by decide +kernel
theorem dX0_hasLine_42 : decode cX0_hasLine 42 = .ok (.iload_n 2, 1) := by decide +kernel
theorem dX0_hasLine_43 : decode cX0_hasLine 43 = .ok (.if_icmp .ne 7, 3) := by decide +kernel
theorem dX0_hasLine_46 : decode cX0_hasLine 46 = .ok (.iconst 1, 1) := by decide +kernel
theorem dX0_hasLine_47 : decode cX0_hasLine 47 = .ok (.goto 4, 3) := by decide +kernel
theorem dX0_hasLine_50 : decode cX0_hasLine 50 = .ok (.iconst 0, 1) := by decide +kernel
theorem dX0_hasLine_51 : decode cX0_hasLine 51 = .ok (.ior, 1) := by decide +kernel
theorem dX0_hasLine_52 : decode cX0_hasLine 52 = .ok (.istore_n 3, 1) := by decide +kernel
theorem dX0_hasLine_53 : decode cX0_hasLine 53 = .ok (.iinc 4 1, 3) := by decide +kernel
theorem dX0_hasLine_56 : decode cX0_hasLine 56 = .ok (.goto (-51), 3) := by decide +kernel
theorem dX0_hasLine_59 : decode cX0_hasLine 59 = .ok (.iload_n 3, 1) := by decide +kernel
theorem dX0_hasLine_60 : decode cX0_hasLine 60 = .ok (.ireturn, 1) := by decide +kernel
theorem wk_66 : Cond.fieldLink RX0 31 "ThinLine$Book" "lines" "LThinLine$Table;" ∈ tl_L := List.mem_filter.mpr ⟨lw_m1 (i := 106) rfl, rfl⟩
theorem wk_263 : Cond.instanceMethod yX6_cell ∈ tl_L := List.mem_filter.mpr ⟨lw_m3 (i := 4) rfl, rfl⟩
theorem wk_264 : Cond.selects RX6 yX6_cell yX6_cell ∈ tl_L := List.mem_filter.mpr ⟨lw_s1 (i := 4) (q := (yX6_cell, 3)) rfl, rfl⟩
theorem wk_265 : Cond.code yX6_cell cX6_cell 4 (some .int) ∈ tl_L := List.mem_filter.mpr ⟨lw_m3 (i := 5) rfl, rfl⟩
theorem nk_14 : tl_N[14]? = some (Cond.fieldLinkNest "ThinLine$Book" 63 "ThinLine$Table" "size" "I" "ThinLine") := by decide +kernel
theorem lk_X0_66 : tl_kVN RX0 66 RX6 yX6_cell "ThinLine" cX6_cell 4 (some .int) 2 77 := ⟨wk_265, by decide +kernel, wk_263, wk_264, wk_64, ⟨by decide +kernel, by decide +kernel, by decide +kernel⟩⟩
theorem dX0_slipped_0 : decode cX0_slipped 0 = .ok (.iconst 0, 1) := by decide +kernel
theorem dX0_slipped_1 : decode cX0_slipped 1 = .ok (.istore_n 3, 1) := by decide +kernel
theorem dX0_slipped_2 : decode cX0_slipped 2 = .ok (.iconst 0, 1) := by decide +kernel
theorem dX0_slipped_3 : decode cX0_slipped 3 = .ok (.istore 4, 2) := by decide +kernel
theorem dX0_slipped_5 : decode cX0_slipped 5 = .ok (.iload 4, 2) := by decide +kernel
theorem dX0_slipped_7 : decode cX0_slipped 7 = .ok (.aload_n 0, 1) := by decide +kernel
theorem dX0_slipped_8 : decode cX0_slipped 8 = .ok (.getfield 27, 3) := by decide +kernel
theorem dX0_slipped_11 : decode cX0_slipped 11 = .ok (.getfield 63, 3) := by decide +kernel
theorem dX0_slipped_14 : decode cX0_slipped 14 = .ok (.if_icmp .ge 80, 3) := by decide +kernel
theorem dX0_slipped_17 : decode cX0_slipped 17 = .ok (.aload_n 0, 1) := by decide +kernel
theorem dX0_slipped_18 : decode cX0_slipped 18 = .ok (.getfield 27, 3) := by decide +kernel
theorem dX0_slipped_21 : decode cX0_slipped 21 = .ok (.iload 4, 2) := by decide +kernel
theorem dX0_slipped_23 : decode cX0_slipped 23 = .ok (.iconst 1, 1) := by decide +kernel
theorem dX0_slipped_24 : decode cX0_slipped 24 = .ok (.invokevirtual 66, 3) := by decide +kernel
theorem dX0_slipped_27 : decode cX0_slipped 27 = .ok (.iload_n 2, 1) := by decide +kernel
theorem dX0_slipped_28 : decode cX0_slipped 28 = .ok (.if_icmp .gt 21, 3) := by decide +kernel
theorem dX0_slipped_31 : decode cX0_slipped 31 = .ok (.iload_n 2, 1) := by decide +kernel
theorem dX0_slipped_32 : decode cX0_slipped 32 = .ok (.aload_n 0, 1) := by decide +kernel
theorem dX0_slipped_33 : decode cX0_slipped 33 = .ok (.getfield 27, 3) := by decide +kernel
theorem dX0_slipped_36 : decode cX0_slipped 36 = .ok (.iload 4, 2) := by decide +kernel
theorem dX0_slipped_38 : decode cX0_slipped 38 = .ok (.iconst 2, 1) := by decide +kernel
theorem dX0_slipped_39 : decode cX0_slipped 39 = .ok (.invokevirtual 66, 3) := by decide +kernel
theorem dX0_slipped_42 : decode cX0_slipped 42 = .ok (.if_icmp .gt 7, 3) := by decide +kernel
theorem dX0_slipped_45 : decode cX0_slipped 45 = .ok (.iconst 1, 1) := by decide +kernel
theorem dX0_slipped_46 : decode cX0_slipped 46 = .ok (.goto 4, 3) := by decide +kernel
theorem dX0_slipped_49 : decode cX0_slipped 49 = .ok (.iconst 0, 1) := by decide +kernel
theorem dX0_slipped_50 : decode cX0_slipped 50 = .ok (.istore 5, 2) := by decide +kernel
theorem dX0_slipped_52 : decode cX0_slipped 52 = .ok (.iload_n 3, 1) := by decide +kernel
theorem dX0_slipped_53 : decode cX0_slipped 53 = .ok (.iload 5, 2) := by decide +kernel
theorem dX0_slipped_55 : decode cX0_slipped 55 = .ok (.ifCond .eq 30, 3) := by decide +kernel
theorem dX0_slipped_58 : decode cX0_slipped 58 = .ok (.aload_n 0, 1) := by decide +kernel
theorem dX0_slipped_59 : decode cX0_slipped 59 = .ok (.getfield 27, 3) := by decide +kernel
theorem dX0_slipped_62 : decode cX0_slipped 62 = .ok (.iload 4, 2) := by decide +kernel
theorem dX0_slipped_64 : decode cX0_slipped 64 = .ok (.iconst 0, 1) := by decide +kernel
theorem dX0_slipped_65 : decode cX0_slipped 65 = .ok (.invokevirtual 66, 3) := by decide +kernel
theorem dX0_slipped_68 : decode cX0_slipped 68 = .ok (.iload_n 1, 1) := by decide +kernel
theorem dX0_slipped_69 : decode cX0_slipped 69 = .ok (.if_icmp .ne 16, 3) := by decide +kernel
theorem dX0_slipped_72 : decode cX0_slipped 72 = .ok (.aload_n 0, 1) := by decide +kernel
theorem dX0_slipped_73 : decode cX0_slipped 73 = .ok (.getfield 27, 3) := by decide +kernel
theorem dX0_slipped_76 : decode cX0_slipped 76 = .ok (.iload 4, 2) := by decide +kernel
theorem dX0_slipped_78 : decode cX0_slipped 78 = .ok (.iconst 3, 1) := by decide +kernel
theorem dX0_slipped_79 : decode cX0_slipped 79 = .ok (.invokevirtual 66, 3) := by decide +kernel
theorem dX0_slipped_82 : decode cX0_slipped 82 = .ok (.goto 4, 3) := by decide +kernel
theorem dX0_slipped_85 : decode cX0_slipped 85 = .ok (.iconst 0, 1) := by decide +kernel
theorem dX0_slipped_86 : decode cX0_slipped 86 = .ok (.iadd, 1) := by decide +kernel
theorem dX0_slipped_87 : decode cX0_slipped 87 = .ok (.istore_n 3, 1) := by decide +kernel
theorem dX0_slipped_88 : decode cX0_slipped 88 = .ok (.iinc 4 1, 3) := by decide +kernel
theorem dX0_slipped_91 : decode cX0_slipped 91 = .ok (.goto (-86), 3) := by decide +kernel
theorem dX0_slipped_94 : decode cX0_slipped 94 = .ok (.iload_n 3, 1) := by decide +kernel
theorem dX0_slipped_95 : decode cX0_slipped 95 = .ok (.ireturn, 1) := by decide +kernel
theorem wk_65 : Cond.fieldLink RX0 27 "ThinLine$Book" "slips" "LThinLine$Table;" ∈ tl_L := List.mem_filter.mpr ⟨lw_m1 (i := 104) rfl, rfl⟩
theorem dX0_takeOff_0 : decode cX0_takeOff 0 = .ok (.aload_n 0, 1) := by decide +kernel
theorem dX0_takeOff_1 : decode cX0_takeOff 1 = .ok (.getfield 27, 3) := by decide +kernel
theorem dX0_takeOff_4 : decode cX0_takeOff 4 = .ok (.iload_n 1, 1) := by decide +kernel
theorem dX0_takeOff_5 : decode cX0_takeOff 5 = .ok (.iconst 3, 1) := by decide +kernel
theorem dX0_takeOff_6 : decode cX0_takeOff 6 = .ok (.invokevirtual 66, 3) := by decide +kernel
theorem dX0_takeOff_9 : decode cX0_takeOff 9 = .ok (.istore_n 3, 1) := by decide +kernel
theorem dX0_takeOff_10 : decode cX0_takeOff 10 = .ok (.sipush 299, 3) := by decide +kernel
theorem dX0_takeOff_13 : decode cX0_takeOff 13 = .ok (.aload_n 0, 1) := by decide +kernel
theorem dX0_takeOff_14 : decode cX0_takeOff 14 = .ok (.getfield 27, 3) := by decide +kernel
theorem dX0_takeOff_17 : decode cX0_takeOff 17 = .ok (.iload_n 1, 1) := by decide +kernel
theorem dX0_takeOff_18 : decode cX0_takeOff 18 = .ok (.iconst 2, 1) := by decide +kernel
theorem dX0_takeOff_19 : decode cX0_takeOff 19 = .ok (.invokevirtual 66, 3) := by decide +kernel
theorem dX0_takeOff_22 : decode cX0_takeOff 22 = .ok (.invokestatic 86, 3) := by decide +kernel
theorem dX0_takeOff_25 : decode cX0_takeOff 25 = .ok (.istore 4, 2) := by decide +kernel
theorem dX0_takeOff_27 : decode cX0_takeOff 27 = .ok (.iconst 0, 1) := by decide +kernel
theorem dX0_takeOff_28 : decode cX0_takeOff 28 = .ok (.aload_n 0, 1) := by decide +kernel
theorem dX0_takeOff_29 : decode cX0_takeOff 29 = .ok (.getfield 27, 3) := by decide +kernel
theorem dX0_takeOff_32 : decode cX0_takeOff 32 = .ok (.iload_n 1, 1) := by decide +kernel
theorem dX0_takeOff_33 : decode cX0_takeOff 33 = .ok (.iconst 1, 1) := by decide +kernel
theorem dX0_takeOff_34 : decode cX0_takeOff 34 = .ok (.invokevirtual 66, 3) := by decide +kernel
theorem dX0_takeOff_37 : decode cX0_takeOff 37 = .ok (.invokestatic 91, 3) := by decide +kernel
theorem dX0_takeOff_40 : decode cX0_takeOff 40 = .ok (.istore 5, 2) := by decide +kernel
theorem dX0_takeOff_42 : decode cX0_takeOff 42 = .ok (.iload 5, 2) := by decide +kernel
theorem dX0_takeOff_44 : decode cX0_takeOff 44 = .ok (.iload 4, 2) := by decide +kernel
theorem dX0_takeOff_46 : decode cX0_takeOff 46 = .ok (.if_icmp .gt 17, 3) := by decide +kernel
theorem dX0_takeOff_49 : decode cX0_takeOff 49 = .ok (.aload_n 2, 1) := by decide +kernel
theorem dX0_takeOff_50 : decode cX0_takeOff 50 = .ok (.iload 5, 2) := by decide +kernel
theorem dX0_takeOff_52 : decode cX0_takeOff 52 = .ok (.dup2, 1) := by decide +kernel
theorem dX0_takeOff_53 : decode cX0_takeOff 53 = .ok (.iaload, 1) := by decide +kernel
theorem dX0_takeOff_54 : decode cX0_takeOff 54 = .ok (.iload_n 3, 1) := by decide +kernel
theorem dX0_takeOff_55 : decode cX0_takeOff 55 = .ok (.isub, 1) := by decide +kernel
theorem dX0_takeOff_56 : decode cX0_takeOff 56 = .ok (.iastore, 1) := by decide +kernel
theorem dX0_takeOff_57 : decode cX0_takeOff 57 = .ok (.iinc 5 1, 3) := by decide +kernel
theorem dX0_takeOff_60 : decode cX0_takeOff 60 = .ok (.goto (-18), 3) := by decide +kernel
theorem dX0_takeOff_63 : decode cX0_takeOff 63 = .ok (.return_, 1) := by decide +kernel
theorem wk_82 : Cond.static Lib.Math.max.name ∈ tl_L := List.mem_filter.mpr ⟨by decide +kernel, rfl⟩
theorem wk_84 : Cond.code Lib.Math.max.name Lib.Math.max.code 2 (some .int) ∈ tl_L := List.mem_filter.mpr ⟨List.mem_of_getElem? (i := 258) (by decide +kernel), rfl⟩
theorem wk_838 : Cond.methodLink RX0 86 Lib.Math.min.name ∈ tl_L := List.mem_filter.mpr ⟨by decide +kernel, rfl⟩
theorem wk_839 : Cond.methodLink RX0 91 Lib.Math.max.name ∈ tl_L := List.mem_filter.mpr ⟨by decide +kernel, rfl⟩
theorem dX0_readRow_0 : decode cX0_readRow 0 = .ok (.aload_n 0, 1) := by decide +kernel
theorem dX0_readRow_1 : decode cX0_readRow 1 = .ok (.getfield 18, 3) := by decide +kernel
theorem dX0_readRow_4 : decode cX0_readRow 4 = .ok (.iload_n 1, 1) := by decide +kernel
theorem dX0_readRow_5 : decode cX0_readRow 5 = .ok (.invokevirtual 70, 3) := by decide +kernel
theorem dX0_readRow_8 : decode cX0_readRow 8 = .ok (.ifCond .ne 4, 3) := by decide +kernel
theorem dX0_readRow_11 : decode cX0_readRow 11 = .ok (.return_, 1) := by decide +kernel
theorem dX0_readRow_12 : decode cX0_readRow 12 = .ok (.iconst 0, 1) := by decide +kernel
theorem dX0_readRow_13 : decode cX0_readRow 13 = .ok (.istore 5, 2) := by decide +kernel
theorem dX0_readRow_15 : decode cX0_readRow 15 = .ok (.iload 5, 2) := by decide +kernel
theorem dX0_readRow_17 : decode cX0_readRow 17 = .ok (.sipush 300, 3) := by decide +kernel
theorem dX0_readRow_20 : decode cX0_readRow 20 = .ok (.if_icmp .ge 46, 3) := by decide +kernel
theorem dX0_readRow_23 : decode cX0_readRow 23 = .ok (.aload_n 0, 1) := by decide +kernel
theorem dX0_readRow_24 : decode cX0_readRow 24 = .ok (.getfield 18, 3) := by decide +kernel
theorem dX0_readRow_27 : decode cX0_readRow 27 = .ok (.getfield 74, 3) := by decide +kernel
theorem dX0_readRow_30 : decode cX0_readRow 30 = .ok (.iload_n 1, 1) := by decide +kernel
theorem dX0_readRow_31 : decode cX0_readRow 31 = .ok (.aaload, 1) := by decide +kernel
theorem dX0_readRow_32 : decode cX0_readRow 32 = .ok (.iload 5, 2) := by decide +kernel
theorem dX0_readRow_34 : decode cX0_readRow 34 = .ok (.iaload, 1) := by decide +kernel
theorem dX0_readRow_35 : decode cX0_readRow 35 = .ok (.istore 6, 2) := by decide +kernel
theorem dX0_readRow_37 : decode cX0_readRow 37 = .ok (.aload_n 3, 1) := by decide +kernel
theorem dX0_readRow_38 : decode cX0_readRow 38 = .ok (.iload 5, 2) := by decide +kernel
theorem dX0_readRow_40 : decode cX0_readRow 40 = .ok (.iload 6, 2) := by decide +kernel
theorem dX0_readRow_42 : decode cX0_readRow 42 = .ok (.ldc 78, 2) := by decide +kernel
theorem dX0_readRow_44 : decode cX0_readRow 44 = .ok (.if_icmp .eq 7, 3) := by decide +kernel
theorem dX0_readRow_47 : decode cX0_readRow 47 = .ok (.iconst 1, 1) := by decide +kernel
theorem dX0_readRow_48 : decode cX0_readRow 48 = .ok (.goto 4, 3) := by decide +kernel
theorem dX0_readRow_51 : decode cX0_readRow 51 = .ok (.iconst 0, 1) := by decide +kernel
theorem dX0_readRow_52 : decode cX0_readRow 52 = .ok (.bastore, 1) := by decide +kernel
theorem dX0_readRow_53 : decode cX0_readRow 53 = .ok (.aload 4, 2) := by decide +kernel
theorem dX0_readRow_55 : decode cX0_readRow 55 = .ok (.iload 5, 2) := by decide +kernel
theorem dX0_readRow_57 : decode cX0_readRow 57 = .ok (.iload 6, 2) := by decide +kernel
theorem dX0_readRow_59 : decode cX0_readRow 59 = .ok (.iastore, 1) := by decide +kernel
theorem dX0_readRow_60 : decode cX0_readRow 60 = .ok (.iinc 5 1, 3) := by decide +kernel
theorem dX0_readRow_63 : decode cX0_readRow 63 = .ok (.goto (-48), 3) := by decide +kernel
theorem dX0_readRow_66 : decode cX0_readRow 66 = .ok (.iconst 0, 1) := by decide +kernel
theorem dX0_readRow_67 : decode cX0_readRow 67 = .ok (.istore 5, 2) := by decide +kernel
theorem dX0_readRow_69 : decode cX0_readRow 69 = .ok (.iload 5, 2) := by decide +kernel
theorem dX0_readRow_71 : decode cX0_readRow 71 = .ok (.aload_n 0, 1) := by decide +kernel
theorem dX0_readRow_72 : decode cX0_readRow 72 = .ok (.getfield 27, 3) := by decide +kernel
theorem dX0_readRow_75 : decode cX0_readRow 75 = .ok (.getfield 63, 3) := by decide +kernel
theorem dX0_readRow_78 : decode cX0_readRow 78 = .ok (.if_icmp .ge 45, 3) := by decide +kernel
theorem dX0_readRow_81 : decode cX0_readRow 81 = .ok (.iload 5, 2) := by decide +kernel
theorem dX0_readRow_83 : decode cX0_readRow 83 = .ok (.iload_n 2, 1) := by decide +kernel
theorem dX0_readRow_84 : decode cX0_readRow 84 = .ok (.if_icmp .eq 33, 3) := by decide +kernel
theorem dX0_readRow_87 : decode cX0_readRow 87 = .ok (.aload_n 0, 1) := by decide +kernel
theorem dX0_readRow_88 : decode cX0_readRow 88 = .ok (.getfield 27, 3) := by decide +kernel
theorem dX0_readRow_91 : decode cX0_readRow 91 = .ok (.iload 5, 2) := by decide +kernel
theorem dX0_readRow_93 : decode cX0_readRow 93 = .ok (.iconst 0, 1) := by decide +kernel
theorem dX0_readRow_94 : decode cX0_readRow 94 = .ok (.invokevirtual 66, 3) := by decide +kernel
theorem dX0_readRow_97 : decode cX0_readRow 97 = .ok (.aload_n 0, 1) := by decide +kernel
theorem dX0_readRow_98 : decode cX0_readRow 98 = .ok (.getfield 18, 3) := by decide +kernel
theorem dX0_readRow_101 : decode cX0_readRow 101 = .ok (.getfield 79, 3) := by decide +kernel
theorem dX0_readRow_104 : decode cX0_readRow 104 = .ok (.iload_n 1, 1) := by decide +kernel
theorem dX0_readRow_105 : decode cX0_readRow 105 = .ok (.iaload, 1) := by decide +kernel
theorem dX0_readRow_106 : decode cX0_readRow 106 = .ok (.if_icmp .ne 11, 3) := by decide +kernel
theorem dX0_readRow_109 : decode cX0_readRow 109 = .ok (.aload_n 0, 1) := by decide +kernel
theorem dX0_readRow_110 : decode cX0_readRow 110 = .ok (.iload 5, 2) := by decide +kernel
theorem dX0_readRow_112 : decode cX0_readRow 112 = .ok (.aload 4, 2) := by decide +kernel
theorem dX0_readRow_114 : decode cX0_readRow 114 = .ok (.invokevirtual 82, 3) := by decide +kernel
theorem dX0_readRow_117 : decode cX0_readRow 117 = .ok (.iinc 5 1, 3) := by decide +kernel
theorem dX0_readRow_120 : decode cX0_readRow 120 = .ok (.goto (-51), 3) := by decide +kernel
theorem dX0_readRow_123 : decode cX0_readRow 123 = .ok (.return_, 1) := by decide +kernel
theorem wk_14 : Cond.initialized RX0 ∈ tl_L := List.mem_filter.mpr ⟨lw_m1 (i := 2) rfl, rfl⟩
theorem wk_61 : Cond.fieldLink RX0 18 "ThinLine$Book" "rows" "LThinLine$Rows;" ∈ tl_L := List.mem_filter.mpr ⟨lw_m1 (i := 102) rfl, rfl⟩
theorem wk_833 : Cond.constant RX0 78 (-1000000) ∈ tl_L := List.mem_filter.mpr ⟨lw_m4 (i := 117) rfl, rfl⟩
theorem wk_834 : Cond.methodLink RX0 82 yX0_takeOff ∈ tl_L := List.mem_filter.mpr ⟨lw_m4 (i := 118) rfl, rfl⟩
theorem wk_835 : Cond.instanceMethod yX0_takeOff ∈ tl_L := List.mem_filter.mpr ⟨lw_m4 (i := 120) rfl, rfl⟩
theorem wk_836 : Cond.selects RX0 yX0_takeOff yX0_takeOff ∈ tl_L := List.mem_filter.mpr ⟨lw_s4 (i := 3) (q := (yX0_takeOff, 9)) rfl, rfl⟩
theorem wk_837 : Cond.code yX0_takeOff cX0_takeOff 6 none ∈ tl_L := List.mem_filter.mpr ⟨lw_m4 (i := 121) rfl, rfl⟩
theorem nk_6 : tl_N[6]? = some (Cond.fieldLinkNest "ThinLine$Book" 79 "ThinLine$Rows" "glass" "[I" "ThinLine") := by decide +kernel
theorem nk_11 : tl_N[11]? = some (Cond.fieldLinkNest "ThinLine$Book" 74 "ThinLine$Rows" "raw" "[[I" "ThinLine") := by decide +kernel
theorem lk_X0_70 : tl_kVN RX0 70 RX4 yX4_has "ThinLine" cX4_has 2 (some .boolean) 1 108 := ⟨wk_233, by decide +kernel, wk_231, wk_232, wk_60, ⟨by decide +kernel, by decide +kernel, by decide +kernel⟩⟩
theorem lk_X0_82 : tl_kV RX0 82 RX0 yX0_takeOff cX0_takeOff 6 none 2 := ⟨wk_837, wk_834, wk_835, wk_836, wk_14, ⟨by decide +kernel, by decide +kernel, by decide +kernel⟩⟩
set_option maxHeartbeats 4000000 in
set_option maxRecDepth 100000 in
theorem t_X0_byteAt (l : Launch) (D : va_G) (cy : Nat → ClassId) (sz : Nat) (L : List Nat) (K : Nat → tk_K) (Γ : tk_G) (f : Nat → va_E) (w : Nat) (o : Nat) (p0 : Int32) (ho : tp_r L K 1 (0) w o) : Met l yX0_byteAt (tl_w yX0_byteAt cX0_byteAt 2 (some .int)) ({ frames := 0, cells := 0, slots := 0, locals := 0 }) (va_Pc [.ref o, .int p0] (tp_P D cy L K Γ f sz)) (vp_Si (fun r : Int32 => True)) 0 0 (fun _ => False) := by
  refine Met.ofW (cc := cX0_byteAt) (maxL := 2) (ret := (some .int)) (by decide) rfl ?_
  intro p e s m args below meth c s₁ B hml hv
  obtain ⟨rfl, hsz, hP, hK, hL, hI, hN, hU⟩ := hv
  have hx := B.exec
  have hb := B.bytes
  have hr := B.returns
  have hta := tl_hta (atoms_spec (ws := tl_w yX0_byteAt cX0_byteAt 2 (some .int)) B.pre)
  have hown : s.vm.findClass RX0 = some m.cls := findClass_of_methodNamed B.named
  have hlocks := B.notSynchronized
  subst hsz
  have hI0 := hI
  have hl := lv_entry ([.ref o, .int p0]) (n := 2) (Nat.le_of_ble_eq_true rfl)
  rw [lg_entry_eq]
  generalize (lg_sl ([.ref o, .int p0]) ++ List.replicate (2 - (lg_sl ([.ref o, .int p0])).length) Slot.unset).toArray = ls at hl ⊢
  have hl : lv_has ls 2 [(0, .ref o), (1, .int p0)] := hl
  refine lv_iload_n hx hb dX0_byteAt_0 rfl (lv_at hl 1 rfl) ?_
  refine lv_if_lt (tgt := 28) hx hb dX0_byteAt_1 (by decide) (fun c_1 => ?_) (fun c_1 => ?_)
  · have c_1 : p0.toInt < (0 : Int) := tl_lt c_1
    refine lv_iconst (v := (-1)) hx hb dX0_byteAt_28 (by decide) ?_
    exact W.iret (v := (-1)) hx hb hr (fun t ht hW => ⟨_, rfl, trivial, ht⟩) (fun q h => by cases h) dX0_byteAt_29
  · have c_1 : (0 : Int) ≤ p0.toInt := tl_nlt c_1
    refine lv_iload_n hx hb dX0_byteAt_4 rfl (lv_at hl 1 rfl) ?_
    refine lv_aload_n hx hb dX0_byteAt_5 rfl (lv_at hl 0 rfl) ?_
    obtain ⟨x_3, x_4, x_5, x_6, x_7, x_8, x_9, x_10, x_11, hf_2, hx_3, hx_4, hx_5, hx_6, hx_7, hx_8, hx_9, hx_10, hx_11⟩ := (show tp_o_BOOK L K (0) w (Γ (1, 0, w)) (f o) from hI0.at ho)
    refine tp_get (cy := cy) (ci := 0) (v := .int x_11) (C := RX0) (T := TX0) (N := 9) hx hb hta inlX0 hown hK hP ho.1 hf_2 rfl 8 (by decide) (hta _ wk_342) (fun _ h9 => h9) rfl dX0_byteAt_6 ?_
    refine lv_icmp_ge (tgt := 28) hx hb dX0_byteAt_9 (by decide) (fun c_12 => ?_) (fun c_12 => ?_)
    · have c_12 : x_11.toInt ≤ p0.toInt := tl_le c_12
      refine lv_iconst (v := (-1)) hx hb dX0_byteAt_28 (by decide) ?_
      exact W.iret (v := (-1)) hx hb hr (fun t ht hW => ⟨_, rfl, trivial, ht⟩) (fun q h => by cases h) dX0_byteAt_29
    · have c_12 : p0.toInt < x_11.toInt := tl_nle c_12
      refine lv_iload_n hx hb dX0_byteAt_12 rfl (lv_at hl 1 rfl) ?_
      refine lv_sipush (v := 400) hx hb dX0_byteAt_13 (by decide) ?_
      refine lv_icmp_ge (tgt := 28) hx hb dX0_byteAt_16 (by decide) (fun c_13 => ?_) (fun c_13 => ?_)
      · have c_13 : (400 : Int) ≤ p0.toInt := tl_le c_13
        refine lv_iconst (v := (-1)) hx hb dX0_byteAt_28 (by decide) ?_
        exact W.iret (v := (-1)) hx hb hr (fun t ht hW => ⟨_, rfl, trivial, ht⟩) (fun q h => by cases h) dX0_byteAt_29
      · have c_13 : p0.toInt < (400 : Int) := tl_nle c_13
        refine lv_aload_n hx hb dX0_byteAt_19 rfl (lv_at hl 0 rfl) ?_
        refine tp_get (cy := cy) (ci := 0) (v := .ref x_10) (C := RX0) (T := TX0) (N := 9) hx hb hta inlX0 hown hK hP ho.1 hf_2 rfl 7 (by decide) (hta _ wk_69) (fun _ h9 => h9) rfl dX0_byteAt_20 ?_
        refine lv_iload_n hx hb dX0_byteAt_23 rfl (lv_at hl 1 rfl) ?_
        obtain ⟨g_15, hf_14, hg_16⟩ := (show tp_ai cy 11 (400) (f x_10) from hI0.at hx_10)
        have hn_17 : vp_in p0 (400) := tl_in (by omega) (by omega)
        refine tp_iald (cy := cy) hx hb hK hP hx_10.1 hf_14 hn_17 dX0_byteAt_24 ?_
        refine lv_topi (fun z_18 ez_18 => ?_)
        refine lv_goto (tgt := 29) hx hb dX0_byteAt_25 (by decide) ?_
        exact W.iret (v := z_18) hx hb hr (fun t ht hW => ⟨_, rfl, trivial, ht⟩) (fun q h => by cases h) dX0_byteAt_29
set_option maxHeartbeats 4000000 in
set_option maxRecDepth 100000 in
theorem t_X0_append (l : Launch) (D : va_G) (cy : Nat → ClassId) (sz : Nat) (L : List Nat) (K : Nat → tk_K) (Γ : tk_G) (f : Nat → va_E) (w : Nat) (o : Nat) (p0 : Int32) (ho : tp_r L K 1 (0) w o) : Met l yX0_append (tl_w yX0_append cX0_append 3 none) ({ frames := 0, cells := 0, slots := 0, locals := 0 }) (va_Pc [.ref o, .int p0] (tp_P D cy L K Γ f sz)) (va_Qv (fun (u : Nat → va_E) => True) (tp_B D cy L K Γ f [1, 11]) (tp_A L sz)) 0 0 (tp_A L sz) := by
  refine Met.ofW (cc := cX0_append) (maxL := 3) (ret := none) (by decide) rfl ?_
  intro p e s m args below meth c s₁ B hml hv
  obtain ⟨rfl, hsz, hP, hK, hL, hI, hN, hU⟩ := hv
  have hx := B.exec
  have hb := B.bytes
  have hr := B.returns
  have hta := tl_hta (atoms_spec (ws := tl_w yX0_append cX0_append 3 none) B.pre)
  have hown : s.vm.findClass RX0 = some m.cls := findClass_of_methodNamed B.named
  have hlocks := B.notSynchronized
  subst hsz
  have hI0 := hI
  generalize hAe : tp_A L s.heap.size = A
  have hA : ∀ q : Nat, s.heap.size ≤ q → A q := fun q h => by rw [← hAe]; exact Or.inr h
  have hAL : ∀ q ∈ L, A q := fun q h => by rw [← hAe]; exact Or.inl h
  have hAf : ∀ (H : Heap), s.heap.size ≤ H.size → ∀ q, tp_A L H.size q → A q := fun H h q hq => hq.elim (hAL q) (fun h2 => hA q (Nat.le_trans h h2))
  have hS : va_S A s.heap s.heap [] := va_S.rf
  have hD : va_D A (va_pl L f) := tp_D hL hAL
  have hfr : ∀ b, (K b).1 ∉ ([1, 11] : List Nat) → f b = f b := fun _ _ => rfl
  have hl := lv_entry ([.ref o, .int p0]) (n := 3) (Nat.le_of_ble_eq_true rfl)
  rw [lg_entry_eq]
  generalize (lg_sl ([.ref o, .int p0]) ++ List.replicate (3 - (lg_sl ([.ref o, .int p0])).length) Slot.unset).toArray = ls at hl ⊢
  have hl : lv_has ls 3 [(0, .ref o), (1, .int p0)] := hl
  refine lv_bipush (v := 24) hx hb dX0_append_0 (by decide) ?_
  refine lv_istore_n (lv' := [(2, .int 24), (0, .ref o), (1, .int p0)]) hx hb dX0_append_2 rfl hl (by decide) rfl (fun ls hl => ?_)
  refine tq_start hP hS (fun H locs hP hS => ?_)
  refine tl_ind (G := fun H locs ls => W p l e ((headSpec (tl_w yX0_append cX0_append 3 none) ({ frames := 0, cells := 0, slots := 0, locals := 0 })).room) s m #[.ref o, .int p0] below meth c H locs 0 0 (MQ below (va_Qv (fun (u : Nat → va_E) => True) (tp_B D cy L K Γ f [1, 11]) A) #[.ref o, .int p0] s 0 0 A) (F0 m 3 ls [])) (α := (Nat → va_E) × Int32) (fun aq => (aq.2.toInt + 8).toNat) (fun aq H locs ls => (-8 ≤ aq.2.toInt ∧ aq.2.toInt ≤ 24) ∧ va_P D vwCl (va_pl L aq.1) H ∧ tp_I cy L K Γ aq.1 ∧ (∀ b, (K b).1 ∉ ([1, 11] : List Nat) → aq.1 b = f b) ∧ va_S A s.heap H locs ∧ lv_has ls 3 [(2, .int aq.2), (0, .ref o), (1, .int p0)]) ?_ (f, (24 : Int32)) H locs ls ⟨(show -8 ≤ (24 : Int) ∧ (24 : Int) ≤ 24 from (by omega)), hP, hI, hfr, hS, lv_sub hl [0, 1, 2] rfl⟩
  rintro ⟨f_1, v2⟩ H locs ls ⟨h0, hP, hI, hfr, hS, hl⟩ ih3
  have hP : va_P D vwCl (va_pl L f_1) H := hP
  have hI : tp_I cy L K Γ f_1 := hI
  have hfr : ∀ b, (K b).1 ∉ ([1, 11] : List Nat) → f_1 b = f b := hfr
  have hD : va_D A (va_pl L f_1) := tp_D hL hAL
  have h0 : -8 ≤ v2.toInt ∧ v2.toInt ≤ 24 := h0
  have hl : lv_has ls 3 [(2, .int v2), (0, .ref o), (1, .int p0)] := hl
  refine lv_iload_n hx hb dX0_append_3 rfl (lv_at hl 0 rfl) ?_
  refine lv_if_lt (tgt := 49) hx hb dX0_append_4 (by decide) (fun c_2 => ?_) (fun c_2 => ?_)
  · have c_2 : v2.toInt < (0 : Int) := tl_lt c_2
    exact W.vret hx hb hr (fun t ht hW => ⟨⟨f_1, rfl, trivial, by rw [ht]; exact hP, hI, hfr⟩, hS.F ht⟩) hS.2.2 dX0_append_49
  · have c_2 : (0 : Int) ≤ v2.toInt := tl_nlt c_2
    refine lv_aload_n hx hb dX0_append_7 rfl (lv_at hl 1 rfl) ?_
    obtain ⟨x_4, x_5, x_6, x_7, x_8, x_9, x_10, x_11, x_12, hf_3, hx_4, hx_5, hx_6, hx_7, hx_8, hx_9, hx_10, hx_11, hx_12⟩ := (show tp_o_BOOK L K (0) w (Γ (1, 0, w)) (f_1 o) from hI.at ho)
    refine tp_get (cy := cy) (ci := 0) (v := .int x_12) (C := RX0) (T := TX0) (N := 9) hx hb hta inlX0 hown hK hP ho.1 hf_3 rfl 8 (by decide) (hta _ wk_342) (fun _ h9 => h9) rfl dX0_append_8 ?_
    refine lv_sipush (v := 400) hx hb dX0_append_11 (by decide) ?_
    refine lv_icmp_ge (tgt := 49) hx hb dX0_append_14 (by decide) (fun c_13 => ?_) (fun c_13 => ?_)
    · have c_13 : (400 : Int) ≤ x_12.toInt := tl_le c_13
      exact W.vret hx hb hr (fun t ht hW => ⟨⟨f_1, rfl, trivial, by rw [ht]; exact hP, hI, hfr⟩, hS.F ht⟩) hS.2.2 dX0_append_49
    · have c_13 : x_12.toInt < (400 : Int) := tl_nle c_13
      refine lv_aload_n hx hb dX0_append_17 rfl (lv_at hl 1 rfl) ?_
      refine tp_get (cy := cy) (ci := 0) (v := .ref x_11) (C := RX0) (T := TX0) (N := 9) hx hb hta inlX0 hown hK hP ho.1 hf_3 rfl 7 (by decide) (hta _ wk_69) (fun _ h9 => h9) rfl dX0_append_18 ?_
      refine lv_aload_n hx hb dX0_append_21 rfl (lv_at hl 1 rfl) ?_
      refine tp_get (cy := cy) (ci := 0) (v := .int x_12) (C := RX0) (T := TX0) (N := 9) hx hb hta inlX0 hown hK hP ho.1 hf_3 rfl 8 (by decide) (hta _ wk_342) (fun _ h9 => h9) rfl dX0_append_22 ?_
      refine lv_iload_n hx hb dX0_append_25 rfl (lv_at hl 2 rfl) ?_
      refine lv_iload_n hx hb dX0_append_26 rfl (lv_at hl 0 rfl) ?_
      refine lv_ishr hx hb dX0_append_27 ?_
      refine lv_topi (fun z_14 ez_14 => ?_)
      refine lv_sipush (v := 255) hx hb dX0_append_28 (by decide) ?_
      refine lv_iand hx hb dX0_append_31 ?_
      refine lv_topi (fun z_15 ez_15 => ?_)
      obtain ⟨g_17, hf_16, hg_18⟩ := (show tp_ai cy 11 (400) (f_1 x_11) from hI.at hx_11)
      have hn_19 : vp_in x_12 (400) := tl_in (by omega) (by omega)
      have hI9 : tp_I cy L K Γ (va_up f_1 x_11 (.inl (cy 0, 400, .inl (upd g_17 x_12.toNatClampNeg z_15)))) := hI.set hx_11 (show tp_ai cy 11 (400) _ from ⟨_, rfl, tp_pi_upd hg_18 trivial⟩)
      have hfr9 : ∀ b, (K b).1 ∉ ([1, 11] : List Nat) → va_up f_1 x_11 (.inl (cy 0, 400, .inl (upd g_17 x_12.toNatClampNeg z_15))) b = f b := tp_fr hfr hx_11 (by decide)
      refine tp_iast (cy := cy) hx hb hK hP hD hS hx_11.1 hf_16 hn_19 dX0_append_32 (fun H locs hP hD hS => ?_)
      have hP : va_P D vwCl (va_pl L (va_up f_1 x_11 (.inl (cy 0, 400, .inl (upd g_17 x_12.toNatClampNeg z_15))))) H := hP
      generalize hfe : va_up f_1 x_11 (.inl (cy 0, 400, .inl (upd g_17 x_12.toNatClampNeg z_15))) = f_20 at hP hI9 hfr9
      have hD : va_D A (va_pl L f_20) := tp_D hL hAL
      have hf_21 := (show f_20 o = _ from by rw [← hfe, va_up_ne _ _ (tp_ne ho hx_11 (by decide))]).trans hf_3
      have hf_22 : f_20 x_11 = .inl (cy 0, 400, .inl (upd g_17 x_12.toNatClampNeg z_15)) := by rw [← hfe]; exact va_up_self _ _ _
      clear hfe
      have hI := hI9
      have hfr := hfr9
      clear hI9 hfr9
      refine lv_aload_n hx hb dX0_append_33 rfl (lv_at hl 1 rfl) ?_
      refine lv_dup hx hb dX0_append_34 rfl ?_
      refine tp_get (cy := cy) (ci := 0) (v := .int x_12) (C := RX0) (T := TX0) (N := 9) hx hb hta inlX0 hown hK hP ho.1 hf_21 rfl 8 (by decide) (hta _ wk_342) (fun _ h9 => h9) rfl dX0_append_35 ?_
      refine lv_iconst (v := 1) hx hb dX0_append_38 (by decide) ?_
      refine lv_iadd hx hb dX0_append_39 ?_
      refine lv_topi (fun z_23 ez_23 => ?_)
      try have iz_23 : z_23.toInt = x_12.toInt + (1 : Int) := by rw [ez_23]; exact tl_addN x_12 1 rfl rfl (by omega) (by omega)
      have hI9 : tp_I cy L K Γ (va_up f_20 o (.inr (0, [.int x_4, .ref x_5, .ref x_6, .ref x_7, .ref x_8, .ref x_9, .ref x_10, .ref x_11, .int z_23]))) := hI.set ho (show tp_o_BOOK L K (0) w (Γ (1, 0, w)) _ from ⟨x_4, x_5, x_6, x_7, x_8, x_9, x_10, x_11, z_23, rfl, (show x_4.toInt = (Γ (1, 0, w)) 0 from by omega), hx_5, hx_6, hx_7, hx_8, hx_9, hx_10, hx_11, (show 0 ≤ z_23.toInt ∧ z_23.toInt ≤ 400 from by omega)⟩)
      have hfr9 : ∀ b, (K b).1 ∉ ([1, 11] : List Nat) → va_up f_20 o (.inr (0, [.int x_4, .ref x_5, .ref x_6, .ref x_7, .ref x_8, .ref x_9, .ref x_10, .ref x_11, .int z_23])) b = f b := tp_fr hfr ho (by decide)
      refine tp_put (cy := cy) (ci := 0) (v := .int z_23) (ty := tyX0 8) (C := RX0) (T := TX0) (N := 9) hx hb hta inlX0 tyX0 tyX0_ok nmX0 hown hK hP hD hS ho.1 hf_21 rfl 8 (by decide) (hta _ wk_342) (fun _ h9 => h9) rfl (tyX0_ok 8 (by decide)) rfl rfl (Nat.le_of_ble_eq_true rfl) dX0_append_40 (fun H locs hP hD hS => ?_)
      have hP : va_P D vwCl (va_pl L (va_up f_20 o (.inr (0, [.int x_4, .ref x_5, .ref x_6, .ref x_7, .ref x_8, .ref x_9, .ref x_10, .ref x_11, .int z_23])))) H := hP
      generalize hfe : va_up f_20 o (.inr (0, [.int x_4, .ref x_5, .ref x_6, .ref x_7, .ref x_8, .ref x_9, .ref x_10, .ref x_11, .int z_23])) = f_24 at hP hI9 hfr9
      have hD : va_D A (va_pl L f_24) := tp_D hL hAL
      have hf_25 : f_24 o = .inr (0, [.int x_4, .ref x_5, .ref x_6, .ref x_7, .ref x_8, .ref x_9, .ref x_10, .ref x_11, .int z_23]) := by rw [← hfe]; exact va_up_self _ _ _
      clear hfe
      have hI := hI9
      have hfr := hfr9
      clear hI9 hfr9
      obtain ⟨z_26, ez_26⟩ : ∃ y : Int32, y = v2 + (-8) := ⟨_, rfl⟩
      refine lv_iinc (v := z_26) (lv' := [(2, .int z_26), (0, .ref o), (1, .int p0)]) hx hb dX0_append_43 hl (k := 0) rfl (by rw [ez_26]; rfl) (by decide) rfl (fun ls hl => ?_)
      try have iz_26 : z_26.toInt = v2.toInt + -8 := by rw [ez_26]; exact tl_addL v2 (-8) (by decide) (by omega) (by omega)
      refine lv_goto (tgt := 3) hx hb dX0_append_46 (by decide) ?_
      exact ih3 (f_24, z_26) H locs ls (by show (z_26.toInt + 8).toNat < (v2.toInt + 8).toNat; omega) ⟨(show -8 ≤ z_26.toInt ∧ z_26.toInt ≤ 24 from (by omega)), hP, hI, hfr, hS, lv_sub hl [0, 1, 2] rfl⟩
set_option maxHeartbeats 4000000 in
set_option maxRecDepth 100000 in
theorem t_X0_hasLine (l : Launch) (D : va_G) (cy : Nat → ClassId) (sz : Nat) (L : List Nat) (K : Nat → tk_K) (Γ : tk_G) (f : Nat → va_E) (w : Nat) (o : Nat) (p0 : Int32) (p1 : Int32) (ho : tp_r L K 1 (0) w o) : Met l yX0_hasLine (tl_w yX0_hasLine cX0_hasLine 5 (some .boolean)) ({ frames := 1, cells := 0, slots := 0, locals := 23 }) (va_Pc [.ref o, .int p0, .int p1] (tp_P D cy L K Γ f sz)) (vp_Si (fun r : Int32 => tl_E r (tm_hasL (Γ (8, 4 * 60, w)) (Γ (7, 60, w) 0).toNat p0.toInt p1.toInt) 1 0)) 0 0 (fun _ => False) := by
  refine Met.ofW (cc := cX0_hasLine) (maxL := 5) (ret := (some .boolean)) (by decide) rfl ?_
  intro p e s m args below meth c s₁ B hml hv
  obtain ⟨rfl, hsz, hP, hK, hL, hI, hN, hU⟩ := hv
  have hx := B.exec
  have hb := B.bytes
  have hr := B.returns
  have hta := tl_hta (atoms_spec (ws := tl_w yX0_hasLine cX0_hasLine 5 (some .boolean)) B.pre)
  have hown : s.vm.findClass RX0 = some m.cls := findClass_of_methodNamed B.named
  have hlocks := B.notSynchronized
  subst hsz
  have hI0 := hI
  have hl := lv_entry ([.ref o, .int p0, .int p1]) (n := 5) (Nat.le_of_ble_eq_true rfl)
  rw [lg_entry_eq]
  generalize (lg_sl ([.ref o, .int p0, .int p1]) ++ List.replicate (5 - (lg_sl ([.ref o, .int p0, .int p1])).length) Slot.unset).toArray = ls at hl ⊢
  have hl : lv_has ls 5 [(0, .ref o), (1, .int p0), (2, .int p1)] := hl
  refine lv_iconst (v := 0) hx hb dX0_hasLine_0 (by decide) ?_
  refine lv_istore_n (lv' := [(3, .int 0), (0, .ref o), (1, .int p0), (2, .int p1)]) hx hb dX0_hasLine_1 rfl hl (by decide) rfl (fun ls hl => ?_)
  refine lv_iconst (v := 0) hx hb dX0_hasLine_2 (by decide) ?_
  refine lv_istore (lv' := [(4, .int 0), (3, .int 0), (0, .ref o), (1, .int p0), (2, .int p1)]) hx hb dX0_hasLine_3 hl (by decide) rfl (fun ls hl => ?_)
  refine tl_indR (G := fun ls => W p l e ((headSpec (tl_w yX0_hasLine cX0_hasLine 5 (some .boolean)) ({ frames := 1, cells := 0, slots := 0, locals := 23 })).room) s m #[.ref o, .int p0, .int p1] below meth c s.heap [] 0 0 (MQ below (vp_Si (fun r : Int32 => tl_E r (tm_hasL (Γ (8, 4 * 60, w)) (Γ (7, 60, w) 0).toNat p0.toInt p1.toInt) 1 0)) #[.ref o, .int p0, .int p1] s 0 0 (fun _ => False)) (F0 m 5 ls [])) (α := Int32 × Int32) (fun aq => (61 - aq.1.toInt).toNat) (fun aq ls => (0 ≤ aq.1.toInt ∧ (aq.1.toInt ≤ Γ (7, 60, w) 0 ∨ aq.1.toInt = 0)) ∧ (tl_E aq.2 (tm_hasL (Γ (8, 4 * 60, w)) aq.1.toInt.toNat p0.toInt p1.toInt) 1 0) ∧ lv_has ls 5 [(4, .int aq.1), (3, .int aq.2), (0, .ref o), (1, .int p0), (2, .int p1)]) ?_ ((0 : Int32), (0 : Int32)) ls ⟨(show 0 ≤ (0 : Int) ∧ ((0 : Int) ≤ Γ (7, 60, w) 0 ∨ (0 : Int) = 0) from (by omega)), (show tl_E 0 (tm_hasL (Γ (8, 4 * 60, w)) (0 : Int).toNat p0.toInt p1.toInt) 1 0 from (Or.inr ⟨tm_hasL0, rfl⟩)), lv_sub hl [0, 1, 2, 3, 4] rfl⟩
  rintro ⟨v4, v3⟩ ls ⟨h0, hj, hl⟩ ih5
  have h0 : 0 ≤ v4.toInt ∧ (v4.toInt ≤ Γ (7, 60, w) 0 ∨ v4.toInt = 0) := h0
  have hj : tl_E v3 (tm_hasL (Γ (8, 4 * 60, w)) v4.toInt.toNat p0.toInt p1.toInt) 1 0 := hj
  have hl : lv_has ls 5 [(4, .int v4), (3, .int v3), (0, .ref o), (1, .int p0), (2, .int p1)] := hl
  refine lv_iload hx hb dX0_hasLine_5 (lv_at hl 0 rfl) ?_
  refine lv_aload_n hx hb dX0_hasLine_7 rfl (lv_at hl 2 rfl) ?_
  obtain ⟨x_2, x_3, x_4, x_5, x_6, x_7, x_8, x_9, x_10, hf_1, hx_2, hx_3, hx_4, hx_5, hx_6, hx_7, hx_8, hx_9, hx_10⟩ := (show tp_o_BOOK L K (0) w (Γ (1, 0, w)) (f o) from hI0.at ho)
  refine tp_get (cy := cy) (ci := 0) (v := .ref x_6) (C := RX0) (T := TX0) (N := 9) hx hb hta inlX0 hown hK hP ho.1 hf_1 rfl 4 (by decide) (hta _ wk_66) (fun _ h9 => h9) rfl dX0_hasLine_8 ?_
  obtain ⟨x_12, x_13, x_14, hf_11, hx_12, hx_13, hx_14⟩ := (show tp_o_TABLE L K (60) w (Γ (7, 60, w)) (f x_6) from hI0.at hx_6)
  refine tp_getN (cy := cy) (ci := 6) (v := .int x_14) (C := RX6) (T := TX6) (N := 3) hx hb hta inlX6 hown hK hP hx_6.1 hf_11 rfl 2 (by decide) (va_Nw.use rfl (hN.1 14 _ nk_14)) (fun _ h9 => h9) rfl dX0_hasLine_11 ?_
  refine lv_icmp_ge (tgt := 59) hx hb dX0_hasLine_14 (by decide) (fun c_15 => ?_) (fun c_15 => ?_)
  · have c_15 : x_14.toInt ≤ v4.toInt := tl_le c_15
    refine lv_iload_n hx hb dX0_hasLine_59 rfl (lv_at hl 1 rfl) ?_
    exact W.zret (ty := .boolean) (v := v3) hx hb hr hj.nar (fun t ht hW => ⟨_, rfl, (by rw [show Γ (7, 60, w) 0 = v4.toInt from by omega]; exact hj), ht⟩) (fun q h => by cases h) dX0_hasLine_60
  · have c_15 : v4.toInt < x_14.toInt := tl_nle c_15
    refine lv_iload_n hx hb dX0_hasLine_17 rfl (lv_at hl 1 rfl) ?_
    refine lv_aload_n hx hb dX0_hasLine_18 rfl (lv_at hl 2 rfl) ?_
    refine tp_get (cy := cy) (ci := 0) (v := .ref x_6) (C := RX0) (T := TX0) (N := 9) hx hb hta inlX0 hown hK hP ho.1 hf_1 rfl 4 (by decide) (hta _ wk_66) (fun _ h9 => h9) rfl dX0_hasLine_19 ?_
    refine lv_iload hx hb dX0_hasLine_22 (lv_at hl 0 rfl) ?_
    refine lv_iconst (v := 0) hx hb dX0_hasLine_24 (by decide) ?_
    refine tl_si (tq_rVN hN (As := [.int v4, .int 0]) (rest := [.int v3]) ⟨hx, hb, hml, hown, hta⟩ (tp_P.pre hK hN hL hU hI hP) (tp_recv hK hP hx_6.1 hf_11 rfl) lk_X0_66 (tx_cell l D cy s.heap.size L K Γ f 60 w x_6 v4 0 hx_6 (by first | omega | (simp only [Int32.toInt_toInt64]; omega) | decide | assumption) (by first | omega | (simp only [Int32.toInt_toInt64]; omega) | decide | assumption) (by first | omega | (simp only [Int32.toInt_toInt64]; omega) | decide | assumption)) rfl rfl ⟨Nat.le_of_ble_eq_true rfl, Nat.le_of_ble_eq_true rfl⟩ rfl hl.1 rfl (Nat.le_of_ble_eq_true rfl) dX0_hasLine_25 ⟨Nat.le_of_ble_eq_true rfl, Nat.le_of_ble_eq_true rfl⟩) (fun r_17 hw_16 => ?_)
    have hw_16 : r_17.toInt = Γ (8, 4 * 60, w) (4 * v4.toInt + (0 : Int)).toNat := hw_16
    refine lv_iload_n hx hb dX0_hasLine_28 rfl (lv_at hl 3 rfl) ?_
    refine lv_icmp_ne (tgt := 50) hx hb dX0_hasLine_29 (by decide) (fun c_18 => ?_) (fun c_18 => ?_)
    · have c_18 : ¬ r_17.toInt = p0.toInt := tl_neq c_18
      refine lv_iconst (v := 0) hx hb dX0_hasLine_50 (by decide) ?_
      refine lv_ior hx hb dX0_hasLine_51 ?_
      refine lv_topi (fun z_19 ez_19 => ?_)
      refine lv_istore_n (lv' := [(3, .int z_19), (4, .int v4), (0, .ref o), (1, .int p0), (2, .int p1)]) hx hb dX0_hasLine_52 rfl hl (by decide) rfl (fun ls hl => ?_)
      obtain ⟨z_20, ez_20⟩ : ∃ y : Int32, y = v4 + 1 := ⟨_, rfl⟩
      refine lv_iinc (v := z_20) (lv' := [(4, .int z_20), (3, .int z_19), (0, .ref o), (1, .int p0), (2, .int p1)]) hx hb dX0_hasLine_53 hl (k := 1) rfl (by rw [ez_20]; rfl) (by decide) rfl (fun ls hl => ?_)
      try have iz_20 : z_20.toInt = v4.toInt + 1 := by rw [ez_20]; exact tl_addL v4 1 (by decide) (by omega) (by omega)
      refine lv_goto (tgt := 5) hx hb dX0_hasLine_56 (by decide) ?_
      exact ih5 (z_20, z_19) ls (by show (61 - z_20.toInt).toNat < (61 - v4.toInt).toNat; omega) ⟨(show 0 ≤ z_20.toInt ∧ (z_20.toInt ≤ Γ (7, 60, w) 0 ∨ z_20.toInt = 0) from (by omega)), (show tl_E z_19 (tm_hasL (Γ (8, 4 * 60, w)) z_20.toInt.toNat p0.toInt p1.toInt) 1 0 from (by first | exact tl_Eor0 hj ez_19 ((tm_hasLs h0.1 (by omega)).trans (or_iff_left (fun q => by omega))) | exact tl_Eor1 hj ez_19 ((tm_hasLs h0.1 (by omega)).mpr (Or.inr ⟨by omega, by omega⟩)))), lv_sub hl [0, 1, 2, 3, 4] rfl⟩
    · have c_18 : r_17.toInt = p0.toInt := tl_eq c_18
      refine lv_aload_n hx hb dX0_hasLine_32 rfl (lv_at hl 2 rfl) ?_
      refine tp_get (cy := cy) (ci := 0) (v := .ref x_6) (C := RX0) (T := TX0) (N := 9) hx hb hta inlX0 hown hK hP ho.1 hf_1 rfl 4 (by decide) (hta _ wk_66) (fun _ h9 => h9) rfl dX0_hasLine_33 ?_
      refine lv_iload hx hb dX0_hasLine_36 (lv_at hl 0 rfl) ?_
      refine lv_iconst (v := 1) hx hb dX0_hasLine_38 (by decide) ?_
      refine tl_si (tq_rVN hN (As := [.int v4, .int 1]) (rest := [.int v3]) ⟨hx, hb, hml, hown, hta⟩ (tp_P.pre hK hN hL hU hI hP) (tp_recv hK hP hx_6.1 hf_11 rfl) lk_X0_66 (tx_cell l D cy s.heap.size L K Γ f 60 w x_6 v4 1 hx_6 (by first | omega | (simp only [Int32.toInt_toInt64]; omega) | decide | assumption) (by first | omega | (simp only [Int32.toInt_toInt64]; omega) | decide | assumption) (by first | omega | (simp only [Int32.toInt_toInt64]; omega) | decide | assumption)) rfl rfl ⟨Nat.le_of_ble_eq_true rfl, Nat.le_of_ble_eq_true rfl⟩ rfl hl.1 rfl (Nat.le_of_ble_eq_true rfl) dX0_hasLine_39 ⟨Nat.le_of_ble_eq_true rfl, Nat.le_of_ble_eq_true rfl⟩) (fun r_22 hw_21 => ?_)
      have hw_21 : r_22.toInt = Γ (8, 4 * 60, w) (4 * v4.toInt + (1 : Int)).toNat := hw_21
      refine lv_iload_n hx hb dX0_hasLine_42 rfl (lv_at hl 4 rfl) ?_
      refine lv_icmp_ne (tgt := 50) hx hb dX0_hasLine_43 (by decide) (fun c_23 => ?_) (fun c_23 => ?_)
      · have c_23 : ¬ r_22.toInt = p1.toInt := tl_neq c_23
        refine lv_iconst (v := 0) hx hb dX0_hasLine_50 (by decide) ?_
        refine lv_ior hx hb dX0_hasLine_51 ?_
        refine lv_topi (fun z_24 ez_24 => ?_)
        refine lv_istore_n (lv' := [(3, .int z_24), (4, .int v4), (0, .ref o), (1, .int p0), (2, .int p1)]) hx hb dX0_hasLine_52 rfl hl (by decide) rfl (fun ls hl => ?_)
        obtain ⟨z_25, ez_25⟩ : ∃ y : Int32, y = v4 + 1 := ⟨_, rfl⟩
        refine lv_iinc (v := z_25) (lv' := [(4, .int z_25), (3, .int z_24), (0, .ref o), (1, .int p0), (2, .int p1)]) hx hb dX0_hasLine_53 hl (k := 1) rfl (by rw [ez_25]; rfl) (by decide) rfl (fun ls hl => ?_)
        try have iz_25 : z_25.toInt = v4.toInt + 1 := by rw [ez_25]; exact tl_addL v4 1 (by decide) (by omega) (by omega)
        refine lv_goto (tgt := 5) hx hb dX0_hasLine_56 (by decide) ?_
        exact ih5 (z_25, z_24) ls (by show (61 - z_25.toInt).toNat < (61 - v4.toInt).toNat; omega) ⟨(show 0 ≤ z_25.toInt ∧ (z_25.toInt ≤ Γ (7, 60, w) 0 ∨ z_25.toInt = 0) from (by omega)), (show tl_E z_24 (tm_hasL (Γ (8, 4 * 60, w)) z_25.toInt.toNat p0.toInt p1.toInt) 1 0 from (by first | exact tl_Eor0 hj ez_24 ((tm_hasLs h0.1 (by omega)).trans (or_iff_left (fun q => by omega))) | exact tl_Eor1 hj ez_24 ((tm_hasLs h0.1 (by omega)).mpr (Or.inr ⟨by omega, by omega⟩)))), lv_sub hl [0, 1, 2, 3, 4] rfl⟩
      · have c_23 : r_22.toInt = p1.toInt := tl_eq c_23
        refine lv_iconst (v := 1) hx hb dX0_hasLine_46 (by decide) ?_
        refine lv_goto (tgt := 51) hx hb dX0_hasLine_47 (by decide) ?_
        refine lv_ior hx hb dX0_hasLine_51 ?_
        refine lv_topi (fun z_26 ez_26 => ?_)
        refine lv_istore_n (lv' := [(3, .int z_26), (4, .int v4), (0, .ref o), (1, .int p0), (2, .int p1)]) hx hb dX0_hasLine_52 rfl hl (by decide) rfl (fun ls hl => ?_)
        obtain ⟨z_27, ez_27⟩ : ∃ y : Int32, y = v4 + 1 := ⟨_, rfl⟩
        refine lv_iinc (v := z_27) (lv' := [(4, .int z_27), (3, .int z_26), (0, .ref o), (1, .int p0), (2, .int p1)]) hx hb dX0_hasLine_53 hl (k := 1) rfl (by rw [ez_27]; rfl) (by decide) rfl (fun ls hl => ?_)
        try have iz_27 : z_27.toInt = v4.toInt + 1 := by rw [ez_27]; exact tl_addL v4 1 (by decide) (by omega) (by omega)
        refine lv_goto (tgt := 5) hx hb dX0_hasLine_56 (by decide) ?_
        exact ih5 (z_27, z_26) ls (by show (61 - z_27.toInt).toNat < (61 - v4.toInt).toNat; omega) ⟨(show 0 ≤ z_27.toInt ∧ (z_27.toInt ≤ Γ (7, 60, w) 0 ∨ z_27.toInt = 0) from (by omega)), (show tl_E z_26 (tm_hasL (Γ (8, 4 * 60, w)) z_27.toInt.toNat p0.toInt p1.toInt) 1 0 from (by first | exact tl_Eor0 hj ez_26 ((tm_hasLs h0.1 (by omega)).trans (or_iff_left (fun q => by omega))) | exact tl_Eor1 hj ez_26 ((tm_hasLs h0.1 (by omega)).mpr (Or.inr ⟨by omega, by omega⟩)))), lv_sub hl [0, 1, 2, 3, 4] rfl⟩
set_option maxHeartbeats 4000000 in
set_option maxRecDepth 100000 in
theorem t_X0_slipped (l : Launch) (D : va_G) (cy : Nat → ClassId) (sz : Nat) (L : List Nat) (K : Nat → tk_K) (Γ : tk_G) (f : Nat → va_E) (w : Nat) (o : Nat) (p0 : Int32) (p1 : Int32) (ho : tp_r L K 1 (0) w o) : Met l yX0_slipped (tl_w yX0_slipped cX0_slipped 6 (some .int)) ({ frames := 1, cells := 0, slots := 0, locals := 23 }) (va_Pc [.ref o, .int p0, .int p1] (tp_P D cy L K Γ f sz)) (vp_Si (fun r : Int32 => True)) 0 0 (fun _ => False) := by
  refine Met.ofW (cc := cX0_slipped) (maxL := 6) (ret := (some .int)) (by decide) rfl ?_
  intro p e s m args below meth c s₁ B hml hv
  obtain ⟨rfl, hsz, hP, hK, hL, hI, hN, hU⟩ := hv
  have hx := B.exec
  have hb := B.bytes
  have hr := B.returns
  have hta := tl_hta (atoms_spec (ws := tl_w yX0_slipped cX0_slipped 6 (some .int)) B.pre)
  have hown : s.vm.findClass RX0 = some m.cls := findClass_of_methodNamed B.named
  have hlocks := B.notSynchronized
  subst hsz
  have hI0 := hI
  have hl := lv_entry ([.ref o, .int p0, .int p1]) (n := 6) (Nat.le_of_ble_eq_true rfl)
  rw [lg_entry_eq]
  generalize (lg_sl ([.ref o, .int p0, .int p1]) ++ List.replicate (6 - (lg_sl ([.ref o, .int p0, .int p1])).length) Slot.unset).toArray = ls at hl ⊢
  have hl : lv_has ls 6 [(0, .ref o), (1, .int p0), (2, .int p1)] := hl
  refine lv_iconst (v := 0) hx hb dX0_slipped_0 (by decide) ?_
  refine lv_istore_n (lv' := [(3, .int 0), (0, .ref o), (1, .int p0), (2, .int p1)]) hx hb dX0_slipped_1 rfl hl (by decide) rfl (fun ls hl => ?_)
  refine lv_iconst (v := 0) hx hb dX0_slipped_2 (by decide) ?_
  refine lv_istore (lv' := [(4, .int 0), (3, .int 0), (0, .ref o), (1, .int p0), (2, .int p1)]) hx hb dX0_slipped_3 hl (by decide) rfl (fun ls hl => ?_)
  refine tl_indR (G := fun ls => W p l e ((headSpec (tl_w yX0_slipped cX0_slipped 6 (some .int)) ({ frames := 1, cells := 0, slots := 0, locals := 23 })).room) s m #[.ref o, .int p0, .int p1] below meth c s.heap [] 0 0 (MQ below (vp_Si (fun r : Int32 => True)) #[.ref o, .int p0, .int p1] s 0 0 (fun _ => False)) (F0 m 5 ls [])) (α := Int32 × Int32) (fun aq => (40 - aq.1.toInt).toNat) (fun aq ls => (0 ≤ aq.1.toInt) ∧ (aq.1.toInt ≤ 40) ∧ lv_has ls 6 [(4, .int aq.1), (3, .int aq.2), (0, .ref o), (1, .int p0), (2, .int p1)]) ?_ ((0 : Int32), (0 : Int32)) ls ⟨(show 0 ≤ (0 : Int) from (by omega)), (show (0 : Int) ≤ 40 from (by omega)), lv_sub hl [0, 1, 2, 3, 4] rfl⟩
  rintro ⟨v4, v3⟩ ls ⟨h0, h1, hl⟩ ih5
  have h0 : 0 ≤ v4.toInt := h0
  have h1 : v4.toInt ≤ 40 := h1
  have hl : lv_has ls 6 [(4, .int v4), (3, .int v3), (0, .ref o), (1, .int p0), (2, .int p1)] := hl
  refine lv_iload hx hb dX0_slipped_5 (lv_at hl 0 rfl) ?_
  refine lv_aload_n hx hb dX0_slipped_7 rfl (lv_at hl 2 rfl) ?_
  obtain ⟨x_2, x_3, x_4, x_5, x_6, x_7, x_8, x_9, x_10, hf_1, hx_2, hx_3, hx_4, hx_5, hx_6, hx_7, hx_8, hx_9, hx_10⟩ := (show tp_o_BOOK L K (0) w (Γ (1, 0, w)) (f o) from hI0.at ho)
  refine tp_get (cy := cy) (ci := 0) (v := .ref x_5) (C := RX0) (T := TX0) (N := 9) hx hb hta inlX0 hown hK hP ho.1 hf_1 rfl 3 (by decide) (hta _ wk_65) (fun _ h9 => h9) rfl dX0_slipped_8 ?_
  obtain ⟨x_12, x_13, x_14, hf_11, hx_12, hx_13, hx_14⟩ := (show tp_o_TABLE L K (40) w (Γ (7, 40, w)) (f x_5) from hI0.at hx_5)
  refine tp_getN (cy := cy) (ci := 6) (v := .int x_14) (C := RX6) (T := TX6) (N := 3) hx hb hta inlX6 hown hK hP hx_5.1 hf_11 rfl 2 (by decide) (va_Nw.use rfl (hN.1 14 _ nk_14)) (fun _ h9 => h9) rfl dX0_slipped_11 ?_
  refine lv_icmp_ge (tgt := 94) hx hb dX0_slipped_14 (by decide) (fun c_15 => ?_) (fun c_15 => ?_)
  · have c_15 : x_14.toInt ≤ v4.toInt := tl_le c_15
    refine lv_iload_n hx hb dX0_slipped_94 rfl (lv_at hl 1 rfl) ?_
    exact W.iret (v := v3) hx hb hr (fun t ht hW => ⟨_, rfl, trivial, ht⟩) (fun q h => by cases h) dX0_slipped_95
  · have c_15 : v4.toInt < x_14.toInt := tl_nle c_15
    refine lv_aload_n hx hb dX0_slipped_17 rfl (lv_at hl 2 rfl) ?_
    refine tp_get (cy := cy) (ci := 0) (v := .ref x_5) (C := RX0) (T := TX0) (N := 9) hx hb hta inlX0 hown hK hP ho.1 hf_1 rfl 3 (by decide) (hta _ wk_65) (fun _ h9 => h9) rfl dX0_slipped_18 ?_
    refine lv_iload hx hb dX0_slipped_21 (lv_at hl 0 rfl) ?_
    refine lv_iconst (v := 1) hx hb dX0_slipped_23 (by decide) ?_
    refine tl_si (tq_rVN hN (As := [.int v4, .int 1]) (rest := []) ⟨hx, hb, hml, hown, hta⟩ (tp_P.pre hK hN hL hU hI hP) (tp_recv hK hP hx_5.1 hf_11 rfl) lk_X0_66 (t_X6_cell l D cy s.heap.size L K Γ f 40 w x_5 v4 1 hx_5 (by first | omega | (simp only [Int32.toInt_toInt64]; omega) | decide | assumption)) rfl rfl ⟨Nat.le_of_ble_eq_true rfl, Nat.le_of_ble_eq_true rfl⟩ rfl hl.1 rfl (Nat.le_of_ble_eq_true rfl) dX0_slipped_24 ⟨Nat.le_of_ble_eq_true rfl, Nat.le_of_ble_eq_true rfl⟩) (fun r_17 hw_16 => ?_)
    refine lv_iload_n hx hb dX0_slipped_27 rfl (lv_at hl 4 rfl) ?_
    refine lv_icmp_gt (tgt := 49) hx hb dX0_slipped_28 (by decide) (fun c_18 => ?_) (fun c_18 => ?_)
    · have c_18 : p1.toInt < r_17.toInt := tl_lt c_18
      refine lv_iconst (v := 0) hx hb dX0_slipped_49 (by decide) ?_
      refine lv_istore (lv' := [(5, .int 0), (4, .int v4), (3, .int v3), (0, .ref o), (1, .int p0), (2, .int p1)]) hx hb dX0_slipped_50 hl (by decide) rfl (fun ls hl => ?_)
      refine lv_iload_n hx hb dX0_slipped_52 rfl (lv_at hl 2 rfl) ?_
      refine lv_iload hx hb dX0_slipped_53 (lv_at hl 0 rfl) ?_
      refine lv_if_eq (tgt := 85) hx hb dX0_slipped_55 (by decide) (fun _ => ?_) (fun c => absurd c (by decide))
      refine lv_iconst (v := 0) hx hb dX0_slipped_85 (by decide) ?_
      refine lv_iadd hx hb dX0_slipped_86 ?_
      refine lv_topi (fun z_19 ez_19 => ?_)
      try have iz_19 : z_19.toInt = v3.toInt + (0 : Int) := by rw [ez_19]; exact tl_addN v3 0 rfl rfl (by omega) (by omega)
      refine lv_istore_n (lv' := [(3, .int z_19), (5, .int 0), (4, .int v4), (0, .ref o), (1, .int p0), (2, .int p1)]) hx hb dX0_slipped_87 rfl hl (by decide) rfl (fun ls hl => ?_)
      obtain ⟨z_20, ez_20⟩ : ∃ y : Int32, y = v4 + 1 := ⟨_, rfl⟩
      refine lv_iinc (v := z_20) (lv' := [(4, .int z_20), (3, .int z_19), (5, .int 0), (0, .ref o), (1, .int p0), (2, .int p1)]) hx hb dX0_slipped_88 hl (k := 2) rfl (by rw [ez_20]; rfl) (by decide) rfl (fun ls hl => ?_)
      try have iz_20 : z_20.toInt = v4.toInt + 1 := by rw [ez_20]; exact tl_addL v4 1 (by decide) (by omega) (by omega)
      refine lv_goto (tgt := 5) hx hb dX0_slipped_91 (by decide) ?_
      exact ih5 (z_20, z_19) ls (by show (40 - z_20.toInt).toNat < (40 - v4.toInt).toNat; omega) ⟨(show 0 ≤ z_20.toInt from (by omega)), (show z_20.toInt ≤ 40 from (by omega)), lv_sub hl [0, 1, 3, 4, 5] rfl⟩
    · have c_18 : r_17.toInt ≤ p1.toInt := tl_nlt c_18
      refine lv_iload_n hx hb dX0_slipped_31 rfl (lv_at hl 4 rfl) ?_
      refine lv_aload_n hx hb dX0_slipped_32 rfl (lv_at hl 2 rfl) ?_
      refine tp_get (cy := cy) (ci := 0) (v := .ref x_5) (C := RX0) (T := TX0) (N := 9) hx hb hta inlX0 hown hK hP ho.1 hf_1 rfl 3 (by decide) (hta _ wk_65) (fun _ h9 => h9) rfl dX0_slipped_33 ?_
      refine lv_iload hx hb dX0_slipped_36 (lv_at hl 0 rfl) ?_
      refine lv_iconst (v := 2) hx hb dX0_slipped_38 (by decide) ?_
      refine tl_si (tq_rVN hN (As := [.int v4, .int 2]) (rest := [.int p1]) ⟨hx, hb, hml, hown, hta⟩ (tp_P.pre hK hN hL hU hI hP) (tp_recv hK hP hx_5.1 hf_11 rfl) lk_X0_66 (t_X6_cell l D cy s.heap.size L K Γ f 40 w x_5 v4 2 hx_5 (by first | omega | (simp only [Int32.toInt_toInt64]; omega) | decide | assumption)) rfl rfl ⟨Nat.le_of_ble_eq_true rfl, Nat.le_of_ble_eq_true rfl⟩ rfl hl.1 rfl (Nat.le_of_ble_eq_true rfl) dX0_slipped_39 ⟨Nat.le_of_ble_eq_true rfl, Nat.le_of_ble_eq_true rfl⟩) (fun r_22 hw_21 => ?_)
      refine lv_icmp_gt (tgt := 49) hx hb dX0_slipped_42 (by decide) (fun c_23 => ?_) (fun c_23 => ?_)
      · have c_23 : r_22.toInt < p1.toInt := tl_lt c_23
        refine lv_iconst (v := 0) hx hb dX0_slipped_49 (by decide) ?_
        refine lv_istore (lv' := [(5, .int 0), (4, .int v4), (3, .int v3), (0, .ref o), (1, .int p0), (2, .int p1)]) hx hb dX0_slipped_50 hl (by decide) rfl (fun ls hl => ?_)
        refine lv_iload_n hx hb dX0_slipped_52 rfl (lv_at hl 2 rfl) ?_
        refine lv_iload hx hb dX0_slipped_53 (lv_at hl 0 rfl) ?_
        refine lv_if_eq (tgt := 85) hx hb dX0_slipped_55 (by decide) (fun _ => ?_) (fun c => absurd c (by decide))
        refine lv_iconst (v := 0) hx hb dX0_slipped_85 (by decide) ?_
        refine lv_iadd hx hb dX0_slipped_86 ?_
        refine lv_topi (fun z_24 ez_24 => ?_)
        try have iz_24 : z_24.toInt = v3.toInt + (0 : Int) := by rw [ez_24]; exact tl_addN v3 0 rfl rfl (by omega) (by omega)
        refine lv_istore_n (lv' := [(3, .int z_24), (5, .int 0), (4, .int v4), (0, .ref o), (1, .int p0), (2, .int p1)]) hx hb dX0_slipped_87 rfl hl (by decide) rfl (fun ls hl => ?_)
        obtain ⟨z_25, ez_25⟩ : ∃ y : Int32, y = v4 + 1 := ⟨_, rfl⟩
        refine lv_iinc (v := z_25) (lv' := [(4, .int z_25), (3, .int z_24), (5, .int 0), (0, .ref o), (1, .int p0), (2, .int p1)]) hx hb dX0_slipped_88 hl (k := 2) rfl (by rw [ez_25]; rfl) (by decide) rfl (fun ls hl => ?_)
        try have iz_25 : z_25.toInt = v4.toInt + 1 := by rw [ez_25]; exact tl_addL v4 1 (by decide) (by omega) (by omega)
        refine lv_goto (tgt := 5) hx hb dX0_slipped_91 (by decide) ?_
        exact ih5 (z_25, z_24) ls (by show (40 - z_25.toInt).toNat < (40 - v4.toInt).toNat; omega) ⟨(show 0 ≤ z_25.toInt from (by omega)), (show z_25.toInt ≤ 40 from (by omega)), lv_sub hl [0, 1, 3, 4, 5] rfl⟩
      · have c_23 : p1.toInt ≤ r_22.toInt := tl_nlt c_23
        refine lv_iconst (v := 1) hx hb dX0_slipped_45 (by decide) ?_
        refine lv_goto (tgt := 50) hx hb dX0_slipped_46 (by decide) ?_
        refine lv_istore (lv' := [(5, .int 1), (4, .int v4), (3, .int v3), (0, .ref o), (1, .int p0), (2, .int p1)]) hx hb dX0_slipped_50 hl (by decide) rfl (fun ls hl => ?_)
        refine lv_iload_n hx hb dX0_slipped_52 rfl (lv_at hl 2 rfl) ?_
        refine lv_iload hx hb dX0_slipped_53 (lv_at hl 0 rfl) ?_
        refine lv_if_eq (tgt := 85) hx hb dX0_slipped_55 (by decide) (fun c => absurd c (by decide)) (fun _ => ?_)
        refine lv_aload_n hx hb dX0_slipped_58 rfl (lv_at hl 3 rfl) ?_
        refine tp_get (cy := cy) (ci := 0) (v := .ref x_5) (C := RX0) (T := TX0) (N := 9) hx hb hta inlX0 hown hK hP ho.1 hf_1 rfl 3 (by decide) (hta _ wk_65) (fun _ h9 => h9) rfl dX0_slipped_59 ?_
        refine lv_iload hx hb dX0_slipped_62 (lv_at hl 1 rfl) ?_
        refine lv_iconst (v := 0) hx hb dX0_slipped_64 (by decide) ?_
        refine tl_si (tq_rVN hN (As := [.int v4, .int 0]) (rest := [.int v3]) ⟨hx, hb, hml, hown, hta⟩ (tp_P.pre hK hN hL hU hI hP) (tp_recv hK hP hx_5.1 hf_11 rfl) lk_X0_66 (t_X6_cell l D cy s.heap.size L K Γ f 40 w x_5 v4 0 hx_5 (by first | omega | (simp only [Int32.toInt_toInt64]; omega) | decide | assumption)) rfl rfl ⟨Nat.le_of_ble_eq_true rfl, Nat.le_of_ble_eq_true rfl⟩ rfl hl.1 rfl (Nat.le_of_ble_eq_true rfl) dX0_slipped_65 ⟨Nat.le_of_ble_eq_true rfl, Nat.le_of_ble_eq_true rfl⟩) (fun r_27 hw_26 => ?_)
        refine lv_iload_n hx hb dX0_slipped_68 rfl (lv_at hl 4 rfl) ?_
        refine lv_icmp_ne (tgt := 85) hx hb dX0_slipped_69 (by decide) (fun c_28 => ?_) (fun c_28 => ?_)
        · have c_28 : ¬ r_27.toInt = p0.toInt := tl_neq c_28
          refine lv_iconst (v := 0) hx hb dX0_slipped_85 (by decide) ?_
          refine lv_iadd hx hb dX0_slipped_86 ?_
          refine lv_topi (fun z_29 ez_29 => ?_)
          try have iz_29 : z_29.toInt = v3.toInt + (0 : Int) := by rw [ez_29]; exact tl_addN v3 0 rfl rfl (by omega) (by omega)
          refine lv_istore_n (lv' := [(3, .int z_29), (5, .int 1), (4, .int v4), (0, .ref o), (1, .int p0), (2, .int p1)]) hx hb dX0_slipped_87 rfl hl (by decide) rfl (fun ls hl => ?_)
          obtain ⟨z_30, ez_30⟩ : ∃ y : Int32, y = v4 + 1 := ⟨_, rfl⟩
          refine lv_iinc (v := z_30) (lv' := [(4, .int z_30), (3, .int z_29), (5, .int 1), (0, .ref o), (1, .int p0), (2, .int p1)]) hx hb dX0_slipped_88 hl (k := 2) rfl (by rw [ez_30]; rfl) (by decide) rfl (fun ls hl => ?_)
          try have iz_30 : z_30.toInt = v4.toInt + 1 := by rw [ez_30]; exact tl_addL v4 1 (by decide) (by omega) (by omega)
          refine lv_goto (tgt := 5) hx hb dX0_slipped_91 (by decide) ?_
          exact ih5 (z_30, z_29) ls (by show (40 - z_30.toInt).toNat < (40 - v4.toInt).toNat; omega) ⟨(show 0 ≤ z_30.toInt from (by omega)), (show z_30.toInt ≤ 40 from (by omega)), lv_sub hl [0, 1, 3, 4, 5] rfl⟩
        · have c_28 : r_27.toInt = p0.toInt := tl_eq c_28
          refine lv_aload_n hx hb dX0_slipped_72 rfl (lv_at hl 3 rfl) ?_
          refine tp_get (cy := cy) (ci := 0) (v := .ref x_5) (C := RX0) (T := TX0) (N := 9) hx hb hta inlX0 hown hK hP ho.1 hf_1 rfl 3 (by decide) (hta _ wk_65) (fun _ h9 => h9) rfl dX0_slipped_73 ?_
          refine lv_iload hx hb dX0_slipped_76 (lv_at hl 1 rfl) ?_
          refine lv_iconst (v := 3) hx hb dX0_slipped_78 (by decide) ?_
          refine tl_si (tq_rVN hN (As := [.int v4, .int 3]) (rest := [.int v3]) ⟨hx, hb, hml, hown, hta⟩ (tp_P.pre hK hN hL hU hI hP) (tp_recv hK hP hx_5.1 hf_11 rfl) lk_X0_66 (t_X6_cell l D cy s.heap.size L K Γ f 40 w x_5 v4 3 hx_5 (by first | omega | (simp only [Int32.toInt_toInt64]; omega) | decide | assumption)) rfl rfl ⟨Nat.le_of_ble_eq_true rfl, Nat.le_of_ble_eq_true rfl⟩ rfl hl.1 rfl (Nat.le_of_ble_eq_true rfl) dX0_slipped_79 ⟨Nat.le_of_ble_eq_true rfl, Nat.le_of_ble_eq_true rfl⟩) (fun r_32 hw_31 => ?_)
          refine lv_goto (tgt := 86) hx hb dX0_slipped_82 (by decide) ?_
          refine lv_iadd hx hb dX0_slipped_86 ?_
          refine lv_topi (fun z_33 ez_33 => ?_)
          try have iz_33 : z_33.toInt = v3.toInt + r_32.toInt := by rw [ez_33]; exact tl_addN v3 r_32 rfl rfl (by omega) (by omega)
          refine lv_istore_n (lv' := [(3, .int z_33), (5, .int 1), (4, .int v4), (0, .ref o), (1, .int p0), (2, .int p1)]) hx hb dX0_slipped_87 rfl hl (by decide) rfl (fun ls hl => ?_)
          obtain ⟨z_34, ez_34⟩ : ∃ y : Int32, y = v4 + 1 := ⟨_, rfl⟩
          refine lv_iinc (v := z_34) (lv' := [(4, .int z_34), (3, .int z_33), (5, .int 1), (0, .ref o), (1, .int p0), (2, .int p1)]) hx hb dX0_slipped_88 hl (k := 2) rfl (by rw [ez_34]; rfl) (by decide) rfl (fun ls hl => ?_)
          try have iz_34 : z_34.toInt = v4.toInt + 1 := by rw [ez_34]; exact tl_addL v4 1 (by decide) (by omega) (by omega)
          refine lv_goto (tgt := 5) hx hb dX0_slipped_91 (by decide) ?_
          exact ih5 (z_34, z_33) ls (by show (40 - z_34.toInt).toNat < (40 - v4.toInt).toNat; omega) ⟨(show 0 ≤ z_34.toInt from (by omega)), (show z_34.toInt ≤ 40 from (by omega)), lv_sub hl [0, 1, 3, 4, 5] rfl⟩
set_option maxHeartbeats 4000000 in
set_option maxRecDepth 100000 in
theorem t_X0_takeOff (l : Launch) (D : va_G) (cy : Nat → ClassId) (sz : Nat) (L : List Nat) (K : Nat → tk_K) (Γ : tk_G) (f : Nat → va_E) (w : Nat) (o : Nat) (p0 : Int32) (q : Nat) (ho : tp_r L K 1 (0) w o) (hq : tp_r L K 29 (300) 0 q) : Met l yX0_takeOff (tl_w yX0_takeOff cX0_takeOff 6 none) ({ frames := 1, cells := 0, slots := 0, locals := 23 }) (va_Pc [.ref o, .int p0, .ref q] (tp_P D cy L K Γ f sz)) (va_Qv (fun (u : Nat → va_E) => True) (tp_B D cy L K Γ f [29]) (tp_A L sz)) 0 0 (tp_A L sz) := by
  refine Met.ofW (cc := cX0_takeOff) (maxL := 6) (ret := none) (by decide) rfl ?_
  intro p e s m args below meth c s₁ B hml hv
  obtain ⟨rfl, hsz, hP, hK, hL, hI, hN, hU⟩ := hv
  have hx := B.exec
  have hb := B.bytes
  have hr := B.returns
  have hta := tl_hta (atoms_spec (ws := tl_w yX0_takeOff cX0_takeOff 6 none) B.pre)
  have hown : s.vm.findClass RX0 = some m.cls := findClass_of_methodNamed B.named
  have hlocks := B.notSynchronized
  subst hsz
  have hI0 := hI
  generalize hAe : tp_A L s.heap.size = A
  have hA : ∀ q : Nat, s.heap.size ≤ q → A q := fun q h => by rw [← hAe]; exact Or.inr h
  have hAL : ∀ q ∈ L, A q := fun q h => by rw [← hAe]; exact Or.inl h
  have hAf : ∀ (H : Heap), s.heap.size ≤ H.size → ∀ q, tp_A L H.size q → A q := fun H h q hq => hq.elim (hAL q) (fun h2 => hA q (Nat.le_trans h h2))
  have hS : va_S A s.heap s.heap [] := va_S.rf
  have hD : va_D A (va_pl L f) := tp_D hL hAL
  have hfr : ∀ b, (K b).1 ∉ ([29] : List Nat) → f b = f b := fun _ _ => rfl
  have hl := lv_entry ([.ref o, .int p0, .ref q]) (n := 6) (Nat.le_of_ble_eq_true rfl)
  rw [lg_entry_eq]
  generalize (lg_sl ([.ref o, .int p0, .ref q]) ++ List.replicate (6 - (lg_sl ([.ref o, .int p0, .ref q])).length) Slot.unset).toArray = ls at hl ⊢
  have hl : lv_has ls 6 [(0, .ref o), (1, .int p0), (2, .ref q)] := hl
  refine lv_aload_n hx hb dX0_takeOff_0 rfl (lv_at hl 0 rfl) ?_
  obtain ⟨x_2, x_3, x_4, x_5, x_6, x_7, x_8, x_9, x_10, hf_1, hx_2, hx_3, hx_4, hx_5, hx_6, hx_7, hx_8, hx_9, hx_10⟩ := (show tp_o_BOOK L K (0) w (Γ (1, 0, w)) (f o) from hI0.at ho)
  refine tp_get (cy := cy) (ci := 0) (v := .ref x_5) (C := RX0) (T := TX0) (N := 9) hx hb hta inlX0 hown hK hP ho.1 hf_1 rfl 3 (by decide) (hta _ wk_65) (fun _ h9 => h9) rfl dX0_takeOff_1 ?_
  refine lv_iload_n hx hb dX0_takeOff_4 rfl (lv_at hl 1 rfl) ?_
  refine lv_iconst (v := 3) hx hb dX0_takeOff_5 (by decide) ?_
  obtain ⟨x_12, x_13, x_14, hf_11, hx_12, hx_13, hx_14⟩ := (show tp_o_TABLE L K (40) w (Γ (7, 40, w)) (f x_5) from hI0.at hx_5)
  refine tl_si (tq_rVN hN (As := [.int p0, .int 3]) (rest := []) ⟨hx, hb, hml, hown, hta⟩ (tp_P.pre hK hN hL hU hI hP) (tp_recv hK hP hx_5.1 hf_11 rfl) lk_X0_66 (t_X6_cell l D cy s.heap.size L K Γ f 40 w x_5 p0 3 hx_5 (by first | omega | (simp only [Int32.toInt_toInt64]; omega) | decide | assumption)) rfl rfl ⟨Nat.le_of_ble_eq_true rfl, Nat.le_of_ble_eq_true rfl⟩ rfl hl.1 rfl (Nat.le_of_ble_eq_true rfl) dX0_takeOff_6 ⟨Nat.le_of_ble_eq_true rfl, Nat.le_of_ble_eq_true rfl⟩) (fun r_16 hw_15 => ?_)
  refine lv_istore_n (lv' := [(3, .int r_16), (0, .ref o), (1, .int p0), (2, .ref q)]) hx hb dX0_takeOff_9 rfl hl (by decide) rfl (fun ls hl => ?_)
  refine lv_sipush (v := 299) hx hb dX0_takeOff_10 (by decide) ?_
  refine lv_aload_n hx hb dX0_takeOff_13 rfl (lv_at hl 1 rfl) ?_
  refine tp_get (cy := cy) (ci := 0) (v := .ref x_5) (C := RX0) (T := TX0) (N := 9) hx hb hta inlX0 hown hK hP ho.1 hf_1 rfl 3 (by decide) (hta _ wk_65) (fun _ h9 => h9) rfl dX0_takeOff_14 ?_
  refine lv_iload_n hx hb dX0_takeOff_17 rfl (lv_at hl 2 rfl) ?_
  refine lv_iconst (v := 2) hx hb dX0_takeOff_18 (by decide) ?_
  refine tl_si (tq_rVN hN (As := [.int p0, .int 2]) (rest := [.int 299]) ⟨hx, hb, hml, hown, hta⟩ (tp_P.pre hK hN hL hU hI hP) (tp_recv hK hP hx_5.1 hf_11 rfl) lk_X0_66 (t_X6_cell l D cy s.heap.size L K Γ f 40 w x_5 p0 2 hx_5 (by first | omega | (simp only [Int32.toInt_toInt64]; omega) | decide | assumption)) rfl rfl ⟨Nat.le_of_ble_eq_true rfl, Nat.le_of_ble_eq_true rfl⟩ rfl hl.1 rfl (Nat.le_of_ble_eq_true rfl) dX0_takeOff_19 ⟨Nat.le_of_ble_eq_true rfl, Nat.le_of_ble_eq_true rfl⟩) (fun r_18 hw_17 => ?_)
  refine va_mmin hx hb (by rw [hml]; exact hl.1.symm) hown (hta _ wk_838) (hta _ wk_770) (hta _ wk_83) (hta _ wk_771) (Nat.le_of_ble_eq_true rfl) (Nat.le_of_ble_eq_true rfl) (Nat.le_of_ble_eq_true rfl) (Nat.le_of_ble_eq_true rfl) dX0_takeOff_22 ?_
  refine lv_topi (fun z_19 ez_19 => ?_)
  have iz_19 : (z_19.toInt = r_18.toInt ∧ r_18.toInt ≤ (299 : Int)) ∨ (z_19.toInt = (299 : Int) ∧ (299 : Int) ≤ r_18.toInt) := by rw [ez_19]; exact tl_minF
  refine lv_istore (lv' := [(4, .int z_19), (3, .int r_16), (0, .ref o), (1, .int p0), (2, .ref q)]) hx hb dX0_takeOff_25 hl (by decide) rfl (fun ls hl => ?_)
  refine lv_iconst (v := 0) hx hb dX0_takeOff_27 (by decide) ?_
  refine lv_aload_n hx hb dX0_takeOff_28 rfl (lv_at hl 2 rfl) ?_
  refine tp_get (cy := cy) (ci := 0) (v := .ref x_5) (C := RX0) (T := TX0) (N := 9) hx hb hta inlX0 hown hK hP ho.1 hf_1 rfl 3 (by decide) (hta _ wk_65) (fun _ h9 => h9) rfl dX0_takeOff_29 ?_
  refine lv_iload_n hx hb dX0_takeOff_32 rfl (lv_at hl 3 rfl) ?_
  refine lv_iconst (v := 1) hx hb dX0_takeOff_33 (by decide) ?_
  refine tl_si (tq_rVN hN (As := [.int p0, .int 1]) (rest := [.int 0]) ⟨hx, hb, hml, hown, hta⟩ (tp_P.pre hK hN hL hU hI hP) (tp_recv hK hP hx_5.1 hf_11 rfl) lk_X0_66 (t_X6_cell l D cy s.heap.size L K Γ f 40 w x_5 p0 1 hx_5 (by first | omega | (simp only [Int32.toInt_toInt64]; omega) | decide | assumption)) rfl rfl ⟨Nat.le_of_ble_eq_true rfl, Nat.le_of_ble_eq_true rfl⟩ rfl hl.1 rfl (Nat.le_of_ble_eq_true rfl) dX0_takeOff_34 ⟨Nat.le_of_ble_eq_true rfl, Nat.le_of_ble_eq_true rfl⟩) (fun r_21 hw_20 => ?_)
  refine va_mmax hx hb (by rw [hml]; exact hl.1.symm) hown (hta _ wk_839) (hta _ wk_82) (hta _ wk_83) (hta _ wk_84) (Nat.le_of_ble_eq_true rfl) (Nat.le_of_ble_eq_true rfl) (Nat.le_of_ble_eq_true rfl) (Nat.le_of_ble_eq_true rfl) dX0_takeOff_37 ?_
  refine lv_topi (fun z_22 ez_22 => ?_)
  have iz_22 : (z_22.toInt = r_21.toInt ∧ (0 : Int) ≤ r_21.toInt) ∨ (z_22.toInt = (0 : Int) ∧ r_21.toInt ≤ (0 : Int)) := by rw [ez_22]; exact tl_maxF
  refine lv_istore (lv' := [(5, .int z_22), (4, .int z_19), (3, .int r_16), (0, .ref o), (1, .int p0), (2, .ref q)]) hx hb dX0_takeOff_40 hl (by decide) rfl (fun ls hl => ?_)
  refine tq_start hP hS (fun H locs hP hS => ?_)
  refine tl_ind (G := fun H locs ls => W p l e ((headSpec (tl_w yX0_takeOff cX0_takeOff 6 none) ({ frames := 1, cells := 0, slots := 0, locals := 23 })).room) s m #[.ref o, .int p0, .ref q] below meth c H locs 0 0 (MQ below (va_Qv (fun (u : Nat → va_E) => True) (tp_B D cy L K Γ f [29]) A) #[.ref o, .int p0, .ref q] s 0 0 A) (F0 m 42 ls [])) (α := (Nat → va_E) × Int32) (fun aq => (300 - aq.2.toInt).toNat) (fun aq H locs ls => (0 ≤ aq.2.toInt) ∧ va_P D vwCl (va_pl L aq.1) H ∧ tp_I cy L K Γ aq.1 ∧ (∀ b, (K b).1 ∉ ([29] : List Nat) → aq.1 b = f b) ∧ va_S A s.heap H locs ∧ lv_has ls 6 [(5, .int aq.2), (4, .int z_19), (3, .int r_16), (0, .ref o), (1, .int p0), (2, .ref q)]) ?_ (f, z_22) H locs ls ⟨(show 0 ≤ z_22.toInt from (by omega)), hP, hI, hfr, hS, lv_sub hl [0, 1, 2, 3, 4, 5] rfl⟩
  rintro ⟨f_23, v5⟩ H locs ls ⟨h0, hP, hI, hfr, hS, hl⟩ ih42
  have hP : va_P D vwCl (va_pl L f_23) H := hP
  have hI : tp_I cy L K Γ f_23 := hI
  have hfr : ∀ b, (K b).1 ∉ ([29] : List Nat) → f_23 b = f b := hfr
  have hD : va_D A (va_pl L f_23) := tp_D hL hAL
  have h0 : 0 ≤ v5.toInt := h0
  have hl : lv_has ls 6 [(5, .int v5), (4, .int z_19), (3, .int r_16), (0, .ref o), (1, .int p0), (2, .ref q)] := hl
  refine lv_iload hx hb dX0_takeOff_42 (lv_at hl 0 rfl) ?_
  refine lv_iload hx hb dX0_takeOff_44 (lv_at hl 1 rfl) ?_
  refine lv_icmp_gt (tgt := 63) hx hb dX0_takeOff_46 (by decide) (fun c_24 => ?_) (fun c_24 => ?_)
  · have c_24 : z_19.toInt < v5.toInt := tl_lt c_24
    exact W.vret hx hb hr (fun t ht hW => ⟨⟨f_23, rfl, trivial, by rw [ht]; exact hP, hI, hfr⟩, hS.F ht⟩) hS.2.2 dX0_takeOff_63
  · have c_24 : v5.toInt ≤ z_19.toInt := tl_nlt c_24
    refine lv_aload_n hx hb dX0_takeOff_49 rfl (lv_at hl 5 rfl) ?_
    refine lv_iload hx hb dX0_takeOff_50 (lv_at hl 0 rfl) ?_
    refine lv_dup2_11 hx hb dX0_takeOff_52 rfl rfl ?_
    obtain ⟨g_26, hf_25, hg_27⟩ := (show tp_ai cy 29 (300) (f_23 q) from hI.at hq)
    have hn_28 : vp_in v5 (300) := tl_in (by omega) (by omega)
    refine tp_iald (cy := cy) hx hb hK hP hq.1 hf_25 hn_28 dX0_takeOff_53 ?_
    refine lv_topi (fun z_29 ez_29 => ?_)
    refine lv_iload_n hx hb dX0_takeOff_54 rfl (lv_at hl 2 rfl) ?_
    refine lv_isub hx hb dX0_takeOff_55 ?_
    refine lv_topi (fun z_30 ez_30 => ?_)
    try have iz_30 : z_30.toInt = z_29.toInt - r_16.toInt := by rw [ez_30]; exact tl_subN z_29 r_16 rfl rfl (by omega) (by omega)
    have hn_31 : vp_in v5 (300) := tl_in (by omega) (by omega)
    have hI9 : tp_I cy L K Γ (va_up f_23 q (.inl (cy 0, 300, .inl (upd g_26 v5.toNatClampNeg z_30)))) := hI.set hq (show tp_ai cy 29 (300) _ from ⟨_, rfl, tp_pi_upd hg_27 trivial⟩)
    have hfr9 : ∀ b, (K b).1 ∉ ([29] : List Nat) → va_up f_23 q (.inl (cy 0, 300, .inl (upd g_26 v5.toNatClampNeg z_30))) b = f b := tp_fr hfr hq (by decide)
    refine tp_iast (cy := cy) hx hb hK hP hD hS hq.1 hf_25 hn_31 dX0_takeOff_56 (fun H locs hP hD hS => ?_)
    have hP : va_P D vwCl (va_pl L (va_up f_23 q (.inl (cy 0, 300, .inl (upd g_26 v5.toNatClampNeg z_30))))) H := hP
    generalize hfe : va_up f_23 q (.inl (cy 0, 300, .inl (upd g_26 v5.toNatClampNeg z_30))) = f_32 at hP hI9 hfr9
    have hD : va_D A (va_pl L f_32) := tp_D hL hAL
    have hf_33 : f_32 q = .inl (cy 0, 300, .inl (upd g_26 v5.toNatClampNeg z_30)) := by rw [← hfe]; exact va_up_self _ _ _
    clear hfe
    have hI := hI9
    have hfr := hfr9
    clear hI9 hfr9
    obtain ⟨z_34, ez_34⟩ : ∃ y : Int32, y = v5 + 1 := ⟨_, rfl⟩
    refine lv_iinc (v := z_34) (lv' := [(5, .int z_34), (4, .int z_19), (3, .int r_16), (0, .ref o), (1, .int p0), (2, .ref q)]) hx hb dX0_takeOff_57 hl (k := 0) rfl (by rw [ez_34]; rfl) (by decide) rfl (fun ls hl => ?_)
    try have iz_34 : z_34.toInt = v5.toInt + 1 := by rw [ez_34]; exact tl_addL v5 1 (by decide) (by omega) (by omega)
    refine lv_goto (tgt := 42) hx hb dX0_takeOff_60 (by decide) ?_
    exact ih42 (f_32, z_34) H locs ls (by show (300 - z_34.toInt).toNat < (300 - v5.toInt).toNat; omega) ⟨(show 0 ≤ z_34.toInt from (by omega)), hP, hI, hfr, hS, lv_sub hl [0, 1, 2, 3, 4, 5] rfl⟩
set_option maxHeartbeats 4000000 in
set_option maxRecDepth 100000 in
theorem t_X0_readRow (l : Launch) (D : va_G) (cy : Nat → ClassId) (sz : Nat) (L : List Nat) (K : Nat → tk_K) (Γ : tk_G) (f : Nat → va_E) (w : Nat) (o : Nat) (p0 : Int32) (p1 : Int32) (q : Nat) (z : Nat) (ho : tp_r L K 1 (0) w o) (hq : tp_r L K 28 (300) 0 q) (hz : tp_r L K 29 (300) 0 z) : Met l yX0_readRow (tl_w yX0_readRow cX0_readRow 7 none) ({ frames := 2, cells := 0, slots := 0, locals := 48 }) (va_Pc [.ref o, .int p0, .int p1, .ref q, .ref z] (tp_P D cy L K Γ f sz)) (va_Qv (fun (u : Nat → va_E) => True) (tp_B D cy L K Γ f [28, 29]) (tp_A L sz)) 0 0 (tp_A L sz) := by
  refine Met.ofW (cc := cX0_readRow) (maxL := 7) (ret := none) (by decide) rfl ?_
  intro p e s m args below meth c s₁ B hml hv
  obtain ⟨rfl, hsz, hP, hK, hL, hI, hN, hU⟩ := hv
  have hx := B.exec
  have hb := B.bytes
  have hr := B.returns
  have hta := tl_hta (atoms_spec (ws := tl_w yX0_readRow cX0_readRow 7 none) B.pre)
  have hown : s.vm.findClass RX0 = some m.cls := findClass_of_methodNamed B.named
  have hlocks := B.notSynchronized
  subst hsz
  have hI0 := hI
  generalize hAe : tp_A L s.heap.size = A
  have hA : ∀ q : Nat, s.heap.size ≤ q → A q := fun q h => by rw [← hAe]; exact Or.inr h
  have hAL : ∀ q ∈ L, A q := fun q h => by rw [← hAe]; exact Or.inl h
  have hAf : ∀ (H : Heap), s.heap.size ≤ H.size → ∀ q, tp_A L H.size q → A q := fun H h q hq => hq.elim (hAL q) (fun h2 => hA q (Nat.le_trans h h2))
  have hS : va_S A s.heap s.heap [] := va_S.rf
  have hD : va_D A (va_pl L f) := tp_D hL hAL
  have hfr : ∀ b, (K b).1 ∉ ([28, 29] : List Nat) → f b = f b := fun _ _ => rfl
  have hl := lv_entry ([.ref o, .int p0, .int p1, .ref q, .ref z]) (n := 7) (Nat.le_of_ble_eq_true rfl)
  rw [lg_entry_eq]
  generalize (lg_sl ([.ref o, .int p0, .int p1, .ref q, .ref z]) ++ List.replicate (7 - (lg_sl ([.ref o, .int p0, .int p1, .ref q, .ref z])).length) Slot.unset).toArray = ls at hl ⊢
  have hl : lv_has ls 7 [(0, .ref o), (1, .int p0), (2, .int p1), (3, .ref q), (4, .ref z)] := hl
  refine lv_aload_n hx hb dX0_readRow_0 rfl (lv_at hl 0 rfl) ?_
  obtain ⟨x_2, x_3, x_4, x_5, x_6, x_7, x_8, x_9, x_10, hf_1, hx_2, hx_3, hx_4, hx_5, hx_6, hx_7, hx_8, hx_9, hx_10⟩ := (show tp_o_BOOK L K (0) w (Γ (1, 0, w)) (f o) from hI0.at ho)
  refine tp_get (cy := cy) (ci := 0) (v := .ref x_4) (C := RX0) (T := TX0) (N := 9) hx hb hta inlX0 hown hK hP ho.1 hf_1 rfl 2 (by decide) (hta _ wk_61) (fun _ h9 => h9) rfl dX0_readRow_1 ?_
  refine lv_iload_n hx hb dX0_readRow_4 rfl (lv_at hl 1 rfl) ?_
  obtain ⟨x_12, x_13, x_14, x_15, x_16, x_17, hf_11, hx_12, hx_14, hx_15, hx_16, hx_17⟩ := (show tp_o_ROWS L K (0) w (Γ (3, 0, w)) (f x_4) from hI0.at hx_4)
  refine tl_si (tq_rVN hN (As := [.int p0]) (rest := []) ⟨hx, hb, hml, hown, hta⟩ (tp_P.pre hK hN hL hU hI hP) (tp_recv hK hP hx_4.1 hf_11 rfl) lk_X0_70 (t_X4_has l D cy s.heap.size L K Γ f w x_4 p0 hx_4) rfl rfl ⟨Nat.le_of_ble_eq_true rfl, Nat.le_of_ble_eq_true rfl⟩ rfl hl.1 rfl (Nat.le_of_ble_eq_true rfl) dX0_readRow_5 ⟨Nat.le_of_ble_eq_true rfl, Nat.le_of_ble_eq_true rfl⟩) (fun r_19 hw_18 => ?_)
  have hw_18 : tl_E r_19 (0 ≤ p0.toInt ∧ p0.toInt < Γ (3, 0, w) 0) 1 0 := hw_18
  refine lv_if_ne (tgt := 12) hx hb dX0_readRow_8 (by decide) (fun c_20 => ?_) (fun c_20 => ?_)
  · have c_20 := hw_18.t c_20
    refine lv_iconst (v := 0) hx hb dX0_readRow_12 (by decide) ?_
    refine lv_istore (lv' := [(5, .int 0), (0, .ref o), (1, .int p0), (2, .int p1), (3, .ref q), (4, .ref z)]) hx hb dX0_readRow_13 hl (by decide) rfl (fun ls hl => ?_)
    refine tq_start hP hS (fun H locs hP hS => ?_)
    refine tl_ind (G := fun H locs ls => W p l e ((headSpec (tl_w yX0_readRow cX0_readRow 7 none) ({ frames := 2, cells := 0, slots := 0, locals := 48 })).room) s m #[.ref o, .int p0, .int p1, .ref q, .ref z] below meth c H locs 0 0 (MQ below (va_Qv (fun (u : Nat → va_E) => True) (tp_B D cy L K Γ f [28, 29]) A) #[.ref o, .int p0, .int p1, .ref q, .ref z] s 0 0 A) (F0 m 15 ls [])) (α := (Nat → va_E) × Int32) (fun aq => (300 - aq.2.toInt).toNat) (fun aq H locs ls => (0 ≤ aq.2.toInt) ∧ (aq.2.toInt ≤ 300) ∧ va_P D vwCl (va_pl L aq.1) H ∧ tp_I cy L K Γ aq.1 ∧ (∀ b, (K b).1 ∉ ([28, 29] : List Nat) → aq.1 b = f b) ∧ va_S A s.heap H locs ∧ lv_has ls 7 [(5, .int aq.2), (0, .ref o), (1, .int p0), (2, .int p1), (3, .ref q), (4, .ref z)]) ?_ (f, (0 : Int32)) H locs ls ⟨(show 0 ≤ (0 : Int) from (by omega)), (show (0 : Int) ≤ 300 from (by omega)), hP, hI, hfr, hS, lv_sub hl [0, 1, 2, 3, 4, 5] rfl⟩
    rintro ⟨f_21, v5⟩ H locs ls ⟨h0, h1, hP, hI, hfr, hS, hl⟩ ih15
    have hP : va_P D vwCl (va_pl L f_21) H := hP
    have hI : tp_I cy L K Γ f_21 := hI
    have hfr : ∀ b, (K b).1 ∉ ([28, 29] : List Nat) → f_21 b = f b := hfr
    have hD : va_D A (va_pl L f_21) := tp_D hL hAL
    have h0 : 0 ≤ v5.toInt := h0
    have h1 : v5.toInt ≤ 300 := h1
    have hl : lv_has ls 7 [(5, .int v5), (0, .ref o), (1, .int p0), (2, .int p1), (3, .ref q), (4, .ref z)] := hl
    refine lv_iload hx hb dX0_readRow_15 (lv_at hl 0 rfl) ?_
    refine lv_sipush (v := 300) hx hb dX0_readRow_17 (by decide) ?_
    refine lv_icmp_ge (tgt := 66) hx hb dX0_readRow_20 (by decide) (fun c_22 => ?_) (fun c_22 => ?_)
    · have c_22 : (300 : Int) ≤ v5.toInt := tl_le c_22
      refine lv_iconst (v := 0) hx hb dX0_readRow_66 (by decide) ?_
      refine lv_istore (lv' := [(5, .int 0), (0, .ref o), (1, .int p0), (2, .int p1), (3, .ref q), (4, .ref z)]) hx hb dX0_readRow_67 hl (by decide) rfl (fun ls hl => ?_)
      refine tl_ind (G := fun H locs ls => W p l e ((headSpec (tl_w yX0_readRow cX0_readRow 7 none) ({ frames := 2, cells := 0, slots := 0, locals := 48 })).room) s m #[.ref o, .int p0, .int p1, .ref q, .ref z] below meth c H locs 0 0 (MQ below (va_Qv (fun (u : Nat → va_E) => True) (tp_B D cy L K Γ f [28, 29]) A) #[.ref o, .int p0, .int p1, .ref q, .ref z] s 0 0 A) (F0 m 69 ls [])) (α := (Nat → va_E) × Int32) (fun aq => (40 - aq.2.toInt).toNat) (fun aq H locs ls => (0 ≤ aq.2.toInt) ∧ (aq.2.toInt ≤ 40) ∧ va_P D vwCl (va_pl L aq.1) H ∧ tp_I cy L K Γ aq.1 ∧ (∀ b, (K b).1 ∉ ([28, 29] : List Nat) → aq.1 b = f b) ∧ va_S A s.heap H locs ∧ lv_has ls 7 [(5, .int aq.2), (0, .ref o), (1, .int p0), (2, .int p1), (3, .ref q), (4, .ref z)]) ?_ (f_21, (0 : Int32)) H locs ls ⟨(show 0 ≤ (0 : Int) from (by omega)), (show (0 : Int) ≤ 40 from (by omega)), hP, hI, hfr, hS, lv_sub hl [0, 1, 2, 3, 4, 5] rfl⟩
      rintro ⟨f_23, v5⟩ H locs ls ⟨h0, h1, hP, hI, hfr, hS, hl⟩ ih69
      have hP : va_P D vwCl (va_pl L f_23) H := hP
      have hI : tp_I cy L K Γ f_23 := hI
      have hfr : ∀ b, (K b).1 ∉ ([28, 29] : List Nat) → f_23 b = f b := hfr
      have hD : va_D A (va_pl L f_23) := tp_D hL hAL
      have h0 : 0 ≤ v5.toInt := h0
      have h1 : v5.toInt ≤ 40 := h1
      have hl : lv_has ls 7 [(5, .int v5), (0, .ref o), (1, .int p0), (2, .int p1), (3, .ref q), (4, .ref z)] := hl
      refine lv_iload hx hb dX0_readRow_69 (lv_at hl 0 rfl) ?_
      refine lv_aload_n hx hb dX0_readRow_71 rfl (lv_at hl 1 rfl) ?_
      refine tp_get (cy := cy) (ci := 0) (v := .ref x_5) (C := RX0) (T := TX0) (N := 9) hx hb hta inlX0 hown hK hP ho.1 ((tp_un hfr ho (by decide)).trans hf_1) rfl 3 (by decide) (hta _ wk_65) (fun _ h9 => h9) rfl dX0_readRow_72 ?_
      obtain ⟨x_25, x_26, x_27, hf_24, hx_25, hx_26, hx_27⟩ := (show tp_o_TABLE L K (40) w (Γ (7, 40, w)) (f x_5) from hI0.at hx_5)
      refine tp_getN (cy := cy) (ci := 6) (v := .int x_27) (C := RX6) (T := TX6) (N := 3) hx hb hta inlX6 hown hK hP hx_5.1 ((tp_un hfr hx_5 (by decide)).trans hf_24) rfl 2 (by decide) (va_Nw.use rfl (hN.1 14 _ nk_14)) (fun _ h9 => h9) rfl dX0_readRow_75 ?_
      refine lv_icmp_ge (tgt := 123) hx hb dX0_readRow_78 (by decide) (fun c_28 => ?_) (fun c_28 => ?_)
      · have c_28 : x_27.toInt ≤ v5.toInt := tl_le c_28
        exact W.vret hx hb hr (fun t ht hW => ⟨⟨f_23, rfl, trivial, by rw [ht]; exact hP, hI, hfr⟩, hS.F ht⟩) hS.2.2 dX0_readRow_123
      · have c_28 : v5.toInt < x_27.toInt := tl_nle c_28
        refine lv_iload hx hb dX0_readRow_81 (lv_at hl 0 rfl) ?_
        refine lv_iload_n hx hb dX0_readRow_83 rfl (lv_at hl 3 rfl) ?_
        refine lv_icmp_eq (tgt := 117) hx hb dX0_readRow_84 (by decide) (fun c_29 => ?_) (fun c_29 => ?_)
        · have c_29 : v5.toInt = p1.toInt := tl_eq c_29
          obtain ⟨z_30, ez_30⟩ : ∃ y : Int32, y = v5 + 1 := ⟨_, rfl⟩
          refine lv_iinc (v := z_30) (lv' := [(5, .int z_30), (0, .ref o), (1, .int p0), (2, .int p1), (3, .ref q), (4, .ref z)]) hx hb dX0_readRow_117 hl (k := 0) rfl (by rw [ez_30]; rfl) (by decide) rfl (fun ls hl => ?_)
          try have iz_30 : z_30.toInt = v5.toInt + 1 := by rw [ez_30]; exact tl_addL v5 1 (by decide) (by omega) (by omega)
          refine lv_goto (tgt := 69) hx hb dX0_readRow_120 (by decide) ?_
          exact ih69 (f_23, z_30) H locs ls (by show (40 - z_30.toInt).toNat < (40 - v5.toInt).toNat; omega) ⟨(show 0 ≤ z_30.toInt from (by omega)), (show z_30.toInt ≤ 40 from (by omega)), hP, hI, hfr, hS, lv_sub hl [0, 1, 2, 3, 4, 5] rfl⟩
        · have c_29 : ¬ v5.toInt = p1.toInt := tl_neq c_29
          refine lv_aload_n hx hb dX0_readRow_87 rfl (lv_at hl 1 rfl) ?_
          refine tp_get (cy := cy) (ci := 0) (v := .ref x_5) (C := RX0) (T := TX0) (N := 9) hx hb hta inlX0 hown hK hP ho.1 ((tp_un hfr ho (by decide)).trans hf_1) rfl 3 (by decide) (hta _ wk_65) (fun _ h9 => h9) rfl dX0_readRow_88 ?_
          refine lv_iload hx hb dX0_readRow_91 (lv_at hl 0 rfl) ?_
          refine lv_iconst (v := 0) hx hb dX0_readRow_93 (by decide) ?_
          refine tl_si (tq_rVN hN (As := [.int v5, .int 0]) (rest := []) ⟨hx, hb, hml, hown, hta⟩ (tp_P.pre hK hN hL hU hI hP) (tp_recv hK hP hx_5.1 ((tp_un hfr hx_5 (by decide)).trans hf_24) rfl) lk_X0_66 (t_X6_cell l D cy H.size L K Γ f_23 40 w x_5 v5 0 hx_5 (by first | omega | (simp only [Int32.toInt_toInt64]; omega) | decide | assumption)) rfl rfl ⟨Nat.le_of_ble_eq_true rfl, Nat.le_of_ble_eq_true rfl⟩ rfl hl.1 rfl (Nat.le_of_ble_eq_true rfl) dX0_readRow_94 ⟨Nat.le_of_ble_eq_true rfl, Nat.le_of_ble_eq_true rfl⟩) (fun r_32 hw_31 => ?_)
          refine lv_aload_n hx hb dX0_readRow_97 rfl (lv_at hl 1 rfl) ?_
          refine tp_get (cy := cy) (ci := 0) (v := .ref x_4) (C := RX0) (T := TX0) (N := 9) hx hb hta inlX0 hown hK hP ho.1 ((tp_un hfr ho (by decide)).trans hf_1) rfl 2 (by decide) (hta _ wk_61) (fun _ h9 => h9) rfl dX0_readRow_98 ?_
          refine tp_getN (cy := cy) (ci := 4) (v := .ref x_14) (C := RX4) (T := TX4) (N := 6) hx hb hta inlX4 hown hK hP hx_4.1 ((tp_un hfr hx_4 (by decide)).trans hf_11) rfl 2 (by decide) (va_Nw.use rfl (hN.1 6 _ nk_6)) (fun _ h9 => h9) rfl dX0_readRow_101 ?_
          refine lv_iload_n hx hb dX0_readRow_104 rfl (lv_at hl 2 rfl) ?_
          obtain ⟨g_34, hf_33, hg_35⟩ := (show tp_ai cy 4 (24) (f x_14) from hI0.at hx_14)
          have hn_36 : vp_in p0 (24) := tl_in (by omega) (by omega)
          refine tp_iald (cy := cy) hx hb hK hP hx_14.1 ((tp_un hfr hx_14 (by decide)).trans hf_33) hn_36 dX0_readRow_105 ?_
          refine lv_topi (fun z_37 ez_37 => ?_)
          refine lv_icmp_ne (tgt := 117) hx hb dX0_readRow_106 (by decide) (fun c_38 => ?_) (fun c_38 => ?_)
          · have c_38 : ¬ r_32.toInt = z_37.toInt := tl_neq c_38
            obtain ⟨z_39, ez_39⟩ : ∃ y : Int32, y = v5 + 1 := ⟨_, rfl⟩
            refine lv_iinc (v := z_39) (lv' := [(5, .int z_39), (0, .ref o), (1, .int p0), (2, .int p1), (3, .ref q), (4, .ref z)]) hx hb dX0_readRow_117 hl (k := 0) rfl (by rw [ez_39]; rfl) (by decide) rfl (fun ls hl => ?_)
            try have iz_39 : z_39.toInt = v5.toInt + 1 := by rw [ez_39]; exact tl_addL v5 1 (by decide) (by omega) (by omega)
            refine lv_goto (tgt := 69) hx hb dX0_readRow_120 (by decide) ?_
            exact ih69 (f_23, z_39) H locs ls (by show (40 - z_39.toInt).toNat < (40 - v5.toInt).toNat; omega) ⟨(show 0 ≤ z_39.toInt from (by omega)), (show z_39.toInt ≤ 40 from (by omega)), hP, hI, hfr, hS, lv_sub hl [0, 1, 2, 3, 4, 5] rfl⟩
          · have c_38 : r_32.toInt = z_37.toInt := tl_eq c_38
            refine lv_aload_n hx hb dX0_readRow_109 rfl (lv_at hl 1 rfl) ?_
            refine lv_iload hx hb dX0_readRow_110 (lv_at hl 0 rfl) ?_
            refine lv_aload hx hb dX0_readRow_112 (lv_at hl 5 rfl) ?_
            refine tq_cv hS (hAf _ hS.1) (tq_rV (As := [.int v5, .ref z]) (rest := []) ⟨hx, hb, hml, hown, hta⟩ (tp_P.pre hK hN hL hU hI hP) (tp_recv hK hP ho.1 ((tp_un hfr ho (by decide)).trans hf_1) rfl) lk_X0_82 (t_X0_takeOff l D cy H.size L K Γ f_23 w o v5 z ho hz) rfl rfl ⟨Nat.le_of_ble_eq_true rfl, Nat.le_of_ble_eq_true rfl⟩ rfl hl.1 rfl (Nat.le_of_ble_eq_true rfl) dX0_readRow_114 ⟨Nat.le_of_ble_eq_true rfl, Nat.le_of_ble_eq_true rfl⟩) (fun f_42 H locs hw_40 hP hI hc_43 hS => ?_)
            have hD : va_D A (va_pl L f_42) := tp_D hL hAL
            have hfr := tp_fr2 hfr hc_43 (by decide)
            obtain ⟨z_44, ez_44⟩ : ∃ y : Int32, y = v5 + 1 := ⟨_, rfl⟩
            refine lv_iinc (v := z_44) (lv' := [(5, .int z_44), (0, .ref o), (1, .int p0), (2, .int p1), (3, .ref q), (4, .ref z)]) hx hb dX0_readRow_117 hl (k := 0) rfl (by rw [ez_44]; rfl) (by decide) rfl (fun ls hl => ?_)
            try have iz_44 : z_44.toInt = v5.toInt + 1 := by rw [ez_44]; exact tl_addL v5 1 (by decide) (by omega) (by omega)
            refine lv_goto (tgt := 69) hx hb dX0_readRow_120 (by decide) ?_
            exact ih69 (f_42, z_44) H locs ls (by show (40 - z_44.toInt).toNat < (40 - v5.toInt).toNat; omega) ⟨(show 0 ≤ z_44.toInt from (by omega)), (show z_44.toInt ≤ 40 from (by omega)), hP, hI, hfr, hS, lv_sub hl [0, 1, 2, 3, 4, 5] rfl⟩
    · have c_22 : v5.toInt < (300 : Int) := tl_nle c_22
      refine lv_aload_n hx hb dX0_readRow_23 rfl (lv_at hl 1 rfl) ?_
      refine tp_get (cy := cy) (ci := 0) (v := .ref x_4) (C := RX0) (T := TX0) (N := 9) hx hb hta inlX0 hown hK hP ho.1 ((tp_un hfr ho (by decide)).trans hf_1) rfl 2 (by decide) (hta _ wk_61) (fun _ h9 => h9) rfl dX0_readRow_24 ?_
      refine tp_getN (cy := cy) (ci := 4) (v := .ref x_17) (C := RX4) (T := TX4) (N := 6) hx hb hta inlX4 hown hK hP hx_4.1 ((tp_un hfr hx_4 (by decide)).trans hf_11) rfl 5 (by decide) (va_Nw.use rfl (hN.1 11 _ nk_11)) (fun _ h9 => h9) rfl dX0_readRow_27 ?_
      refine lv_iload_n hx hb dX0_readRow_30 rfl (lv_at hl 2 rfl) ?_
      obtain ⟨g_46, hf_45, hg_47⟩ := (show tp_aa cy L K (24) w (f x_17) from hI0.at hx_17)
      have hn_48 : vp_in p0 (24) := tl_in (by omega) (by omega)
      obtain ⟨b_49, eb_49, hb_49⟩ := hg_47 _ (tp_pin hn_48)
      refine tp_aldA (cy := cy) hx hb hK hP hx_17.1 ((tp_un hfr hx_17 (by decide)).trans hf_45) hn_48 dX0_readRow_31 ?_
      refine W.eq (g2 := F0 m 32 ls ([.ref b_49])) (by rw [eb_49]; rfl) ?_
      refine lv_iload hx hb dX0_readRow_32 (lv_at hl 0 rfl) ?_
      obtain ⟨g_51, hf_50, hg_52⟩ := (show tp_ai cy 6 (300) (f b_49) from hI0.at hb_49)
      have hn_53 : vp_in v5 (300) := tl_in (by omega) (by omega)
      refine tp_iald (cy := cy) hx hb hK hP hb_49.1 ((tp_un hfr hb_49 (by decide)).trans hf_50) hn_53 dX0_readRow_34 ?_
      refine lv_topi (fun z_54 ez_54 => ?_)
      refine lv_istore (lv' := [(6, .int z_54), (5, .int v5), (0, .ref o), (1, .int p0), (2, .int p1), (3, .ref q), (4, .ref z)]) hx hb dX0_readRow_35 hl (by decide) rfl (fun ls hl => ?_)
      refine lv_aload_n hx hb dX0_readRow_37 rfl (lv_at hl 5 rfl) ?_
      refine lv_iload hx hb dX0_readRow_38 (lv_at hl 1 rfl) ?_
      refine lv_iload hx hb dX0_readRow_40 (lv_at hl 0 rfl) ?_
      refine lv_ldc (v := (-1000000)) hx hb hown (hta _ wk_833) dX0_readRow_42 ?_
      refine lv_icmp_eq (tgt := 51) hx hb dX0_readRow_44 (by decide) (fun c_55 => ?_) (fun c_55 => ?_)
      · have c_55 : z_54.toInt = (-1000000 : Int) := tl_eq c_55
        refine lv_iconst (v := 0) hx hb dX0_readRow_51 (by decide) ?_
        obtain ⟨g_57, hf_56⟩ := (show tp_az cy (300) (f_21 q) from hI.at hq)
        have hn_59 : vp_in v5 (300) := tl_in (by omega) (by omega)
        have hI9 : tp_I cy L K Γ (va_up f_21 q (.inl (cy 2, 300, .inl (upd g_57 v5.toNatClampNeg (vp_nar .boolean 0))))) := hI.set hq (show tp_az cy (300) _ from ⟨_, rfl⟩)
        have hfr9 : ∀ b, (K b).1 ∉ ([28, 29] : List Nat) → va_up f_21 q (.inl (cy 2, 300, .inl (upd g_57 v5.toNatClampNeg (vp_nar .boolean 0)))) b = f b := tp_fr hfr hq (by decide)
        refine tp_zast (cy := cy) hx hb hK hP hD hS hq.1 hf_56 hn_59 dX0_readRow_52 (fun H locs hP hD hS => ?_)
        have hP : va_P D vwCl (va_pl L (va_up f_21 q (.inl (cy 2, 300, .inl (upd g_57 v5.toNatClampNeg (vp_nar .boolean 0)))))) H := hP
        generalize hfe : va_up f_21 q (.inl (cy 2, 300, .inl (upd g_57 v5.toNatClampNeg (vp_nar .boolean 0)))) = f_60 at hP hI9 hfr9
        have hD : va_D A (va_pl L f_60) := tp_D hL hAL
        have hf_61 : f_60 q = .inl (cy 2, 300, .inl (upd g_57 v5.toNatClampNeg (vp_nar .boolean 0))) := by rw [← hfe]; exact va_up_self _ _ _
        clear hfe
        have hI := hI9
        have hfr := hfr9
        clear hI9 hfr9
        refine lv_aload hx hb dX0_readRow_53 (lv_at hl 6 rfl) ?_
        refine lv_iload hx hb dX0_readRow_55 (lv_at hl 1 rfl) ?_
        refine lv_iload hx hb dX0_readRow_57 (lv_at hl 0 rfl) ?_
        obtain ⟨g_63, hf_62, hg_64⟩ := (show tp_ai cy 29 (300) (f_60 z) from hI.at hz)
        have hn_65 : vp_in v5 (300) := tl_in (by omega) (by omega)
        have hI9 : tp_I cy L K Γ (va_up f_60 z (.inl (cy 0, 300, .inl (upd g_63 v5.toNatClampNeg z_54)))) := hI.set hz (show tp_ai cy 29 (300) _ from ⟨_, rfl, tp_pi_upd hg_64 trivial⟩)
        have hfr9 : ∀ b, (K b).1 ∉ ([28, 29] : List Nat) → va_up f_60 z (.inl (cy 0, 300, .inl (upd g_63 v5.toNatClampNeg z_54))) b = f b := tp_fr hfr hz (by decide)
        refine tp_iast (cy := cy) hx hb hK hP hD hS hz.1 hf_62 hn_65 dX0_readRow_59 (fun H locs hP hD hS => ?_)
        have hP : va_P D vwCl (va_pl L (va_up f_60 z (.inl (cy 0, 300, .inl (upd g_63 v5.toNatClampNeg z_54))))) H := hP
        generalize hfe : va_up f_60 z (.inl (cy 0, 300, .inl (upd g_63 v5.toNatClampNeg z_54))) = f_66 at hP hI9 hfr9
        have hD : va_D A (va_pl L f_66) := tp_D hL hAL
        have hf_67 : f_66 z = .inl (cy 0, 300, .inl (upd g_63 v5.toNatClampNeg z_54)) := by rw [← hfe]; exact va_up_self _ _ _
        clear hfe
        have hI := hI9
        have hfr := hfr9
        clear hI9 hfr9
        obtain ⟨z_68, ez_68⟩ : ∃ y : Int32, y = v5 + 1 := ⟨_, rfl⟩
        refine lv_iinc (v := z_68) (lv' := [(5, .int z_68), (6, .int z_54), (0, .ref o), (1, .int p0), (2, .int p1), (3, .ref q), (4, .ref z)]) hx hb dX0_readRow_60 hl (k := 1) rfl (by rw [ez_68]; rfl) (by decide) rfl (fun ls hl => ?_)
        try have iz_68 : z_68.toInt = v5.toInt + 1 := by rw [ez_68]; exact tl_addL v5 1 (by decide) (by omega) (by omega)
        refine lv_goto (tgt := 15) hx hb dX0_readRow_63 (by decide) ?_
        exact ih15 (f_66, z_68) H locs ls (by show (300 - z_68.toInt).toNat < (300 - v5.toInt).toNat; omega) ⟨(show 0 ≤ z_68.toInt from (by omega)), (show z_68.toInt ≤ 300 from (by omega)), hP, hI, hfr, hS, lv_sub hl [0, 2, 3, 4, 5, 6] rfl⟩
      · have c_55 : ¬ z_54.toInt = (-1000000 : Int) := tl_neq c_55
        refine lv_iconst (v := 1) hx hb dX0_readRow_47 (by decide) ?_
        refine lv_goto (tgt := 52) hx hb dX0_readRow_48 (by decide) ?_
        obtain ⟨g_70, hf_69⟩ := (show tp_az cy (300) (f_21 q) from hI.at hq)
        have hn_72 : vp_in v5 (300) := tl_in (by omega) (by omega)
        have hI9 : tp_I cy L K Γ (va_up f_21 q (.inl (cy 2, 300, .inl (upd g_70 v5.toNatClampNeg (vp_nar .boolean 1))))) := hI.set hq (show tp_az cy (300) _ from ⟨_, rfl⟩)
        have hfr9 : ∀ b, (K b).1 ∉ ([28, 29] : List Nat) → va_up f_21 q (.inl (cy 2, 300, .inl (upd g_70 v5.toNatClampNeg (vp_nar .boolean 1)))) b = f b := tp_fr hfr hq (by decide)
        refine tp_zast (cy := cy) hx hb hK hP hD hS hq.1 hf_69 hn_72 dX0_readRow_52 (fun H locs hP hD hS => ?_)
        have hP : va_P D vwCl (va_pl L (va_up f_21 q (.inl (cy 2, 300, .inl (upd g_70 v5.toNatClampNeg (vp_nar .boolean 1)))))) H := hP
        generalize hfe : va_up f_21 q (.inl (cy 2, 300, .inl (upd g_70 v5.toNatClampNeg (vp_nar .boolean 1)))) = f_73 at hP hI9 hfr9
        have hD : va_D A (va_pl L f_73) := tp_D hL hAL
        have hf_74 : f_73 q = .inl (cy 2, 300, .inl (upd g_70 v5.toNatClampNeg (vp_nar .boolean 1))) := by rw [← hfe]; exact va_up_self _ _ _
        clear hfe
        have hI := hI9
        have hfr := hfr9
        clear hI9 hfr9
        refine lv_aload hx hb dX0_readRow_53 (lv_at hl 6 rfl) ?_
        refine lv_iload hx hb dX0_readRow_55 (lv_at hl 1 rfl) ?_
        refine lv_iload hx hb dX0_readRow_57 (lv_at hl 0 rfl) ?_
        obtain ⟨g_76, hf_75, hg_77⟩ := (show tp_ai cy 29 (300) (f_73 z) from hI.at hz)
        have hn_78 : vp_in v5 (300) := tl_in (by omega) (by omega)
        have hI9 : tp_I cy L K Γ (va_up f_73 z (.inl (cy 0, 300, .inl (upd g_76 v5.toNatClampNeg z_54)))) := hI.set hz (show tp_ai cy 29 (300) _ from ⟨_, rfl, tp_pi_upd hg_77 trivial⟩)
        have hfr9 : ∀ b, (K b).1 ∉ ([28, 29] : List Nat) → va_up f_73 z (.inl (cy 0, 300, .inl (upd g_76 v5.toNatClampNeg z_54))) b = f b := tp_fr hfr hz (by decide)
        refine tp_iast (cy := cy) hx hb hK hP hD hS hz.1 hf_75 hn_78 dX0_readRow_59 (fun H locs hP hD hS => ?_)
        have hP : va_P D vwCl (va_pl L (va_up f_73 z (.inl (cy 0, 300, .inl (upd g_76 v5.toNatClampNeg z_54))))) H := hP
        generalize hfe : va_up f_73 z (.inl (cy 0, 300, .inl (upd g_76 v5.toNatClampNeg z_54))) = f_79 at hP hI9 hfr9
        have hD : va_D A (va_pl L f_79) := tp_D hL hAL
        have hf_80 : f_79 z = .inl (cy 0, 300, .inl (upd g_76 v5.toNatClampNeg z_54)) := by rw [← hfe]; exact va_up_self _ _ _
        clear hfe
        have hI := hI9
        have hfr := hfr9
        clear hI9 hfr9
        obtain ⟨z_81, ez_81⟩ : ∃ y : Int32, y = v5 + 1 := ⟨_, rfl⟩
        refine lv_iinc (v := z_81) (lv' := [(5, .int z_81), (6, .int z_54), (0, .ref o), (1, .int p0), (2, .int p1), (3, .ref q), (4, .ref z)]) hx hb dX0_readRow_60 hl (k := 1) rfl (by rw [ez_81]; rfl) (by decide) rfl (fun ls hl => ?_)
        try have iz_81 : z_81.toInt = v5.toInt + 1 := by rw [ez_81]; exact tl_addL v5 1 (by decide) (by omega) (by omega)
        refine lv_goto (tgt := 15) hx hb dX0_readRow_63 (by decide) ?_
        exact ih15 (f_79, z_81) H locs ls (by show (300 - z_81.toInt).toNat < (300 - v5.toInt).toNat; omega) ⟨(show 0 ≤ z_81.toInt from (by omega)), (show z_81.toInt ≤ 300 from (by omega)), hP, hI, hfr, hS, lv_sub hl [0, 2, 3, 4, 5, 6] rfl⟩
  · have c_20 := hw_18.f c_20
    exact W.vret hx hb hr (fun t ht hW => ⟨⟨f, rfl, trivial, by rw [ht]; exact hP, hI, hfr⟩, hS.F ht⟩) hS.2.2 dX0_readRow_11
