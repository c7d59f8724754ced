theorem dX12_powerOf_0 : decode cX12_powerOf 0 = .ok (.lconst 0, 1) := by decide +kernel
theorem dX12_powerOf_1 : decode cX12_powerOf 1 = .ok (.lstore_n 2, 1) := by decide +kernel
theorem dX12_powerOf_2 : decode cX12_powerOf 2 = .ok (.iconst 0, 1) := by decide +kernel
theorem dX12_powerOf_3 : decode cX12_powerOf 3 = .ok (.istore 4, 2) := by decide +kernel
theorem dX12_powerOf_5 : decode cX12_powerOf 5 = .ok (.iload 4, 2) := by decide +kernel
theorem dX12_powerOf_7 : decode cX12_powerOf 7 = .ok (.iload_n 1, 1) := by decide +kernel
theorem dX12_powerOf_8 : decode cX12_powerOf 8 = .ok (.if_icmp .ge 81, 3) := by decide +kernel
theorem dX12_powerOf_11 : decode cX12_powerOf 11 = .ok (.lconst 0, 1) := by decide +kernel
theorem dX12_powerOf_12 : decode cX12_powerOf 12 = .ok (.lstore 5, 2) := by decide +kernel
theorem dX12_powerOf_14 : decode cX12_powerOf 14 = .ok (.iconst 0, 1) := by decide +kernel
theorem dX12_powerOf_15 : decode cX12_powerOf 15 = .ok (.istore 7, 2) := by decide +kernel
theorem dX12_powerOf_17 : decode cX12_powerOf 17 = .ok (.iload 4, 2) := by decide +kernel
theorem dX12_powerOf_19 : decode cX12_powerOf 19 = .ok (.istore 8, 2) := by decide +kernel
theorem dX12_powerOf_21 : decode cX12_powerOf 21 = .ok (.iload 8, 2) := by decide +kernel
theorem dX12_powerOf_23 : decode cX12_powerOf 23 = .ok (.sipush 300, 3) := by decide +kernel
theorem dX12_powerOf_26 : decode cX12_powerOf 26 = .ok (.if_icmp .ge 40, 3) := by decide +kernel
theorem dX12_powerOf_29 : decode cX12_powerOf 29 = .ok (.aload_n 0, 1) := by decide +kernel
theorem dX12_powerOf_30 : decode cX12_powerOf 30 = .ok (.getfield 72, 3) := by decide +kernel
theorem dX12_powerOf_33 : decode cX12_powerOf 33 = .ok (.iload 8, 2) := by decide +kernel
theorem dX12_powerOf_35 : decode cX12_powerOf 35 = .ok (.baload, 1) := by decide +kernel
theorem dX12_powerOf_36 : decode cX12_powerOf 36 = .ok (.ifCond .ne 6, 3) := by decide +kernel
theorem dX12_powerOf_39 : decode cX12_powerOf 39 = .ok (.goto 18, 3) := by decide +kernel
theorem dX12_powerOf_42 : decode cX12_powerOf 42 = .ok (.lload 5, 2) := by decide +kernel
theorem dX12_powerOf_44 : decode cX12_powerOf 44 = .ok (.aload_n 0, 1) := by decide +kernel
theorem dX12_powerOf_45 : decode cX12_powerOf 45 = .ok (.getfield 82, 3) := by decide +kernel
theorem dX12_powerOf_48 : decode cX12_powerOf 48 = .ok (.iload 8, 2) := by decide +kernel
theorem dX12_powerOf_50 : decode cX12_powerOf 50 = .ok (.laload, 1) := by decide +kernel
theorem dX12_powerOf_51 : decode cX12_powerOf 51 = .ok (.ladd, 1) := by decide +kernel
theorem dX12_powerOf_52 : decode cX12_powerOf 52 = .ok (.lstore 5, 2) := by decide +kernel
theorem dX12_powerOf_54 : decode cX12_powerOf 54 = .ok (.iinc 7 1, 3) := by decide +kernel
theorem dX12_powerOf_57 : decode cX12_powerOf 57 = .ok (.iload 8, 2) := by decide +kernel
theorem dX12_powerOf_59 : decode cX12_powerOf 59 = .ok (.iload_n 1, 1) := by decide +kernel
theorem dX12_powerOf_60 : decode cX12_powerOf 60 = .ok (.iadd, 1) := by decide +kernel
theorem dX12_powerOf_61 : decode cX12_powerOf 61 = .ok (.istore 8, 2) := by decide +kernel
theorem dX12_powerOf_63 : decode cX12_powerOf 63 = .ok (.goto (-42), 3) := by decide +kernel
theorem dX12_powerOf_66 : decode cX12_powerOf 66 = .ok (.iload 7, 2) := by decide +kernel
theorem dX12_powerOf_68 : decode cX12_powerOf 68 = .ok (.ifCond .le 15, 3) := by decide +kernel
theorem dX12_powerOf_71 : decode cX12_powerOf 71 = .ok (.lload_n 2, 1) := by decide +kernel
theorem dX12_powerOf_72 : decode cX12_powerOf 72 = .ok (.lload 5, 2) := by decide +kernel
theorem dX12_powerOf_74 : decode cX12_powerOf 74 = .ok (.lload 5, 2) := by decide +kernel
theorem dX12_powerOf_76 : decode cX12_powerOf 76 = .ok (.lmul, 1) := by decide +kernel
theorem dX12_powerOf_77 : decode cX12_powerOf 77 = .ok (.iload 7, 2) := by decide +kernel
theorem dX12_powerOf_79 : decode cX12_powerOf 79 = .ok (.i2l, 1) := by decide +kernel
theorem dX12_powerOf_80 : decode cX12_powerOf 80 = .ok (.ldiv, 1) := by decide +kernel
theorem dX12_powerOf_81 : decode cX12_powerOf 81 = .ok (.ladd, 1) := by decide +kernel
theorem dX12_powerOf_82 : decode cX12_powerOf 82 = .ok (.lstore_n 2, 1) := by decide +kernel
theorem dX12_powerOf_83 : decode cX12_powerOf 83 = .ok (.iinc 4 1, 3) := by decide +kernel
theorem dX12_powerOf_86 : decode cX12_powerOf 86 = .ok (.goto (-81), 3) := by decide +kernel
theorem dX12_powerOf_89 : decode cX12_powerOf 89 = .ok (.lload_n 2, 1) := by decide +kernel
theorem dX12_powerOf_90 : decode cX12_powerOf 90 = .ok (.lreturn, 1) := by decide +kernel
theorem dX12_periodNow_0 : decode cX12_periodNow 0 = .ok (.iconst 2, 1) := by decide +kernel
theorem dX12_periodNow_1 : decode cX12_periodNow 1 = .ok (.istore_n 1, 1) := by decide +kernel
theorem dX12_periodNow_2 : decode cX12_periodNow 2 = .ok (.ldc2_w 457, 3) := by decide +kernel
theorem dX12_periodNow_5 : decode cX12_periodNow 5 = .ok (.lstore_n 2, 1) := by decide +kernel
theorem dX12_periodNow_6 : decode cX12_periodNow 6 = .ok (.iconst 2, 1) := by decide +kernel
theorem dX12_periodNow_7 : decode cX12_periodNow 7 = .ok (.istore 4, 2) := by decide +kernel
theorem dX12_periodNow_9 : decode cX12_periodNow 9 = .ok (.iload 4, 2) := by decide +kernel
theorem dX12_periodNow_11 : decode cX12_periodNow 11 = .ok (.bipush 100, 2) := by decide +kernel
theorem dX12_periodNow_13 : decode cX12_periodNow 13 = .ok (.if_icmp .ge 33, 3) := by decide +kernel
theorem dX12_periodNow_16 : decode cX12_periodNow 16 = .ok (.aload_n 0, 1) := by decide +kernel
theorem dX12_periodNow_17 : decode cX12_periodNow 17 = .ok (.iload 4, 2) := by decide +kernel
theorem dX12_periodNow_19 : decode cX12_periodNow 19 = .ok (.invokevirtual 512, 3) := by decide +kernel
theorem dX12_periodNow_22 : decode cX12_periodNow 22 = .ok (.lstore 5, 2) := by decide +kernel
theorem dX12_periodNow_24 : decode cX12_periodNow 24 = .ok (.lload 5, 2) := by decide +kernel
theorem dX12_periodNow_26 : decode cX12_periodNow 26 = .ok (.lload_n 2, 1) := by decide +kernel
theorem dX12_periodNow_27 : decode cX12_periodNow 27 = .ok (.lcmp, 1) := by decide +kernel
theorem dX12_periodNow_28 : decode cX12_periodNow 28 = .ok (.ifCond .gt 6, 3) := by decide +kernel
theorem dX12_periodNow_31 : decode cX12_periodNow 31 = .ok (.goto 9, 3) := by decide +kernel
theorem dX12_periodNow_34 : decode cX12_periodNow 34 = .ok (.iload 4, 2) := by decide +kernel
theorem dX12_periodNow_36 : decode cX12_periodNow 36 = .ok (.istore_n 1, 1) := by decide +kernel
theorem dX12_periodNow_37 : decode cX12_periodNow 37 = .ok (.lload 5, 2) := by decide +kernel
theorem dX12_periodNow_39 : decode cX12_periodNow 39 = .ok (.lstore_n 2, 1) := by decide +kernel
theorem dX12_periodNow_40 : decode cX12_periodNow 40 = .ok (.iinc 4 1, 3) := by decide +kernel
theorem dX12_periodNow_43 : decode cX12_periodNow 43 = .ok (.goto (-34), 3) := by decide +kernel
theorem dX12_periodNow_46 : decode cX12_periodNow 46 = .ok (.iload_n 1, 1) := by decide +kernel
theorem dX12_periodNow_47 : decode cX12_periodNow 47 = .ok (.ireturn, 1) := by decide +kernel
theorem wk_1258 : Cond.methodLink RX12 512 yX12_powerOf ∈ tl_L := List.mem_filter.mpr ⟨lw_m8 (i := 180) rfl, rfl⟩
theorem wk_1259 : Cond.instanceMethod yX12_powerOf ∈ tl_L := List.mem_filter.mpr ⟨lw_m8 (i := 182) rfl, rfl⟩
theorem wk_1260 : Cond.selects RX12 yX12_powerOf yX12_powerOf ∈ tl_L := List.mem_filter.mpr ⟨lw_s11 (i := 7) (q := (yX12_powerOf, 49)) rfl, rfl⟩
theorem wk_1261 : Cond.code yX12_powerOf cX12_powerOf 9 (some .long) ∈ tl_L := List.mem_filter.mpr ⟨lw_m8 (i := 183) rfl, rfl⟩
theorem lk_X12_512 : tl_kV RX12 512 RX12 yX12_powerOf cX12_powerOf 9 (some .long) 1 := ⟨wk_1261, wk_1258, wk_1259, wk_1260, wk_5, ⟨by decide +kernel, by decide +kernel, by decide +kernel⟩⟩
theorem dX12_ripple_0 : decode cX12_ripple 0 = .ok (.aload_n 0, 1) := by decide +kernel
theorem dX12_ripple_1 : decode cX12_ripple 1 = .ok (.iload_n 1, 1) := by decide +kernel
theorem dX12_ripple_2 : decode cX12_ripple 2 = .ok (.iload_n 2, 1) := by decide +kernel
theorem dX12_ripple_3 : decode cX12_ripple 3 = .ok (.invokevirtual 447, 3) := by decide +kernel
theorem dX12_ripple_6 : decode cX12_ripple 6 = .ok (.ifCond .eq 13, 3) := by decide +kernel
theorem dX12_ripple_9 : decode cX12_ripple 9 = .ok (.iload_n 3, 1) := by decide +kernel
theorem dX12_ripple_10 : decode cX12_ripple 10 = .ok (.i2l, 1) := by decide +kernel
theorem dX12_ripple_11 : decode cX12_ripple 11 = .ok (.lconst 0, 1) := by decide +kernel
theorem dX12_ripple_12 : decode cX12_ripple 12 = .ok (.lconst 1, 1) := by decide +kernel
theorem dX12_ripple_13 : decode cX12_ripple 13 = .ok (.invokestatic 112, 3) := by decide +kernel
theorem dX12_ripple_16 : decode cX12_ripple 16 = .ok (.ifCond .ne 7, 3) := by decide +kernel
theorem dX12_ripple_19 : decode cX12_ripple 19 = .ok (.ldc2_w 483, 3) := by decide +kernel
theorem dX12_ripple_22 : decode cX12_ripple 22 = .ok (.lreturn, 1) := by decide +kernel
theorem dX12_ripple_23 : decode cX12_ripple 23 = .ok (.aload_n 0, 1) := by decide +kernel
theorem dX12_ripple_24 : decode cX12_ripple 24 = .ok (.iload_n 1, 1) := by decide +kernel
theorem dX12_ripple_25 : decode cX12_ripple 25 = .ok (.iload_n 2, 1) := by decide +kernel
theorem dX12_ripple_26 : decode cX12_ripple 26 = .ok (.invokevirtual 450, 3) := by decide +kernel
theorem dX12_ripple_29 : decode cX12_ripple 29 = .ok (.pop2, 1) := by decide +kernel
theorem dX12_ripple_30 : decode cX12_ripple 30 = .ok (.aload_n 0, 1) := by decide +kernel
theorem dX12_ripple_31 : decode cX12_ripple 31 = .ok (.getfield 398, 3) := by decide +kernel
theorem dX12_ripple_34 : decode cX12_ripple 34 = .ok (.ifCond .ne 7, 3) := by decide +kernel
theorem dX12_ripple_37 : decode cX12_ripple 37 = .ok (.ldc2_w 457, 3) := by decide +kernel
theorem dX12_ripple_40 : decode cX12_ripple 40 = .ok (.lreturn, 1) := by decide +kernel
theorem dX12_ripple_41 : decode cX12_ripple 41 = .ok (.aload_n 0, 1) := by decide +kernel
theorem dX12_ripple_42 : decode cX12_ripple 42 = .ok (.invokevirtual 515, 3) := by decide +kernel
theorem dX12_ripple_45 : decode cX12_ripple 45 = .ok (.istore 4, 2) := by decide +kernel
theorem dX12_ripple_47 : decode cX12_ripple 47 = .ok (.iload_n 3, 1) := by decide +kernel
theorem dX12_ripple_48 : decode cX12_ripple 48 = .ok (.ifCond .ne 9, 3) := by decide +kernel
theorem dX12_ripple_51 : decode cX12_ripple 51 = .ok (.iload 4, 2) := by decide +kernel
theorem dX12_ripple_53 : decode cX12_ripple 53 = .ok (.i2l, 1) := by decide +kernel
theorem dX12_ripple_54 : decode cX12_ripple 54 = .ok (.goto 9, 3) := by decide +kernel
theorem dX12_ripple_57 : decode cX12_ripple 57 = .ok (.aload_n 0, 1) := by decide +kernel
theorem dX12_ripple_58 : decode cX12_ripple 58 = .ok (.iload 4, 2) := by decide +kernel
theorem dX12_ripple_60 : decode cX12_ripple 60 = .ok (.invokevirtual 512, 3) := by decide +kernel
theorem dX12_ripple_63 : decode cX12_ripple 63 = .ok (.lreturn, 1) := by decide +kernel
theorem wk_1254 : Cond.methodLink RX12 515 yX12_periodNow ∈ tl_L := List.mem_filter.mpr ⟨lw_m8 (i := 176) rfl, rfl⟩
theorem wk_1255 : Cond.instanceMethod yX12_periodNow ∈ tl_L := List.mem_filter.mpr ⟨lw_m8 (i := 178) rfl, rfl⟩
theorem wk_1256 : Cond.selects RX12 yX12_periodNow yX12_periodNow ∈ tl_L := List.mem_filter.mpr ⟨lw_s11 (i := 6) (q := (yX12_periodNow, 49)) rfl, rfl⟩
theorem wk_1257 : Cond.code yX12_periodNow cX12_periodNow 7 (some .int) ∈ tl_L := List.mem_filter.mpr ⟨lw_m8 (i := 179) rfl, rfl⟩
theorem lk_X12_515 : tl_kV RX12 515 RX12 yX12_periodNow cX12_periodNow 7 (some .int) 0 := ⟨wk_1257, wk_1254, wk_1255, wk_1256, wk_5, ⟨by decide +kernel, by decide +kernel, by decide +kernel⟩⟩
theorem dX12_meanLeft_0 : decode cX12_meanLeft 0 = .ok (.lconst 0, 1) := by decide +kernel
theorem dX12_meanLeft_1 : decode cX12_meanLeft 1 = .ok (.lstore_n 3, 1) := by decide +kernel
theorem dX12_meanLeft_2 : decode cX12_meanLeft 2 = .ok (.iconst 0, 1) := by decide +kernel
theorem dX12_meanLeft_3 : decode cX12_meanLeft 3 = .ok (.istore 5, 2) := by decide +kernel
theorem dX12_meanLeft_5 : decode cX12_meanLeft 5 = .ok (.iload_n 2, 1) := by decide +kernel
theorem dX12_meanLeft_6 : decode cX12_meanLeft 6 = .ok (.istore 6, 2) := by decide +kernel
theorem dX12_meanLeft_8 : decode cX12_meanLeft 8 = .ok (.iload 6, 2) := by decide +kernel
theorem dX12_meanLeft_10 : decode cX12_meanLeft 10 = .ok (.sipush 300, 3) := by decide +kernel
theorem dX12_meanLeft_13 : decode cX12_meanLeft 13 = .ok (.if_icmp .ge 38, 3) := by decide +kernel
theorem dX12_meanLeft_16 : decode cX12_meanLeft 16 = .ok (.aload_n 0, 1) := by decide +kernel
theorem dX12_meanLeft_17 : decode cX12_meanLeft 17 = .ok (.getfield 72, 3) := by decide +kernel
theorem dX12_meanLeft_20 : decode cX12_meanLeft 20 = .ok (.iload 6, 2) := by decide +kernel
theorem dX12_meanLeft_22 : decode cX12_meanLeft 22 = .ok (.baload, 1) := by decide +kernel
theorem dX12_meanLeft_23 : decode cX12_meanLeft 23 = .ok (.ifCond .ne 6, 3) := by decide +kernel
theorem dX12_meanLeft_26 : decode cX12_meanLeft 26 = .ok (.goto 16, 3) := by decide +kernel
theorem dX12_meanLeft_29 : decode cX12_meanLeft 29 = .ok (.lload_n 3, 1) := by decide +kernel
theorem dX12_meanLeft_30 : decode cX12_meanLeft 30 = .ok (.aload_n 0, 1) := by decide +kernel
theorem dX12_meanLeft_31 : decode cX12_meanLeft 31 = .ok (.getfield 82, 3) := by decide +kernel
theorem dX12_meanLeft_34 : decode cX12_meanLeft 34 = .ok (.iload 6, 2) := by decide +kernel
theorem dX12_meanLeft_36 : decode cX12_meanLeft 36 = .ok (.laload, 1) := by decide +kernel
theorem dX12_meanLeft_37 : decode cX12_meanLeft 37 = .ok (.ladd, 1) := by decide +kernel
theorem dX12_meanLeft_38 : decode cX12_meanLeft 38 = .ok (.lstore_n 3, 1) := by decide +kernel
theorem dX12_meanLeft_39 : decode cX12_meanLeft 39 = .ok (.iinc 5 1, 3) := by decide +kernel
theorem dX12_meanLeft_42 : decode cX12_meanLeft 42 = .ok (.iload 6, 2) := by decide +kernel
theorem dX12_meanLeft_44 : decode cX12_meanLeft 44 = .ok (.iload_n 1, 1) := by decide +kernel
theorem dX12_meanLeft_45 : decode cX12_meanLeft 45 = .ok (.iadd, 1) := by decide +kernel
theorem dX12_meanLeft_46 : decode cX12_meanLeft 46 = .ok (.istore 6, 2) := by decide +kernel
theorem dX12_meanLeft_48 : decode cX12_meanLeft 48 = .ok (.goto (-40), 3) := by decide +kernel
theorem dX12_meanLeft_51 : decode cX12_meanLeft 51 = .ok (.iload 5, 2) := by decide +kernel
theorem dX12_meanLeft_53 : decode cX12_meanLeft 53 = .ok (.ifCond .ne 7, 3) := by decide +kernel
theorem dX12_meanLeft_56 : decode cX12_meanLeft 56 = .ok (.lconst 0, 1) := by decide +kernel
theorem dX12_meanLeft_57 : decode cX12_meanLeft 57 = .ok (.goto 10, 3) := by decide +kernel
theorem dX12_meanLeft_60 : decode cX12_meanLeft 60 = .ok (.lload_n 3, 1) := by decide +kernel
theorem dX12_meanLeft_61 : decode cX12_meanLeft 61 = .ok (.iload 5, 2) := by decide +kernel
theorem dX12_meanLeft_63 : decode cX12_meanLeft 63 = .ok (.i2l, 1) := by decide +kernel
theorem dX12_meanLeft_64 : decode cX12_meanLeft 64 = .ok (.invokestatic 401, 3) := by decide +kernel
theorem dX12_meanLeft_67 : decode cX12_meanLeft 67 = .ok (.lreturn, 1) := by decide +kernel
theorem dX12_smooth_0 : decode cX12_smooth 0 = .ok (.aload_n 0, 1) := by decide +kernel
theorem dX12_smooth_1 : decode cX12_smooth 1 = .ok (.iload_n 1, 1) := by decide +kernel
theorem dX12_smooth_2 : decode cX12_smooth 2 = .ok (.iload_n 2, 1) := by decide +kernel
theorem dX12_smooth_3 : decode cX12_smooth 3 = .ok (.invokevirtual 447, 3) := by decide +kernel
theorem dX12_smooth_6 : decode cX12_smooth 6 = .ok (.ifCond .ne 6, 3) := by decide +kernel
theorem dX12_smooth_9 : decode cX12_smooth 9 = .ok (.ldc 131, 2) := by decide +kernel
theorem dX12_smooth_11 : decode cX12_smooth 11 = .ok (.ireturn, 1) := by decide +kernel
theorem dX12_smooth_12 : decode cX12_smooth 12 = .ok (.aload_n 0, 1) := by decide +kernel
theorem dX12_smooth_13 : decode cX12_smooth 13 = .ok (.iload_n 1, 1) := by decide +kernel
theorem dX12_smooth_14 : decode cX12_smooth 14 = .ok (.iload_n 2, 1) := by decide +kernel
theorem dX12_smooth_15 : decode cX12_smooth 15 = .ok (.invokevirtual 450, 3) := by decide +kernel
theorem dX12_smooth_18 : decode cX12_smooth 18 = .ok (.pop2, 1) := by decide +kernel
theorem dX12_smooth_19 : decode cX12_smooth 19 = .ok (.aload_n 0, 1) := by decide +kernel
theorem dX12_smooth_20 : decode cX12_smooth 20 = .ok (.getfield 425, 3) := by decide +kernel
theorem dX12_smooth_23 : decode cX12_smooth 23 = .ok (.ifCond .ne 6, 3) := by decide +kernel
theorem dX12_smooth_26 : decode cX12_smooth 26 = .ok (.ldc 109, 2) := by decide +kernel
theorem dX12_smooth_28 : decode cX12_smooth 28 = .ok (.ireturn, 1) := by decide +kernel
theorem dX12_smooth_29 : decode cX12_smooth 29 = .ok (.aload_n 0, 1) := by decide +kernel
theorem dX12_smooth_30 : decode cX12_smooth 30 = .ok (.invokevirtual 515, 3) := by decide +kernel
theorem dX12_smooth_33 : decode cX12_smooth 33 = .ok (.istore_n 3, 1) := by decide +kernel
theorem dX12_smooth_34 : decode cX12_smooth 34 = .ok (.aload_n 0, 1) := by decide +kernel
theorem dX12_smooth_35 : decode cX12_smooth 35 = .ok (.getfield 389, 3) := by decide +kernel
theorem dX12_smooth_38 : decode cX12_smooth 38 = .ok (.istore 4, 2) := by decide +kernel
theorem dX12_smooth_40 : decode cX12_smooth 40 = .ok (.iload 4, 2) := by decide +kernel
theorem dX12_smooth_42 : decode cX12_smooth 42 = .ok (.aload_n 0, 1) := by decide +kernel
theorem dX12_smooth_43 : decode cX12_smooth 43 = .ok (.getfield 392, 3) := by decide +kernel
theorem dX12_smooth_46 : decode cX12_smooth 46 = .ok (.if_icmp .gt 40, 3) := by decide +kernel
theorem dX12_smooth_49 : decode cX12_smooth 49 = .ok (.aload_n 0, 1) := by decide +kernel
theorem dX12_smooth_50 : decode cX12_smooth 50 = .ok (.getfield 69, 3) := by decide +kernel
theorem dX12_smooth_53 : decode cX12_smooth 53 = .ok (.iload 4, 2) := by decide +kernel
theorem dX12_smooth_55 : decode cX12_smooth 55 = .ok (.iaload, 1) := by decide +kernel
theorem dX12_smooth_56 : decode cX12_smooth 56 = .ok (.ldc 109, 2) := by decide +kernel
theorem dX12_smooth_58 : decode cX12_smooth 58 = .ok (.if_icmp .eq 22, 3) := by decide +kernel
theorem dX12_smooth_61 : decode cX12_smooth 61 = .ok (.aload_n 0, 1) := by decide +kernel
theorem dX12_smooth_62 : decode cX12_smooth 62 = .ok (.getfield 82, 3) := by decide +kernel
theorem dX12_smooth_65 : decode cX12_smooth 65 = .ok (.iload 4, 2) := by decide +kernel
theorem dX12_smooth_67 : decode cX12_smooth 67 = .ok (.dup2, 1) := by decide +kernel
theorem dX12_smooth_68 : decode cX12_smooth 68 = .ok (.laload, 1) := by decide +kernel
theorem dX12_smooth_69 : decode cX12_smooth 69 = .ok (.aload_n 0, 1) := by decide +kernel
theorem dX12_smooth_70 : decode cX12_smooth 70 = .ok (.iload_n 3, 1) := by decide +kernel
theorem dX12_smooth_71 : decode cX12_smooth 71 = .ok (.iload 4, 2) := by decide +kernel
theorem dX12_smooth_73 : decode cX12_smooth 73 = .ok (.iload_n 3, 1) := by decide +kernel
theorem dX12_smooth_74 : decode cX12_smooth 74 = .ok (.irem, 1) := by decide +kernel
theorem dX12_smooth_75 : decode cX12_smooth 75 = .ok (.invokevirtual 518, 3) := by decide +kernel
theorem dX12_smooth_78 : decode cX12_smooth 78 = .ok (.lsub, 1) := by decide +kernel
theorem dX12_smooth_79 : decode cX12_smooth 79 = .ok (.lastore, 1) := by decide +kernel
theorem dX12_smooth_80 : decode cX12_smooth 80 = .ok (.iinc 4 1, 3) := by decide +kernel
theorem dX12_smooth_83 : decode cX12_smooth 83 = .ok (.goto (-43), 3) := by decide +kernel
theorem dX12_smooth_86 : decode cX12_smooth 86 = .ok (.aload_n 0, 1) := by decide +kernel
theorem dX12_smooth_87 : decode cX12_smooth 87 = .ok (.invokevirtual 431, 3) := by decide +kernel
theorem dX12_smooth_90 : decode cX12_smooth 90 = .ok (.l2i, 1) := by decide +kernel
theorem dX12_smooth_91 : decode cX12_smooth 91 = .ok (.ireturn, 1) := by decide +kernel
theorem wk_1274 : Cond.methodLink RX12 518 yX12_meanLeft ∈ tl_L := List.mem_filter.mpr ⟨lw_m8 (i := 188) rfl, rfl⟩
theorem wk_1275 : Cond.instanceMethod yX12_meanLeft ∈ tl_L := List.mem_filter.mpr ⟨lw_m8 (i := 190) rfl, rfl⟩
theorem wk_1276 : Cond.selects RX12 yX12_meanLeft yX12_meanLeft ∈ tl_L := List.mem_filter.mpr ⟨lw_s11 (i := 8) (q := (yX12_meanLeft, 49)) rfl, rfl⟩
theorem wk_1277 : Cond.code yX12_meanLeft cX12_meanLeft 7 (some .long) ∈ tl_L := List.mem_filter.mpr ⟨lw_m8 (i := 191) rfl, rfl⟩
theorem lk_X12_518 : tl_kV RX12 518 RX12 yX12_meanLeft cX12_meanLeft 7 (some .long) 2 := ⟨wk_1277, wk_1274, wk_1275, wk_1276, wk_5, ⟨by decide +kernel, by decide +kernel, by decide +kernel⟩⟩
theorem tl_iremC {x y z : Int32} (e : z = x - x / y * y) (hx : 0 ≤ x.toInt) (hy : 0 < y.toInt) : 0 ≤ z.toInt ∧ z.toInt < y.toInt := by
  have hy2 := Int32.toInt_lt y
  have h0 : x.toInt - x.toInt.tdiv y.toInt * y.toInt = x.toInt.tmod y.toInt := by rw [Int.tmod_def, Int.mul_comm]
  have h2 := Int.tmod_nonneg y.toInt hx
  have h3 := Int.tmod_lt_of_pos x.toInt hy
  have h1 : z.toInt = x.toInt.tmod y.toInt := by
    rw [e, Int32.toInt_sub, Int32.toInt_mul, Int32.toInt_div, Int.bmod_mul_bmod, Int.sub_bmod_bmod, h0]
    exact Int.bmod_eq_of_le (by omega) (by omega)
  rw [h1]
  exact ⟨h2, h3⟩
set_option maxHeartbeats 4000000 in
set_option maxRecDepth 100000 in
theorem r_X12_powerOf (l : Launch) (D : va_G) (cy : Nat → ClassId) (sz : Nat) (L : List Nat) (K : Nat → tk_K) (Γ : tk_G) (f : Nat → va_E) (o : Nat) (p0 : Int32) (ho : tp_r L K 39 (0) 0 o) (hpe : 2 ≤ p0.toInt ∧ p0.toInt ≤ 99) : Met l yX12_powerOf (tl_w yX12_powerOf cX12_powerOf 9 (some .long)) ({ frames := 0, cells := 0, slots := 0, locals := 0 }) (va_Pc [.ref o, .int p0] (tp_P D cy L K Γ f sz)) (vp_Sl (fun r : Int64 => True)) 0 0 (fun _ => False) := by
  refine Met.ofW (cc := cX12_powerOf) (maxL := 9) (ret := (some .long)) (by decide) rfl ?_
  intro p e s m args below meth c s₁ B hml hv
  obtain ⟨rfl, hsz, hP, hK, hL, hI, hN, hU⟩ := hv
  have hx := B.exec
  have hb := B.bytes
  have hr := B.returns
  have hta := tl_hta (atoms_spec (ws := tl_w yX12_powerOf cX12_powerOf 9 (some .long)) B.pre)
  have hown : s.vm.findClass RX12 = some m.cls := findClass_of_methodNamed B.named
  have hlocks := B.notSynchronized
  subst hsz
  have hI0 := hI
  have hl := lv_entry ([.ref o, .int p0]) (n := 9) (Nat.le_of_ble_eq_true rfl)
  rw [lg_entry_eq]
  generalize (lg_sl ([.ref o, .int p0]) ++ List.replicate (9 - (lg_sl ([.ref o, .int p0])).length) Slot.unset).toArray = ls at hl ⊢
  have hl : lv_has ls 9 [(0, .ref o), (1, .int p0)] := hl
  refine lv_lconst (v := 0) hx hb dX12_powerOf_0 (by decide) ?_
  refine lv_lstore_n (lv' := [(2, .long 0), (0, .ref o), (1, .int p0)]) hx hb dX12_powerOf_1 rfl hl (by decide) rfl (fun ls hl => ?_)
  refine lv_iconst (v := 0) hx hb dX12_powerOf_2 (by decide) ?_
  refine lv_istore (lv' := [(4, .int 0), (2, .long 0), (0, .ref o), (1, .int p0)]) hx hb dX12_powerOf_3 hl (by decide) rfl (fun ls hl => ?_)
  refine tl_indR (G := fun ls => W p l e ((headSpec (tl_w yX12_powerOf cX12_powerOf 9 (some .long)) ({ frames := 0, cells := 0, slots := 0, locals := 0 })).room) s m #[.ref o, .int p0] below meth c s.heap [] 0 0 (MQ below (vp_Sl (fun r : Int64 => True)) #[.ref o, .int p0] s 0 0 (fun _ => False)) (F0 m 5 ls [])) (α := Int32 × Int64) (fun aq => (99 - aq.1.toInt).toNat) (fun aq ls => (0 ≤ aq.1.toInt) ∧ lv_has ls 9 [(4, .int aq.1), (2, .long aq.2), (0, .ref o), (1, .int p0)]) ?_ ((0 : Int32), (0 : Int64)) ls ⟨(show 0 ≤ (0 : Int) from (by omega)), lv_sub hl [0, 1, 2, 3] rfl⟩
  rintro ⟨v4, v2⟩ ls ⟨hr4, hl⟩ ih5
  have hr4 : 0 ≤ v4.toInt := hr4
  have hl : lv_has ls 9 [(4, .int v4), (2, .long v2), (0, .ref o), (1, .int p0)] := hl
  refine lv_iload hx hb dX12_powerOf_5 (lv_at hl 0 rfl) ?_
  refine lv_iload_n hx hb dX12_powerOf_7 rfl (lv_at hl 3 rfl) ?_
  refine lv_icmp_ge (tgt := 89) hx hb dX12_powerOf_8 (by decide) (fun c_1 => ?_) (fun c_1 => ?_)
  · have c_1 : p0.toInt ≤ v4.toInt := tl_le c_1
    refine lv_lload_n hx hb dX12_powerOf_89 rfl (lv_at hl 1 rfl) ?_
    exact W.lret (v := v2) hx hb hr (fun t ht hW => ⟨_, rfl, trivial, ht⟩) (fun q h => by cases h) dX12_powerOf_90
  · have c_1 : v4.toInt < p0.toInt := tl_nle c_1
    refine lv_lconst (v := 0) hx hb dX12_powerOf_11 (by decide) ?_
    refine lv_lstore (lv' := [(5, .long 0), (4, .int v4), (2, .long v2), (0, .ref o), (1, .int p0)]) hx hb dX12_powerOf_12 hl (by decide) rfl (fun ls hl => ?_)
    refine lv_iconst (v := 0) hx hb dX12_powerOf_14 (by decide) ?_
    refine lv_istore (lv' := [(7, .int 0), (5, .long 0), (4, .int v4), (2, .long v2), (0, .ref o), (1, .int p0)]) hx hb dX12_powerOf_15 hl (by decide) rfl (fun ls hl => ?_)
    refine lv_iload hx hb dX12_powerOf_17 (lv_at hl 2 rfl) ?_
    refine lv_istore (lv' := [(8, .int v4), (7, .int 0), (5, .long 0), (4, .int v4), (2, .long v2), (0, .ref o), (1, .int p0)]) hx hb dX12_powerOf_19 hl (by decide) rfl (fun ls hl => ?_)
    refine tl_indR (G := fun ls => W p l e ((headSpec (tl_w yX12_powerOf cX12_powerOf 9 (some .long)) ({ frames := 0, cells := 0, slots := 0, locals := 0 })).room) s m #[.ref o, .int p0] below meth c s.heap [] 0 0 (MQ below (vp_Sl (fun r : Int64 => True)) #[.ref o, .int p0] s 0 0 (fun _ => False)) (F0 m 21 ls [])) (α := Int32 × Int32 × Int64) (fun aq => (400 - aq.1.toInt).toNat) (fun aq ls => (0 ≤ aq.1.toInt) ∧ lv_has ls 9 [(8, .int aq.1), (7, .int aq.2.1), (5, .long aq.2.2), (4, .int v4), (2, .long v2), (0, .ref o), (1, .int p0)]) ?_ (v4, (0 : Int32), (0 : Int64)) ls ⟨(show 0 ≤ v4.toInt from (by omega)), lv_sub hl [0, 1, 2, 3, 4, 5, 6] rfl⟩
    rintro ⟨v8, v7, v5⟩ ls ⟨hr8, hl⟩ ih21
    have hr8 : 0 ≤ v8.toInt := hr8
    have hl : lv_has ls 9 [(8, .int v8), (7, .int v7), (5, .long v5), (4, .int v4), (2, .long v2), (0, .ref o), (1, .int p0)] := hl
    refine lv_iload hx hb dX12_powerOf_21 (lv_at hl 0 rfl) ?_
    refine lv_sipush (v := 300) hx hb dX12_powerOf_23 (by decide) ?_
    refine lv_icmp_ge (tgt := 66) hx hb dX12_powerOf_26 (by decide) (fun c_2 => ?_) (fun c_2 => ?_)
    · have c_2 : (300 : Int) ≤ v8.toInt := tl_le c_2
      refine lv_iload hx hb dX12_powerOf_66 (lv_at hl 1 rfl) ?_
      refine lv_if_le (tgt := 83) hx hb dX12_powerOf_68 (by decide) (fun c_3 => ?_) (fun c_3 => ?_)
      · have c_3 : v7.toInt ≤ (0 : Int) := tl_le c_3
        obtain ⟨z_4, ez_4⟩ : ∃ y : Int32, y = v4 + 1 := ⟨_, rfl⟩
        refine lv_iinc (v := z_4) (lv' := [(4, .int z_4), (8, .int v8), (7, .int v7), (5, .long v5), (2, .long v2), (0, .ref o), (1, .int p0)]) hx hb dX12_powerOf_83 hl (k := 3) rfl (by rw [ez_4]; rfl) (by decide) rfl (fun ls hl => ?_)
        try have iz_4 : z_4.toInt = v4.toInt + 1 := by rw [ez_4]; exact tl_addL v4 1 (by decide) (by omega) (by omega)
        refine lv_goto (tgt := 5) hx hb dX12_powerOf_86 (by decide) ?_
        exact ih5 (z_4, v2) ls (by show (99 - z_4.toInt).toNat < (99 - v4.toInt).toNat; omega) ⟨(show 0 ≤ z_4.toInt from (by omega)), lv_sub hl [0, 4, 5, 6] rfl⟩
      · have c_3 : (0 : Int) < v7.toInt := tl_nle c_3
        refine lv_lload_n hx hb dX12_powerOf_71 rfl (lv_at hl 4 rfl) ?_
        refine lv_lload hx hb dX12_powerOf_72 (lv_at hl 2 rfl) ?_
        refine lv_lload hx hb dX12_powerOf_74 (lv_at hl 2 rfl) ?_
        refine lv_lmul hx hb dX12_powerOf_76 ?_
        refine lv_topl (fun z_5 ez_5 => ?_)
        refine lv_iload hx hb dX12_powerOf_77 (lv_at hl 1 rfl) ?_
        refine lv_i2l (v := v7.toInt64) hx hb dX12_powerOf_79 (by first | rfl | decide) ?_
        refine lv_ldiv hx hb dX12_powerOf_80 (tl_ne0LI (by omega)) ?_
        refine lv_topl (fun z_6 ez_6 => ?_)
        refine lv_ladd hx hb dX12_powerOf_81 ?_
        refine lv_topl (fun z_7 ez_7 => ?_)
        refine lv_lstore_n (lv' := [(2, .long z_7), (8, .int v8), (7, .int v7), (5, .long v5), (4, .int v4), (0, .ref o), (1, .int p0)]) hx hb dX12_powerOf_82 rfl hl (by decide) rfl (fun ls hl => ?_)
        obtain ⟨z_8, ez_8⟩ : ∃ y : Int32, y = v4 + 1 := ⟨_, rfl⟩
        refine lv_iinc (v := z_8) (lv' := [(4, .int z_8), (2, .long z_7), (8, .int v8), (7, .int v7), (5, .long v5), (0, .ref o), (1, .int p0)]) hx hb dX12_powerOf_83 hl (k := 4) rfl (by rw [ez_8]; rfl) (by decide) rfl (fun ls hl => ?_)
        try have iz_8 : z_8.toInt = v4.toInt + 1 := by rw [ez_8]; exact tl_addL v4 1 (by decide) (by omega) (by omega)
        refine lv_goto (tgt := 5) hx hb dX12_powerOf_86 (by decide) ?_
        exact ih5 (z_8, z_7) ls (by show (99 - z_8.toInt).toNat < (99 - v4.toInt).toNat; omega) ⟨(show 0 ≤ z_8.toInt from (by omega)), lv_sub hl [0, 1, 5, 6] rfl⟩
    · have c_2 : v8.toInt < (300 : Int) := tl_nle c_2
      refine lv_aload_n hx hb dX12_powerOf_29 rfl (lv_at hl 5 rfl) ?_
      obtain ⟨r_10, v_11, q_12, hf_9, hr_13, hv_14⟩ := (show tp_o_M L K 0 0 (Γ (39, 0, 0)) (f o) from hI0.at ho)
      refine tp_get (cy := cy) (ci := 12) (v := .ref (r_10 20)) (C := RX12) (T := TX12) (N := 49) hx hb hta inlX12 hown hK hP ho.1 hf_9 rfl 31 (by decide) (hta _ wk_170) (fun _ h9 => h9) rfl dX12_powerOf_30 ?_
      refine lv_iload hx hb dX12_powerOf_33 (lv_at hl 0 rfl) ?_
      obtain ⟨g_16, hf_15, hg_17⟩ := (show tp_gz cy (300) (Γ (60, 300, 0)) (f (r_10 20)) from hI0.at (show tp_r L K 60 300 0 (r_10 20) from hr_13 20 (by decide)))
      have hn_18 : vp_in v8 (300) := tl_in (by omega) (by omega)
      refine tp_zald (cy := cy) hx hb hK hP (show tp_r L K 60 300 0 (r_10 20) from hr_13 20 (by decide)).1 hf_15 hn_18 dX12_powerOf_35 ?_
      refine lv_topi (fun z_19 ez_19 => ?_)
      have iz_19 : z_19.toInt = Γ (60, 300, 0) v8.toInt.toNat := by rw [ez_19]; exact hg_17 _ (tp_pin hn_18)
      refine lv_if_ne (tgt := 42) hx hb dX12_powerOf_36 (by decide) (fun c_20 => ?_) (fun c_20 => ?_)
      · have c_20 : ¬ z_19.toInt = (0 : Int) := tl_neq c_20
        refine lv_lload hx hb dX12_powerOf_42 (lv_at hl 2 rfl) ?_
        refine lv_aload_n hx hb dX12_powerOf_44 rfl (lv_at hl 5 rfl) ?_
        refine tp_get (cy := cy) (ci := 12) (v := .ref (r_10 23)) (C := RX12) (T := TX12) (N := 49) hx hb hta inlX12 hown hK hP ho.1 hf_9 rfl 38 (by decide) (hta _ wk_173) (fun _ h9 => h9) rfl dX12_powerOf_45 ?_
        refine lv_iload hx hb dX12_powerOf_48 (lv_at hl 0 rfl) ?_
        obtain ⟨g_22, hf_21⟩ := (show tp_aj cy (300) (f (r_10 23)) from hI0.at (show tp_r L K 63 300 0 (r_10 23) from hr_13 23 (by decide)))
        have hn_24 : vp_in v8 (300) := tl_in (by omega) (by omega)
        refine tp_lald (cy := cy) hx hb hK hP (show tp_r L K 63 300 0 (r_10 23) from hr_13 23 (by decide)).1 hf_21 hn_24 dX12_powerOf_50 ?_
        refine lv_topl (fun z_25 ez_25 => ?_)
        refine lv_ladd hx hb dX12_powerOf_51 ?_
        refine lv_topl (fun z_26 ez_26 => ?_)
        refine lv_lstore (lv' := [(5, .long z_26), (8, .int v8), (7, .int v7), (4, .int v4), (2, .long v2), (0, .ref o), (1, .int p0)]) hx hb dX12_powerOf_52 hl (by decide) rfl (fun ls hl => ?_)
        obtain ⟨z_27, ez_27⟩ : ∃ y : Int32, y = v7 + 1 := ⟨_, rfl⟩
        refine lv_iinc (v := z_27) (lv' := [(7, .int z_27), (5, .long z_26), (8, .int v8), (4, .int v4), (2, .long v2), (0, .ref o), (1, .int p0)]) hx hb dX12_powerOf_54 hl (k := 2) rfl (by rw [ez_27]; rfl) (by decide) rfl (fun ls hl => ?_)
        try have iz_27 : z_27.toInt = v7.toInt + 1 := by rw [ez_27]; exact tl_addL v7 1 (by decide) (by omega) (by omega)
        refine lv_iload hx hb dX12_powerOf_57 (lv_at hl 2 rfl) ?_
        refine lv_iload_n hx hb dX12_powerOf_59 rfl (lv_at hl 6 rfl) ?_
        refine lv_iadd hx hb dX12_powerOf_60 ?_
        refine lv_topi (fun z_28 ez_28 => ?_)
        try have iz_28 : z_28.toInt = v8.toInt + p0.toInt := by rw [ez_28]; exact tl_addN v8 p0 rfl rfl (by omega) (by omega)
        refine lv_istore (lv' := [(8, .int z_28), (7, .int z_27), (5, .long z_26), (4, .int v4), (2, .long v2), (0, .ref o), (1, .int p0)]) hx hb dX12_powerOf_61 hl (by decide) rfl (fun ls hl => ?_)
        refine lv_goto (tgt := 21) hx hb dX12_powerOf_63 (by decide) ?_
        exact ih21 (z_28, z_27, z_26) ls (by show (400 - z_28.toInt).toNat < (400 - v8.toInt).toNat; omega) ⟨(show 0 ≤ z_28.toInt from (by omega)), lv_sub hl [0, 1, 2, 3, 4, 5, 6] rfl⟩
      · have c_20 : z_19.toInt = (0 : Int) := tl_eq c_20
        refine lv_goto (tgt := 57) hx hb dX12_powerOf_39 (by decide) ?_
        refine lv_iload hx hb dX12_powerOf_57 (lv_at hl 0 rfl) ?_
        refine lv_iload_n hx hb dX12_powerOf_59 rfl (lv_at hl 6 rfl) ?_
        refine lv_iadd hx hb dX12_powerOf_60 ?_
        refine lv_topi (fun z_29 ez_29 => ?_)
        try have iz_29 : z_29.toInt = v8.toInt + p0.toInt := by rw [ez_29]; exact tl_addN v8 p0 rfl rfl (by omega) (by omega)
        refine lv_istore (lv' := [(8, .int z_29), (7, .int v7), (5, .long v5), (4, .int v4), (2, .long v2), (0, .ref o), (1, .int p0)]) hx hb dX12_powerOf_61 hl (by decide) rfl (fun ls hl => ?_)
        refine lv_goto (tgt := 21) hx hb dX12_powerOf_63 (by decide) ?_
        exact ih21 (z_29, v7, v5) ls (by show (400 - z_29.toInt).toNat < (400 - v8.toInt).toNat; omega) ⟨(show 0 ≤ z_29.toInt from (by omega)), lv_sub hl [0, 1, 2, 3, 4, 5, 6] rfl⟩
set_option maxHeartbeats 4000000 in
set_option maxRecDepth 100000 in
theorem r_X12_periodNow (l : Launch) (D : va_G) (cy : Nat → ClassId) (sz : Nat) (L : List Nat) (K : Nat → tk_K) (Γ : tk_G) (f : Nat → va_E) (o : Nat) (ho : tp_r L K 39 (0) 0 o) : Met l yX12_periodNow (tl_w yX12_periodNow cX12_periodNow 7 (some .int)) ({ frames := 1, cells := 0, slots := 0, locals := 28 }) (va_Pc [.ref o] (tp_P D cy L K Γ f sz)) (vp_Si (fun r : Int32 => 2 ≤ r.toInt ∧ r.toInt ≤ 99)) 0 0 (fun _ => False) := by
  refine Met.ofW (cc := cX12_periodNow) (maxL := 7) (ret := (some .int)) (by decide) rfl ?_
  intro p e s m args below meth c s₁ B hml hv
  obtain ⟨rfl, hsz, hP, hK, hL, hI, hN, hU⟩ := hv
  have hx := B.exec
  have hb := B.bytes
  have hr := B.returns
  have hta := tl_hta (atoms_spec (ws := tl_w yX12_periodNow cX12_periodNow 7 (some .int)) B.pre)
  have hown : s.vm.findClass RX12 = some m.cls := findClass_of_methodNamed B.named
  have hlocks := B.notSynchronized
  subst hsz
  have hI0 := hI
  have hl := lv_entry ([.ref o]) (n := 7) (Nat.le_of_ble_eq_true rfl)
  rw [lg_entry_eq]
  generalize (lg_sl ([.ref o]) ++ List.replicate (7 - (lg_sl ([.ref o])).length) Slot.unset).toArray = ls at hl ⊢
  have hl : lv_has ls 7 [(0, .ref o)] := hl
  refine lv_iconst (v := 2) hx hb dX12_periodNow_0 (by decide) ?_
  refine lv_istore_n (lv' := [(1, .int 2), (0, .ref o)]) hx hb dX12_periodNow_1 rfl hl (by decide) rfl (fun ls hl => ?_)
  refine lv_ldc2 (v := (-1)) hx hb hown (hta _ wk_991) dX12_periodNow_2 ?_
  refine lv_lstore_n (lv' := [(2, .long (-1)), (1, .int 2), (0, .ref o)]) hx hb dX12_periodNow_5 rfl hl (by decide) rfl (fun ls hl => ?_)
  refine lv_iconst (v := 2) hx hb dX12_periodNow_6 (by decide) ?_
  refine lv_istore (lv' := [(4, .int 2), (2, .long (-1)), (1, .int 2), (0, .ref o)]) hx hb dX12_periodNow_7 hl (by decide) rfl (fun ls hl => ?_)
  refine tl_indR (G := fun ls => W p l e ((headSpec (tl_w yX12_periodNow cX12_periodNow 7 (some .int)) ({ frames := 1, cells := 0, slots := 0, locals := 28 })).room) s m #[.ref o] below meth c s.heap [] 0 0 (MQ below (vp_Si (fun r : Int32 => 2 ≤ r.toInt ∧ r.toInt ≤ 99)) #[.ref o] s 0 0 (fun _ => False)) (F0 m 9 ls [])) (α := Int32 × Int64 × Int32) (fun aq => (100 - aq.1.toInt).toNat) (fun aq ls => (2 ≤ aq.1.toInt) ∧ (2 ≤ aq.2.2.toInt ∧ aq.2.2.toInt ≤ 99) ∧ lv_has ls 7 [(4, .int aq.1), (2, .long aq.2.1), (1, .int aq.2.2), (0, .ref o)]) ?_ ((2 : Int32), ((-1) : Int64), (2 : Int32)) ls ⟨(show 2 ≤ (2 : Int) from (by decide)), (show 2 ≤ (2 : Int) ∧ (2 : Int) ≤ 99 from (by decide)), lv_sub hl [0, 1, 2, 3] rfl⟩
  rintro ⟨v4, v2, v1⟩ ls ⟨hr4, hb1, hl⟩ ih9
  have hr4 : 2 ≤ v4.toInt := hr4
  have hb1 : 2 ≤ v1.toInt ∧ v1.toInt ≤ 99 := hb1
  have hl : lv_has ls 7 [(4, .int v4), (2, .long v2), (1, .int v1), (0, .ref o)] := hl
  refine lv_iload hx hb dX12_periodNow_9 (lv_at hl 0 rfl) ?_
  refine lv_bipush (v := 100) hx hb dX12_periodNow_11 (by decide) ?_
  refine lv_icmp_ge (tgt := 46) hx hb dX12_periodNow_13 (by decide) (fun c_1 => ?_) (fun c_1 => ?_)
  · have c_1 : (100 : Int) ≤ v4.toInt := tl_le c_1
    refine lv_iload_n hx hb dX12_periodNow_46 rfl (lv_at hl 2 rfl) ?_
    exact W.iret (v := v1) hx hb hr (fun t ht hW => ⟨_, rfl, (by first | trivial | omega | exact Or.inr rfl | exact Or.inl (by omega) | decide), ht⟩) (fun q h => by cases h) dX12_periodNow_47
  · have c_1 : v4.toInt < (100 : Int) := tl_nle c_1
    refine lv_aload_n hx hb dX12_periodNow_16 rfl (lv_at hl 3 rfl) ?_
    refine lv_iload hx hb dX12_periodNow_17 (lv_at hl 0 rfl) ?_
    obtain ⟨r_3, v_4, q_5, hf_2, hr_6, hv_7⟩ := (show tp_o_M L K 0 0 (Γ (39, 0, 0)) (f o) from hI0.at ho)
    refine tl_sl (tq_rV (As := [.int v4]) (rest := []) ⟨hx, hb, hml, hown, hta⟩ (tp_P.pre hK hN hL hU hI hP) (tp_recv hK hP ho.1 hf_2 rfl) lk_X12_512 (r_X12_powerOf l D cy s.heap.size L K Γ f o v4 ho (by first | omega | (simp only [Int32.toInt_toInt64]; omega) | decide | assumption)) rfl rfl ⟨Nat.le_of_ble_eq_true rfl, Nat.le_of_ble_eq_true rfl⟩ rfl hl.1 rfl (Nat.le_of_ble_eq_true rfl) dX12_periodNow_19 ⟨Nat.le_of_ble_eq_true rfl, Nat.le_of_ble_eq_true rfl⟩) (fun r_9 hw_8 => ?_)
    refine lv_lstore (lv' := [(5, .long r_9), (4, .int v4), (2, .long v2), (1, .int v1), (0, .ref o)]) hx hb dX12_periodNow_22 hl (by decide) rfl (fun ls hl => ?_)
    refine lv_lload hx hb dX12_periodNow_24 (lv_at hl 0 rfl) ?_
    refine lv_lload_n hx hb dX12_periodNow_26 rfl (lv_at hl 2 rfl) ?_
    refine W.lcmp hx hb dX12_periodNow_27 ?_
    refine lv_if_gt (tgt := 34) hx hb dX12_periodNow_28 (by decide) (fun c_10 => ?_) (fun c_10 => ?_)
    · have c_10 : r_9.toInt > v2.toInt := tl_cmp_gt c_10
      refine lv_iload hx hb dX12_periodNow_34 (lv_at hl 1 rfl) ?_
      refine lv_istore_n (lv' := [(1, .int v4), (5, .long r_9), (4, .int v4), (2, .long v2), (0, .ref o)]) hx hb dX12_periodNow_36 rfl hl (by decide) rfl (fun ls hl => ?_)
      refine lv_lload hx hb dX12_periodNow_37 (lv_at hl 1 rfl) ?_
      refine lv_lstore_n (lv' := [(2, .long r_9), (1, .int v4), (5, .long r_9), (4, .int v4), (0, .ref o)]) hx hb dX12_periodNow_39 rfl hl (by decide) rfl (fun ls hl => ?_)
      obtain ⟨z_11, ez_11⟩ : ∃ y : Int32, y = v4 + 1 := ⟨_, rfl⟩
      refine lv_iinc (v := z_11) (lv' := [(4, .int z_11), (2, .long r_9), (1, .int v4), (5, .long r_9), (0, .ref o)]) hx hb dX12_periodNow_40 hl (k := 3) rfl (by rw [ez_11]; rfl) (by decide) rfl (fun ls hl => ?_)
      try have iz_11 : z_11.toInt = v4.toInt + 1 := by rw [ez_11]; exact tl_addL v4 1 (by decide) (by omega) (by omega)
      refine lv_goto (tgt := 9) hx hb dX12_periodNow_43 (by decide) ?_
      exact ih9 (z_11, r_9, v4) ls (by show (100 - z_11.toInt).toNat < (100 - v4.toInt).toNat; omega) ⟨(show 2 ≤ z_11.toInt from (by omega)), (show 2 ≤ v4.toInt ∧ v4.toInt ≤ 99 from (by omega)), lv_sub hl [0, 1, 2, 4] rfl⟩
    · have c_10 : r_9.toInt ≤ v2.toInt := tl_cmp_ngt c_10
      refine lv_goto (tgt := 40) hx hb dX12_periodNow_31 (by decide) ?_
      obtain ⟨z_12, ez_12⟩ : ∃ y : Int32, y = v4 + 1 := ⟨_, rfl⟩
      refine lv_iinc (v := z_12) (lv' := [(4, .int z_12), (5, .long r_9), (2, .long v2), (1, .int v1), (0, .ref o)]) hx hb dX12_periodNow_40 hl (k := 1) rfl (by rw [ez_12]; rfl) (by decide) rfl (fun ls hl => ?_)
      try have iz_12 : z_12.toInt = v4.toInt + 1 := by rw [ez_12]; exact tl_addL v4 1 (by decide) (by omega) (by omega)
      refine lv_goto (tgt := 9) hx hb dX12_periodNow_43 (by decide) ?_
      exact ih9 (z_12, v2, v1) ls (by show (100 - z_12.toInt).toNat < (100 - v4.toInt).toNat; omega) ⟨(show 2 ≤ z_12.toInt from (by omega)), (show 2 ≤ v1.toInt ∧ v1.toInt ≤ 99 from (by omega)), lv_sub hl [0, 2, 3, 4] rfl⟩
set_option maxHeartbeats 4000000 in
set_option maxRecDepth 100000 in
theorem r_X12_ripple (l : Launch) (D : va_G) (cy : Nat → ClassId) (sz : Nat) (L : List Nat) (K : Nat → tk_K) (Γ : tk_G) (f : Nat → va_E) (o : Nat) (p0 : Int32) (p1 : Int32) (p2 : Int32) (ho : tp_r L K 39 (0) 0 o) (htx : tx_ok (Γ (43, 8800, 0)) (Γ (45, 1056, 0)) (Γ (46, 22, 0)) (Γ (47, 6, 0)) (Γ (48, 22, 0)) (Γ (49, 22, 0)) (Γ (50, 22, 0)) (Γ (51, 22, 0)) (Γ (42, 3, 0))) (hsd : ts_said (Γ (40, 7666, 0)) (Γ (42, 3, 0) 1)) : Met l yX12_ripple (tl_w yX12_ripple cX12_ripple 5 (some .long)) ({ frames := 7, cells := 0, slots := 0, locals := 177 }) (va_Pc [.ref o, .int p0, .int p1, .int p2] (tp_P D cy L K Γ f sz)) (va_Ql (fun (r : Int64) (u : (Nat → va_E) × tk_G) => u.2 (39, 0, 0) 0 = Γ (39, 0, 0) 0) (tp_BG D cy L K Γ f [39, 58, 57, 60, 61, 62, 63, 59]) (tp_A L sz)) 0 0 (tp_A L sz) := by
  refine Met.ofW (cc := cX12_ripple) (maxL := 5) (ret := (some .long)) (by decide) rfl ?_
  intro p e s m args below meth c s₁ B hml hv
  obtain ⟨rfl, hsz, hP, hK, hL, hI, hN, hU⟩ := hv
  have hx := B.exec
  have hb := B.bytes
  have hr := B.returns
  have hta := tl_hta (atoms_spec (ws := tl_w yX12_ripple cX12_ripple 5 (some .long)) B.pre)
  have hown : s.vm.findClass RX12 = some m.cls := findClass_of_methodNamed B.named
  have hlocks := B.notSynchronized
  subst hsz
  have hI0 := hI
  generalize hAe : tp_A L s.heap.size = A
  have hA : ∀ q : Nat, s.heap.size ≤ q → A q := fun q h => by rw [← hAe]; exact Or.inr h
  have hAL : ∀ q ∈ L, A q := fun q h => by rw [← hAe]; exact Or.inl h
  have hAf : ∀ (H : Heap), s.heap.size ≤ H.size → ∀ q, tp_A L H.size q → A q := fun H h q hq => hq.elim (hAL q) (fun h2 => hA q (Nat.le_trans h h2))
  have hS : va_S A s.heap s.heap [] := va_S.rf
  have hD : va_D A (va_pl L f) := tp_D hL hAL
  have hfr : ∀ b, (K b).1 ∉ ([39, 58, 57, 60, 61, 62, 63, 59] : List Nat) → f b = f b := fun _ _ => rfl
  have hgr : ∀ κ : tk_K, κ.1 ∉ ([39, 58, 57, 60, 61, 62, 63, 59] : List Nat) → Γ κ = Γ κ := fun _ _ => rfl
  have hl := lv_entry ([.ref o, .int p0, .int p1, .int p2]) (n := 5) (Nat.le_of_ble_eq_true rfl)
  rw [lg_entry_eq]
  generalize (lg_sl ([.ref o, .int p0, .int p1, .int p2]) ++ List.replicate (5 - (lg_sl ([.ref o, .int p0, .int p1, .int p2])).length) Slot.unset).toArray = ls at hl ⊢
  have hl : lv_has ls 5 [(0, .ref o), (1, .int p0), (2, .int p1), (3, .int p2)] := hl
  have hs := ts_hs hsd
  have hraw := ts_raw hsd
  have hslp := ts_slp hsd
  have htb := htx.1
  refine lv_aload_n hx hb dX12_ripple_0 rfl (lv_at hl 0 rfl) ?_
  refine lv_iload_n hx hb dX12_ripple_1 rfl (lv_at hl 1 rfl) ?_
  refine lv_iload_n hx hb dX12_ripple_2 rfl (lv_at hl 2 rfl) ?_
  obtain ⟨r_2, v_3, q_4, hf_1, hr_5, hv_6⟩ := (show tp_o_M L K 0 0 (Γ (39, 0, 0)) (f o) from hI.at ho)
  refine tl_si (tq_rV (As := [.int p0, .int p1]) (rest := []) ⟨hx, hb, hml, hown, hta⟩ (tp_P.pre hK hN hL hU hI hP) (tp_recv hK hP ho.1 hf_1 rfl) lk_X12_447 (r_X12_canAsk l D cy s.heap.size L K Γ f o p0 p1 ho) rfl rfl ⟨Nat.le_of_ble_eq_true rfl, Nat.le_of_ble_eq_true rfl⟩ rfl hl.1 rfl (Nat.le_of_ble_eq_true rfl) dX12_ripple_3 ⟨Nat.le_of_ble_eq_true rfl, Nat.le_of_ble_eq_true rfl⟩) (fun r_15 hw_14 => ?_)
  have hw_14 : tl_E r_15 ((0 ≤ p0.toInt ∧ p0.toInt < Γ (42, 3, 0) 1) ∧ 0 ≤ p1.toInt ∧ p1.toInt < Γ (40, 7666, 0) 1) 1 0 := hw_14
  refine lv_if_eq (tgt := 19) hx hb dX12_ripple_6 (by decide) (fun c_16 => ?_) (fun c_16 => ?_)
  · have c_16 := hw_14.f c_16
    refine lv_ldc2 (v := (-2)) hx hb hown (hta _ wk_1124) dX12_ripple_19 ?_
    have hpo9 : Γ (39, 0, 0) 0 = Γ (39, 0, 0) 0 := (by omega)
    exact W.lret (v := (-2)) hx hb hr (fun t ht hW => ⟨⟨_, (f, Γ), rfl, hpo9, by rw [ht]; exact hP, hI, hfr, hgr⟩, hS.F ht⟩) hS.2.2 dX12_ripple_22
  · have c_16 := hw_14.t c_16
    refine lv_iload_n hx hb dX12_ripple_9 rfl (lv_at hl 3 rfl) ?_
    refine lv_i2l (v := p2.toInt64) hx hb dX12_ripple_10 (by first | rfl | decide) ?_
    refine lv_lconst (v := 0) hx hb dX12_ripple_11 (by decide) ?_
    refine lv_lconst (v := 1) hx hb dX12_ripple_12 (by decide) ?_
    refine tl_si (tq_rS (As := [.long p2.toInt64, .long 0, .long 1]) (rest := []) ⟨hx, hb, hml, hown, hta⟩ (tp_P.pre hK hN hL hU hI hP) lk_X12_112 (r_X12_in l D cy s.heap.size L K Γ f p2.toInt64 0 1 ) rfl rfl ⟨Nat.le_of_ble_eq_true rfl, Nat.le_of_ble_eq_true rfl⟩ rfl hl.1 rfl (Nat.le_of_ble_eq_true rfl) dX12_ripple_13 ⟨Nat.le_of_ble_eq_true rfl, Nat.le_of_ble_eq_true rfl⟩) (fun r_18 hw_17 => ?_)
    simp only [Int32.toInt_toInt64] at hw_17
    have hw_17 : tl_E r_18 ((0 : Int) ≤ p2.toInt ∧ p2.toInt ≤ (1 : Int)) 1 0 := hw_17
    refine lv_if_ne (tgt := 23) hx hb dX12_ripple_16 (by decide) (fun c_19 => ?_) (fun c_19 => ?_)
    · have c_19 := hw_17.t c_19
      refine lv_aload_n hx hb dX12_ripple_23 rfl (lv_at hl 0 rfl) ?_
      refine lv_iload_n hx hb dX12_ripple_24 rfl (lv_at hl 1 rfl) ?_
      refine lv_iload_n hx hb dX12_ripple_25 rfl (lv_at hl 2 rfl) ?_
      refine tq_clR hS (hAf _ hS.1) (tq_rV (As := [.int p0, .int p1]) (rest := []) ⟨hx, hb, hml, hown, hta⟩ (tp_P.pre hK hN hL hU hI hP) (tp_recv hK hP ho.1 hf_1 rfl) lk_X12_450 (r_X12_scoreOf l D cy s.heap.size L K Γ f o p0 p1 ho (by first | omega | (simp only [Int32.toInt_toInt64]; omega) | decide | assumption) (by first | omega | (simp only [Int32.toInt_toInt64]; omega) | decide | assumption) (by first | omega | (simp only [Int32.toInt_toInt64]; omega) | decide | assumption) (by first | omega | (simp only [Int32.toInt_toInt64]; omega) | decide | assumption)) rfl rfl ⟨Nat.le_of_ble_eq_true rfl, Nat.le_of_ble_eq_true rfl⟩ rfl hl.1 rfl (Nat.le_of_ble_eq_true rfl) dX12_ripple_26 ⟨Nat.le_of_ble_eq_true rfl, Nat.le_of_ble_eq_true rfl⟩) (fun r_21 f_22 Γ_24 H locs hw_20 hP hI hc_23 hcg_25 hS => ?_)
      have hD : va_D A (va_pl L f_22) := tp_D hL hAL
      have hfr := tp_fr2 hfr hc_23 (by decide)
      have hgr : ∀ κ : tk_K, κ.1 ∉ ([39, 58, 57, 60, 61, 62, 63, 59] : List Nat) → Γ_24 κ = Γ κ := tg_fr2 hgr hcg_25 (by decide)
      have hw_20 : Γ_24 (39, 0, 0) 0 = Γ (39, 0, 0) 0 ∧ (0 ≤ Γ_24 (39, 0, 0) 11 ∧ Γ_24 (39, 0, 0) 12 ≤ 299) ∧ (Γ_24 (39, 0, 0) 11 = Γ (49, 22, 0) (6 + p0.toInt).toNat ∧ Γ_24 (39, 0, 0) 12 = Γ (50, 22, 0) (6 + p0.toInt).toNat) ∧ (Γ_24 (39, 0, 0) 15 = 0 ∨ Γ_24 (39, 0, 0) 15 = 1) ∧ (0 ≤ Γ_24 (39, 0, 0) 13 ∧ Γ_24 (39, 0, 0) 13 ≤ 42) ∧ (0 < Γ_24 (39, 0, 0) 13 → 0 < Γ_24 (39, 0, 0) 10) ∧ (Γ_24 (39, 0, 0) 15 = 1 → 0 < Γ_24 (39, 0, 0) 13 ∧ 0 < Γ_24 (39, 0, 0) 14) ∧ (Γ_24 (39, 0, 0) 15 = 1 → gex (Γ_24 (59, 300, 0)) (Γ (49, 22, 0) (6 + p0.toInt).toNat) (Γ (50, 22, 0) (6 + p0.toInt).toNat + 1)) ∧ (∀ j : Nat, (j : Int) < Γ_24 (39, 0, 0) 13 → 0 ≤ Γ_24 (61, 42, 0) j ∧ Γ_24 (61, 42, 0) j ≤ 299) ∧ (∀ j : Nat, (j : Int) + 1 < Γ_24 (39, 0, 0) 13 → Γ_24 (61, 42, 0) j < Γ_24 (61, 42, 0) (j + 1)) ∧ (∀ j : Nat, j < 300 → (Γ_24 (59, 300, 0) j = -1000000 ∨ (-500000 ≤ Γ_24 (59, 300, 0) j ∧ Γ_24 (59, 300, 0) j ≤ 500000))) := hw_20
      obtain ⟨hq0, hqb, hq11, hq15, hq13, hq10, hqd, hqg, hqk, hqr, hql⟩ := hw_20
      refine lv_pop2_2 hx hb dX12_ripple_29 rfl ?_
      refine lv_aload_n hx hb dX12_ripple_30 rfl (lv_at hl 0 rfl) ?_
      obtain ⟨r_27, v_28, q_29, hf_26, hr_30, hv_31⟩ := (show tp_o_M L K 0 0 (Γ_24 (39, 0, 0)) (f_22 o) from hI.at ho)
      have hx_36 : (v_28 13).toInt = Γ_24 (39, 0, 0) 13 := hv_31 13 (by decide)
      refine tp_get (cy := cy) (ci := 12) (v := .int (v_28 13)) (C := RX12) (T := TX12) (N := 49) hx hb hta inlX12 hown hK hP ho.1 hf_26 rfl 37 (by decide) (hta _ wk_903) (fun _ h9 => h9) rfl dX12_ripple_31 ?_
      refine lv_if_ne (tgt := 41) hx hb dX12_ripple_34 (by decide) (fun c_39 => ?_) (fun c_39 => ?_)
      · have c_39 : ¬ (v_28 13).toInt = (0 : Int) := tl_neq c_39
        refine lv_aload_n hx hb dX12_ripple_41 rfl (lv_at hl 0 rfl) ?_
        refine tl_si (tq_rV (As := []) (rest := []) ⟨hx, hb, hml, hown, hta⟩ (tp_P.pre hK hN hL hU hI hP) (tp_recv hK hP ho.1 hf_26 rfl) lk_X12_515 (r_X12_periodNow l D cy H.size L K Γ_24 f_22 o ho) rfl rfl ⟨Nat.le_of_ble_eq_true rfl, Nat.le_of_ble_eq_true rfl⟩ rfl hl.1 rfl (Nat.le_of_ble_eq_true rfl) dX12_ripple_42 ⟨Nat.le_of_ble_eq_true rfl, Nat.le_of_ble_eq_true rfl⟩) (fun r_41 hw_40 => ?_)
        have hw_40 : 2 ≤ r_41.toInt ∧ r_41.toInt ≤ 99 := hw_40
        refine lv_istore (lv' := [(4, .int r_41), (0, .ref o), (1, .int p0), (2, .int p1), (3, .int p2)]) hx hb dX12_ripple_45 hl (by decide) rfl (fun ls hl => ?_)
        refine lv_iload_n hx hb dX12_ripple_47 rfl (lv_at hl 4 rfl) ?_
        refine lv_if_ne (tgt := 57) hx hb dX12_ripple_48 (by decide) (fun c_42 => ?_) (fun c_42 => ?_)
        · have c_42 : ¬ p2.toInt = (0 : Int) := tl_neq c_42
          refine lv_aload_n hx hb dX12_ripple_57 rfl (lv_at hl 1 rfl) ?_
          refine lv_iload hx hb dX12_ripple_58 (lv_at hl 0 rfl) ?_
          refine tl_sl (tq_rV (As := [.int r_41]) (rest := []) ⟨hx, hb, hml, hown, hta⟩ (tp_P.pre hK hN hL hU hI hP) (tp_recv hK hP ho.1 hf_26 rfl) lk_X12_512 (r_X12_powerOf l D cy H.size L K Γ_24 f_22 o r_41 ho (by first | omega | (simp only [Int32.toInt_toInt64]; omega) | decide | assumption)) rfl rfl ⟨Nat.le_of_ble_eq_true rfl, Nat.le_of_ble_eq_true rfl⟩ rfl hl.1 rfl (Nat.le_of_ble_eq_true rfl) dX12_ripple_60 ⟨Nat.le_of_ble_eq_true rfl, Nat.le_of_ble_eq_true rfl⟩) (fun r_44 hw_43 => ?_)
          have hpo9 : Γ_24 (39, 0, 0) 0 = Γ (39, 0, 0) 0 := (by omega)
          exact W.lret (v := r_44) hx hb hr (fun t ht hW => ⟨⟨_, (f_22, Γ_24), rfl, hpo9, by rw [ht]; exact hP, hI, hfr, hgr⟩, hS.F ht⟩) hS.2.2 dX12_ripple_63
        · have c_42 : p2.toInt = (0 : Int) := tl_eq c_42
          refine lv_iload hx hb dX12_ripple_51 (lv_at hl 0 rfl) ?_
          refine lv_i2l (v := r_41.toInt64) hx hb dX12_ripple_53 (by first | rfl | decide) ?_
          refine lv_goto (tgt := 63) hx hb dX12_ripple_54 (by decide) ?_
          have hpo9 : Γ_24 (39, 0, 0) 0 = Γ (39, 0, 0) 0 := (by omega)
          exact W.lret (v := r_41.toInt64) hx hb hr (fun t ht hW => ⟨⟨_, (f_22, Γ_24), rfl, hpo9, by rw [ht]; exact hP, hI, hfr, hgr⟩, hS.F ht⟩) hS.2.2 dX12_ripple_63
      · have c_39 : (v_28 13).toInt = (0 : Int) := tl_eq c_39
        refine lv_ldc2 (v := (-1)) hx hb hown (hta _ wk_991) dX12_ripple_37 ?_
        have hpo9 : Γ_24 (39, 0, 0) 0 = Γ (39, 0, 0) 0 := (by omega)
        exact W.lret (v := (-1)) hx hb hr (fun t ht hW => ⟨⟨_, (f_22, Γ_24), rfl, hpo9, by rw [ht]; exact hP, hI, hfr, hgr⟩, hS.F ht⟩) hS.2.2 dX12_ripple_40
    · have c_19 := hw_17.f c_19
      refine lv_ldc2 (v := (-2)) hx hb hown (hta _ wk_1124) dX12_ripple_19 ?_
      have hpo9 : Γ (39, 0, 0) 0 = Γ (39, 0, 0) 0 := (by omega)
      exact W.lret (v := (-2)) hx hb hr (fun t ht hW => ⟨⟨_, (f, Γ), rfl, hpo9, by rw [ht]; exact hP, hI, hfr, hgr⟩, hS.F ht⟩) hS.2.2 dX12_ripple_22
set_option maxHeartbeats 4000000 in
set_option maxRecDepth 100000 in
theorem r_X12_meanLeft (l : Launch) (D : va_G) (cy : Nat → ClassId) (sz : Nat) (L : List Nat) (K : Nat → tk_K) (Γ : tk_G) (f : Nat → va_E) (o : Nat) (p0 : Int32) (p1 : Int32) (ho : tp_r L K 39 (0) 0 o) (hpe : 2 ≤ p0.toInt ∧ p0.toInt ≤ 99) (hre : 0 ≤ p1.toInt) : Met l yX12_meanLeft (tl_w yX12_meanLeft cX12_meanLeft 7 (some .long)) ({ frames := 1, cells := 0, slots := 0, locals := 25 }) (va_Pc [.ref o, .int p0, .int p1] (tp_P D cy L K Γ f sz)) (vp_Sl (fun r : Int64 => True)) 0 0 (fun _ => False) := by
  refine Met.ofW (cc := cX12_meanLeft) (maxL := 7) (ret := (some .long)) (by decide) rfl ?_
  intro p e s m args below meth c s₁ B hml hv
  obtain ⟨rfl, hsz, hP, hK, hL, hI, hN, hU⟩ := hv
  have hx := B.exec
  have hb := B.bytes
  have hr := B.returns
  have hta := tl_hta (atoms_spec (ws := tl_w yX12_meanLeft cX12_meanLeft 7 (some .long)) B.pre)
  have hown : s.vm.findClass RX12 = some m.cls := findClass_of_methodNamed B.named
  have hlocks := B.notSynchronized
  subst hsz
  have hI0 := hI
  have hl := lv_entry ([.ref o, .int p0, .int p1]) (n := 7) (Nat.le_of_ble_eq_true rfl)
  rw [lg_entry_eq]
  generalize (lg_sl ([.ref o, .int p0, .int p1]) ++ List.replicate (7 - (lg_sl ([.ref o, .int p0, .int p1])).length) Slot.unset).toArray = ls at hl ⊢
  have hl : lv_has ls 7 [(0, .ref o), (1, .int p0), (2, .int p1)] := hl
  refine lv_lconst (v := 0) hx hb dX12_meanLeft_0 (by decide) ?_
  refine lv_lstore_n (lv' := [(3, .long 0), (0, .ref o), (1, .int p0), (2, .int p1)]) hx hb dX12_meanLeft_1 rfl hl (by decide) rfl (fun ls hl => ?_)
  refine lv_iconst (v := 0) hx hb dX12_meanLeft_2 (by decide) ?_
  refine lv_istore (lv' := [(5, .int 0), (3, .long 0), (0, .ref o), (1, .int p0), (2, .int p1)]) hx hb dX12_meanLeft_3 hl (by decide) rfl (fun ls hl => ?_)
  refine lv_iload_n hx hb dX12_meanLeft_5 rfl (lv_at hl 4 rfl) ?_
  refine lv_istore (lv' := [(6, .int p1), (5, .int 0), (3, .long 0), (0, .ref o), (1, .int p0), (2, .int p1)]) hx hb dX12_meanLeft_6 hl (by decide) rfl (fun ls hl => ?_)
  refine tl_indR (G := fun ls => W p l e ((headSpec (tl_w yX12_meanLeft cX12_meanLeft 7 (some .long)) ({ frames := 1, cells := 0, slots := 0, locals := 25 })).room) s m #[.ref o, .int p0, .int p1] below meth c s.heap [] 0 0 (MQ below (vp_Sl (fun r : Int64 => True)) #[.ref o, .int p0, .int p1] s 0 0 (fun _ => False)) (F0 m 8 ls [])) (α := Int32 × Int32 × Int64) (fun aq => (400 - aq.1.toInt).toNat) (fun aq ls => (0 ≤ aq.1.toInt) ∧ lv_has ls 7 [(6, .int aq.1), (5, .int aq.2.1), (3, .long aq.2.2), (0, .ref o), (1, .int p0), (2, .int p1)]) ?_ (p1, (0 : Int32), (0 : Int64)) ls ⟨(show 0 ≤ p1.toInt from (by omega)), lv_sub hl [0, 1, 2, 3, 4, 5] rfl⟩
  rintro ⟨v6, v5, v3⟩ ls ⟨hr6, hl⟩ ih8
  have hr6 : 0 ≤ v6.toInt := hr6
  have hl : lv_has ls 7 [(6, .int v6), (5, .int v5), (3, .long v3), (0, .ref o), (1, .int p0), (2, .int p1)] := hl
  refine lv_iload hx hb dX12_meanLeft_8 (lv_at hl 0 rfl) ?_
  refine lv_sipush (v := 300) hx hb dX12_meanLeft_10 (by decide) ?_
  refine lv_icmp_ge (tgt := 51) hx hb dX12_meanLeft_13 (by decide) (fun c_1 => ?_) (fun c_1 => ?_)
  · have c_1 : (300 : Int) ≤ v6.toInt := tl_le c_1
    refine lv_iload hx hb dX12_meanLeft_51 (lv_at hl 1 rfl) ?_
    refine lv_if_ne (tgt := 60) hx hb dX12_meanLeft_53 (by decide) (fun c_2 => ?_) (fun c_2 => ?_)
    · have c_2 : ¬ v5.toInt = (0 : Int) := tl_neq c_2
      refine lv_lload_n hx hb dX12_meanLeft_60 rfl (lv_at hl 2 rfl) ?_
      refine lv_iload hx hb dX12_meanLeft_61 (lv_at hl 1 rfl) ?_
      refine lv_i2l (v := v5.toInt64) hx hb dX12_meanLeft_63 (by first | rfl | decide) ?_
      refine tl_sl (tq_rS (As := [.long v3, .long v5.toInt64]) (rest := []) ⟨hx, hb, hml, hown, hta⟩ (tp_P.pre hK hN hL hU hI hP) lk_X12_401 (r_X12_down l D cy s.heap.size L K Γ f v3 v5.toInt64 (by first | omega | (simp only [Int32.toInt_toInt64]; omega) | decide | assumption)) rfl rfl ⟨Nat.le_of_ble_eq_true rfl, Nat.le_of_ble_eq_true rfl⟩ rfl hl.1 rfl (Nat.le_of_ble_eq_true rfl) dX12_meanLeft_64 ⟨Nat.le_of_ble_eq_true rfl, Nat.le_of_ble_eq_true rfl⟩) (fun r_4 hw_3 => ?_)
      exact W.lret (v := r_4) hx hb hr (fun t ht hW => ⟨_, rfl, trivial, ht⟩) (fun q h => by cases h) dX12_meanLeft_67
    · have c_2 : v5.toInt = (0 : Int) := tl_eq c_2
      refine lv_lconst (v := 0) hx hb dX12_meanLeft_56 (by decide) ?_
      refine lv_goto (tgt := 67) hx hb dX12_meanLeft_57 (by decide) ?_
      exact W.lret (v := 0) hx hb hr (fun t ht hW => ⟨_, rfl, trivial, ht⟩) (fun q h => by cases h) dX12_meanLeft_67
  · have c_1 : v6.toInt < (300 : Int) := tl_nle c_1
    refine lv_aload_n hx hb dX12_meanLeft_16 rfl (lv_at hl 3 rfl) ?_
    obtain ⟨r_6, v_7, q_8, hf_5, hr_9, hv_10⟩ := (show tp_o_M L K 0 0 (Γ (39, 0, 0)) (f o) from hI0.at ho)
    refine tp_get (cy := cy) (ci := 12) (v := .ref (r_6 20)) (C := RX12) (T := TX12) (N := 49) hx hb hta inlX12 hown hK hP ho.1 hf_5 rfl 31 (by decide) (hta _ wk_170) (fun _ h9 => h9) rfl dX12_meanLeft_17 ?_
    refine lv_iload hx hb dX12_meanLeft_20 (lv_at hl 0 rfl) ?_
    obtain ⟨g_12, hf_11, hg_13⟩ := (show tp_gz cy (300) (Γ (60, 300, 0)) (f (r_6 20)) from hI0.at (show tp_r L K 60 300 0 (r_6 20) from hr_9 20 (by decide)))
    have hn_14 : vp_in v6 (300) := tl_in (by omega) (by omega)
    refine tp_zald (cy := cy) hx hb hK hP (show tp_r L K 60 300 0 (r_6 20) from hr_9 20 (by decide)).1 hf_11 hn_14 dX12_meanLeft_22 ?_
    refine lv_topi (fun z_15 ez_15 => ?_)
    have iz_15 : z_15.toInt = Γ (60, 300, 0) v6.toInt.toNat := by rw [ez_15]; exact hg_13 _ (tp_pin hn_14)
    refine lv_if_ne (tgt := 29) hx hb dX12_meanLeft_23 (by decide) (fun c_16 => ?_) (fun c_16 => ?_)
    · have c_16 : ¬ z_15.toInt = (0 : Int) := tl_neq c_16
      refine lv_lload_n hx hb dX12_meanLeft_29 rfl (lv_at hl 2 rfl) ?_
      refine lv_aload_n hx hb dX12_meanLeft_30 rfl (lv_at hl 3 rfl) ?_
      refine tp_get (cy := cy) (ci := 12) (v := .ref (r_6 23)) (C := RX12) (T := TX12) (N := 49) hx hb hta inlX12 hown hK hP ho.1 hf_5 rfl 38 (by decide) (hta _ wk_173) (fun _ h9 => h9) rfl dX12_meanLeft_31 ?_
      refine lv_iload hx hb dX12_meanLeft_34 (lv_at hl 0 rfl) ?_
      obtain ⟨g_18, hf_17⟩ := (show tp_aj cy (300) (f (r_6 23)) from hI0.at (show tp_r L K 63 300 0 (r_6 23) from hr_9 23 (by decide)))
      have hn_20 : vp_in v6 (300) := tl_in (by omega) (by omega)
      refine tp_lald (cy := cy) hx hb hK hP (show tp_r L K 63 300 0 (r_6 23) from hr_9 23 (by decide)).1 hf_17 hn_20 dX12_meanLeft_36 ?_
      refine lv_topl (fun z_21 ez_21 => ?_)
      refine lv_ladd hx hb dX12_meanLeft_37 ?_
      refine lv_topl (fun z_22 ez_22 => ?_)
      refine lv_lstore_n (lv' := [(3, .long z_22), (6, .int v6), (5, .int v5), (0, .ref o), (1, .int p0), (2, .int p1)]) hx hb dX12_meanLeft_38 rfl hl (by decide) rfl (fun ls hl => ?_)
      obtain ⟨z_23, ez_23⟩ : ∃ y : Int32, y = v5 + 1 := ⟨_, rfl⟩
      refine lv_iinc (v := z_23) (lv' := [(5, .int z_23), (3, .long z_22), (6, .int v6), (0, .ref o), (1, .int p0), (2, .int p1)]) hx hb dX12_meanLeft_39 hl (k := 2) rfl (by rw [ez_23]; rfl) (by decide) rfl (fun ls hl => ?_)
      try have iz_23 : z_23.toInt = v5.toInt + 1 := by rw [ez_23]; exact tl_addL v5 1 (by decide) (by omega) (by omega)
      refine lv_iload hx hb dX12_meanLeft_42 (lv_at hl 2 rfl) ?_
      refine lv_iload_n hx hb dX12_meanLeft_44 rfl (lv_at hl 4 rfl) ?_
      refine lv_iadd hx hb dX12_meanLeft_45 ?_
      refine lv_topi (fun z_24 ez_24 => ?_)
      try have iz_24 : z_24.toInt = v6.toInt + p0.toInt := by rw [ez_24]; exact tl_addN v6 p0 rfl rfl (by omega) (by omega)
      refine lv_istore (lv' := [(6, .int z_24), (5, .int z_23), (3, .long z_22), (0, .ref o), (1, .int p0), (2, .int p1)]) hx hb dX12_meanLeft_46 hl (by decide) rfl (fun ls hl => ?_)
      refine lv_goto (tgt := 8) hx hb dX12_meanLeft_48 (by decide) ?_
      exact ih8 (z_24, z_23, z_22) ls (by show (400 - z_24.toInt).toNat < (400 - v6.toInt).toNat; omega) ⟨(show 0 ≤ z_24.toInt from (by omega)), lv_sub hl [0, 1, 2, 3, 4, 5] rfl⟩
    · have c_16 : z_15.toInt = (0 : Int) := tl_eq c_16
      refine lv_goto (tgt := 42) hx hb dX12_meanLeft_26 (by decide) ?_
      refine lv_iload hx hb dX12_meanLeft_42 (lv_at hl 0 rfl) ?_
      refine lv_iload_n hx hb dX12_meanLeft_44 rfl (lv_at hl 4 rfl) ?_
      refine lv_iadd hx hb dX12_meanLeft_45 ?_
      refine lv_topi (fun z_25 ez_25 => ?_)
      try have iz_25 : z_25.toInt = v6.toInt + p0.toInt := by rw [ez_25]; exact tl_addN v6 p0 rfl rfl (by omega) (by omega)
      refine lv_istore (lv' := [(6, .int z_25), (5, .int v5), (3, .long v3), (0, .ref o), (1, .int p0), (2, .int p1)]) hx hb dX12_meanLeft_46 hl (by decide) rfl (fun ls hl => ?_)
      refine lv_goto (tgt := 8) hx hb dX12_meanLeft_48 (by decide) ?_
      exact ih8 (z_25, v5, v3) ls (by show (400 - z_25.toInt).toNat < (400 - v6.toInt).toNat; omega) ⟨(show 0 ≤ z_25.toInt from (by omega)), lv_sub hl [0, 1, 2, 3, 4, 5] rfl⟩
set_option maxHeartbeats 4000000 in
set_option maxRecDepth 100000 in
theorem r_X12_smooth (l : Launch) (D : va_G) (cy : Nat → ClassId) (sz : Nat) (L : List Nat) (K : Nat → tk_K) (Γ : tk_G) (f : Nat → va_E) (o : Nat) (p0 : Int32) (p1 : Int32) (ho : tp_r L K 39 (0) 0 o) (htx : tx_ok (Γ (43, 8800, 0)) (Γ (45, 1056, 0)) (Γ (46, 22, 0)) (Γ (47, 6, 0)) (Γ (48, 22, 0)) (Γ (49, 22, 0)) (Γ (50, 22, 0)) (Γ (51, 22, 0)) (Γ (42, 3, 0))) (hsd : ts_said (Γ (40, 7666, 0)) (Γ (42, 3, 0) 1)) : Met l yX12_smooth (tl_w yX12_smooth cX12_smooth 5 (some .int)) ({ frames := 7, cells := 0, slots := 0, locals := 177 }) (va_Pc [.ref o, .int p0, .int p1] (tp_P D cy L K Γ f sz)) (va_Qi (fun (r : Int32) (u : (Nat → va_E) × tk_G) => u.2 (39, 0, 0) 0 = Γ (39, 0, 0) 0) (tp_BG D cy L K Γ f [39, 58, 57, 60, 61, 62, 63, 59]) (tp_A L sz)) 0 0 (tp_A L sz) := by
  refine Met.ofW (cc := cX12_smooth) (maxL := 5) (ret := (some .int)) (by decide) rfl ?_
  intro p e s m args below meth c s₁ B hml hv
  obtain ⟨rfl, hsz, hP, hK, hL, hI, hN, hU⟩ := hv
  have hx := B.exec
  have hb := B.bytes
  have hr := B.returns
  have hta := tl_hta (atoms_spec (ws := tl_w yX12_smooth cX12_smooth 5 (some .int)) B.pre)
  have hown : s.vm.findClass RX12 = some m.cls := findClass_of_methodNamed B.named
  have hlocks := B.notSynchronized
  subst hsz
  have hI0 := hI
  generalize hAe : tp_A L s.heap.size = A
  have hA : ∀ q : Nat, s.heap.size ≤ q → A q := fun q h => by rw [← hAe]; exact Or.inr h
  have hAL : ∀ q ∈ L, A q := fun q h => by rw [← hAe]; exact Or.inl h
  have hAf : ∀ (H : Heap), s.heap.size ≤ H.size → ∀ q, tp_A L H.size q → A q := fun H h q hq => hq.elim (hAL q) (fun h2 => hA q (Nat.le_trans h h2))
  have hS : va_S A s.heap s.heap [] := va_S.rf
  have hD : va_D A (va_pl L f) := tp_D hL hAL
  have hfr : ∀ b, (K b).1 ∉ ([39, 58, 57, 60, 61, 62, 63, 59] : List Nat) → f b = f b := fun _ _ => rfl
  have hgr : ∀ κ : tk_K, κ.1 ∉ ([39, 58, 57, 60, 61, 62, 63, 59] : List Nat) → Γ κ = Γ κ := fun _ _ => rfl
  have hl := lv_entry ([.ref o, .int p0, .int p1]) (n := 5) (Nat.le_of_ble_eq_true rfl)
  rw [lg_entry_eq]
  generalize (lg_sl ([.ref o, .int p0, .int p1]) ++ List.replicate (5 - (lg_sl ([.ref o, .int p0, .int p1])).length) Slot.unset).toArray = ls at hl ⊢
  have hl : lv_has ls 5 [(0, .ref o), (1, .int p0), (2, .int p1)] := hl
  have hs := ts_hs hsd
  have hraw := ts_raw hsd
  have hslp := ts_slp hsd
  have htb := htx.1
  refine lv_aload_n hx hb dX12_smooth_0 rfl (lv_at hl 0 rfl) ?_
  refine lv_iload_n hx hb dX12_smooth_1 rfl (lv_at hl 1 rfl) ?_
  refine lv_iload_n hx hb dX12_smooth_2 rfl (lv_at hl 2 rfl) ?_
  obtain ⟨r_2, v_3, q_4, hf_1, hr_5, hv_6⟩ := (show tp_o_M L K 0 0 (Γ (39, 0, 0)) (f o) from hI.at ho)
  refine tl_si (tq_rV (As := [.int p0, .int p1]) (rest := []) ⟨hx, hb, hml, hown, hta⟩ (tp_P.pre hK hN hL hU hI hP) (tp_recv hK hP ho.1 hf_1 rfl) lk_X12_447 (r_X12_canAsk l D cy s.heap.size L K Γ f o p0 p1 ho) rfl rfl ⟨Nat.le_of_ble_eq_true rfl, Nat.le_of_ble_eq_true rfl⟩ rfl hl.1 rfl (Nat.le_of_ble_eq_true rfl) dX12_smooth_3 ⟨Nat.le_of_ble_eq_true rfl, Nat.le_of_ble_eq_true rfl⟩) (fun r_15 hw_14 => ?_)
  have hw_14 : tl_E r_15 ((0 ≤ p0.toInt ∧ p0.toInt < Γ (42, 3, 0) 1) ∧ 0 ≤ p1.toInt ∧ p1.toInt < Γ (40, 7666, 0) 1) 1 0 := hw_14
  refine lv_if_ne (tgt := 12) hx hb dX12_smooth_6 (by decide) (fun c_16 => ?_) (fun c_16 => ?_)
  · have c_16 := hw_14.t c_16
    refine lv_aload_n hx hb dX12_smooth_12 rfl (lv_at hl 0 rfl) ?_
    refine lv_iload_n hx hb dX12_smooth_13 rfl (lv_at hl 1 rfl) ?_
    refine lv_iload_n hx hb dX12_smooth_14 rfl (lv_at hl 2 rfl) ?_
    refine tq_clR hS (hAf _ hS.1) (tq_rV (As := [.int p0, .int p1]) (rest := []) ⟨hx, hb, hml, hown, hta⟩ (tp_P.pre hK hN hL hU hI hP) (tp_recv hK hP ho.1 hf_1 rfl) lk_X12_450 (r_X12_scoreOf l D cy s.heap.size L K Γ f o p0 p1 ho (by first | omega | (simp only [Int32.toInt_toInt64]; omega) | decide | assumption) (by first | omega | (simp only [Int32.toInt_toInt64]; omega) | decide | assumption) (by first | omega | (simp only [Int32.toInt_toInt64]; omega) | decide | assumption) (by first | omega | (simp only [Int32.toInt_toInt64]; omega) | decide | assumption)) rfl rfl ⟨Nat.le_of_ble_eq_true rfl, Nat.le_of_ble_eq_true rfl⟩ rfl hl.1 rfl (Nat.le_of_ble_eq_true rfl) dX12_smooth_15 ⟨Nat.le_of_ble_eq_true rfl, Nat.le_of_ble_eq_true rfl⟩) (fun r_18 f_19 Γ_21 H locs hw_17 hP hI hc_20 hcg_22 hS => ?_)
    have hD : va_D A (va_pl L f_19) := tp_D hL hAL
    have hfr := tp_fr2 hfr hc_20 (by decide)
    have hgr : ∀ κ : tk_K, κ.1 ∉ ([39, 58, 57, 60, 61, 62, 63, 59] : List Nat) → Γ_21 κ = Γ κ := tg_fr2 hgr hcg_22 (by decide)
    have hw_17 : Γ_21 (39, 0, 0) 0 = Γ (39, 0, 0) 0 ∧ (0 ≤ Γ_21 (39, 0, 0) 11 ∧ Γ_21 (39, 0, 0) 12 ≤ 299) ∧ (Γ_21 (39, 0, 0) 11 = Γ (49, 22, 0) (6 + p0.toInt).toNat ∧ Γ_21 (39, 0, 0) 12 = Γ (50, 22, 0) (6 + p0.toInt).toNat) ∧ (Γ_21 (39, 0, 0) 15 = 0 ∨ Γ_21 (39, 0, 0) 15 = 1) ∧ (0 ≤ Γ_21 (39, 0, 0) 13 ∧ Γ_21 (39, 0, 0) 13 ≤ 42) ∧ (0 < Γ_21 (39, 0, 0) 13 → 0 < Γ_21 (39, 0, 0) 10) ∧ (Γ_21 (39, 0, 0) 15 = 1 → 0 < Γ_21 (39, 0, 0) 13 ∧ 0 < Γ_21 (39, 0, 0) 14) ∧ (Γ_21 (39, 0, 0) 15 = 1 → gex (Γ_21 (59, 300, 0)) (Γ (49, 22, 0) (6 + p0.toInt).toNat) (Γ (50, 22, 0) (6 + p0.toInt).toNat + 1)) ∧ (∀ j : Nat, (j : Int) < Γ_21 (39, 0, 0) 13 → 0 ≤ Γ_21 (61, 42, 0) j ∧ Γ_21 (61, 42, 0) j ≤ 299) ∧ (∀ j : Nat, (j : Int) + 1 < Γ_21 (39, 0, 0) 13 → Γ_21 (61, 42, 0) j < Γ_21 (61, 42, 0) (j + 1)) ∧ (∀ j : Nat, j < 300 → (Γ_21 (59, 300, 0) j = -1000000 ∨ (-500000 ≤ Γ_21 (59, 300, 0) j ∧ Γ_21 (59, 300, 0) j ≤ 500000))) := hw_17
    obtain ⟨hq0, hqb, hq11, hq15, hq13, hq10, hqd, hqg, hqk, hqr, hql⟩ := hw_17
    refine lv_pop2_2 hx hb dX12_smooth_18 rfl ?_
    refine lv_aload_n hx hb dX12_smooth_19 rfl (lv_at hl 0 rfl) ?_
    obtain ⟨r_24, v_25, q_26, hf_23, hr_27, hv_28⟩ := (show tp_o_M L K 0 0 (Γ_21 (39, 0, 0)) (f_19 o) from hI.at ho)
    have hx_31 : (v_25 11).toInt = Γ_21 (39, 0, 0) 11 := hv_28 11 (by decide)
    have hx_35 : (v_25 15).toInt = Γ_21 (39, 0, 0) 15 := hv_28 15 (by decide)
    refine tp_get (cy := cy) (ci := 12) (v := .int (v_25 15)) (C := RX12) (T := TX12) (N := 49) hx hb hta inlX12 hown hK hP ho.1 hf_23 rfl 40 (by decide) (hta _ wk_924) (fun _ h9 => h9) rfl dX12_smooth_20 ?_
    refine lv_if_ne (tgt := 29) hx hb dX12_smooth_23 (by decide) (fun c_36 => ?_) (fun c_36 => ?_)
    · have c_36 : ¬ (v_25 15).toInt = (0 : Int) := tl_neq c_36
      refine lv_aload_n hx hb dX12_smooth_29 rfl (lv_at hl 0 rfl) ?_
      refine tl_si (tq_rV (As := []) (rest := []) ⟨hx, hb, hml, hown, hta⟩ (tp_P.pre hK hN hL hU hI hP) (tp_recv hK hP ho.1 hf_23 rfl) lk_X12_515 (r_X12_periodNow l D cy H.size L K Γ_21 f_19 o ho) rfl rfl ⟨Nat.le_of_ble_eq_true rfl, Nat.le_of_ble_eq_true rfl⟩ rfl hl.1 rfl (Nat.le_of_ble_eq_true rfl) dX12_smooth_30 ⟨Nat.le_of_ble_eq_true rfl, Nat.le_of_ble_eq_true rfl⟩) (fun r_38 hw_37 => ?_)
      have hw_37 : 2 ≤ r_38.toInt ∧ r_38.toInt ≤ 99 := hw_37
      refine lv_istore_n (lv' := [(3, .int r_38), (0, .ref o), (1, .int p0), (2, .int p1)]) hx hb dX12_smooth_33 rfl hl (by decide) rfl (fun ls hl => ?_)
      refine lv_aload_n hx hb dX12_smooth_34 rfl (lv_at hl 1 rfl) ?_
      refine tp_get (cy := cy) (ci := 12) (v := .int (v_25 11)) (C := RX12) (T := TX12) (N := 49) hx hb hta inlX12 hown hK hP ho.1 hf_23 rfl 33 (by decide) (hta _ wk_931) (fun _ h9 => h9) rfl dX12_smooth_35 ?_
      refine lv_istore (lv' := [(4, .int (v_25 11)), (3, .int r_38), (0, .ref o), (1, .int p0), (2, .int p1)]) hx hb dX12_smooth_38 hl (by decide) rfl (fun ls hl => ?_)
      refine tl_ind (G := fun H locs ls => W p l e ((headSpec (tl_w yX12_smooth cX12_smooth 5 (some .int)) ({ frames := 7, cells := 0, slots := 0, locals := 177 })).room) s m #[.ref o, .int p0, .int p1] below meth c H locs 0 0 (MQ below (va_Qi (fun (r : Int32) (u : (Nat → va_E) × tk_G) => u.2 (39, 0, 0) 0 = Γ (39, 0, 0) 0) (tp_BG D cy L K Γ f [39, 58, 57, 60, 61, 62, 63, 59]) A) #[.ref o, .int p0, .int p1] s 0 0 A) (F0 m 40 ls [])) (α := (Nat → va_E) × Int32) (fun aq => (300 - aq.2.toInt).toNat) (fun aq H locs ls => (Γ_21 (39, 0, 0) 11 ≤ aq.2.toInt) ∧ va_P D vwCl (va_pl L aq.1) H ∧ tp_I cy L K Γ_21 aq.1 ∧ (∀ b, (K b).1 ∉ ([39, 58, 57, 60, 61, 62, 63, 59] : List Nat) → aq.1 b = f b) ∧ va_S A s.heap H locs ∧ lv_has ls 5 [(4, .int aq.2), (3, .int r_38), (0, .ref o), (1, .int p0), (2, .int p1)]) ?_ (f_19, (v_25 11)) H locs ls ⟨(show Γ_21 (39, 0, 0) 11 ≤ (v_25 11).toInt from (by omega)), hP, hI, hfr, hS, lv_sub hl [0, 1, 2, 3, 4] rfl⟩
      rintro ⟨f_39, v4⟩ H locs ls ⟨hr4, hP, hI, hfr, hS, hl⟩ ih40
      have hP : va_P D vwCl (va_pl L f_39) H := hP
      have hI : tp_I cy L K Γ_21 f_39 := hI
      have hfr : ∀ b, (K b).1 ∉ ([39, 58, 57, 60, 61, 62, 63, 59] : List Nat) → f_39 b = f b := hfr
      have hD : va_D A (va_pl L f_39) := tp_D hL hAL
      have hr4 : Γ_21 (39, 0, 0) 11 ≤ v4.toInt := hr4
      have hl : lv_has ls 5 [(4, .int v4), (3, .int r_38), (0, .ref o), (1, .int p0), (2, .int p1)] := hl
      refine lv_iload hx hb dX12_smooth_40 (lv_at hl 0 rfl) ?_
      refine lv_aload_n hx hb dX12_smooth_42 rfl (lv_at hl 2 rfl) ?_
      obtain ⟨r_41, v_42, q_43, hf_40, hr_44, hv_45⟩ := (show tp_o_M L K 0 0 (Γ_21 (39, 0, 0)) (f_39 o) from hI.at ho)
      have hx_49 : (v_42 12).toInt = Γ_21 (39, 0, 0) 12 := hv_45 12 (by decide)
      refine tp_get (cy := cy) (ci := 12) (v := .int (v_42 12)) (C := RX12) (T := TX12) (N := 49) hx hb hta inlX12 hown hK hP ho.1 hf_40 rfl 34 (by decide) (hta _ wk_932) (fun _ h9 => h9) rfl dX12_smooth_43 ?_
      refine lv_icmp_gt (tgt := 86) hx hb dX12_smooth_46 (by decide) (fun c_53 => ?_) (fun c_53 => ?_)
      · have c_53 : (v_42 12).toInt < v4.toInt := tl_lt c_53
        refine lv_aload_n hx hb dX12_smooth_86 rfl (lv_at hl 2 rfl) ?_
        refine tq_clR hS (hAf _ hS.1) (tq_rV (As := []) (rest := []) ⟨hx, hb, hml, hown, hta⟩ (tp_P.pre hK hN hL hU hI hP) (tp_recv hK hP ho.1 hf_40 rfl) lk_X12_431 (r_X12_deepNow l D cy H.size L K Γ_21 f_39 o ho (by first | omega | (simp only [Int32.toInt_toInt64]; omega) | decide | assumption)) rfl rfl ⟨Nat.le_of_ble_eq_true rfl, Nat.le_of_ble_eq_true rfl⟩ rfl hl.1 rfl (Nat.le_of_ble_eq_true rfl) dX12_smooth_87 ⟨Nat.le_of_ble_eq_true rfl, Nat.le_of_ble_eq_true rfl⟩) (fun r_55 f_56 Γ_58 H locs hw_54 hP hI hc_57 hcg_59 hS => ?_)
        have hD : va_D A (va_pl L f_56) := tp_D hL hAL
        have hfr := tp_fr2 hfr hc_57 (by decide)
        have hgr : ∀ κ : tk_K, κ.1 ∉ ([39, 58, 57, 60, 61, 62, 63, 59] : List Nat) → Γ_58 κ = Γ κ := tg_fr2 hgr hcg_59 (by decide)
        have hw_54 : 0 ≤ Γ_58 (39, 0, 0) 14 ∧ (0 < Γ_58 (39, 0, 0) 14 ↔ gex (Γ_21 (59, 300, 0)) (Γ_21 (39, 0, 0) 11) (Γ_21 (39, 0, 0) 12 + 1)) ∧ Γ_58 (39, 0, 0) 0 = Γ_21 (39, 0, 0) 0 ∧ Γ_58 (39, 0, 0) 10 = Γ_21 (39, 0, 0) 10 ∧ Γ_58 (39, 0, 0) 11 = Γ_21 (39, 0, 0) 11 ∧ Γ_58 (39, 0, 0) 12 = Γ_21 (39, 0, 0) 12 ∧ Γ_58 (39, 0, 0) 13 = Γ_21 (39, 0, 0) 13 ∧ Γ_58 (39, 0, 0) 15 = Γ_21 (39, 0, 0) 15 := hw_54
        refine lv_l2i hx hb dX12_smooth_90 rfl ?_
        refine lv_topi (fun z_60 ez_60 => ?_)
        have hpo9 : Γ_58 (39, 0, 0) 0 = Γ (39, 0, 0) 0 := (by omega)
        exact W.iret (v := z_60) hx hb hr (fun t ht hW => ⟨⟨_, (f_56, Γ_58), rfl, hpo9, by rw [ht]; exact hP, hI, hfr, hgr⟩, hS.F ht⟩) hS.2.2 dX12_smooth_91
      · have c_53 : v4.toInt ≤ (v_42 12).toInt := tl_nlt c_53
        refine lv_aload_n hx hb dX12_smooth_49 rfl (lv_at hl 2 rfl) ?_
        refine tp_get (cy := cy) (ci := 12) (v := .ref (r_41 19)) (C := RX12) (T := TX12) (N := 49) hx hb hta inlX12 hown hK hP ho.1 hf_40 rfl 30 (by decide) (hta _ wk_169) (fun _ h9 => h9) rfl dX12_smooth_50 ?_
        refine lv_iload hx hb dX12_smooth_53 (lv_at hl 0 rfl) ?_
        obtain ⟨g_62, hf_61, hg_63⟩ := (show tp_gi cy (300) (Γ_21 (59, 300, 0)) (f_39 (r_41 19)) from hI.at (show tp_r L K 59 300 0 (r_41 19) from hr_44 19 (by decide)))
        have hn_64 : vp_in v4 (300) := tl_in (by omega) (by omega)
        refine tp_iald (cy := cy) hx hb hK hP (show tp_r L K 59 300 0 (r_41 19) from hr_44 19 (by decide)).1 hf_61 hn_64 dX12_smooth_55 ?_
        refine lv_topi (fun z_65 ez_65 => ?_)
        have iz_65 : z_65.toInt = Γ_21 (59, 300, 0) v4.toInt.toNat := by rw [ez_65]; exact hg_63 _ (tp_pin hn_64)
        refine lv_ldc (v := (-1000000)) hx hb hown (hta _ wk_182) dX12_smooth_56 ?_
        refine lv_icmp_eq (tgt := 80) hx hb dX12_smooth_58 (by decide) (fun c_66 => ?_) (fun c_66 => ?_)
        · have c_66 : z_65.toInt = (-1000000 : Int) := tl_eq c_66
          obtain ⟨z_67, ez_67⟩ : ∃ y : Int32, y = v4 + 1 := ⟨_, rfl⟩
          refine lv_iinc (v := z_67) (lv' := [(4, .int z_67), (3, .int r_38), (0, .ref o), (1, .int p0), (2, .int p1)]) hx hb dX12_smooth_80 hl (k := 0) rfl (by rw [ez_67]; rfl) (by decide) rfl (fun ls hl => ?_)
          try have iz_67 : z_67.toInt = v4.toInt + 1 := by rw [ez_67]; exact tl_addL v4 1 (by decide) (by omega) (by omega)
          refine lv_goto (tgt := 40) hx hb dX12_smooth_83 (by decide) ?_
          exact ih40 (f_39, z_67) H locs ls (by show (300 - z_67.toInt).toNat < (300 - v4.toInt).toNat; omega) ⟨(show Γ_21 (39, 0, 0) 11 ≤ z_67.toInt from (by omega)), hP, hI, hfr, hS, lv_sub hl [0, 1, 2, 3, 4] rfl⟩
        · have c_66 : ¬ z_65.toInt = (-1000000 : Int) := tl_neq c_66
          refine lv_aload_n hx hb dX12_smooth_61 rfl (lv_at hl 2 rfl) ?_
          refine tp_get (cy := cy) (ci := 12) (v := .ref (r_41 23)) (C := RX12) (T := TX12) (N := 49) hx hb hta inlX12 hown hK hP ho.1 hf_40 rfl 38 (by decide) (hta _ wk_173) (fun _ h9 => h9) rfl dX12_smooth_62 ?_
          refine lv_iload hx hb dX12_smooth_65 (lv_at hl 0 rfl) ?_
          refine lv_dup2_11 hx hb dX12_smooth_67 rfl rfl ?_
          obtain ⟨g_69, hf_68⟩ := (show tp_aj cy (300) (f_39 (r_41 23)) from hI.at (show tp_r L K 63 300 0 (r_41 23) from hr_44 23 (by decide)))
          have hn_71 : vp_in v4 (300) := tl_in (by omega) (by omega)
          refine tp_lald (cy := cy) hx hb hK hP (show tp_r L K 63 300 0 (r_41 23) from hr_44 23 (by decide)).1 hf_68 hn_71 dX12_smooth_68 ?_
          refine lv_topl (fun z_72 ez_72 => ?_)
          refine lv_aload_n hx hb dX12_smooth_69 rfl (lv_at hl 2 rfl) ?_
          refine lv_iload_n hx hb dX12_smooth_70 rfl (lv_at hl 1 rfl) ?_
          refine lv_iload hx hb dX12_smooth_71 (lv_at hl 0 rfl) ?_
          refine lv_iload_n hx hb dX12_smooth_73 rfl (lv_at hl 1 rfl) ?_
          refine lv_irem hx hb dX12_smooth_74 (tl_ne0 (by omega)) ?_
          refine lv_topi (fun z_73 ez_73 => ?_)
          have iz_73 := tl_iremC ez_73 (by omega) (by omega)
          refine tl_sl (tq_rV (As := [.int r_38, .int z_73]) (rest := [.long z_72, .int v4, .ref (r_41 23)]) ⟨hx, hb, hml, hown, hta⟩ (tp_P.pre hK hN hL hU hI hP) (tp_recv hK hP ho.1 hf_40 rfl) lk_X12_518 (r_X12_meanLeft l D cy H.size L K Γ_21 f_39 o r_38 z_73 ho (by first | omega | (simp only [Int32.toInt_toInt64]; omega) | decide | assumption) (by first | omega | (simp only [Int32.toInt_toInt64]; omega) | decide | assumption)) rfl rfl ⟨Nat.le_of_ble_eq_true rfl, Nat.le_of_ble_eq_true rfl⟩ rfl hl.1 rfl (Nat.le_of_ble_eq_true rfl) dX12_smooth_75 ⟨Nat.le_of_ble_eq_true rfl, Nat.le_of_ble_eq_true rfl⟩) (fun r_75 hw_74 => ?_)
          refine lv_lsub hx hb dX12_smooth_78 ?_
          refine lv_topl (fun z_76 ez_76 => ?_)
          have hn_77 : vp_in v4 (300) := tl_in (by omega) (by omega)
          have hI9 : tp_I cy L K Γ_21 (va_up f_39 (r_41 23) (.inl (cy 1, 300, .inr (.inl (vp_updL g_69 v4.toNatClampNeg z_76))))) := hI.set (show tp_r L K 63 300 0 (r_41 23) from hr_44 23 (by decide)) (show tp_aj cy (300) _ from ⟨_, rfl⟩)
          have hfr9 : ∀ b, (K b).1 ∉ ([39, 58, 57, 60, 61, 62, 63, 59] : List Nat) → va_up f_39 (r_41 23) (.inl (cy 1, 300, .inr (.inl (vp_updL g_69 v4.toNatClampNeg z_76)))) b = f b := tp_fr hfr (show tp_r L K 63 300 0 (r_41 23) from hr_44 23 (by decide)) (by decide)
          refine tp_last (cy := cy) hx hb hK hP hD hS (show tp_r L K 63 300 0 (r_41 23) from hr_44 23 (by decide)).1 hf_68 hn_77 dX12_smooth_79 (fun H locs hP hD hS => ?_)
          have hP : va_P D vwCl (va_pl L (va_up f_39 (r_41 23) (.inl (cy 1, 300, .inr (.inl (vp_updL g_69 v4.toNatClampNeg z_76)))))) H := hP
          generalize hfe : va_up f_39 (r_41 23) (.inl (cy 1, 300, .inr (.inl (vp_updL g_69 v4.toNatClampNeg z_76)))) = f_78 at hP hI9 hfr9
          have hD : va_D A (va_pl L f_78) := tp_D hL hAL
          have hf_79 := (show f_78 o = _ from by rw [← hfe, va_up_ne _ _ (tp_ne ho (show tp_r L K 63 300 0 (r_41 23) from hr_44 23 (by decide)) (by decide))]).trans hf_40
          have hf_80 := (show f_78 (r_41 19) = _ from by rw [← hfe, va_up_ne _ _ (tp_ne (show tp_r L K 59 300 0 (r_41 19) from hr_44 19 (by decide)) (show tp_r L K 63 300 0 (r_41 23) from hr_44 23 (by decide)) (by decide))]).trans hf_61
          have hf_81 : f_78 (r_41 23) = .inl (cy 1, 300, .inr (.inl (vp_updL g_69 v4.toNatClampNeg z_76))) := by rw [← hfe]; exact va_up_self _ _ _
          clear hfe
          have hI := hI9
          have hfr := hfr9
          clear hI9 hfr9
          obtain ⟨z_82, ez_82⟩ : ∃ y : Int32, y = v4 + 1 := ⟨_, rfl⟩
          refine lv_iinc (v := z_82) (lv' := [(4, .int z_82), (3, .int r_38), (0, .ref o), (1, .int p0), (2, .int p1)]) hx hb dX12_smooth_80 hl (k := 0) rfl (by rw [ez_82]; rfl) (by decide) rfl (fun ls hl => ?_)
          try have iz_82 : z_82.toInt = v4.toInt + 1 := by rw [ez_82]; exact tl_addL v4 1 (by decide) (by omega) (by omega)
          refine lv_goto (tgt := 40) hx hb dX12_smooth_83 (by decide) ?_
          exact ih40 (f_78, z_82) H locs ls (by show (300 - z_82.toInt).toNat < (300 - v4.toInt).toNat; omega) ⟨(show Γ_21 (39, 0, 0) 11 ≤ z_82.toInt from (by omega)), hP, hI, hfr, hS, lv_sub hl [0, 1, 2, 3, 4] rfl⟩
    · have c_36 : (v_25 15).toInt = (0 : Int) := tl_eq c_36
      refine lv_ldc (v := (-1000000)) hx hb hown (hta _ wk_182) dX12_smooth_26 ?_
      have hpo9 : Γ_21 (39, 0, 0) 0 = Γ (39, 0, 0) 0 := (by omega)
      exact W.iret (v := (-1000000)) hx hb hr (fun t ht hW => ⟨⟨_, (f_19, Γ_21), rfl, hpo9, by rw [ht]; exact hP, hI, hfr, hgr⟩, hS.F ht⟩) hS.2.2 dX12_smooth_28
  · have c_16 := hw_14.f c_16
    refine lv_ldc (v := (-2000000)) hx hb hown (hta _ wk_248) dX12_smooth_9 ?_
    have hpo9 : Γ (39, 0, 0) 0 = Γ (39, 0, 0) 0 := (by omega)
    exact W.iret (v := (-2000000)) hx hb hr (fun t ht hW => ⟨⟨_, (f, Γ), rfl, hpo9, by rw [ht]; exact hP, hI, hfr, hgr⟩, hS.F ht⟩) hS.2.2 dX12_smooth_11
