theorem dX11_clock_0 : decode cX11_clock 0 = .ok (.iload_n 1, 1) := by decide +kernel
theorem dX11_clock_1 : decode cX11_clock 1 = .ok (.invokestatic 94, 3) := by decide +kernel
theorem dX11_clock_4 : decode cX11_clock 4 = .ok (.ifCond .eq 14, 3) := by decide +kernel
theorem dX11_clock_7 : decode cX11_clock 7 = .ok (.iload_n 1, 1) := by decide +kernel
theorem dX11_clock_8 : decode cX11_clock 8 = .ok (.aload_n 0, 1) := by decide +kernel
theorem dX11_clock_9 : decode cX11_clock 9 = .ok (.getfield 10, 3) := by decide +kernel
theorem dX11_clock_12 : decode cX11_clock 12 = .ok (.getfield 98, 3) := by decide +kernel
theorem dX11_clock_15 : decode cX11_clock 15 = .ok (.if_icmp .ge 5, 3) := by decide +kernel
theorem dX11_clock_18 : decode cX11_clock 18 = .ok (.iconst 0, 1) := by decide +kernel
theorem dX11_clock_19 : decode cX11_clock 19 = .ok (.ireturn, 1) := by decide +kernel
theorem dX11_clock_20 : decode cX11_clock 20 = .ok (.aload_n 0, 1) := by decide +kernel
theorem dX11_clock_21 : decode cX11_clock 21 = .ok (.getfield 10, 3) := by decide +kernel
theorem dX11_clock_24 : decode cX11_clock 24 = .ok (.iload_n 1, 1) := by decide +kernel
theorem dX11_clock_25 : decode cX11_clock 25 = .ok (.putfield 98, 3) := by decide +kernel
theorem dX11_clock_28 : decode cX11_clock 28 = .ok (.iconst 1, 1) := by decide +kernel
theorem dX11_clock_29 : decode cX11_clock 29 = .ok (.ireturn, 1) := by decide +kernel
theorem dX11_row_0 : decode cX11_row 0 = .ok (.iload_n 1, 1) := by decide +kernel
theorem dX11_row_1 : decode cX11_row 1 = .ok (.invokestatic 102, 3) := by decide +kernel
theorem dX11_row_4 : decode cX11_row 4 = .ok (.ifCond .eq 14, 3) := by decide +kernel
theorem dX11_row_7 : decode cX11_row 7 = .ok (.iload_n 2, 1) := by decide +kernel
theorem dX11_row_8 : decode cX11_row 8 = .ok (.iconst 0, 1) := by decide +kernel
theorem dX11_row_9 : decode cX11_row 9 = .ok (.sipush 999, 3) := by decide +kernel
theorem dX11_row_12 : decode cX11_row 12 = .ok (.invokestatic 105, 3) := by decide +kernel
theorem dX11_row_15 : decode cX11_row 15 = .ok (.ifCond .ne 5, 3) := by decide +kernel
theorem dX11_row_18 : decode cX11_row 18 = .ok (.iconst (-1), 1) := by decide +kernel
theorem dX11_row_19 : decode cX11_row 19 = .ok (.ireturn, 1) := by decide +kernel
theorem dX11_row_20 : decode cX11_row 20 = .ok (.aload_n 0, 1) := by decide +kernel
theorem dX11_row_21 : decode cX11_row 21 = .ok (.getfield 10, 3) := by decide +kernel
theorem dX11_row_24 : decode cX11_row 24 = .ok (.getfield 109, 3) := by decide +kernel
theorem dX11_row_27 : decode cX11_row 27 = .ok (.iload_n 1, 1) := by decide +kernel
theorem dX11_row_28 : decode cX11_row 28 = .ok (.iload_n 2, 1) := by decide +kernel
theorem dX11_row_29 : decode cX11_row 29 = .ok (.aload_n 0, 1) := by decide +kernel
theorem dX11_row_30 : decode cX11_row 30 = .ok (.getfield 10, 3) := by decide +kernel
theorem dX11_row_33 : decode cX11_row 33 = .ok (.getfield 98, 3) := by decide +kernel
theorem dX11_row_36 : decode cX11_row 36 = .ok (.invokevirtual 113, 3) := by decide +kernel
theorem dX11_row_39 : decode cX11_row 39 = .ok (.ireturn, 1) := by decide +kernel
theorem wk_208 : Cond.instanceMethod yX4_add ∈ tl_L := List.mem_filter.mpr ⟨lw_m2 (i := 207) rfl, rfl⟩
theorem wk_209 : Cond.selects RX4 yX4_add yX4_add ∈ tl_L := List.mem_filter.mpr ⟨lw_s1 (i := 0) (q := (yX4_add, 6)) rfl, rfl⟩
theorem wk_210 : Cond.code yX4_add cX4_add 4 (some .int) ∈ tl_L := List.mem_filter.mpr ⟨lw_m2 (i := 208) rfl, rfl⟩
theorem lk_X11_113 : tl_kVN RX11 113 RX4 yX4_add "ThinLine" cX4_add 4 (some .int) 3 72 := ⟨wk_210, by decide +kernel, wk_208, wk_209, wk_60, ⟨by decide +kernel, by decide +kernel, by decide +kernel⟩⟩
theorem dX11_slip_0 : decode cX11_slip 0 = .ok (.iload_n 1, 1) := by decide +kernel
theorem dX11_slip_1 : decode cX11_slip 1 = .ok (.invokestatic 102, 3) := by decide +kernel
theorem dX11_slip_4 : decode cX11_slip 4 = .ok (.ifCond .eq 25, 3) := by decide +kernel
theorem dX11_slip_7 : decode cX11_slip 7 = .ok (.iload_n 2, 1) := by decide +kernel
theorem dX11_slip_8 : decode cX11_slip 8 = .ok (.iload_n 3, 1) := by decide +kernel
theorem dX11_slip_9 : decode cX11_slip 9 = .ok (.invokestatic 143, 3) := by decide +kernel
theorem dX11_slip_12 : decode cX11_slip 12 = .ok (.ifCond .eq 17, 3) := by decide +kernel
theorem dX11_slip_15 : decode cX11_slip 15 = .ok (.iload 4, 2) := by decide +kernel
theorem dX11_slip_17 : decode cX11_slip 17 = .ok (.sipush (-9999), 3) := by decide +kernel
theorem dX11_slip_20 : decode cX11_slip 20 = .ok (.sipush 9999, 3) := by decide +kernel
theorem dX11_slip_23 : decode cX11_slip 23 = .ok (.invokestatic 105, 3) := by decide +kernel
theorem dX11_slip_26 : decode cX11_slip 26 = .ok (.ifCond .ne 5, 3) := by decide +kernel
theorem dX11_slip_29 : decode cX11_slip 29 = .ok (.iconst (-1), 1) := by decide +kernel
theorem dX11_slip_30 : decode cX11_slip 30 = .ok (.ireturn, 1) := by decide +kernel
theorem dX11_slip_31 : decode cX11_slip 31 = .ok (.aload_n 0, 1) := by decide +kernel
theorem dX11_slip_32 : decode cX11_slip 32 = .ok (.getfield 10, 3) := by decide +kernel
theorem dX11_slip_35 : decode cX11_slip 35 = .ok (.getfield 147, 3) := by decide +kernel
theorem dX11_slip_38 : decode cX11_slip 38 = .ok (.iload_n 1, 1) := by decide +kernel
theorem dX11_slip_39 : decode cX11_slip 39 = .ok (.iload_n 2, 1) := by decide +kernel
theorem dX11_slip_40 : decode cX11_slip 40 = .ok (.iload_n 3, 1) := by decide +kernel
theorem dX11_slip_41 : decode cX11_slip 41 = .ok (.iload 4, 2) := by decide +kernel
theorem dX11_slip_43 : decode cX11_slip 43 = .ok (.invokevirtual 151, 3) := by decide +kernel
theorem dX11_slip_46 : decode cX11_slip 46 = .ok (.ireturn, 1) := by decide +kernel
theorem dX11_anew_0 : decode cX11_anew 0 = .ok (.aload_n 0, 1) := by decide +kernel
theorem dX11_anew_1 : decode cX11_anew 1 = .ok (.getfield 10, 3) := by decide +kernel
theorem dX11_anew_4 : decode cX11_anew 4 = .ok (.getfield 147, 3) := by decide +kernel
theorem dX11_anew_7 : decode cX11_anew 7 = .ok (.iload_n 1, 1) := by decide +kernel
theorem dX11_anew_8 : decode cX11_anew 8 = .ok (.invokevirtual 156, 3) := by decide +kernel
theorem dX11_anew_11 : decode cX11_anew 11 = .ok (.ifCond .eq 16, 3) := by decide +kernel
theorem dX11_anew_14 : decode cX11_anew 14 = .ok (.iload_n 2, 1) := by decide +kernel
theorem dX11_anew_15 : decode cX11_anew 15 = .ok (.sipush (-9999), 3) := by decide +kernel
theorem dX11_anew_18 : decode cX11_anew 18 = .ok (.sipush 9999, 3) := by decide +kernel
theorem dX11_anew_21 : decode cX11_anew 21 = .ok (.invokestatic 105, 3) := by decide +kernel
theorem dX11_anew_24 : decode cX11_anew 24 = .ok (.ifCond .ne 6, 3) := by decide +kernel
theorem dX11_anew_27 : decode cX11_anew 27 = .ok (.ldc 128, 2) := by decide +kernel
theorem dX11_anew_29 : decode cX11_anew 29 = .ok (.ireturn, 1) := by decide +kernel
theorem dX11_anew_30 : decode cX11_anew 30 = .ok (.aload_n 0, 1) := by decide +kernel
theorem dX11_anew_31 : decode cX11_anew 31 = .ok (.getfield 10, 3) := by decide +kernel
theorem dX11_anew_34 : decode cX11_anew 34 = .ok (.getfield 147, 3) := by decide +kernel
theorem dX11_anew_37 : decode cX11_anew 37 = .ok (.iload_n 1, 1) := by decide +kernel
theorem dX11_anew_38 : decode cX11_anew 38 = .ok (.iconst 3, 1) := by decide +kernel
theorem dX11_anew_39 : decode cX11_anew 39 = .ok (.invokevirtual 157, 3) := by decide +kernel
theorem dX11_anew_42 : decode cX11_anew 42 = .ok (.istore_n 3, 1) := by decide +kernel
theorem dX11_anew_43 : decode cX11_anew 43 = .ok (.aload_n 0, 1) := by decide +kernel
theorem dX11_anew_44 : decode cX11_anew 44 = .ok (.getfield 10, 3) := by decide +kernel
theorem dX11_anew_47 : decode cX11_anew 47 = .ok (.getfield 147, 3) := by decide +kernel
theorem dX11_anew_50 : decode cX11_anew 50 = .ok (.iload_n 1, 1) := by decide +kernel
theorem dX11_anew_51 : decode cX11_anew 51 = .ok (.iconst 3, 1) := by decide +kernel
theorem dX11_anew_52 : decode cX11_anew 52 = .ok (.iload_n 2, 1) := by decide +kernel
theorem dX11_anew_53 : decode cX11_anew 53 = .ok (.invokevirtual 160, 3) := by decide +kernel
theorem dX11_anew_56 : decode cX11_anew 56 = .ok (.iload_n 3, 1) := by decide +kernel
theorem dX11_anew_57 : decode cX11_anew 57 = .ok (.ireturn, 1) := by decide +kernel
theorem lk_X11_160 : tl_kVN RX11 160 RX6 yX6_set "ThinLine" cX6_set 4 none 3 81 := ⟨wk_292, by decide +kernel, wk_290, wk_291, wk_64, ⟨by decide +kernel, by decide +kernel, by decide +kernel⟩⟩
theorem dX11_line_0 : decode cX11_line 0 = .ok (.iload_n 1, 1) := by decide +kernel
theorem dX11_line_1 : decode cX11_line 1 = .ok (.invokestatic 164, 3) := by decide +kernel
theorem dX11_line_4 : decode cX11_line 4 = .ok (.ifCond .eq 33, 3) := by decide +kernel
theorem dX11_line_7 : decode cX11_line 7 = .ok (.iload_n 2, 1) := by decide +kernel
theorem dX11_line_8 : decode cX11_line 8 = .ok (.invokestatic 125, 3) := by decide +kernel
theorem dX11_line_11 : decode cX11_line 11 = .ok (.ifCond .eq 26, 3) := by decide +kernel
theorem dX11_line_14 : decode cX11_line 14 = .ok (.iload_n 3, 1) := by decide +kernel
theorem dX11_line_15 : decode cX11_line 15 = .ok (.iconst 1, 1) := by decide +kernel
theorem dX11_line_16 : decode cX11_line 16 = .ok (.sipush 1000, 3) := by decide +kernel
theorem dX11_line_19 : decode cX11_line 19 = .ok (.invokestatic 105, 3) := by decide +kernel
theorem dX11_line_22 : decode cX11_line 22 = .ok (.ifCond .eq 15, 3) := by decide +kernel
theorem dX11_line_25 : decode cX11_line 25 = .ok (.aload_n 0, 1) := by decide +kernel
theorem dX11_line_26 : decode cX11_line 26 = .ok (.getfield 10, 3) := by decide +kernel
theorem dX11_line_29 : decode cX11_line 29 = .ok (.iload_n 1, 1) := by decide +kernel
theorem dX11_line_30 : decode cX11_line 30 = .ok (.iload_n 2, 1) := by decide +kernel
theorem dX11_line_31 : decode cX11_line 31 = .ok (.invokevirtual 167, 3) := by decide +kernel
theorem dX11_line_34 : decode cX11_line 34 = .ok (.ifCond .eq 5, 3) := by decide +kernel
theorem dX11_line_37 : decode cX11_line 37 = .ok (.iconst (-1), 1) := by decide +kernel
theorem dX11_line_38 : decode cX11_line 38 = .ok (.ireturn, 1) := by decide +kernel
theorem dX11_line_39 : decode cX11_line 39 = .ok (.aload_n 0, 1) := by decide +kernel
theorem dX11_line_40 : decode cX11_line 40 = .ok (.getfield 10, 3) := by decide +kernel
theorem dX11_line_43 : decode cX11_line 43 = .ok (.getfield 170, 3) := by decide +kernel
theorem dX11_line_46 : decode cX11_line 46 = .ok (.iload_n 1, 1) := by decide +kernel
theorem dX11_line_47 : decode cX11_line 47 = .ok (.iload_n 2, 1) := by decide +kernel
theorem dX11_line_48 : decode cX11_line 48 = .ok (.iload_n 3, 1) := by decide +kernel
theorem dX11_line_49 : decode cX11_line 49 = .ok (.iconst 0, 1) := by decide +kernel
theorem dX11_line_50 : decode cX11_line 50 = .ok (.invokevirtual 151, 3) := by decide +kernel
theorem dX11_line_53 : decode cX11_line 53 = .ok (.iconst (-1), 1) := by decide +kernel
theorem dX11_line_54 : decode cX11_line 54 = .ok (.if_icmp .ne 7, 3) := by decide +kernel
theorem dX11_line_57 : decode cX11_line 57 = .ok (.iconst (-1), 1) := by decide +kernel
theorem dX11_line_58 : decode cX11_line 58 = .ok (.goto 13, 3) := by decide +kernel
theorem dX11_line_61 : decode cX11_line 61 = .ok (.aload_n 0, 1) := by decide +kernel
theorem dX11_line_62 : decode cX11_line 62 = .ok (.getfield 10, 3) := by decide +kernel
theorem dX11_line_65 : decode cX11_line 65 = .ok (.getfield 170, 3) := by decide +kernel
theorem dX11_line_68 : decode cX11_line 68 = .ok (.getfield 173, 3) := by decide +kernel
theorem dX11_line_71 : decode cX11_line 71 = .ok (.ireturn, 1) := by decide +kernel
theorem wk_318 : Cond.instanceMethod yX0_hasLine ∈ tl_L := List.mem_filter.mpr ⟨lw_m3 (i := 41) rfl, rfl⟩
theorem wk_319 : Cond.selects RX0 yX0_hasLine yX0_hasLine ∈ tl_L := List.mem_filter.mpr ⟨lw_s1 (i := 8) (q := (yX0_hasLine, 9)) rfl, rfl⟩
theorem wk_320 : Cond.code yX0_hasLine cX0_hasLine 5 (some .boolean) ∈ tl_L := List.mem_filter.mpr ⟨lw_m3 (i := 42) rfl, rfl⟩
theorem lk_X11_167 : tl_kVN RX11 167 RX0 yX0_hasLine "ThinLine" cX0_hasLine 5 (some .boolean) 2 82 := ⟨wk_320, by decide +kernel, wk_318, wk_319, wk_14, ⟨by decide +kernel, by decide +kernel, by decide +kernel⟩⟩
theorem dX11_candidate_0 : decode cX11_candidate 0 = .ok (.iload_n 1, 1) := by decide +kernel
theorem dX11_candidate_1 : decode cX11_candidate 1 = .ok (.invokestatic 102, 3) := by decide +kernel
theorem dX11_candidate_4 : decode cX11_candidate 4 = .ok (.ifCond .eq 13, 3) := by decide +kernel
theorem dX11_candidate_7 : decode cX11_candidate 7 = .ok (.iload_n 2, 1) := by decide +kernel
theorem dX11_candidate_8 : decode cX11_candidate 8 = .ok (.iconst 1, 1) := by decide +kernel
theorem dX11_candidate_9 : decode cX11_candidate 9 = .ok (.bipush 99, 2) := by decide +kernel
theorem dX11_candidate_11 : decode cX11_candidate 11 = .ok (.invokestatic 105, 3) := by decide +kernel
theorem dX11_candidate_14 : decode cX11_candidate 14 = .ok (.ifCond .ne 5, 3) := by decide +kernel
theorem dX11_candidate_17 : decode cX11_candidate 17 = .ok (.iconst (-1), 1) := by decide +kernel
theorem dX11_candidate_18 : decode cX11_candidate 18 = .ok (.ireturn, 1) := by decide +kernel
theorem dX11_candidate_19 : decode cX11_candidate 19 = .ok (.aload_n 0, 1) := by decide +kernel
theorem dX11_candidate_20 : decode cX11_candidate 20 = .ok (.getfield 10, 3) := by decide +kernel
theorem dX11_candidate_23 : decode cX11_candidate 23 = .ok (.getfield 429, 3) := by decide +kernel
theorem dX11_candidate_26 : decode cX11_candidate 26 = .ok (.iload_n 1, 1) := by decide +kernel
theorem dX11_candidate_27 : decode cX11_candidate 27 = .ok (.iload_n 2, 1) := by decide +kernel
theorem dX11_candidate_28 : decode cX11_candidate 28 = .ok (.iconst 0, 1) := by decide +kernel
theorem dX11_candidate_29 : decode cX11_candidate 29 = .ok (.iconst 0, 1) := by decide +kernel
theorem dX11_candidate_30 : decode cX11_candidate 30 = .ok (.invokevirtual 151, 3) := by decide +kernel
theorem dX11_candidate_33 : decode cX11_candidate 33 = .ok (.ireturn, 1) := by decide +kernel
theorem dX11_told_0 : decode cX11_told 0 = .ok (.iload_n 1, 1) := by decide +kernel
theorem dX11_told_1 : decode cX11_told 1 = .ok (.iconst 0, 1) := by decide +kernel
theorem dX11_told_2 : decode cX11_told 2 = .ok (.aload_n 0, 1) := by decide +kernel
theorem dX11_told_3 : decode cX11_told 3 = .ok (.getfield 10, 3) := by decide +kernel
theorem dX11_told_6 : decode cX11_told 6 = .ok (.getfield 447, 3) := by decide +kernel
theorem dX11_told_9 : decode cX11_told 9 = .ok (.arraylength, 1) := by decide +kernel
theorem dX11_told_10 : decode cX11_told 10 = .ok (.iconst 1, 1) := by decide +kernel
theorem dX11_told_11 : decode cX11_told 11 = .ok (.isub, 1) := by decide +kernel
theorem dX11_told_12 : decode cX11_told 12 = .ok (.invokestatic 105, 3) := by decide +kernel
theorem dX11_told_15 : decode cX11_told 15 = .ok (.ifCond .eq 14, 3) := by decide +kernel
theorem dX11_told_18 : decode cX11_told 18 = .ok (.iload_n 2, 1) := by decide +kernel
theorem dX11_told_19 : decode cX11_told 19 = .ok (.iconst 0, 1) := by decide +kernel
theorem dX11_told_20 : decode cX11_told 20 = .ok (.sipush 9999, 3) := by decide +kernel
theorem dX11_told_23 : decode cX11_told 23 = .ok (.invokestatic 105, 3) := by decide +kernel
theorem dX11_told_26 : decode cX11_told 26 = .ok (.ifCond .ne 5, 3) := by decide +kernel
theorem dX11_told_29 : decode cX11_told 29 = .ok (.iconst (-1), 1) := by decide +kernel
theorem dX11_told_30 : decode cX11_told 30 = .ok (.ireturn, 1) := by decide +kernel
theorem dX11_told_31 : decode cX11_told 31 = .ok (.aload_n 0, 1) := by decide +kernel
theorem dX11_told_32 : decode cX11_told 32 = .ok (.getfield 10, 3) := by decide +kernel
theorem dX11_told_35 : decode cX11_told 35 = .ok (.getfield 447, 3) := by decide +kernel
theorem dX11_told_38 : decode cX11_told 38 = .ok (.iload_n 1, 1) := by decide +kernel
theorem dX11_told_39 : decode cX11_told 39 = .ok (.iaload, 1) := by decide +kernel
theorem dX11_told_40 : decode cX11_told 40 = .ok (.istore_n 3, 1) := by decide +kernel
theorem dX11_told_41 : decode cX11_told 41 = .ok (.aload_n 0, 1) := by decide +kernel
theorem dX11_told_42 : decode cX11_told 42 = .ok (.getfield 10, 3) := by decide +kernel
theorem dX11_told_45 : decode cX11_told 45 = .ok (.getfield 447, 3) := by decide +kernel
theorem dX11_told_48 : decode cX11_told 48 = .ok (.iload_n 1, 1) := by decide +kernel
theorem dX11_told_49 : decode cX11_told 49 = .ok (.iload_n 2, 1) := by decide +kernel
theorem dX11_told_50 : decode cX11_told 50 = .ok (.iastore, 1) := by decide +kernel
theorem dX11_told_51 : decode cX11_told 51 = .ok (.iload_n 3, 1) := by decide +kernel
theorem dX11_told_52 : decode cX11_told 52 = .ok (.ireturn, 1) := by decide +kernel
theorem nk_19 : tl_N[19]? = some (Cond.fieldLinkNest "ThinLine" 447 "ThinLine$Book" "told" "[I" "ThinLine") := by decide +kernel
theorem dX11_back_0 : decode cX11_back 0 = .ok (.iload_n 1, 1) := by decide +kernel
theorem dX11_back_1 : decode cX11_back 1 = .ok (.iconst 0, 1) := by decide +kernel
theorem dX11_back_2 : decode cX11_back 2 = .ok (.iconst 3, 1) := by decide +kernel
theorem dX11_back_3 : decode cX11_back 3 = .ok (.invokestatic 105, 3) := by decide +kernel
theorem dX11_back_6 : decode cX11_back 6 = .ok (.ifCond .eq 12, 3) := by decide +kernel
theorem dX11_back_9 : decode cX11_back 9 = .ok (.aload_n 0, 1) := by decide +kernel
theorem dX11_back_10 : decode cX11_back 10 = .ok (.getfield 16, 3) := by decide +kernel
theorem dX11_back_13 : decode cX11_back 13 = .ok (.iload_n 1, 1) := by decide +kernel
theorem dX11_back_14 : decode cX11_back 14 = .ok (.aaload, 1) := by decide +kernel
theorem dX11_back_15 : decode cX11_back 15 = .ok (.ifnonnull 5, 3) := by decide +kernel
theorem dX11_back_18 : decode cX11_back 18 = .ok (.iconst (-1), 1) := by decide +kernel
theorem dX11_back_19 : decode cX11_back 19 = .ok (.ireturn, 1) := by decide +kernel
theorem dX11_back_20 : decode cX11_back 20 = .ok (.aload_n 0, 1) := by decide +kernel
theorem dX11_back_21 : decode cX11_back 21 = .ok (.getfield 10, 3) := by decide +kernel
theorem dX11_back_24 : decode cX11_back 24 = .ok (.aload_n 0, 1) := by decide +kernel
theorem dX11_back_25 : decode cX11_back 25 = .ok (.getfield 16, 3) := by decide +kernel
theorem dX11_back_28 : decode cX11_back 28 = .ok (.iload_n 1, 1) := by decide +kernel
theorem dX11_back_29 : decode cX11_back 29 = .ok (.aaload, 1) := by decide +kernel
theorem dX11_back_30 : decode cX11_back 30 = .ok (.invokevirtual 491, 3) := by decide +kernel
theorem dX11_back_33 : decode cX11_back 33 = .ok (.aload_n 0, 1) := by decide +kernel
theorem dX11_back_34 : decode cX11_back 34 = .ok (.getfield 10, 3) := by decide +kernel
theorem dX11_back_37 : decode cX11_back 37 = .ok (.getfield 109, 3) := by decide +kernel
theorem dX11_back_40 : decode cX11_back 40 = .ok (.getfield 339, 3) := by decide +kernel
theorem dX11_back_43 : decode cX11_back 43 = .ok (.ireturn, 1) := by decide +kernel
theorem wk_16 : Cond.fieldLink RX11 16 "ThinLine" "images" "[LThinLine$Book;" ∈ tl_L := List.mem_filter.mpr ⟨lw_m2 (i := 140) rfl, rfl⟩
theorem wk_1499 : Cond.instanceMethod yX0_copyFrom ∈ tl_L := List.mem_filter.mpr ⟨lw_m6 (i := 38) rfl, rfl⟩
theorem wk_1500 : Cond.selects RX0 yX0_copyFrom yX0_copyFrom ∈ tl_L := List.mem_filter.mpr ⟨lw_s7 (i := 5) (q := (yX0_copyFrom, 9)) rfl, rfl⟩
theorem wk_1501 : Cond.code yX0_copyFrom cX0_copyFrom 2 none ∈ tl_L := List.mem_filter.mpr ⟨lw_m6 (i := 39) rfl, rfl⟩
theorem lk_X11_491 : tl_kVN RX11 491 RX0 yX0_copyFrom "ThinLine" cX0_copyFrom 2 none 1 140 := ⟨wk_1501, by decide +kernel, wk_1499, wk_1500, wk_14, ⟨by decide +kernel, by decide +kernel, by decide +kernel⟩⟩
noncomputable def tm_if {α : Type} (P : Prop) (a b : α) : α := @ite α P (Classical.propDecidable P) a b
theorem tm_if_t {α : Type} {P : Prop} {a b : α} (h : P) : tm_if P a b = a := @if_pos P (Classical.propDecidable P) h α a b
theorem tm_if_f {α : Type} {P : Prop} {a b : α} (h : ¬ P) : tm_if P a b = b := @if_neg P (Classical.propDecidable P) h α a b
theorem tm_add_sz {Γ : tk_G} {κ κc : tk_K} {m a b c d : Int} (hne : ¬ κ = κc) : (tm_add Γ κ κc m a b c d κ 0 = Γ κ 0 + 1 ∧ Γ κ 0 < m) ∨ (tm_add Γ κ κc m a b c d κ 0 = Γ κ 0 ∧ m ≤ Γ κ 0) := by
  unfold tm_add
  by_cases h : Γ κ 0 < m
  · rw [if_pos h, tgc_n hne, tg_s]; exact Or.inl ⟨rfl, h⟩
  · rw [if_neg h]; exact Or.inr ⟨rfl, by omega⟩
theorem tm_at_or {m x : Int} : (x < m ∧ tm_at m x = x) ∨ (m ≤ x ∧ tm_at m x = -1) := by
  by_cases h : x < m
  · exact Or.inl ⟨h, tm_at_lt h⟩
  · exact Or.inr ⟨by omega, tm_at_ge (by omega)⟩
set_option maxHeartbeats 4000000 in
set_option maxRecDepth 100000 in
theorem t_X11_clock (l : Launch) (D : va_G) (cy : Nat → ClassId) (sz : Nat) (L : List Nat) (K : Nat → tk_K) (Γ : tk_G) (f : Nat → va_E) (o : Nat) (p0 : Int32) (ho : tp_r L K 0 (0) 0 o) : Met l yX11_clock (tl_w yX11_clock cX11_clock 2 (some .boolean)) ({ frames := 2, cells := 0, slots := 0, locals := 42 }) (va_Pc [.ref o, .int p0] (tp_P D cy L K Γ f sz)) (va_Qi (fun (r : Int32) (u : Nat → va_E) => tl_E r (0 ≤ p0.toInt ∧ p0.toInt ≤ 399 ∧ Γ (1, 0, 0) 0 ≤ p0.toInt) 1 0) (tp_B D cy L K (if 0 ≤ p0.toInt ∧ p0.toInt ≤ 399 ∧ Γ (1, 0, 0) 0 ≤ p0.toInt then tg Γ (1, 0, 0) 0 p0.toInt else Γ) f [1]) (tp_A L sz)) 0 0 (tp_A L sz) := by
  refine Met.ofW (cc := cX11_clock) (maxL := 2) (ret := (some .boolean)) (by decide) rfl ?_
  intro p e s m args below meth c s₁ B hml hv
  obtain ⟨rfl, hsz, hP, hK, hL, hI, hN, hU⟩ := hv
  have hx := B.exec
  have hb := B.bytes
  have hr := B.returns
  have hta := tl_hta (atoms_spec (ws := tl_w yX11_clock cX11_clock 2 (some .boolean)) B.pre)
  have hown : s.vm.findClass RX11 = some m.cls := findClass_of_methodNamed B.named
  have hlocks := B.notSynchronized
  subst hsz
  have hI0 := hI
  generalize hAe : tp_A L s.heap.size = A
  have hA : ∀ q : Nat, s.heap.size ≤ q → A q := fun q h => by rw [← hAe]; exact Or.inr h
  have hAL : ∀ q ∈ L, A q := fun q h => by rw [← hAe]; exact Or.inl h
  have hAf : ∀ (H : Heap), s.heap.size ≤ H.size → ∀ q, tp_A L H.size q → A q := fun H h q hq => hq.elim (hAL q) (fun h2 => hA q (Nat.le_trans h h2))
  have hS : va_S A s.heap s.heap [] := va_S.rf
  have hD : va_D A (va_pl L f) := tp_D hL hAL
  have hfr : ∀ b, (K b).1 ∉ ([1] : List Nat) → f b = f b := fun _ _ => rfl
  have hl := lv_entry ([.ref o, .int p0]) (n := 2) (Nat.le_of_ble_eq_true rfl)
  rw [lg_entry_eq]
  generalize (lg_sl ([.ref o, .int p0]) ++ List.replicate (2 - (lg_sl ([.ref o, .int p0])).length) Slot.unset).toArray = ls at hl ⊢
  have hl : lv_has ls 2 [(0, .ref o), (1, .int p0)] := hl
  refine lv_iload_n hx hb dX11_clock_0 rfl (lv_at hl 1 rfl) ?_
  refine tl_si (tq_rS (As := [.int p0]) (rest := []) ⟨hx, hb, hml, hown, hta⟩ (tp_P.pre hK hN hL hU hI hP) lk_X11_94 (t_X11_isWeek l D cy s.heap.size L K Γ f p0 ) rfl rfl ⟨Nat.le_of_ble_eq_true rfl, Nat.le_of_ble_eq_true rfl⟩ rfl hl.1 rfl (Nat.le_of_ble_eq_true rfl) dX11_clock_1 ⟨Nat.le_of_ble_eq_true rfl, Nat.le_of_ble_eq_true rfl⟩) (fun r_2 hw_1 => ?_)
  have hw_1 : tl_E r_2 (0 ≤ p0.toInt ∧ p0.toInt ≤ 399) 1 0 := hw_1
  refine lv_if_eq (tgt := 18) hx hb dX11_clock_4 (by decide) (fun c_3 => ?_) (fun c_3 => ?_)
  · have c_3 := hw_1.f c_3
    refine lv_iconst (v := 0) hx hb dX11_clock_18 (by decide) ?_
    have hG9 : Γ = if 0 ≤ p0.toInt ∧ p0.toInt ≤ 399 ∧ Γ (1, 0, 0) 0 ≤ p0.toInt then tg Γ (1, 0, 0) 0 p0.toInt else Γ := (by rw [if_neg (by omega)])
    exact W.zret (ty := .boolean) (v := 0) hx hb hr rfl (fun t ht hW => ⟨⟨_, f, rfl, (Or.inr ⟨by omega, rfl⟩), by rw [ht]; exact hP, (by rw [← hG9]; exact hI), hfr⟩, hS.F ht⟩) hS.2.2 dX11_clock_19
  · have c_3 := hw_1.t c_3
    refine lv_iload_n hx hb dX11_clock_7 rfl (lv_at hl 1 rfl) ?_
    refine lv_aload_n hx hb dX11_clock_8 rfl (lv_at hl 0 rfl) ?_
    obtain ⟨x_5, x_6, x_7, x_8, x_9, x_10, x_11, x_12, x_13, x_14, x_15, x_16, x_17, x_18, x_19, x_20, hf_4, hx_5, hx_6, hx_7, hx_8, hx_9, hx_10, hx_11, hx_12, hx_13, hx_14, hx_15, hx_16, hx_17, hx_18, hx_19, hx_20⟩ := (show tp_o_X L K (0) 0 (Γ (0, 0, 0)) (f o) from hI0.at ho)
    refine tp_get (cy := cy) (ci := 11) (v := .ref x_5) (C := RX11) (T := TX11) (N := 16) hx hb hta inlX11 hown hK hP ho.1 hf_4 rfl 0 (by decide) (hta _ wk_15) (fun _ h9 => h9) rfl dX11_clock_9 ?_
    obtain ⟨x_22, x_23, x_24, x_25, x_26, x_27, x_28, x_29, x_30, hf_21, hx_22, hx_23, hx_24, hx_25, hx_26, hx_27, hx_28, hx_29, hx_30⟩ := (show tp_o_BOOK L K (0) 0 (Γ (1, 0, 0)) (f x_5) from hI.at hx_5)
    refine tp_getN (cy := cy) (ci := 0) (v := .int x_22) (C := RX0) (T := TX0) (N := 9) hx hb hta inlX0 hown hK hP hx_5.1 hf_21 rfl 0 (by decide) (va_Nw.use rfl (hN.1 16 _ nk_16)) (fun _ h9 => h9) rfl dX11_clock_12 ?_
    refine lv_icmp_ge (tgt := 20) hx hb dX11_clock_15 (by decide) (fun c_31 => ?_) (fun c_31 => ?_)
    · have c_31 : x_22.toInt ≤ p0.toInt := tl_le c_31
      refine lv_aload_n hx hb dX11_clock_20 rfl (lv_at hl 0 rfl) ?_
      refine tp_get (cy := cy) (ci := 11) (v := .ref x_5) (C := RX11) (T := TX11) (N := 16) hx hb hta inlX11 hown hK hP ho.1 hf_4 rfl 0 (by decide) (hta _ wk_15) (fun _ h9 => h9) rfl dX11_clock_21 ?_
      refine lv_iload_n hx hb dX11_clock_24 rfl (lv_at hl 1 rfl) ?_
      obtain ⟨Γ_32, eΓ_32⟩ : ∃ y : tk_G, y = tg Γ (1, 0, 0) 0 (p0.toInt) := ⟨_, rfl⟩
      have hI9 : tp_I cy L K Γ_32 (va_up f x_5 (.inr (0, [.int p0, .ref x_23, .ref x_24, .ref x_25, .ref x_26, .ref x_27, .ref x_28, .ref x_29, .int x_30]))) := by rw [eΓ_32]; exact hI.setg hU rfl hx_5 (show tp_o_BOOK L K (0) 0 (tgu (Γ (1, 0, 0)) 0 (p0.toInt)) _ from ⟨p0, x_23, x_24, x_25, x_26, x_27, x_28, x_29, x_30, rfl, (show p0.toInt = (tgu (Γ (1, 0, 0)) 0 (p0.toInt)) 0 from by rw [tgu_s]), hx_23, hx_24, hx_25, hx_26, hx_27, hx_28, hx_29, (show 0 ≤ x_30.toInt ∧ x_30.toInt ≤ 400 from by omega)⟩)
      have sΓ_32 : Γ_32 (1, 0, 0) 0 = p0.toInt := by rw [eΓ_32]; exact tg_s
      have hfr9 : ∀ b, (K b).1 ∉ ([1] : List Nat) → va_up f x_5 (.inr (0, [.int p0, .ref x_23, .ref x_24, .ref x_25, .ref x_26, .ref x_27, .ref x_28, .ref x_29, .int x_30])) b = f b := tp_fr hfr hx_5 (by decide)
      refine tp_putN (cy := cy) (ci := 0) (v := .int p0) (ty := tyX0 0) (C := RX0) (T := TX0) (N := 9) hx hb hta inlX0 tyX0 tyX0_ok nmX0 hown hK hP hD hS hx_5.1 hf_21 rfl 0 (by decide) (va_Nw.use rfl (hN.1 16 _ nk_16)) (fun _ h9 => h9) rfl (tyX0_ok 0 (by decide)) rfl rfl (Nat.le_of_ble_eq_true rfl) dX11_clock_25 (fun H locs hP hD hS => ?_)
      have hP : va_P D vwCl (va_pl L (va_up f x_5 (.inr (0, [.int p0, .ref x_23, .ref x_24, .ref x_25, .ref x_26, .ref x_27, .ref x_28, .ref x_29, .int x_30])))) H := hP
      generalize hfe : va_up f x_5 (.inr (0, [.int p0, .ref x_23, .ref x_24, .ref x_25, .ref x_26, .ref x_27, .ref x_28, .ref x_29, .int x_30])) = f_33 at hP hI9 hfr9
      have hD : va_D A (va_pl L f_33) := tp_D hL hAL
      have hf_34 : f_33 x_5 = .inr (0, [.int p0, .ref x_23, .ref x_24, .ref x_25, .ref x_26, .ref x_27, .ref x_28, .ref x_29, .int x_30]) := by rw [← hfe]; exact va_up_self _ _ _
      clear hfe
      have hI := hI9
      have hfr := hfr9
      clear hI9 hfr9
      refine lv_iconst (v := 1) hx hb dX11_clock_28 (by decide) ?_
      have hG9 : Γ_32 = if 0 ≤ p0.toInt ∧ p0.toInt ≤ 399 ∧ Γ (1, 0, 0) 0 ≤ p0.toInt then tg Γ (1, 0, 0) 0 p0.toInt else Γ := (by rw [if_pos (by omega)]; exact eΓ_32)
      exact W.zret (ty := .boolean) (v := 1) hx hb hr rfl (fun t ht hW => ⟨⟨_, f_33, rfl, (Or.inl ⟨by omega, rfl⟩), by rw [ht]; exact hP, (by rw [← hG9]; exact hI), hfr⟩, hS.F ht⟩) hS.2.2 dX11_clock_29
    · have c_31 : p0.toInt < x_22.toInt := tl_nle c_31
      refine lv_iconst (v := 0) hx hb dX11_clock_18 (by decide) ?_
      have hG9 : Γ = if 0 ≤ p0.toInt ∧ p0.toInt ≤ 399 ∧ Γ (1, 0, 0) 0 ≤ p0.toInt then tg Γ (1, 0, 0) 0 p0.toInt else Γ := (by rw [if_neg (by omega)])
      exact W.zret (ty := .boolean) (v := 0) hx hb hr rfl (fun t ht hW => ⟨⟨_, f, rfl, (Or.inr ⟨by omega, rfl⟩), by rw [ht]; exact hP, (by rw [← hG9]; exact hI), hfr⟩, hS.F ht⟩) hS.2.2 dX11_clock_19
set_option maxHeartbeats 4000000 in
set_option maxRecDepth 100000 in
theorem t_X11_row (l : Launch) (D : va_G) (cy : Nat → ClassId) (sz : Nat) (L : List Nat) (K : Nat → tk_K) (Γ : tk_G) (f : Nat → va_E) (o : Nat) (p0 : Int32) (p1 : Int32) (ho : tp_r L K 0 (0) 0 o) : Met l yX11_row (tl_w yX11_row cX11_row 3 (some .int)) ({ frames := 2, cells := 0, slots := 0, locals := 46 }) (va_Pc [.ref o, .int p0, .int p1] (tp_P D cy L K Γ f sz)) (va_Qi (fun (r : Int32) (u : Nat → va_E) => r.toInt = if (0 ≤ p0.toInt ∧ p0.toInt ≤ 3) ∧ 0 ≤ p1.toInt ∧ p1.toInt ≤ 999 then tm_at 24 (Γ (3, 0, 0) 0) else -1) (tp_B D cy L K (if (0 ≤ p0.toInt ∧ p0.toInt ≤ 3) ∧ 0 ≤ p1.toInt ∧ p1.toInt ≤ 999 then tg Γ (3, 0, 0) 0 (tm_up 24 (Γ (3, 0, 0) 0)) else Γ) f [3, 4, 6]) (tp_A L sz)) 0 0 (tp_A L sz) := by
  refine Met.ofW (cc := cX11_row) (maxL := 3) (ret := (some .int)) (by decide) rfl ?_
  intro p e s m args below meth c s₁ B hml hv
  obtain ⟨rfl, hsz, hP, hK, hL, hI, hN, hU⟩ := hv
  have hx := B.exec
  have hb := B.bytes
  have hr := B.returns
  have hta := tl_hta (atoms_spec (ws := tl_w yX11_row cX11_row 3 (some .int)) B.pre)
  have hown : s.vm.findClass RX11 = some m.cls := findClass_of_methodNamed B.named
  have hlocks := B.notSynchronized
  subst hsz
  have hI0 := hI
  generalize hAe : tp_A L s.heap.size = A
  have hA : ∀ q : Nat, s.heap.size ≤ q → A q := fun q h => by rw [← hAe]; exact Or.inr h
  have hAL : ∀ q ∈ L, A q := fun q h => by rw [← hAe]; exact Or.inl h
  have hAf : ∀ (H : Heap), s.heap.size ≤ H.size → ∀ q, tp_A L H.size q → A q := fun H h q hq => hq.elim (hAL q) (fun h2 => hA q (Nat.le_trans h h2))
  have hS : va_S A s.heap s.heap [] := va_S.rf
  have hD : va_D A (va_pl L f) := tp_D hL hAL
  have hfr : ∀ b, (K b).1 ∉ ([3, 4, 6] : List Nat) → f b = f b := fun _ _ => rfl
  have hl := lv_entry ([.ref o, .int p0, .int p1]) (n := 3) (Nat.le_of_ble_eq_true rfl)
  rw [lg_entry_eq]
  generalize (lg_sl ([.ref o, .int p0, .int p1]) ++ List.replicate (3 - (lg_sl ([.ref o, .int p0, .int p1])).length) Slot.unset).toArray = ls at hl ⊢
  have hl : lv_has ls 3 [(0, .ref o), (1, .int p0), (2, .int p1)] := hl
  refine lv_iload_n hx hb dX11_row_0 rfl (lv_at hl 1 rfl) ?_
  refine tl_si (tq_rS (As := [.int p0]) (rest := []) ⟨hx, hb, hml, hown, hta⟩ (tp_P.pre hK hN hL hU hI hP) lk_X11_102 (t_X11_isGlass l D cy s.heap.size L K Γ f p0 ) rfl rfl ⟨Nat.le_of_ble_eq_true rfl, Nat.le_of_ble_eq_true rfl⟩ rfl hl.1 rfl (Nat.le_of_ble_eq_true rfl) dX11_row_1 ⟨Nat.le_of_ble_eq_true rfl, Nat.le_of_ble_eq_true rfl⟩) (fun r_2 hw_1 => ?_)
  have hw_1 : tl_E r_2 (0 ≤ p0.toInt ∧ p0.toInt ≤ 3) 1 0 := hw_1
  refine lv_if_eq (tgt := 18) hx hb dX11_row_4 (by decide) (fun c_3 => ?_) (fun c_3 => ?_)
  · have c_3 := hw_1.f c_3
    refine lv_iconst (v := (-1)) hx hb dX11_row_18 (by decide) ?_
    have hG9 : Γ = if (0 ≤ p0.toInt ∧ p0.toInt ≤ 3) ∧ 0 ≤ p1.toInt ∧ p1.toInt ≤ 999 then tg Γ (3, 0, 0) 0 (tm_up 24 (Γ (3, 0, 0) 0)) else Γ := (by rw [if_neg (by omega)])
    exact W.iret (v := (-1)) hx hb hr (fun t ht hW => ⟨⟨_, f, rfl, (by rw [if_neg (by omega)]; rfl), by rw [ht]; exact hP, (by rw [← hG9]; exact hI), hfr⟩, hS.F ht⟩) hS.2.2 dX11_row_19
  · have c_3 := hw_1.t c_3
    refine lv_iload_n hx hb dX11_row_7 rfl (lv_at hl 2 rfl) ?_
    refine lv_iconst (v := 0) hx hb dX11_row_8 (by decide) ?_
    refine lv_sipush (v := 999) hx hb dX11_row_9 (by decide) ?_
    refine tl_si (tq_rS (As := [.int p1, .int 0, .int 999]) (rest := []) ⟨hx, hb, hml, hown, hta⟩ (tp_P.pre hK hN hL hU hI hP) lk_X11_105 (t_X11_isIn l D cy s.heap.size L K Γ f p1 0 999 ) rfl rfl ⟨Nat.le_of_ble_eq_true rfl, Nat.le_of_ble_eq_true rfl⟩ rfl hl.1 rfl (Nat.le_of_ble_eq_true rfl) dX11_row_12 ⟨Nat.le_of_ble_eq_true rfl, Nat.le_of_ble_eq_true rfl⟩) (fun r_5 hw_4 => ?_)
    have hw_4 : tl_E r_5 ((0 : Int) ≤ p1.toInt ∧ p1.toInt ≤ (999 : Int)) 1 0 := hw_4
    refine lv_if_ne (tgt := 20) hx hb dX11_row_15 (by decide) (fun c_6 => ?_) (fun c_6 => ?_)
    · have c_6 := hw_4.t c_6
      refine lv_aload_n hx hb dX11_row_20 rfl (lv_at hl 0 rfl) ?_
      obtain ⟨x_8, x_9, x_10, x_11, x_12, x_13, x_14, x_15, x_16, x_17, x_18, x_19, x_20, x_21, x_22, x_23, hf_7, hx_8, hx_9, hx_10, hx_11, hx_12, hx_13, hx_14, hx_15, hx_16, hx_17, hx_18, hx_19, hx_20, hx_21, hx_22, hx_23⟩ := (show tp_o_X L K (0) 0 (Γ (0, 0, 0)) (f o) from hI0.at ho)
      refine tp_get (cy := cy) (ci := 11) (v := .ref x_8) (C := RX11) (T := TX11) (N := 16) hx hb hta inlX11 hown hK hP ho.1 hf_7 rfl 0 (by decide) (hta _ wk_15) (fun _ h9 => h9) rfl dX11_row_21 ?_
      obtain ⟨x_25, x_26, x_27, x_28, x_29, x_30, x_31, x_32, x_33, hf_24, hx_25, hx_26, hx_27, hx_28, hx_29, hx_30, hx_31, hx_32, hx_33⟩ := (show tp_o_BOOK L K (0) 0 (Γ (1, 0, 0)) (f x_8) from hI0.at hx_8)
      refine tp_getN (cy := cy) (ci := 0) (v := .ref x_27) (C := RX0) (T := TX0) (N := 9) hx hb hta inlX0 hown hK hP hx_8.1 hf_24 rfl 2 (by decide) (va_Nw.use rfl (hN.1 20 _ nk_20)) (fun _ h9 => h9) rfl dX11_row_24 ?_
      refine lv_iload_n hx hb dX11_row_27 rfl (lv_at hl 1 rfl) ?_
      refine lv_iload_n hx hb dX11_row_28 rfl (lv_at hl 2 rfl) ?_
      refine lv_aload_n hx hb dX11_row_29 rfl (lv_at hl 0 rfl) ?_
      refine tp_get (cy := cy) (ci := 11) (v := .ref x_8) (C := RX11) (T := TX11) (N := 16) hx hb hta inlX11 hown hK hP ho.1 hf_7 rfl 0 (by decide) (hta _ wk_15) (fun _ h9 => h9) rfl dX11_row_30 ?_
      refine tp_getN (cy := cy) (ci := 0) (v := .int x_25) (C := RX0) (T := TX0) (N := 9) hx hb hta inlX0 hown hK hP hx_8.1 hf_24 rfl 0 (by decide) (va_Nw.use rfl (hN.1 16 _ nk_16)) (fun _ h9 => h9) rfl dX11_row_33 ?_
      obtain ⟨x_35, x_36, x_37, x_38, x_39, x_40, hf_34, hx_35, hx_37, hx_38, hx_39, hx_40⟩ := (show tp_o_ROWS L K (0) 0 (Γ (3, 0, 0)) (f x_27) from hI.at hx_27)
      refine tq_ci hS (hAf _ hS.1) (tq_rVN hN (As := [.int p0, .int p1, .int x_25]) (rest := []) ⟨hx, hb, hml, hown, hta⟩ (tp_P.pre hK hN hL hU hI hP) (tp_recv hK hP hx_27.1 hf_34 rfl) lk_X11_113 (t_X4_add l D cy s.heap.size L K Γ f 0 x_27 p0 p1 x_25 hx_27) rfl rfl ⟨Nat.le_of_ble_eq_true rfl, Nat.le_of_ble_eq_true rfl⟩ rfl hl.1 rfl (Nat.le_of_ble_eq_true rfl) dX11_row_36 ⟨Nat.le_of_ble_eq_true rfl, Nat.le_of_ble_eq_true rfl⟩) (fun r_42 f_43 H locs hw_41 hP hI hc_44 hS => ?_)
      have hD : va_D A (va_pl L f_43) := tp_D hL hAL
      have hfr := tp_fr2 hfr hc_44 (by decide)
      obtain ⟨Γ_45, eΓ_45⟩ : ∃ y : tk_G, y = tg Γ (3, 0, 0) 0 (tm_up 24 (Γ (3, 0, 0) 0)) := ⟨_, rfl⟩
      have hI : tp_I cy L K Γ_45 f_43 := by rw [eΓ_45]; exact hI
      have hw_41 : r_42.toInt = tm_at 24 (Γ (3, 0, 0) 0) := hw_41
      have hG9 : Γ_45 = if (0 ≤ p0.toInt ∧ p0.toInt ≤ 3) ∧ 0 ≤ p1.toInt ∧ p1.toInt ≤ 999 then tg Γ (3, 0, 0) 0 (tm_up 24 (Γ (3, 0, 0) 0)) else Γ := (by rw [if_pos (by omega)]; exact eΓ_45)
      exact W.iret (v := r_42) hx hb hr (fun t ht hW => ⟨⟨_, f_43, rfl, (by rw [if_pos (by omega)]; exact hw_41), by rw [ht]; exact hP, (by rw [← hG9]; exact hI), hfr⟩, hS.F ht⟩) hS.2.2 dX11_row_39
    · have c_6 := hw_4.f c_6
      refine lv_iconst (v := (-1)) hx hb dX11_row_18 (by decide) ?_
      have hG9 : Γ = if (0 ≤ p0.toInt ∧ p0.toInt ≤ 3) ∧ 0 ≤ p1.toInt ∧ p1.toInt ≤ 999 then tg Γ (3, 0, 0) 0 (tm_up 24 (Γ (3, 0, 0) 0)) else Γ := (by rw [if_neg (by omega)])
      exact W.iret (v := (-1)) hx hb hr (fun t ht hW => ⟨⟨_, f, rfl, (by rw [if_neg (by omega)]; rfl), by rw [ht]; exact hP, (by rw [← hG9]; exact hI), hfr⟩, hS.F ht⟩) hS.2.2 dX11_row_19
set_option maxHeartbeats 4000000 in
set_option maxRecDepth 100000 in
theorem t_X11_slip (l : Launch) (D : va_G) (cy : Nat → ClassId) (sz : Nat) (L : List Nat) (K : Nat → tk_K) (Γ : tk_G) (f : Nat → va_E) (o : Nat) (p0 : Int32) (p1 : Int32) (p2 : Int32) (p3 : Int32) (ho : tp_r L K 0 (0) 0 o) : Met l yX11_slip (tl_w yX11_slip cX11_slip 5 (some .int)) ({ frames := 3, cells := 0, slots := 0, locals := 69 }) (va_Pc [.ref o, .int p0, .int p1, .int p2, .int p3] (tp_P D cy L K Γ f sz)) (va_Qi (fun (r : Int32) (u : Nat → va_E) => r.toInt = if (0 ≤ p0.toInt ∧ p0.toInt ≤ 3) ∧ (0 ≤ p1.toInt ∧ p1.toInt ≤ 299) ∧ (0 ≤ p2.toInt ∧ p2.toInt ≤ 299) ∧ p1.toInt ≤ p2.toInt ∧ -9999 ≤ p3.toInt ∧ p3.toInt ≤ 9999 then tm_at 40 (Γ (7, 40, 0) 0) else -1) (tp_B D cy L K (if (0 ≤ p0.toInt ∧ p0.toInt ≤ 3) ∧ (0 ≤ p1.toInt ∧ p1.toInt ≤ 299) ∧ (0 ≤ p2.toInt ∧ p2.toInt ≤ 299) ∧ p1.toInt ≤ p2.toInt ∧ -9999 ≤ p3.toInt ∧ p3.toInt ≤ 9999 then tm_add Γ (7, 40, 0) (8, 4 * 40, 0) 40 p0.toInt p1.toInt p2.toInt p3.toInt else Γ) f [7, 8]) (tp_A L sz)) 0 0 (tp_A L sz) := by
  refine Met.ofW (cc := cX11_slip) (maxL := 5) (ret := (some .int)) (by decide) rfl ?_
  intro p e s m args below meth c s₁ B hml hv
  obtain ⟨rfl, hsz, hP, hK, hL, hI, hN, hU⟩ := hv
  have hx := B.exec
  have hb := B.bytes
  have hr := B.returns
  have hta := tl_hta (atoms_spec (ws := tl_w yX11_slip cX11_slip 5 (some .int)) B.pre)
  have hown : s.vm.findClass RX11 = some m.cls := findClass_of_methodNamed B.named
  have hlocks := B.notSynchronized
  subst hsz
  have hI0 := hI
  generalize hAe : tp_A L s.heap.size = A
  have hA : ∀ q : Nat, s.heap.size ≤ q → A q := fun q h => by rw [← hAe]; exact Or.inr h
  have hAL : ∀ q ∈ L, A q := fun q h => by rw [← hAe]; exact Or.inl h
  have hAf : ∀ (H : Heap), s.heap.size ≤ H.size → ∀ q, tp_A L H.size q → A q := fun H h q hq => hq.elim (hAL q) (fun h2 => hA q (Nat.le_trans h h2))
  have hS : va_S A s.heap s.heap [] := va_S.rf
  have hD : va_D A (va_pl L f) := tp_D hL hAL
  have hfr : ∀ b, (K b).1 ∉ ([7, 8] : List Nat) → f b = f b := fun _ _ => rfl
  have hl := lv_entry ([.ref o, .int p0, .int p1, .int p2, .int p3]) (n := 5) (Nat.le_of_ble_eq_true rfl)
  rw [lg_entry_eq]
  generalize (lg_sl ([.ref o, .int p0, .int p1, .int p2, .int p3]) ++ List.replicate (5 - (lg_sl ([.ref o, .int p0, .int p1, .int p2, .int p3])).length) Slot.unset).toArray = ls at hl ⊢
  have hl : lv_has ls 5 [(0, .ref o), (1, .int p0), (2, .int p1), (3, .int p2), (4, .int p3)] := hl
  refine lv_iload_n hx hb dX11_slip_0 rfl (lv_at hl 1 rfl) ?_
  refine tl_si (tq_rS (As := [.int p0]) (rest := []) ⟨hx, hb, hml, hown, hta⟩ (tp_P.pre hK hN hL hU hI hP) lk_X11_102 (t_X11_isGlass l D cy s.heap.size L K Γ f p0 ) rfl rfl ⟨Nat.le_of_ble_eq_true rfl, Nat.le_of_ble_eq_true rfl⟩ rfl hl.1 rfl (Nat.le_of_ble_eq_true rfl) dX11_slip_1 ⟨Nat.le_of_ble_eq_true rfl, Nat.le_of_ble_eq_true rfl⟩) (fun r_2 hw_1 => ?_)
  have hw_1 : tl_E r_2 (0 ≤ p0.toInt ∧ p0.toInt ≤ 3) 1 0 := hw_1
  refine lv_if_eq (tgt := 29) hx hb dX11_slip_4 (by decide) (fun c_3 => ?_) (fun c_3 => ?_)
  · have c_3 := hw_1.f c_3
    refine lv_iconst (v := (-1)) hx hb dX11_slip_29 (by decide) ?_
    have hG9 : Γ = if (0 ≤ p0.toInt ∧ p0.toInt ≤ 3) ∧ (0 ≤ p1.toInt ∧ p1.toInt ≤ 299) ∧ (0 ≤ p2.toInt ∧ p2.toInt ≤ 299) ∧ p1.toInt ≤ p2.toInt ∧ -9999 ≤ p3.toInt ∧ p3.toInt ≤ 9999 then tm_add Γ (7, 40, 0) (8, 4 * 40, 0) 40 p0.toInt p1.toInt p2.toInt p3.toInt else Γ := (by rw [if_neg (by omega)])
    exact W.iret (v := (-1)) hx hb hr (fun t ht hW => ⟨⟨_, f, rfl, (by rw [if_neg (by omega)]; rfl), by rw [ht]; exact hP, (by rw [← hG9]; exact hI), hfr⟩, hS.F ht⟩) hS.2.2 dX11_slip_30
  · have c_3 := hw_1.t c_3
    refine lv_iload_n hx hb dX11_slip_7 rfl (lv_at hl 2 rfl) ?_
    refine lv_iload_n hx hb dX11_slip_8 rfl (lv_at hl 3 rfl) ?_
    refine tl_si (tq_rS (As := [.int p1, .int p2]) (rest := []) ⟨hx, hb, hml, hown, hta⟩ (tp_P.pre hK hN hL hU hI hP) lk_X11_143 (t_X11_isSpan l D cy s.heap.size L K Γ f p1 p2 ) rfl rfl ⟨Nat.le_of_ble_eq_true rfl, Nat.le_of_ble_eq_true rfl⟩ rfl hl.1 rfl (Nat.le_of_ble_eq_true rfl) dX11_slip_9 ⟨Nat.le_of_ble_eq_true rfl, Nat.le_of_ble_eq_true rfl⟩) (fun r_5 hw_4 => ?_)
    have hw_4 : tl_E r_5 (0 ≤ p1.toInt ∧ p1.toInt ≤ 299 ∧ 0 ≤ p2.toInt ∧ p2.toInt ≤ 299 ∧ p1.toInt ≤ p2.toInt) 1 0 := hw_4
    refine lv_if_eq (tgt := 29) hx hb dX11_slip_12 (by decide) (fun c_6 => ?_) (fun c_6 => ?_)
    · have c_6 := hw_4.f c_6
      refine lv_iconst (v := (-1)) hx hb dX11_slip_29 (by decide) ?_
      have hG9 : Γ = if (0 ≤ p0.toInt ∧ p0.toInt ≤ 3) ∧ (0 ≤ p1.toInt ∧ p1.toInt ≤ 299) ∧ (0 ≤ p2.toInt ∧ p2.toInt ≤ 299) ∧ p1.toInt ≤ p2.toInt ∧ -9999 ≤ p3.toInt ∧ p3.toInt ≤ 9999 then tm_add Γ (7, 40, 0) (8, 4 * 40, 0) 40 p0.toInt p1.toInt p2.toInt p3.toInt else Γ := (by rw [if_neg (by omega)])
      exact W.iret (v := (-1)) hx hb hr (fun t ht hW => ⟨⟨_, f, rfl, (by rw [if_neg (by omega)]; rfl), by rw [ht]; exact hP, (by rw [← hG9]; exact hI), hfr⟩, hS.F ht⟩) hS.2.2 dX11_slip_30
    · have c_6 := hw_4.t c_6
      refine lv_iload hx hb dX11_slip_15 (lv_at hl 4 rfl) ?_
      refine lv_sipush (v := (-9999)) hx hb dX11_slip_17 (by decide) ?_
      refine lv_sipush (v := 9999) hx hb dX11_slip_20 (by decide) ?_
      refine tl_si (tq_rS (As := [.int p3, .int (-9999), .int 9999]) (rest := []) ⟨hx, hb, hml, hown, hta⟩ (tp_P.pre hK hN hL hU hI hP) lk_X11_105 (t_X11_isIn l D cy s.heap.size L K Γ f p3 (-9999) 9999 ) rfl rfl ⟨Nat.le_of_ble_eq_true rfl, Nat.le_of_ble_eq_true rfl⟩ rfl hl.1 rfl (Nat.le_of_ble_eq_true rfl) dX11_slip_23 ⟨Nat.le_of_ble_eq_true rfl, Nat.le_of_ble_eq_true rfl⟩) (fun r_8 hw_7 => ?_)
      have hw_7 : tl_E r_8 ((-9999 : Int) ≤ p3.toInt ∧ p3.toInt ≤ (9999 : Int)) 1 0 := hw_7
      refine lv_if_ne (tgt := 31) hx hb dX11_slip_26 (by decide) (fun c_9 => ?_) (fun c_9 => ?_)
      · have c_9 := hw_7.t c_9
        refine lv_aload_n hx hb dX11_slip_31 rfl (lv_at hl 0 rfl) ?_
        obtain ⟨x_11, x_12, x_13, x_14, x_15, x_16, x_17, x_18, x_19, x_20, x_21, x_22, x_23, x_24, x_25, x_26, hf_10, hx_11, hx_12, hx_13, hx_14, hx_15, hx_16, hx_17, hx_18, hx_19, hx_20, hx_21, hx_22, hx_23, hx_24, hx_25, hx_26⟩ := (show tp_o_X L K (0) 0 (Γ (0, 0, 0)) (f o) from hI0.at ho)
        refine tp_get (cy := cy) (ci := 11) (v := .ref x_11) (C := RX11) (T := TX11) (N := 16) hx hb hta inlX11 hown hK hP ho.1 hf_10 rfl 0 (by decide) (hta _ wk_15) (fun _ h9 => h9) rfl dX11_slip_32 ?_
        obtain ⟨x_28, x_29, x_30, x_31, x_32, x_33, x_34, x_35, x_36, hf_27, hx_28, hx_29, hx_30, hx_31, hx_32, hx_33, hx_34, hx_35, hx_36⟩ := (show tp_o_BOOK L K (0) 0 (Γ (1, 0, 0)) (f x_11) from hI0.at hx_11)
        refine tp_getN (cy := cy) (ci := 0) (v := .ref x_31) (C := RX0) (T := TX0) (N := 9) hx hb hta inlX0 hown hK hP hx_11.1 hf_27 rfl 3 (by decide) (va_Nw.use rfl (hN.1 21 _ nk_21)) (fun _ h9 => h9) rfl dX11_slip_35 ?_
        refine lv_iload_n hx hb dX11_slip_38 rfl (lv_at hl 1 rfl) ?_
        refine lv_iload_n hx hb dX11_slip_39 rfl (lv_at hl 2 rfl) ?_
        refine lv_iload_n hx hb dX11_slip_40 rfl (lv_at hl 3 rfl) ?_
        refine lv_iload hx hb dX11_slip_41 (lv_at hl 4 rfl) ?_
        obtain ⟨x_38, x_39, x_40, hf_37, hx_38, hx_39, hx_40⟩ := (show tp_o_TABLE L K (40) 0 (Γ (7, 40, 0)) (f x_31) from hI.at hx_31)
        refine tq_ci hS (hAf _ hS.1) (tq_rVN hN (As := [.int p0, .int p1, .int p2, .int p3]) (rest := []) ⟨hx, hb, hml, hown, hta⟩ (tp_P.pre hK hN hL hU hI hP) (tp_recv hK hP hx_31.1 hf_37 rfl) lk_X11_151 (t_X6_add l D cy s.heap.size L K Γ f 40 0 x_31 p0 p1 p2 p3 hx_31 (by first | omega | (simp only [Int32.toInt_toInt64]; omega) | decide | assumption)) rfl rfl ⟨Nat.le_of_ble_eq_true rfl, Nat.le_of_ble_eq_true rfl⟩ rfl hl.1 rfl (Nat.le_of_ble_eq_true rfl) dX11_slip_43 ⟨Nat.le_of_ble_eq_true rfl, Nat.le_of_ble_eq_true rfl⟩) (fun r_42 f_43 H locs hw_41 hP hI hc_44 hS => ?_)
        have hD : va_D A (va_pl L f_43) := tp_D hL hAL
        have hfr := tp_fr2 hfr hc_44 (by decide)
        obtain ⟨Γ_45, eΓ_45⟩ : ∃ y : tk_G, y = tm_add Γ (7, 40, 0) (8, 4 * 40, 0) 40 p0.toInt p1.toInt p2.toInt p3.toInt := ⟨_, rfl⟩
        have hI : tp_I cy L K Γ_45 f_43 := by rw [eΓ_45]; exact hI
        have hw_41 : r_42.toInt = tm_at 40 (Γ (7, 40, 0) 0) := hw_41
        have hG9 : Γ_45 = if (0 ≤ p0.toInt ∧ p0.toInt ≤ 3) ∧ (0 ≤ p1.toInt ∧ p1.toInt ≤ 299) ∧ (0 ≤ p2.toInt ∧ p2.toInt ≤ 299) ∧ p1.toInt ≤ p2.toInt ∧ -9999 ≤ p3.toInt ∧ p3.toInt ≤ 9999 then tm_add Γ (7, 40, 0) (8, 4 * 40, 0) 40 p0.toInt p1.toInt p2.toInt p3.toInt else Γ := (by rw [if_pos (by omega)]; exact eΓ_45)
        exact W.iret (v := r_42) hx hb hr (fun t ht hW => ⟨⟨_, f_43, rfl, (by rw [if_pos (by omega)]; exact hw_41), by rw [ht]; exact hP, (by rw [← hG9]; exact hI), hfr⟩, hS.F ht⟩) hS.2.2 dX11_slip_46
      · have c_9 := hw_7.f c_9
        refine lv_iconst (v := (-1)) hx hb dX11_slip_29 (by decide) ?_
        have hG9 : Γ = if (0 ≤ p0.toInt ∧ p0.toInt ≤ 3) ∧ (0 ≤ p1.toInt ∧ p1.toInt ≤ 299) ∧ (0 ≤ p2.toInt ∧ p2.toInt ≤ 299) ∧ p1.toInt ≤ p2.toInt ∧ -9999 ≤ p3.toInt ∧ p3.toInt ≤ 9999 then tm_add Γ (7, 40, 0) (8, 4 * 40, 0) 40 p0.toInt p1.toInt p2.toInt p3.toInt else Γ := (by rw [if_neg (by omega)])
        exact W.iret (v := (-1)) hx hb hr (fun t ht hW => ⟨⟨_, f, rfl, (by rw [if_neg (by omega)]; rfl), by rw [ht]; exact hP, (by rw [← hG9]; exact hI), hfr⟩, hS.F ht⟩) hS.2.2 dX11_slip_30
set_option maxHeartbeats 4000000 in
set_option maxRecDepth 100000 in
theorem t_X11_anew (l : Launch) (D : va_G) (cy : Nat → ClassId) (sz : Nat) (L : List Nat) (K : Nat → tk_K) (Γ : tk_G) (f : Nat → va_E) (o : Nat) (p0 : Int32) (p1 : Int32) (ho : tp_r L K 0 (0) 0 o) : Met l yX11_anew (tl_w yX11_anew cX11_anew 4 (some .int)) ({ frames := 2, cells := 0, slots := 0, locals := 44 }) (va_Pc [.ref o, .int p0, .int p1] (tp_P D cy L K Γ f sz)) (va_Qi (fun (r : Int32) (u : Nat → va_E) => r.toInt = if (0 ≤ p0.toInt ∧ p0.toInt < Γ (7, 40, 0) 0) ∧ -9999 ≤ p1.toInt ∧ p1.toInt ≤ 9999 then Γ (8, 4 * 40, 0) (4 * p0.toInt + 3).toNat else -2000000) (tp_B D cy L K (if (0 ≤ p0.toInt ∧ p0.toInt < Γ (7, 40, 0) 0) ∧ -9999 ≤ p1.toInt ∧ p1.toInt ≤ 9999 then tg Γ (8, 4 * 40, 0) (4 * p0.toInt + 3).toNat p1.toInt else Γ) f [8]) (tp_A L sz)) 0 0 (tp_A L sz) := by
  refine Met.ofW (cc := cX11_anew) (maxL := 4) (ret := (some .int)) (by decide) rfl ?_
  intro p e s m args below meth c s₁ B hml hv
  obtain ⟨rfl, hsz, hP, hK, hL, hI, hN, hU⟩ := hv
  have hx := B.exec
  have hb := B.bytes
  have hr := B.returns
  have hta := tl_hta (atoms_spec (ws := tl_w yX11_anew cX11_anew 4 (some .int)) B.pre)
  have hown : s.vm.findClass RX11 = some m.cls := findClass_of_methodNamed B.named
  have hlocks := B.notSynchronized
  subst hsz
  have hI0 := hI
  generalize hAe : tp_A L s.heap.size = A
  have hA : ∀ q : Nat, s.heap.size ≤ q → A q := fun q h => by rw [← hAe]; exact Or.inr h
  have hAL : ∀ q ∈ L, A q := fun q h => by rw [← hAe]; exact Or.inl h
  have hAf : ∀ (H : Heap), s.heap.size ≤ H.size → ∀ q, tp_A L H.size q → A q := fun H h q hq => hq.elim (hAL q) (fun h2 => hA q (Nat.le_trans h h2))
  have hS : va_S A s.heap s.heap [] := va_S.rf
  have hD : va_D A (va_pl L f) := tp_D hL hAL
  have hfr : ∀ b, (K b).1 ∉ ([8] : List Nat) → f b = f b := fun _ _ => rfl
  have hl := lv_entry ([.ref o, .int p0, .int p1]) (n := 4) (Nat.le_of_ble_eq_true rfl)
  rw [lg_entry_eq]
  generalize (lg_sl ([.ref o, .int p0, .int p1]) ++ List.replicate (4 - (lg_sl ([.ref o, .int p0, .int p1])).length) Slot.unset).toArray = ls at hl ⊢
  have hl : lv_has ls 4 [(0, .ref o), (1, .int p0), (2, .int p1)] := hl
  refine lv_aload_n hx hb dX11_anew_0 rfl (lv_at hl 0 rfl) ?_
  obtain ⟨x_2, x_3, x_4, x_5, x_6, x_7, x_8, x_9, x_10, x_11, x_12, x_13, x_14, x_15, x_16, x_17, hf_1, hx_2, hx_3, hx_4, hx_5, hx_6, hx_7, hx_8, hx_9, hx_10, hx_11, hx_12, hx_13, hx_14, hx_15, hx_16, hx_17⟩ := (show tp_o_X L K (0) 0 (Γ (0, 0, 0)) (f o) from hI0.at ho)
  refine tp_get (cy := cy) (ci := 11) (v := .ref x_2) (C := RX11) (T := TX11) (N := 16) hx hb hta inlX11 hown hK hP ho.1 hf_1 rfl 0 (by decide) (hta _ wk_15) (fun _ h9 => h9) rfl dX11_anew_1 ?_
  obtain ⟨x_19, x_20, x_21, x_22, x_23, x_24, x_25, x_26, x_27, hf_18, hx_19, hx_20, hx_21, hx_22, hx_23, hx_24, hx_25, hx_26, hx_27⟩ := (show tp_o_BOOK L K (0) 0 (Γ (1, 0, 0)) (f x_2) from hI0.at hx_2)
  refine tp_getN (cy := cy) (ci := 0) (v := .ref x_22) (C := RX0) (T := TX0) (N := 9) hx hb hta inlX0 hown hK hP hx_2.1 hf_18 rfl 3 (by decide) (va_Nw.use rfl (hN.1 21 _ nk_21)) (fun _ h9 => h9) rfl dX11_anew_4 ?_
  refine lv_iload_n hx hb dX11_anew_7 rfl (lv_at hl 1 rfl) ?_
  obtain ⟨x_29, x_30, x_31, hf_28, hx_29, hx_30, hx_31⟩ := (show tp_o_TABLE L K (40) 0 (Γ (7, 40, 0)) (f x_22) from hI0.at hx_22)
  refine tl_si (tq_rVN hN (As := [.int p0]) (rest := []) ⟨hx, hb, hml, hown, hta⟩ (tp_P.pre hK hN hL hU hI hP) (tp_recv hK hP hx_22.1 hf_28 rfl) lk_X11_156 (t_X6_has l D cy s.heap.size L K Γ f 40 0 x_22 p0 hx_22 (by first | omega | (simp only [Int32.toInt_toInt64]; omega) | decide | assumption)) rfl rfl ⟨Nat.le_of_ble_eq_true rfl, Nat.le_of_ble_eq_true rfl⟩ rfl hl.1 rfl (Nat.le_of_ble_eq_true rfl) dX11_anew_8 ⟨Nat.le_of_ble_eq_true rfl, Nat.le_of_ble_eq_true rfl⟩) (fun r_33 hw_32 => ?_)
  have hw_32 : tl_E r_33 (0 ≤ p0.toInt ∧ p0.toInt < Γ (7, 40, 0) 0) 1 0 := hw_32
  refine lv_if_eq (tgt := 27) hx hb dX11_anew_11 (by decide) (fun c_34 => ?_) (fun c_34 => ?_)
  · have c_34 := hw_32.f c_34
    refine lv_ldc (v := (-2000000)) hx hb hown (hta _ wk_230) dX11_anew_27 ?_
    have hG9 : Γ = if (0 ≤ p0.toInt ∧ p0.toInt < Γ (7, 40, 0) 0) ∧ -9999 ≤ p1.toInt ∧ p1.toInt ≤ 9999 then tg Γ (8, 4 * 40, 0) (4 * p0.toInt + 3).toNat p1.toInt else Γ := (by rw [if_neg (by omega)])
    exact W.iret (v := (-2000000)) hx hb hr (fun t ht hW => ⟨⟨_, f, rfl, (by rw [if_neg (by omega)]; rfl), by rw [ht]; exact hP, (by rw [← hG9]; exact hI), hfr⟩, hS.F ht⟩) hS.2.2 dX11_anew_29
  · have c_34 := hw_32.t c_34
    refine lv_iload_n hx hb dX11_anew_14 rfl (lv_at hl 2 rfl) ?_
    refine lv_sipush (v := (-9999)) hx hb dX11_anew_15 (by decide) ?_
    refine lv_sipush (v := 9999) hx hb dX11_anew_18 (by decide) ?_
    refine tl_si (tq_rS (As := [.int p1, .int (-9999), .int 9999]) (rest := []) ⟨hx, hb, hml, hown, hta⟩ (tp_P.pre hK hN hL hU hI hP) lk_X11_105 (t_X11_isIn l D cy s.heap.size L K Γ f p1 (-9999) 9999 ) rfl rfl ⟨Nat.le_of_ble_eq_true rfl, Nat.le_of_ble_eq_true rfl⟩ rfl hl.1 rfl (Nat.le_of_ble_eq_true rfl) dX11_anew_21 ⟨Nat.le_of_ble_eq_true rfl, Nat.le_of_ble_eq_true rfl⟩) (fun r_36 hw_35 => ?_)
    have hw_35 : tl_E r_36 ((-9999 : Int) ≤ p1.toInt ∧ p1.toInt ≤ (9999 : Int)) 1 0 := hw_35
    refine lv_if_ne (tgt := 30) hx hb dX11_anew_24 (by decide) (fun c_37 => ?_) (fun c_37 => ?_)
    · have c_37 := hw_35.t c_37
      refine lv_aload_n hx hb dX11_anew_30 rfl (lv_at hl 0 rfl) ?_
      refine tp_get (cy := cy) (ci := 11) (v := .ref x_2) (C := RX11) (T := TX11) (N := 16) hx hb hta inlX11 hown hK hP ho.1 hf_1 rfl 0 (by decide) (hta _ wk_15) (fun _ h9 => h9) rfl dX11_anew_31 ?_
      refine tp_getN (cy := cy) (ci := 0) (v := .ref x_22) (C := RX0) (T := TX0) (N := 9) hx hb hta inlX0 hown hK hP hx_2.1 hf_18 rfl 3 (by decide) (va_Nw.use rfl (hN.1 21 _ nk_21)) (fun _ h9 => h9) rfl dX11_anew_34 ?_
      refine lv_iload_n hx hb dX11_anew_37 rfl (lv_at hl 1 rfl) ?_
      refine lv_iconst (v := 3) hx hb dX11_anew_38 (by decide) ?_
      refine tl_si (tq_rVN hN (As := [.int p0, .int 3]) (rest := []) ⟨hx, hb, hml, hown, hta⟩ (tp_P.pre hK hN hL hU hI hP) (tp_recv hK hP hx_22.1 hf_28 rfl) lk_X11_157 (tx_cell l D cy s.heap.size L K Γ f 40 0 x_22 p0 3 hx_22 (by first | omega | (simp only [Int32.toInt_toInt64]; omega) | decide | assumption) (by first | omega | (simp only [Int32.toInt_toInt64]; omega) | decide | assumption) (by first | omega | (simp only [Int32.toInt_toInt64]; omega) | decide | assumption)) rfl rfl ⟨Nat.le_of_ble_eq_true rfl, Nat.le_of_ble_eq_true rfl⟩ rfl hl.1 rfl (Nat.le_of_ble_eq_true rfl) dX11_anew_39 ⟨Nat.le_of_ble_eq_true rfl, Nat.le_of_ble_eq_true rfl⟩) (fun r_39 hw_38 => ?_)
      have hw_38 : r_39.toInt = Γ (8, 4 * 40, 0) (4 * p0.toInt + (3 : Int)).toNat := hw_38
      refine lv_istore_n (lv' := [(3, .int r_39), (0, .ref o), (1, .int p0), (2, .int p1)]) hx hb dX11_anew_42 rfl hl (by decide) rfl (fun ls hl => ?_)
      refine lv_aload_n hx hb dX11_anew_43 rfl (lv_at hl 1 rfl) ?_
      refine tp_get (cy := cy) (ci := 11) (v := .ref x_2) (C := RX11) (T := TX11) (N := 16) hx hb hta inlX11 hown hK hP ho.1 hf_1 rfl 0 (by decide) (hta _ wk_15) (fun _ h9 => h9) rfl dX11_anew_44 ?_
      refine tp_getN (cy := cy) (ci := 0) (v := .ref x_22) (C := RX0) (T := TX0) (N := 9) hx hb hta inlX0 hown hK hP hx_2.1 hf_18 rfl 3 (by decide) (va_Nw.use rfl (hN.1 21 _ nk_21)) (fun _ h9 => h9) rfl dX11_anew_47 ?_
      refine lv_iload_n hx hb dX11_anew_50 rfl (lv_at hl 2 rfl) ?_
      refine lv_iconst (v := 3) hx hb dX11_anew_51 (by decide) ?_
      refine lv_iload_n hx hb dX11_anew_52 rfl (lv_at hl 3 rfl) ?_
      refine tq_cv hS (hAf _ hS.1) (tq_rVN hN (As := [.int p0, .int 3, .int p1]) (rest := []) ⟨hx, hb, hml, hown, hta⟩ (tp_P.pre hK hN hL hU hI hP) (tp_recv hK hP hx_22.1 hf_28 rfl) lk_X11_160 (t_X6_set l D cy s.heap.size L K Γ f 40 0 x_22 p0 3 p1 hx_22 (by first | omega | (simp only [Int32.toInt_toInt64]; omega) | decide | assumption) (by first | omega | (simp only [Int32.toInt_toInt64]; omega) | decide | assumption) (by first | omega | (simp only [Int32.toInt_toInt64]; omega) | decide | assumption)) rfl rfl ⟨Nat.le_of_ble_eq_true rfl, Nat.le_of_ble_eq_true rfl⟩ rfl hl.1 rfl (Nat.le_of_ble_eq_true rfl) dX11_anew_53 ⟨Nat.le_of_ble_eq_true rfl, Nat.le_of_ble_eq_true rfl⟩) (fun f_42 H locs hw_40 hP hI hc_43 hS => ?_)
      have hD : va_D A (va_pl L f_42) := tp_D hL hAL
      have hfr := tp_fr2 hfr hc_43 (by decide)
      obtain ⟨Γ_44, eΓ_44⟩ : ∃ y : tk_G, y = tg Γ (8, 4 * 40, 0) (4 * p0.toInt + (3 : Int)).toNat p1.toInt := ⟨_, rfl⟩
      have hI : tp_I cy L K Γ_44 f_42 := by rw [eΓ_44]; exact hI
      refine lv_iload_n hx hb dX11_anew_56 rfl (lv_at hl 0 rfl) ?_
      have hG9 : Γ_44 = if (0 ≤ p0.toInt ∧ p0.toInt < Γ (7, 40, 0) 0) ∧ -9999 ≤ p1.toInt ∧ p1.toInt ≤ 9999 then tg Γ (8, 4 * 40, 0) (4 * p0.toInt + 3).toNat p1.toInt else Γ := (by rw [if_pos (by omega)]; exact eΓ_44)
      exact W.iret (v := r_39) hx hb hr (fun t ht hW => ⟨⟨_, f_42, rfl, (by rw [if_pos (by omega)]; exact hw_38), by rw [ht]; exact hP, (by rw [← hG9]; exact hI), hfr⟩, hS.F ht⟩) hS.2.2 dX11_anew_57
    · have c_37 := hw_35.f c_37
      refine lv_ldc (v := (-2000000)) hx hb hown (hta _ wk_230) dX11_anew_27 ?_
      have hG9 : Γ = if (0 ≤ p0.toInt ∧ p0.toInt < Γ (7, 40, 0) 0) ∧ -9999 ≤ p1.toInt ∧ p1.toInt ≤ 9999 then tg Γ (8, 4 * 40, 0) (4 * p0.toInt + 3).toNat p1.toInt else Γ := (by rw [if_neg (by omega)])
      exact W.iret (v := (-2000000)) hx hb hr (fun t ht hW => ⟨⟨_, f, rfl, (by rw [if_neg (by omega)]; rfl), by rw [ht]; exact hP, (by rw [← hG9]; exact hI), hfr⟩, hS.F ht⟩) hS.2.2 dX11_anew_29
set_option maxHeartbeats 4000000 in
set_option maxRecDepth 100000 in
theorem t_X11_line (l : Launch) (D : va_G) (cy : Nat → ClassId) (sz : Nat) (L : List Nat) (K : Nat → tk_K) (Γ : tk_G) (f : Nat → va_E) (o : Nat) (p0 : Int32) (p1 : Int32) (p2 : Int32) (ho : tp_r L K 0 (0) 0 o) : Met l yX11_line (tl_w yX11_line cX11_line 4 (some .int)) ({ frames := 3, cells := 0, slots := 0, locals := 69 }) (va_Pc [.ref o, .int p0, .int p1, .int p2] (tp_P D cy L K Γ f sz)) (va_Qi (fun (r : Int32) (u : Nat → va_E) => r.toInt = tm_if (((0 ≤ p0.toInt ∧ p0.toInt ≤ 11) ∧ (0 ≤ p1.toInt ∧ p1.toInt ≤ 299) ∧ (1 ≤ p2.toInt ∧ p2.toInt ≤ 1000)) ∧ ¬ tm_hasL (Γ (8, 4 * 60, 0)) (Γ (7, 60, 0) 0).toNat p0.toInt p1.toInt ∧ Γ (7, 60, 0) 0 < 60) (Γ (7, 60, 0) 0 + 1) (-1)) (tp_B D cy L K (tm_if (((0 ≤ p0.toInt ∧ p0.toInt ≤ 11) ∧ (0 ≤ p1.toInt ∧ p1.toInt ≤ 299) ∧ (1 ≤ p2.toInt ∧ p2.toInt ≤ 1000)) ∧ ¬ tm_hasL (Γ (8, 4 * 60, 0)) (Γ (7, 60, 0) 0).toNat p0.toInt p1.toInt) (tm_add Γ (7, 60, 0) (8, 4 * 60, 0) 60 p0.toInt p1.toInt p2.toInt 0) Γ) f [7, 8]) (tp_A L sz)) 0 0 (tp_A L sz) := by
  refine Met.ofW (cc := cX11_line) (maxL := 4) (ret := (some .int)) (by decide) rfl ?_
  intro p e s m args below meth c s₁ B hml hv
  obtain ⟨rfl, hsz, hP, hK, hL, hI, hN, hU⟩ := hv
  have hx := B.exec
  have hb := B.bytes
  have hr := B.returns
  have hta := tl_hta (atoms_spec (ws := tl_w yX11_line cX11_line 4 (some .int)) B.pre)
  have hown : s.vm.findClass RX11 = some m.cls := findClass_of_methodNamed B.named
  have hlocks := B.notSynchronized
  subst hsz
  have hI0 := hI
  generalize hAe : tp_A L s.heap.size = A
  have hA : ∀ q : Nat, s.heap.size ≤ q → A q := fun q h => by rw [← hAe]; exact Or.inr h
  have hAL : ∀ q ∈ L, A q := fun q h => by rw [← hAe]; exact Or.inl h
  have hAf : ∀ (H : Heap), s.heap.size ≤ H.size → ∀ q, tp_A L H.size q → A q := fun H h q hq => hq.elim (hAL q) (fun h2 => hA q (Nat.le_trans h h2))
  have hS : va_S A s.heap s.heap [] := va_S.rf
  have hD : va_D A (va_pl L f) := tp_D hL hAL
  have hfr : ∀ b, (K b).1 ∉ ([7, 8] : List Nat) → f b = f b := fun _ _ => rfl
  have hl := lv_entry ([.ref o, .int p0, .int p1, .int p2]) (n := 4) (Nat.le_of_ble_eq_true rfl)
  rw [lg_entry_eq]
  generalize (lg_sl ([.ref o, .int p0, .int p1, .int p2]) ++ List.replicate (4 - (lg_sl ([.ref o, .int p0, .int p1, .int p2])).length) Slot.unset).toArray = ls at hl ⊢
  have hl : lv_has ls 4 [(0, .ref o), (1, .int p0), (2, .int p1), (3, .int p2)] := hl
  refine lv_iload_n hx hb dX11_line_0 rfl (lv_at hl 1 rfl) ?_
  refine tl_si (tq_rS (As := [.int p0]) (rest := []) ⟨hx, hb, hml, hown, hta⟩ (tp_P.pre hK hN hL hU hI hP) lk_X11_164 (t_X11_isStuff l D cy s.heap.size L K Γ f p0 ) rfl rfl ⟨Nat.le_of_ble_eq_true rfl, Nat.le_of_ble_eq_true rfl⟩ rfl hl.1 rfl (Nat.le_of_ble_eq_true rfl) dX11_line_1 ⟨Nat.le_of_ble_eq_true rfl, Nat.le_of_ble_eq_true rfl⟩) (fun r_2 hw_1 => ?_)
  have hw_1 : tl_E r_2 (0 ≤ p0.toInt ∧ p0.toInt ≤ 11) 1 0 := hw_1
  refine lv_if_eq (tgt := 37) hx hb dX11_line_4 (by decide) (fun c_3 => ?_) (fun c_3 => ?_)
  · have c_3 := hw_1.f c_3
    refine lv_iconst (v := (-1)) hx hb dX11_line_37 (by decide) ?_
    have hG9 : Γ = tm_if (((0 ≤ p0.toInt ∧ p0.toInt ≤ 11) ∧ (0 ≤ p1.toInt ∧ p1.toInt ≤ 299) ∧ (1 ≤ p2.toInt ∧ p2.toInt ≤ 1000)) ∧ ¬ tm_hasL (Γ (8, 4 * 60, 0)) (Γ (7, 60, 0) 0).toNat p0.toInt p1.toInt) (tm_add Γ (7, 60, 0) (8, 4 * 60, 0) 60 p0.toInt p1.toInt p2.toInt 0) Γ := (by rw [tm_if_f (fun q9 => by first | omega | exact q9.2 (by assumption))])
    exact W.iret (v := (-1)) hx hb hr (fun t ht hW => ⟨⟨_, f, rfl, (by rw [tm_if_f (fun q9 => by first | omega | exact q9.2.1 (by assumption))]; rfl), by rw [ht]; exact hP, (by rw [← hG9]; exact hI), hfr⟩, hS.F ht⟩) hS.2.2 dX11_line_38
  · have c_3 := hw_1.t c_3
    refine lv_iload_n hx hb dX11_line_7 rfl (lv_at hl 2 rfl) ?_
    refine tl_si (tq_rS (As := [.int p1]) (rest := []) ⟨hx, hb, hml, hown, hta⟩ (tp_P.pre hK hN hL hU hI hP) lk_X11_125 (t_X11_isColour l D cy s.heap.size L K Γ f p1 ) rfl rfl ⟨Nat.le_of_ble_eq_true rfl, Nat.le_of_ble_eq_true rfl⟩ rfl hl.1 rfl (Nat.le_of_ble_eq_true rfl) dX11_line_8 ⟨Nat.le_of_ble_eq_true rfl, Nat.le_of_ble_eq_true rfl⟩) (fun r_5 hw_4 => ?_)
    have hw_4 : tl_E r_5 (0 ≤ p1.toInt ∧ p1.toInt ≤ 299) 1 0 := hw_4
    refine lv_if_eq (tgt := 37) hx hb dX11_line_11 (by decide) (fun c_6 => ?_) (fun c_6 => ?_)
    · have c_6 := hw_4.f c_6
      refine lv_iconst (v := (-1)) hx hb dX11_line_37 (by decide) ?_
      have hG9 : Γ = tm_if (((0 ≤ p0.toInt ∧ p0.toInt ≤ 11) ∧ (0 ≤ p1.toInt ∧ p1.toInt ≤ 299) ∧ (1 ≤ p2.toInt ∧ p2.toInt ≤ 1000)) ∧ ¬ tm_hasL (Γ (8, 4 * 60, 0)) (Γ (7, 60, 0) 0).toNat p0.toInt p1.toInt) (tm_add Γ (7, 60, 0) (8, 4 * 60, 0) 60 p0.toInt p1.toInt p2.toInt 0) Γ := (by rw [tm_if_f (fun q9 => by first | omega | exact q9.2 (by assumption))])
      exact W.iret (v := (-1)) hx hb hr (fun t ht hW => ⟨⟨_, f, rfl, (by rw [tm_if_f (fun q9 => by first | omega | exact q9.2.1 (by assumption))]; rfl), by rw [ht]; exact hP, (by rw [← hG9]; exact hI), hfr⟩, hS.F ht⟩) hS.2.2 dX11_line_38
    · have c_6 := hw_4.t c_6
      refine lv_iload_n hx hb dX11_line_14 rfl (lv_at hl 3 rfl) ?_
      refine lv_iconst (v := 1) hx hb dX11_line_15 (by decide) ?_
      refine lv_sipush (v := 1000) hx hb dX11_line_16 (by decide) ?_
      refine tl_si (tq_rS (As := [.int p2, .int 1, .int 1000]) (rest := []) ⟨hx, hb, hml, hown, hta⟩ (tp_P.pre hK hN hL hU hI hP) lk_X11_105 (t_X11_isIn l D cy s.heap.size L K Γ f p2 1 1000 ) rfl rfl ⟨Nat.le_of_ble_eq_true rfl, Nat.le_of_ble_eq_true rfl⟩ rfl hl.1 rfl (Nat.le_of_ble_eq_true rfl) dX11_line_19 ⟨Nat.le_of_ble_eq_true rfl, Nat.le_of_ble_eq_true rfl⟩) (fun r_8 hw_7 => ?_)
      have hw_7 : tl_E r_8 ((1 : Int) ≤ p2.toInt ∧ p2.toInt ≤ (1000 : Int)) 1 0 := hw_7
      refine lv_if_eq (tgt := 37) hx hb dX11_line_22 (by decide) (fun c_9 => ?_) (fun c_9 => ?_)
      · have c_9 := hw_7.f c_9
        refine lv_iconst (v := (-1)) hx hb dX11_line_37 (by decide) ?_
        have hG9 : Γ = tm_if (((0 ≤ p0.toInt ∧ p0.toInt ≤ 11) ∧ (0 ≤ p1.toInt ∧ p1.toInt ≤ 299) ∧ (1 ≤ p2.toInt ∧ p2.toInt ≤ 1000)) ∧ ¬ tm_hasL (Γ (8, 4 * 60, 0)) (Γ (7, 60, 0) 0).toNat p0.toInt p1.toInt) (tm_add Γ (7, 60, 0) (8, 4 * 60, 0) 60 p0.toInt p1.toInt p2.toInt 0) Γ := (by rw [tm_if_f (fun q9 => by first | omega | exact q9.2 (by assumption))])
        exact W.iret (v := (-1)) hx hb hr (fun t ht hW => ⟨⟨_, f, rfl, (by rw [tm_if_f (fun q9 => by first | omega | exact q9.2.1 (by assumption))]; rfl), by rw [ht]; exact hP, (by rw [← hG9]; exact hI), hfr⟩, hS.F ht⟩) hS.2.2 dX11_line_38
      · have c_9 := hw_7.t c_9
        refine lv_aload_n hx hb dX11_line_25 rfl (lv_at hl 0 rfl) ?_
        obtain ⟨x_11, x_12, x_13, x_14, x_15, x_16, x_17, x_18, x_19, x_20, x_21, x_22, x_23, x_24, x_25, x_26, hf_10, hx_11, hx_12, hx_13, hx_14, hx_15, hx_16, hx_17, hx_18, hx_19, hx_20, hx_21, hx_22, hx_23, hx_24, hx_25, hx_26⟩ := (show tp_o_X L K (0) 0 (Γ (0, 0, 0)) (f o) from hI0.at ho)
        refine tp_get (cy := cy) (ci := 11) (v := .ref x_11) (C := RX11) (T := TX11) (N := 16) hx hb hta inlX11 hown hK hP ho.1 hf_10 rfl 0 (by decide) (hta _ wk_15) (fun _ h9 => h9) rfl dX11_line_26 ?_
        refine lv_iload_n hx hb dX11_line_29 rfl (lv_at hl 1 rfl) ?_
        refine lv_iload_n hx hb dX11_line_30 rfl (lv_at hl 2 rfl) ?_
        obtain ⟨x_28, x_29, x_30, x_31, x_32, x_33, x_34, x_35, x_36, hf_27, hx_28, hx_29, hx_30, hx_31, hx_32, hx_33, hx_34, hx_35, hx_36⟩ := (show tp_o_BOOK L K (0) 0 (Γ (1, 0, 0)) (f x_11) from hI0.at hx_11)
        refine tl_si (tq_rVN hN (As := [.int p0, .int p1]) (rest := []) ⟨hx, hb, hml, hown, hta⟩ (tp_P.pre hK hN hL hU hI hP) (tp_recv hK hP hx_11.1 hf_27 rfl) lk_X11_167 (t_X0_hasLine l D cy s.heap.size L K Γ f 0 x_11 p0 p1 hx_11) rfl rfl ⟨Nat.le_of_ble_eq_true rfl, Nat.le_of_ble_eq_true rfl⟩ rfl hl.1 rfl (Nat.le_of_ble_eq_true rfl) dX11_line_31 ⟨Nat.le_of_ble_eq_true rfl, Nat.le_of_ble_eq_true rfl⟩) (fun r_38 hw_37 => ?_)
        have hw_37 : tl_E r_38 (tm_hasL (Γ (8, 4 * 60, 0)) (Γ (7, 60, 0) 0).toNat p0.toInt p1.toInt) 1 0 := hw_37
        refine lv_if_eq (tgt := 39) hx hb dX11_line_34 (by decide) (fun c_39 => ?_) (fun c_39 => ?_)
        · have c_39 := hw_37.f c_39
          refine lv_aload_n hx hb dX11_line_39 rfl (lv_at hl 0 rfl) ?_
          refine tp_get (cy := cy) (ci := 11) (v := .ref x_11) (C := RX11) (T := TX11) (N := 16) hx hb hta inlX11 hown hK hP ho.1 hf_10 rfl 0 (by decide) (hta _ wk_15) (fun _ h9 => h9) rfl dX11_line_40 ?_
          refine tp_getN (cy := cy) (ci := 0) (v := .ref x_32) (C := RX0) (T := TX0) (N := 9) hx hb hta inlX0 hown hK hP hx_11.1 hf_27 rfl 4 (by decide) (va_Nw.use rfl (hN.1 22 _ nk_22)) (fun _ h9 => h9) rfl dX11_line_43 ?_
          refine lv_iload_n hx hb dX11_line_46 rfl (lv_at hl 1 rfl) ?_
          refine lv_iload_n hx hb dX11_line_47 rfl (lv_at hl 2 rfl) ?_
          refine lv_iload_n hx hb dX11_line_48 rfl (lv_at hl 3 rfl) ?_
          refine lv_iconst (v := 0) hx hb dX11_line_49 (by decide) ?_
          obtain ⟨x_41, x_42, x_43, hf_40, hx_41, hx_42, hx_43⟩ := (show tp_o_TABLE L K (60) 0 (Γ (7, 60, 0)) (f x_32) from hI.at hx_32)
          refine tq_ci hS (hAf _ hS.1) (tq_rVN hN (As := [.int p0, .int p1, .int p2, .int 0]) (rest := []) ⟨hx, hb, hml, hown, hta⟩ (tp_P.pre hK hN hL hU hI hP) (tp_recv hK hP hx_32.1 hf_40 rfl) lk_X11_151 (t_X6_add l D cy s.heap.size L K Γ f 60 0 x_32 p0 p1 p2 0 hx_32 (by first | omega | (simp only [Int32.toInt_toInt64]; omega) | decide | assumption)) rfl rfl ⟨Nat.le_of_ble_eq_true rfl, Nat.le_of_ble_eq_true rfl⟩ rfl hl.1 rfl (Nat.le_of_ble_eq_true rfl) dX11_line_50 ⟨Nat.le_of_ble_eq_true rfl, Nat.le_of_ble_eq_true rfl⟩) (fun r_45 f_46 H locs hw_44 hP hI hc_47 hS => ?_)
          have hD : va_D A (va_pl L f_46) := tp_D hL hAL
          have hfr := tp_fr2 hfr hc_47 (by decide)
          obtain ⟨Γ_48, eΓ_48⟩ : ∃ y : tk_G, y = tm_add Γ (7, 60, 0) (8, 4 * 60, 0) 60 p0.toInt p1.toInt p2.toInt (0 : Int) := ⟨_, rfl⟩
          have hI : tp_I cy L K Γ_48 f_46 := by rw [eΓ_48]; exact hI
          have hsz : (Γ_48 (7, 60, 0) 0 = Γ (7, 60, 0) 0 + 1 ∧ Γ (7, 60, 0) 0 < 60) ∨ (Γ_48 (7, 60, 0) 0 = Γ (7, 60, 0) 0 ∧ 60 ≤ Γ (7, 60, 0) 0) := by rw [eΓ_48]; exact tm_add_sz (by intro q9; cases q9)
          have hat := tm_at_or (m := 60) (x := Γ (7, 60, 0) 0)
          have hw_44 : r_45.toInt = tm_at 60 (Γ (7, 60, 0) 0) := hw_44
          refine lv_iconst (v := (-1)) hx hb dX11_line_53 (by decide) ?_
          refine lv_icmp_ne (tgt := 61) hx hb dX11_line_54 (by decide) (fun c_49 => ?_) (fun c_49 => ?_)
          · have c_49 : ¬ r_45.toInt = (-1 : Int) := tl_neq c_49
            refine lv_aload_n hx hb dX11_line_61 rfl (lv_at hl 0 rfl) ?_
            refine tp_get (cy := cy) (ci := 11) (v := .ref x_11) (C := RX11) (T := TX11) (N := 16) hx hb hta inlX11 hown hK hP ho.1 ((tp_un hfr ho (by decide)).trans hf_10) rfl 0 (by decide) (hta _ wk_15) (fun _ h9 => h9) rfl dX11_line_62 ?_
            obtain ⟨x_51, x_52, x_53, x_54, x_55, x_56, x_57, x_58, x_59, hf_50, hx_51, hx_52, hx_53, hx_54, hx_55, hx_56, hx_57, hx_58, hx_59⟩ := (show tp_o_BOOK L K (0) 0 (Γ_48 (1, 0, 0)) (f_46 x_11) from hI.at hx_11)
            refine tp_getN (cy := cy) (ci := 0) (v := .ref x_55) (C := RX0) (T := TX0) (N := 9) hx hb hta inlX0 hown hK hP hx_11.1 hf_50 rfl 4 (by decide) (va_Nw.use rfl (hN.1 22 _ nk_22)) (fun _ h9 => h9) rfl dX11_line_65 ?_
            obtain ⟨x_61, x_62, x_63, hf_60, hx_61, hx_62, hx_63⟩ := (show tp_o_TABLE L K (60) 0 (Γ_48 (7, 60, 0)) (f_46 x_55) from hI.at hx_55)
            refine tp_getN (cy := cy) (ci := 6) (v := .int x_63) (C := RX6) (T := TX6) (N := 3) hx hb hta inlX6 hown hK hP hx_55.1 hf_60 rfl 2 (by decide) (va_Nw.use rfl (hN.1 15 _ nk_15)) (fun _ h9 => h9) rfl dX11_line_68 ?_
            have hG9 : Γ_48 = tm_if (((0 ≤ p0.toInt ∧ p0.toInt ≤ 11) ∧ (0 ≤ p1.toInt ∧ p1.toInt ≤ 299) ∧ (1 ≤ p2.toInt ∧ p2.toInt ≤ 1000)) ∧ ¬ tm_hasL (Γ (8, 4 * 60, 0)) (Γ (7, 60, 0) 0).toNat p0.toInt p1.toInt) (tm_add Γ (7, 60, 0) (8, 4 * 60, 0) 60 p0.toInt p1.toInt p2.toInt 0) Γ := (by rw [tm_if_t ⟨by omega, by assumption⟩]; exact eΓ_48)
            exact W.iret (v := x_63) hx hb hr (fun t ht hW => ⟨⟨_, f_46, rfl, (by rw [tm_if_t ⟨by omega, by assumption, by omega⟩]; omega), by rw [ht]; exact hP, (by rw [← hG9]; exact hI), hfr⟩, hS.F ht⟩) hS.2.2 dX11_line_71
          · have c_49 : r_45.toInt = (-1 : Int) := tl_eq c_49
            refine lv_iconst (v := (-1)) hx hb dX11_line_57 (by decide) ?_
            refine lv_goto (tgt := 71) hx hb dX11_line_58 (by decide) ?_
            have hG9 : Γ_48 = tm_if (((0 ≤ p0.toInt ∧ p0.toInt ≤ 11) ∧ (0 ≤ p1.toInt ∧ p1.toInt ≤ 299) ∧ (1 ≤ p2.toInt ∧ p2.toInt ≤ 1000)) ∧ ¬ tm_hasL (Γ (8, 4 * 60, 0)) (Γ (7, 60, 0) 0).toNat p0.toInt p1.toInt) (tm_add Γ (7, 60, 0) (8, 4 * 60, 0) 60 p0.toInt p1.toInt p2.toInt 0) Γ := (by rw [tm_if_t ⟨by omega, by assumption⟩]; exact eΓ_48)
            exact W.iret (v := (-1)) hx hb hr (fun t ht hW => ⟨⟨_, f_46, rfl, (by rw [tm_if_f (fun q9 => by first | omega | exact q9.2.1 (by assumption))]; rfl), by rw [ht]; exact hP, (by rw [← hG9]; exact hI), hfr⟩, hS.F ht⟩) hS.2.2 dX11_line_71
        · have c_39 := hw_37.t c_39
          refine lv_iconst (v := (-1)) hx hb dX11_line_37 (by decide) ?_
          have hG9 : Γ = tm_if (((0 ≤ p0.toInt ∧ p0.toInt ≤ 11) ∧ (0 ≤ p1.toInt ∧ p1.toInt ≤ 299) ∧ (1 ≤ p2.toInt ∧ p2.toInt ≤ 1000)) ∧ ¬ tm_hasL (Γ (8, 4 * 60, 0)) (Γ (7, 60, 0) 0).toNat p0.toInt p1.toInt) (tm_add Γ (7, 60, 0) (8, 4 * 60, 0) 60 p0.toInt p1.toInt p2.toInt 0) Γ := (by rw [tm_if_f (fun q9 => by first | omega | exact q9.2 (by assumption))])
          exact W.iret (v := (-1)) hx hb hr (fun t ht hW => ⟨⟨_, f, rfl, (by rw [tm_if_f (fun q9 => by first | omega | exact q9.2.1 (by assumption))]; rfl), by rw [ht]; exact hP, (by rw [← hG9]; exact hI), hfr⟩, hS.F ht⟩) hS.2.2 dX11_line_38
set_option maxHeartbeats 4000000 in
set_option maxRecDepth 100000 in
theorem t_X11_candidate (l : Launch) (D : va_G) (cy : Nat → ClassId) (sz : Nat) (L : List Nat) (K : Nat → tk_K) (Γ : tk_G) (f : Nat → va_E) (o : Nat) (p0 : Int32) (p1 : Int32) (ho : tp_r L K 0 (0) 0 o) : Met l yX11_candidate (tl_w yX11_candidate cX11_candidate 3 (some .int)) ({ frames := 3, cells := 0, slots := 0, locals := 69 }) (va_Pc [.ref o, .int p0, .int p1] (tp_P D cy L K Γ f sz)) (va_Qi (fun (r : Int32) (u : Nat → va_E) => r.toInt = if (0 ≤ p0.toInt ∧ p0.toInt ≤ 3) ∧ 1 ≤ p1.toInt ∧ p1.toInt ≤ 99 then tm_at 10 (Γ (7, 10, 0) 0) else -1) (tp_B D cy L K (if (0 ≤ p0.toInt ∧ p0.toInt ≤ 3) ∧ 1 ≤ p1.toInt ∧ p1.toInt ≤ 99 then tm_add Γ (7, 10, 0) (8, 4 * 10, 0) 10 p0.toInt p1.toInt 0 0 else Γ) f [7, 8]) (tp_A L sz)) 0 0 (tp_A L sz) := by
  refine Met.ofW (cc := cX11_candidate) (maxL := 3) (ret := (some .int)) (by decide) rfl ?_
  intro p e s m args below meth c s₁ B hml hv
  obtain ⟨rfl, hsz, hP, hK, hL, hI, hN, hU⟩ := hv
  have hx := B.exec
  have hb := B.bytes
  have hr := B.returns
  have hta := tl_hta (atoms_spec (ws := tl_w yX11_candidate cX11_candidate 3 (some .int)) B.pre)
  have hown : s.vm.findClass RX11 = some m.cls := findClass_of_methodNamed B.named
  have hlocks := B.notSynchronized
  subst hsz
  have hI0 := hI
  generalize hAe : tp_A L s.heap.size = A
  have hA : ∀ q : Nat, s.heap.size ≤ q → A q := fun q h => by rw [← hAe]; exact Or.inr h
  have hAL : ∀ q ∈ L, A q := fun q h => by rw [← hAe]; exact Or.inl h
  have hAf : ∀ (H : Heap), s.heap.size ≤ H.size → ∀ q, tp_A L H.size q → A q := fun H h q hq => hq.elim (hAL q) (fun h2 => hA q (Nat.le_trans h h2))
  have hS : va_S A s.heap s.heap [] := va_S.rf
  have hD : va_D A (va_pl L f) := tp_D hL hAL
  have hfr : ∀ b, (K b).1 ∉ ([7, 8] : List Nat) → f b = f b := fun _ _ => rfl
  have hl := lv_entry ([.ref o, .int p0, .int p1]) (n := 3) (Nat.le_of_ble_eq_true rfl)
  rw [lg_entry_eq]
  generalize (lg_sl ([.ref o, .int p0, .int p1]) ++ List.replicate (3 - (lg_sl ([.ref o, .int p0, .int p1])).length) Slot.unset).toArray = ls at hl ⊢
  have hl : lv_has ls 3 [(0, .ref o), (1, .int p0), (2, .int p1)] := hl
  refine lv_iload_n hx hb dX11_candidate_0 rfl (lv_at hl 1 rfl) ?_
  refine tl_si (tq_rS (As := [.int p0]) (rest := []) ⟨hx, hb, hml, hown, hta⟩ (tp_P.pre hK hN hL hU hI hP) lk_X11_102 (t_X11_isGlass l D cy s.heap.size L K Γ f p0 ) rfl rfl ⟨Nat.le_of_ble_eq_true rfl, Nat.le_of_ble_eq_true rfl⟩ rfl hl.1 rfl (Nat.le_of_ble_eq_true rfl) dX11_candidate_1 ⟨Nat.le_of_ble_eq_true rfl, Nat.le_of_ble_eq_true rfl⟩) (fun r_2 hw_1 => ?_)
  have hw_1 : tl_E r_2 (0 ≤ p0.toInt ∧ p0.toInt ≤ 3) 1 0 := hw_1
  refine lv_if_eq (tgt := 17) hx hb dX11_candidate_4 (by decide) (fun c_3 => ?_) (fun c_3 => ?_)
  · have c_3 := hw_1.f c_3
    refine lv_iconst (v := (-1)) hx hb dX11_candidate_17 (by decide) ?_
    have hG9 : Γ = if (0 ≤ p0.toInt ∧ p0.toInt ≤ 3) ∧ 1 ≤ p1.toInt ∧ p1.toInt ≤ 99 then tm_add Γ (7, 10, 0) (8, 4 * 10, 0) 10 p0.toInt p1.toInt 0 0 else Γ := (by rw [if_neg (by omega)])
    exact W.iret (v := (-1)) hx hb hr (fun t ht hW => ⟨⟨_, f, rfl, (by rw [if_neg (by omega)]; rfl), by rw [ht]; exact hP, (by rw [← hG9]; exact hI), hfr⟩, hS.F ht⟩) hS.2.2 dX11_candidate_18
  · have c_3 := hw_1.t c_3
    refine lv_iload_n hx hb dX11_candidate_7 rfl (lv_at hl 2 rfl) ?_
    refine lv_iconst (v := 1) hx hb dX11_candidate_8 (by decide) ?_
    refine lv_bipush (v := 99) hx hb dX11_candidate_9 (by decide) ?_
    refine tl_si (tq_rS (As := [.int p1, .int 1, .int 99]) (rest := []) ⟨hx, hb, hml, hown, hta⟩ (tp_P.pre hK hN hL hU hI hP) lk_X11_105 (t_X11_isIn l D cy s.heap.size L K Γ f p1 1 99 ) rfl rfl ⟨Nat.le_of_ble_eq_true rfl, Nat.le_of_ble_eq_true rfl⟩ rfl hl.1 rfl (Nat.le_of_ble_eq_true rfl) dX11_candidate_11 ⟨Nat.le_of_ble_eq_true rfl, Nat.le_of_ble_eq_true rfl⟩) (fun r_5 hw_4 => ?_)
    have hw_4 : tl_E r_5 ((1 : Int) ≤ p1.toInt ∧ p1.toInt ≤ (99 : Int)) 1 0 := hw_4
    refine lv_if_ne (tgt := 19) hx hb dX11_candidate_14 (by decide) (fun c_6 => ?_) (fun c_6 => ?_)
    · have c_6 := hw_4.t c_6
      refine lv_aload_n hx hb dX11_candidate_19 rfl (lv_at hl 0 rfl) ?_
      obtain ⟨x_8, x_9, x_10, x_11, x_12, x_13, x_14, x_15, x_16, x_17, x_18, x_19, x_20, x_21, x_22, x_23, hf_7, hx_8, hx_9, hx_10, hx_11, hx_12, hx_13, hx_14, hx_15, hx_16, hx_17, hx_18, hx_19, hx_20, hx_21, hx_22, hx_23⟩ := (show tp_o_X L K (0) 0 (Γ (0, 0, 0)) (f o) from hI0.at ho)
      refine tp_get (cy := cy) (ci := 11) (v := .ref x_8) (C := RX11) (T := TX11) (N := 16) hx hb hta inlX11 hown hK hP ho.1 hf_7 rfl 0 (by decide) (hta _ wk_15) (fun _ h9 => h9) rfl dX11_candidate_20 ?_
      obtain ⟨x_25, x_26, x_27, x_28, x_29, x_30, x_31, x_32, x_33, hf_24, hx_25, hx_26, hx_27, hx_28, hx_29, hx_30, hx_31, hx_32, hx_33⟩ := (show tp_o_BOOK L K (0) 0 (Γ (1, 0, 0)) (f x_8) from hI0.at hx_8)
      refine tp_getN (cy := cy) (ci := 0) (v := .ref x_30) (C := RX0) (T := TX0) (N := 9) hx hb hta inlX0 hown hK hP hx_8.1 hf_24 rfl 5 (by decide) (va_Nw.use rfl (hN.1 23 _ nk_23)) (fun _ h9 => h9) rfl dX11_candidate_23 ?_
      refine lv_iload_n hx hb dX11_candidate_26 rfl (lv_at hl 1 rfl) ?_
      refine lv_iload_n hx hb dX11_candidate_27 rfl (lv_at hl 2 rfl) ?_
      refine lv_iconst (v := 0) hx hb dX11_candidate_28 (by decide) ?_
      refine lv_iconst (v := 0) hx hb dX11_candidate_29 (by decide) ?_
      obtain ⟨x_35, x_36, x_37, hf_34, hx_35, hx_36, hx_37⟩ := (show tp_o_TABLE L K (10) 0 (Γ (7, 10, 0)) (f x_30) from hI.at hx_30)
      refine tq_ci hS (hAf _ hS.1) (tq_rVN hN (As := [.int p0, .int p1, .int 0, .int 0]) (rest := []) ⟨hx, hb, hml, hown, hta⟩ (tp_P.pre hK hN hL hU hI hP) (tp_recv hK hP hx_30.1 hf_34 rfl) lk_X11_151 (t_X6_add l D cy s.heap.size L K Γ f 10 0 x_30 p0 p1 0 0 hx_30 (by first | omega | (simp only [Int32.toInt_toInt64]; omega) | decide | assumption)) rfl rfl ⟨Nat.le_of_ble_eq_true rfl, Nat.le_of_ble_eq_true rfl⟩ rfl hl.1 rfl (Nat.le_of_ble_eq_true rfl) dX11_candidate_30 ⟨Nat.le_of_ble_eq_true rfl, Nat.le_of_ble_eq_true rfl⟩) (fun r_39 f_40 H locs hw_38 hP hI hc_41 hS => ?_)
      have hD : va_D A (va_pl L f_40) := tp_D hL hAL
      have hfr := tp_fr2 hfr hc_41 (by decide)
      obtain ⟨Γ_42, eΓ_42⟩ : ∃ y : tk_G, y = tm_add Γ (7, 10, 0) (8, 4 * 10, 0) 10 p0.toInt p1.toInt (0 : Int) (0 : Int) := ⟨_, rfl⟩
      have hI : tp_I cy L K Γ_42 f_40 := by rw [eΓ_42]; exact hI
      have hw_38 : r_39.toInt = tm_at 10 (Γ (7, 10, 0) 0) := hw_38
      have hG9 : Γ_42 = if (0 ≤ p0.toInt ∧ p0.toInt ≤ 3) ∧ 1 ≤ p1.toInt ∧ p1.toInt ≤ 99 then tm_add Γ (7, 10, 0) (8, 4 * 10, 0) 10 p0.toInt p1.toInt 0 0 else Γ := (by rw [if_pos (by omega)]; exact eΓ_42)
      exact W.iret (v := r_39) hx hb hr (fun t ht hW => ⟨⟨_, f_40, rfl, (by rw [if_pos (by omega)]; exact hw_38), by rw [ht]; exact hP, (by rw [← hG9]; exact hI), hfr⟩, hS.F ht⟩) hS.2.2 dX11_candidate_33
    · have c_6 := hw_4.f c_6
      refine lv_iconst (v := (-1)) hx hb dX11_candidate_17 (by decide) ?_
      have hG9 : Γ = if (0 ≤ p0.toInt ∧ p0.toInt ≤ 3) ∧ 1 ≤ p1.toInt ∧ p1.toInt ≤ 99 then tm_add Γ (7, 10, 0) (8, 4 * 10, 0) 10 p0.toInt p1.toInt 0 0 else Γ := (by rw [if_neg (by omega)])
      exact W.iret (v := (-1)) hx hb hr (fun t ht hW => ⟨⟨_, f, rfl, (by rw [if_neg (by omega)]; rfl), by rw [ht]; exact hP, (by rw [← hG9]; exact hI), hfr⟩, hS.F ht⟩) hS.2.2 dX11_candidate_18
set_option maxHeartbeats 4000000 in
set_option maxRecDepth 100000 in
theorem t_X11_told (l : Launch) (D : va_G) (cy : Nat → ClassId) (sz : Nat) (L : List Nat) (K : Nat → tk_K) (Γ : tk_G) (f : Nat → va_E) (o : Nat) (p0 : Int32) (p1 : Int32) (ho : tp_r L K 0 (0) 0 o) : Met l yX11_told (tl_w yX11_told cX11_told 4 (some .int)) ({ frames := 1, cells := 0, slots := 0, locals := 22 }) (va_Pc [.ref o, .int p0, .int p1] (tp_P D cy L K Γ f sz)) (va_Qi (fun (r : Int32) (u : Nat → va_E) => r.toInt = if (0 ≤ p0.toInt ∧ p0.toInt ≤ 3) ∧ 0 ≤ p1.toInt ∧ p1.toInt ≤ 9999 then Γ (2, 4, 0) p0.toInt.toNat else -1) (tp_B D cy L K (if (0 ≤ p0.toInt ∧ p0.toInt ≤ 3) ∧ 0 ≤ p1.toInt ∧ p1.toInt ≤ 9999 then tg Γ (2, 4, 0) p0.toInt.toNat p1.toInt else Γ) f [2]) (tp_A L sz)) 0 0 (tp_A L sz) := by
  refine Met.ofW (cc := cX11_told) (maxL := 4) (ret := (some .int)) (by decide) rfl ?_
  intro p e s m args below meth c s₁ B hml hv
  obtain ⟨rfl, hsz, hP, hK, hL, hI, hN, hU⟩ := hv
  have hx := B.exec
  have hb := B.bytes
  have hr := B.returns
  have hta := tl_hta (atoms_spec (ws := tl_w yX11_told cX11_told 4 (some .int)) B.pre)
  have hown : s.vm.findClass RX11 = some m.cls := findClass_of_methodNamed B.named
  have hlocks := B.notSynchronized
  subst hsz
  have hI0 := hI
  generalize hAe : tp_A L s.heap.size = A
  have hA : ∀ q : Nat, s.heap.size ≤ q → A q := fun q h => by rw [← hAe]; exact Or.inr h
  have hAL : ∀ q ∈ L, A q := fun q h => by rw [← hAe]; exact Or.inl h
  have hAf : ∀ (H : Heap), s.heap.size ≤ H.size → ∀ q, tp_A L H.size q → A q := fun H h q hq => hq.elim (hAL q) (fun h2 => hA q (Nat.le_trans h h2))
  have hS : va_S A s.heap s.heap [] := va_S.rf
  have hD : va_D A (va_pl L f) := tp_D hL hAL
  have hfr : ∀ b, (K b).1 ∉ ([2] : List Nat) → f b = f b := fun _ _ => rfl
  have hl := lv_entry ([.ref o, .int p0, .int p1]) (n := 4) (Nat.le_of_ble_eq_true rfl)
  rw [lg_entry_eq]
  generalize (lg_sl ([.ref o, .int p0, .int p1]) ++ List.replicate (4 - (lg_sl ([.ref o, .int p0, .int p1])).length) Slot.unset).toArray = ls at hl ⊢
  have hl : lv_has ls 4 [(0, .ref o), (1, .int p0), (2, .int p1)] := hl
  refine lv_iload_n hx hb dX11_told_0 rfl (lv_at hl 1 rfl) ?_
  refine lv_iconst (v := 0) hx hb dX11_told_1 (by decide) ?_
  refine lv_aload_n hx hb dX11_told_2 rfl (lv_at hl 0 rfl) ?_
  obtain ⟨x_2, x_3, x_4, x_5, x_6, x_7, x_8, x_9, x_10, x_11, x_12, x_13, x_14, x_15, x_16, x_17, hf_1, hx_2, hx_3, hx_4, hx_5, hx_6, hx_7, hx_8, hx_9, hx_10, hx_11, hx_12, hx_13, hx_14, hx_15, hx_16, hx_17⟩ := (show tp_o_X L K (0) 0 (Γ (0, 0, 0)) (f o) from hI0.at ho)
  refine tp_get (cy := cy) (ci := 11) (v := .ref x_2) (C := RX11) (T := TX11) (N := 16) hx hb hta inlX11 hown hK hP ho.1 hf_1 rfl 0 (by decide) (hta _ wk_15) (fun _ h9 => h9) rfl dX11_told_3 ?_
  obtain ⟨x_19, x_20, x_21, x_22, x_23, x_24, x_25, x_26, x_27, hf_18, hx_19, hx_20, hx_21, hx_22, hx_23, hx_24, hx_25, hx_26, hx_27⟩ := (show tp_o_BOOK L K (0) 0 (Γ (1, 0, 0)) (f x_2) from hI0.at hx_2)
  refine tp_getN (cy := cy) (ci := 0) (v := .ref x_20) (C := RX0) (T := TX0) (N := 9) hx hb hta inlX0 hown hK hP hx_2.1 hf_18 rfl 1 (by decide) (va_Nw.use rfl (hN.1 19 _ nk_19)) (fun _ h9 => h9) rfl dX11_told_6 ?_
  obtain ⟨g_29, hf_28, hg_30⟩ := (show tp_gi cy (4) (Γ (2, 4, 0)) (f x_20) from hI.at hx_20)
  refine tp_alen (cy := cy) (t0 := 0) (v := 4) hx hb hK hP hx_20.1 rfl hf_28 rfl dX11_told_9 ?_
  refine lv_iconst (v := 1) hx hb dX11_told_10 (by decide) ?_
  refine lv_isub hx hb dX11_told_11 ?_
  refine lv_topi (fun z_31 ez_31 => ?_)
  obtain rfl : z_31 = (3 : Int32) := ez_31.trans (by decide)
  refine tl_si (tq_rS (As := [.int p0, .int 0, .int 3]) (rest := []) ⟨hx, hb, hml, hown, hta⟩ (tp_P.pre hK hN hL hU hI hP) lk_X11_105 (t_X11_isIn l D cy s.heap.size L K Γ f p0 0 3 ) rfl rfl ⟨Nat.le_of_ble_eq_true rfl, Nat.le_of_ble_eq_true rfl⟩ rfl hl.1 rfl (Nat.le_of_ble_eq_true rfl) dX11_told_12 ⟨Nat.le_of_ble_eq_true rfl, Nat.le_of_ble_eq_true rfl⟩) (fun r_33 hw_32 => ?_)
  have hw_32 : tl_E r_33 ((0 : Int) ≤ p0.toInt ∧ p0.toInt ≤ (3 : Int)) 1 0 := hw_32
  refine lv_if_eq (tgt := 29) hx hb dX11_told_15 (by decide) (fun c_34 => ?_) (fun c_34 => ?_)
  · have c_34 := hw_32.f c_34
    refine lv_iconst (v := (-1)) hx hb dX11_told_29 (by decide) ?_
    have hG9 : Γ = if (0 ≤ p0.toInt ∧ p0.toInt ≤ 3) ∧ 0 ≤ p1.toInt ∧ p1.toInt ≤ 9999 then tg Γ (2, 4, 0) p0.toInt.toNat p1.toInt else Γ := (by rw [if_neg (by omega)])
    exact W.iret (v := (-1)) hx hb hr (fun t ht hW => ⟨⟨_, f, rfl, (by rw [if_neg (by omega)]; rfl), by rw [ht]; exact hP, (by rw [← hG9]; exact hI), hfr⟩, hS.F ht⟩) hS.2.2 dX11_told_30
  · have c_34 := hw_32.t c_34
    refine lv_iload_n hx hb dX11_told_18 rfl (lv_at hl 2 rfl) ?_
    refine lv_iconst (v := 0) hx hb dX11_told_19 (by decide) ?_
    refine lv_sipush (v := 9999) hx hb dX11_told_20 (by decide) ?_
    refine tl_si (tq_rS (As := [.int p1, .int 0, .int 9999]) (rest := []) ⟨hx, hb, hml, hown, hta⟩ (tp_P.pre hK hN hL hU hI hP) lk_X11_105 (t_X11_isIn l D cy s.heap.size L K Γ f p1 0 9999 ) rfl rfl ⟨Nat.le_of_ble_eq_true rfl, Nat.le_of_ble_eq_true rfl⟩ rfl hl.1 rfl (Nat.le_of_ble_eq_true rfl) dX11_told_23 ⟨Nat.le_of_ble_eq_true rfl, Nat.le_of_ble_eq_true rfl⟩) (fun r_36 hw_35 => ?_)
    have hw_35 : tl_E r_36 ((0 : Int) ≤ p1.toInt ∧ p1.toInt ≤ (9999 : Int)) 1 0 := hw_35
    refine lv_if_ne (tgt := 31) hx hb dX11_told_26 (by decide) (fun c_37 => ?_) (fun c_37 => ?_)
    · have c_37 := hw_35.t c_37
      refine lv_aload_n hx hb dX11_told_31 rfl (lv_at hl 0 rfl) ?_
      refine tp_get (cy := cy) (ci := 11) (v := .ref x_2) (C := RX11) (T := TX11) (N := 16) hx hb hta inlX11 hown hK hP ho.1 hf_1 rfl 0 (by decide) (hta _ wk_15) (fun _ h9 => h9) rfl dX11_told_32 ?_
      refine tp_getN (cy := cy) (ci := 0) (v := .ref x_20) (C := RX0) (T := TX0) (N := 9) hx hb hta inlX0 hown hK hP hx_2.1 hf_18 rfl 1 (by decide) (va_Nw.use rfl (hN.1 19 _ nk_19)) (fun _ h9 => h9) rfl dX11_told_35 ?_
      refine lv_iload_n hx hb dX11_told_38 rfl (lv_at hl 1 rfl) ?_
      have hn_38 : vp_in p0 (4) := tl_in (by omega) (by omega)
      refine tp_iald (cy := cy) hx hb hK hP hx_20.1 hf_28 hn_38 dX11_told_39 ?_
      refine lv_topi (fun z_39 ez_39 => ?_)
      have iz_39 : z_39.toInt = Γ (2, 4, 0) p0.toInt.toNat := by rw [ez_39]; exact hg_30 _ (tp_pin hn_38)
      refine lv_istore_n (lv' := [(3, .int z_39), (0, .ref o), (1, .int p0), (2, .int p1)]) hx hb dX11_told_40 rfl hl (by decide) rfl (fun ls hl => ?_)
      refine lv_aload_n hx hb dX11_told_41 rfl (lv_at hl 1 rfl) ?_
      refine tp_get (cy := cy) (ci := 11) (v := .ref x_2) (C := RX11) (T := TX11) (N := 16) hx hb hta inlX11 hown hK hP ho.1 hf_1 rfl 0 (by decide) (hta _ wk_15) (fun _ h9 => h9) rfl dX11_told_42 ?_
      refine tp_getN (cy := cy) (ci := 0) (v := .ref x_20) (C := RX0) (T := TX0) (N := 9) hx hb hta inlX0 hown hK hP hx_2.1 hf_18 rfl 1 (by decide) (va_Nw.use rfl (hN.1 19 _ nk_19)) (fun _ h9 => h9) rfl dX11_told_45 ?_
      refine lv_iload_n hx hb dX11_told_48 rfl (lv_at hl 2 rfl) ?_
      refine lv_iload_n hx hb dX11_told_49 rfl (lv_at hl 3 rfl) ?_
      have hn_40 : vp_in p0 (4) := tl_in (by omega) (by omega)
      obtain ⟨Γ_41, eΓ_41⟩ : ∃ y : tk_G, y = tg Γ (2, 4, 0) p0.toInt.toNat p1.toInt := ⟨_, rfl⟩
      have hI9 : tp_I cy L K Γ_41 (va_up f x_20 (.inl (cy 0, 4, .inl (upd g_29 p0.toNatClampNeg p1)))) := by rw [eΓ_41]; exact hI.setg hU rfl hx_20 (show tp_gi cy (4) (tgu (Γ (2, 4, 0)) p0.toInt.toNat p1.toInt) _ from ⟨_, rfl, tp_gi_upd hg_30⟩)
      have hfr9 : ∀ b, (K b).1 ∉ ([2] : List Nat) → va_up f x_20 (.inl (cy 0, 4, .inl (upd g_29 p0.toNatClampNeg p1))) b = f b := tp_fr hfr hx_20 (by decide)
      refine tp_iast (cy := cy) hx hb hK hP hD hS hx_20.1 hf_28 hn_40 dX11_told_50 (fun H locs hP hD hS => ?_)
      have hP : va_P D vwCl (va_pl L (va_up f x_20 (.inl (cy 0, 4, .inl (upd g_29 p0.toNatClampNeg p1))))) H := hP
      generalize hfe : va_up f x_20 (.inl (cy 0, 4, .inl (upd g_29 p0.toNatClampNeg p1))) = f_42 at hP hI9 hfr9
      have hD : va_D A (va_pl L f_42) := tp_D hL hAL
      have hf_43 : f_42 x_20 = .inl (cy 0, 4, .inl (upd g_29 p0.toNatClampNeg p1)) := by rw [← hfe]; exact va_up_self _ _ _
      clear hfe
      have hI := hI9
      have hfr := hfr9
      clear hI9 hfr9
      refine lv_iload_n hx hb dX11_told_51 rfl (lv_at hl 0 rfl) ?_
      have hG9 : Γ_41 = if (0 ≤ p0.toInt ∧ p0.toInt ≤ 3) ∧ 0 ≤ p1.toInt ∧ p1.toInt ≤ 9999 then tg Γ (2, 4, 0) p0.toInt.toNat p1.toInt else Γ := (by rw [if_pos (by omega)]; exact eΓ_41)
      exact W.iret (v := z_39) hx hb hr (fun t ht hW => ⟨⟨_, f_42, rfl, (by rw [if_pos (by omega)]; exact iz_39), by rw [ht]; exact hP, (by rw [← hG9]; exact hI), hfr⟩, hS.F ht⟩) hS.2.2 dX11_told_52
    · have c_37 := hw_35.f c_37
      refine lv_iconst (v := (-1)) hx hb dX11_told_29 (by decide) ?_
      have hG9 : Γ = if (0 ≤ p0.toInt ∧ p0.toInt ≤ 3) ∧ 0 ≤ p1.toInt ∧ p1.toInt ≤ 9999 then tg Γ (2, 4, 0) p0.toInt.toNat p1.toInt else Γ := (by rw [if_neg (by omega)])
      exact W.iret (v := (-1)) hx hb hr (fun t ht hW => ⟨⟨_, f, rfl, (by rw [if_neg (by omega)]; rfl), by rw [ht]; exact hP, (by rw [← hG9]; exact hI), hfr⟩, hS.F ht⟩) hS.2.2 dX11_told_30
set_option maxHeartbeats 4000000 in
set_option maxRecDepth 100000 in
theorem t_X11_back (l : Launch) (D : va_G) (cy : Nat → ClassId) (sz : Nat) (L : List Nat) (K : Nat → tk_K) (Γ : tk_G) (f : Nat → va_E) (o : Nat) (p0 : Int32) (ho : tp_r L K 0 (0) 0 o) : Met l yX11_back (tl_w yX11_back cX11_back 2 (some .int)) ({ frames := 3, cells := 0, slots := 0, locals := 83 }) (va_Pc [.ref o, .int p0] (tp_P D cy L K Γ f sz)) (va_Qi (fun (r : Int32) (u : Nat → va_E) => r.toInt = if (0 ≤ p0.toInt ∧ p0.toInt ≤ 3) ∧ Γ (12, 4, 0) p0.toInt.toNat = 1 then tm_copy Γ 0 (p0.toInt.toNat + 1) (3, 0, 0) 0 else -1) (tp_B D cy L K (if (0 ≤ p0.toInt ∧ p0.toInt ≤ 3) ∧ Γ (12, 4, 0) p0.toInt.toNat = 1 then tm_copy Γ 0 (p0.toInt.toNat + 1) else Γ) f [1, 2, 3, 4, 6, 7, 8, 9, 10, 11]) (tp_A L sz)) 0 0 (tp_A L sz) := by
  refine Met.ofW (cc := cX11_back) (maxL := 2) (ret := (some .int)) (by decide) rfl ?_
  intro p e s m args below meth c s₁ B hml hv
  obtain ⟨rfl, hsz, hP, hK, hL, hI, hN, hU⟩ := hv
  have hx := B.exec
  have hb := B.bytes
  have hr := B.returns
  have hta := tl_hta (atoms_spec (ws := tl_w yX11_back cX11_back 2 (some .int)) B.pre)
  have hown : s.vm.findClass RX11 = some m.cls := findClass_of_methodNamed B.named
  have hlocks := B.notSynchronized
  subst hsz
  have hI0 := hI
  generalize hAe : tp_A L s.heap.size = A
  have hA : ∀ q : Nat, s.heap.size ≤ q → A q := fun q h => by rw [← hAe]; exact Or.inr h
  have hAL : ∀ q ∈ L, A q := fun q h => by rw [← hAe]; exact Or.inl h
  have hAf : ∀ (H : Heap), s.heap.size ≤ H.size → ∀ q, tp_A L H.size q → A q := fun H h q hq => hq.elim (hAL q) (fun h2 => hA q (Nat.le_trans h h2))
  have hS : va_S A s.heap s.heap [] := va_S.rf
  have hD : va_D A (va_pl L f) := tp_D hL hAL
  have hfr : ∀ b, (K b).1 ∉ ([1, 2, 3, 4, 6, 7, 8, 9, 10, 11] : List Nat) → f b = f b := fun _ _ => rfl
  have hl := lv_entry ([.ref o, .int p0]) (n := 2) (Nat.le_of_ble_eq_true rfl)
  rw [lg_entry_eq]
  generalize (lg_sl ([.ref o, .int p0]) ++ List.replicate (2 - (lg_sl ([.ref o, .int p0])).length) Slot.unset).toArray = ls at hl ⊢
  have hl : lv_has ls 2 [(0, .ref o), (1, .int p0)] := hl
  refine lv_iload_n hx hb dX11_back_0 rfl (lv_at hl 1 rfl) ?_
  refine lv_iconst (v := 0) hx hb dX11_back_1 (by decide) ?_
  refine lv_iconst (v := 3) hx hb dX11_back_2 (by decide) ?_
  refine tl_si (tq_rS (As := [.int p0, .int 0, .int 3]) (rest := []) ⟨hx, hb, hml, hown, hta⟩ (tp_P.pre hK hN hL hU hI hP) lk_X11_105 (t_X11_isIn l D cy s.heap.size L K Γ f p0 0 3 ) rfl rfl ⟨Nat.le_of_ble_eq_true rfl, Nat.le_of_ble_eq_true rfl⟩ rfl hl.1 rfl (Nat.le_of_ble_eq_true rfl) dX11_back_3 ⟨Nat.le_of_ble_eq_true rfl, Nat.le_of_ble_eq_true rfl⟩) (fun r_2 hw_1 => ?_)
  have hw_1 : tl_E r_2 ((0 : Int) ≤ p0.toInt ∧ p0.toInt ≤ (3 : Int)) 1 0 := hw_1
  refine lv_if_eq (tgt := 18) hx hb dX11_back_6 (by decide) (fun c_3 => ?_) (fun c_3 => ?_)
  · have c_3 := hw_1.f c_3
    refine lv_iconst (v := (-1)) hx hb dX11_back_18 (by decide) ?_
    have hG9 : Γ = if (0 ≤ p0.toInt ∧ p0.toInt ≤ 3) ∧ Γ (12, 4, 0) p0.toInt.toNat = 1 then tm_copy Γ 0 (p0.toInt.toNat + 1) else Γ := (by rw [if_neg (by omega)])
    exact W.iret (v := (-1)) hx hb hr (fun t ht hW => ⟨⟨_, f, rfl, (by rw [if_neg (by omega)]; rfl), by rw [ht]; exact hP, (by rw [← hG9]; exact hI), hfr⟩, hS.F ht⟩) hS.2.2 dX11_back_19
  · have c_3 := hw_1.t c_3
    refine lv_aload_n hx hb dX11_back_9 rfl (lv_at hl 0 rfl) ?_
    obtain ⟨x_5, x_6, x_7, x_8, x_9, x_10, x_11, x_12, x_13, x_14, x_15, x_16, x_17, x_18, x_19, x_20, hf_4, hx_5, hx_6, hx_7, hx_8, hx_9, hx_10, hx_11, hx_12, hx_13, hx_14, hx_15, hx_16, hx_17, hx_18, hx_19, hx_20⟩ := (show tp_o_X L K (0) 0 (Γ (0, 0, 0)) (f o) from hI0.at ho)
    refine tp_get (cy := cy) (ci := 11) (v := .ref x_6) (C := RX11) (T := TX11) (N := 16) hx hb hta inlX11 hown hK hP ho.1 hf_4 rfl 1 (by decide) (hta _ wk_16) (fun _ h9 => h9) rfl dX11_back_10 ?_
    refine lv_iload_n hx hb dX11_back_13 rfl (lv_at hl 1 rfl) ?_
    obtain ⟨g_22, hf_21, hg_23⟩ := (show tp_ab cy L K (4) (Γ (12, 4, 0)) (f x_6) from hI0.at hx_6)
    have hn_24 : vp_in p0 (4) := tl_in (by omega) (by omega)
    refine tp_aldq (cy := cy) (t0 := 4) rfl hx hb hK hP hx_6.1 hf_21 hn_24 dX11_back_14 ?_
    cases q_25 : g_22 p0.toNatClampNeg with
    | none =>
      have iq_25 : Γ (12, 4, 0) p0.toInt.toNat = 0 := (hg_23 _ (tp_pin hn_24)).2 q_25
      refine W.eq (g2 := F0 m 15 ls ([.null])) (by rfl) ?_
      refine lv_ifnonnullN hx hb dX11_back_15 ?_
      refine lv_iconst (v := (-1)) hx hb dX11_back_18 (by decide) ?_
      have hG9 : Γ = if (0 ≤ p0.toInt ∧ p0.toInt ≤ 3) ∧ Γ (12, 4, 0) p0.toInt.toNat = 1 then tm_copy Γ 0 (p0.toInt.toNat + 1) else Γ := (by rw [if_neg (by omega)])
      exact W.iret (v := (-1)) hx hb hr (fun t ht hW => ⟨⟨_, f, rfl, (by rw [if_neg (by omega)]; rfl), by rw [ht]; exact hP, (by rw [← hG9]; exact hI), hfr⟩, hS.F ht⟩) hS.2.2 dX11_back_19
    | some b_26 =>
      obtain ⟨hb_26, ib_26⟩ := (hg_23 _ (tp_pin hn_24)).1 _ q_25
      have hb_26 : tp_r L K 1 0 (p0.toInt.toNat + 1) b_26 := hb_26
      have ib_26 : Γ (12, 4, 0) p0.toInt.toNat = 1 := ib_26
      refine W.eq (g2 := F0 m 15 ls ([.ref b_26])) (by rfl) ?_
      refine lv_ifnonnull (tgt := 20) hx hb dX11_back_15 (by decide) ?_
      refine lv_aload_n hx hb dX11_back_20 rfl (lv_at hl 0 rfl) ?_
      refine tp_get (cy := cy) (ci := 11) (v := .ref x_5) (C := RX11) (T := TX11) (N := 16) hx hb hta inlX11 hown hK hP ho.1 hf_4 rfl 0 (by decide) (hta _ wk_15) (fun _ h9 => h9) rfl dX11_back_21 ?_
      refine lv_aload_n hx hb dX11_back_24 rfl (lv_at hl 0 rfl) ?_
      refine tp_get (cy := cy) (ci := 11) (v := .ref x_6) (C := RX11) (T := TX11) (N := 16) hx hb hta inlX11 hown hK hP ho.1 hf_4 rfl 1 (by decide) (hta _ wk_16) (fun _ h9 => h9) rfl dX11_back_25 ?_
      refine lv_iload_n hx hb dX11_back_28 rfl (lv_at hl 1 rfl) ?_
      have hn_27 : vp_in p0 (4) := tl_in (by omega) (by omega)
      refine tp_aldq (cy := cy) (t0 := 4) rfl hx hb hK hP hx_6.1 hf_21 hn_27 dX11_back_29 ?_
      refine W.eq (g2 := F0 m 30 ls ([.ref b_26, .ref x_5])) (by rw [q_25]; rfl) ?_
      obtain ⟨x_29, x_30, x_31, x_32, x_33, x_34, x_35, x_36, x_37, hf_28, hx_29, hx_30, hx_31, hx_32, hx_33, hx_34, hx_35, hx_36, hx_37⟩ := (show tp_o_BOOK L K (0) 0 (Γ (1, 0, 0)) (f x_5) from hI.at hx_5)
      refine tq_cv hS (hAf _ hS.1) (tq_rVN hN (As := [.ref b_26]) (rest := []) ⟨hx, hb, hml, hown, hta⟩ (tp_P.pre hK hN hL hU hI hP) (tp_recv hK hP hx_5.1 hf_28 rfl) lk_X11_491 (t_X0_copyFrom l D cy s.heap.size L K Γ f 0 x_5 (p0.toInt.toNat + 1) b_26 hx_5 hb_26) rfl rfl ⟨Nat.le_of_ble_eq_true rfl, Nat.le_of_ble_eq_true rfl⟩ rfl hl.1 rfl (Nat.le_of_ble_eq_true rfl) dX11_back_30 ⟨Nat.le_of_ble_eq_true rfl, Nat.le_of_ble_eq_true rfl⟩) (fun f_40 H locs hw_38 hP hI hc_41 hS => ?_)
      have hD : va_D A (va_pl L f_40) := tp_D hL hAL
      have hfr := tp_fr2 hfr hc_41 (by decide)
      obtain ⟨Γ_42, eΓ_42⟩ : ∃ y : tk_G, y = tm_copy Γ 0 (p0.toInt.toNat + 1) := ⟨_, rfl⟩
      have hI : tp_I cy L K Γ_42 f_40 := by rw [eΓ_42]; exact hI
      refine lv_aload_n hx hb dX11_back_33 rfl (lv_at hl 0 rfl) ?_
      refine tp_get (cy := cy) (ci := 11) (v := .ref x_5) (C := RX11) (T := TX11) (N := 16) hx hb hta inlX11 hown hK hP ho.1 ((tp_un hfr ho (by decide)).trans hf_4) rfl 0 (by decide) (hta _ wk_15) (fun _ h9 => h9) rfl dX11_back_34 ?_
      obtain ⟨x_44, x_45, x_46, x_47, x_48, x_49, x_50, x_51, x_52, hf_43, hx_44, hx_45, hx_46, hx_47, hx_48, hx_49, hx_50, hx_51, hx_52⟩ := (show tp_o_BOOK L K (0) 0 (Γ_42 (1, 0, 0)) (f_40 x_5) from hI.at hx_5)
      refine tp_getN (cy := cy) (ci := 0) (v := .ref x_46) (C := RX0) (T := TX0) (N := 9) hx hb hta inlX0 hown hK hP hx_5.1 hf_43 rfl 2 (by decide) (va_Nw.use rfl (hN.1 20 _ nk_20)) (fun _ h9 => h9) rfl dX11_back_37 ?_
      obtain ⟨x_54, x_55, x_56, x_57, x_58, x_59, hf_53, hx_54, hx_56, hx_57, hx_58, hx_59⟩ := (show tp_o_ROWS L K (0) 0 (Γ_42 (3, 0, 0)) (f_40 x_46) from hI.at hx_46)
      refine tp_getN (cy := cy) (ci := 4) (v := .int x_54) (C := RX4) (T := TX4) (N := 6) hx hb hta inlX4 hown hK hP hx_46.1 hf_53 rfl 0 (by decide) (va_Nw.use rfl (hN.1 2 _ nk_2)) (fun _ h9 => h9) rfl dX11_back_40 ?_
      have hG9 : Γ_42 = if (0 ≤ p0.toInt ∧ p0.toInt ≤ 3) ∧ Γ (12, 4, 0) p0.toInt.toNat = 1 then tm_copy Γ 0 (p0.toInt.toNat + 1) else Γ := (by rw [if_pos (by omega)]; exact eΓ_42)
      exact W.iret (v := x_54) hx hb hr (fun t ht hW => ⟨⟨_, f_40, rfl, (by rw [if_pos (by omega), ← eΓ_42]; omega), by rw [ht]; exact hP, (by rw [← hG9]; exact hI), hfr⟩, hS.F ht⟩) hS.2.2 dX11_back_43
