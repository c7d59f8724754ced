theorem dX11_look_0 : decode cX11_look 0 = .ok (.aload_n 0, 1) := by decide +kernel
theorem dX11_look_1 : decode cX11_look 1 = .ok (.getfield 29, 3) := by decide +kernel
theorem dX11_look_4 : decode cX11_look 4 = .ok (.iload_n 1, 1) := by decide +kernel
theorem dX11_look_5 : decode cX11_look 5 = .ok (.invokevirtual 201, 3) := by decide +kernel
theorem dX11_look_8 : decode cX11_look 8 = .ok (.astore 4, 2) := by decide +kernel
theorem dX11_look_10 : decode cX11_look 10 = .ok (.aload 4, 2) := by decide +kernel
theorem dX11_look_12 : decode cX11_look 12 = .ok (.ifnull 17, 3) := by decide +kernel
theorem dX11_look_15 : decode cX11_look 15 = .ok (.aload_n 0, 1) := by decide +kernel
theorem dX11_look_16 : decode cX11_look 16 = .ok (.getfield 10, 3) := by decide +kernel
theorem dX11_look_19 : decode cX11_look 19 = .ok (.getfield 109, 3) := by decide +kernel
theorem dX11_look_22 : decode cX11_look 22 = .ok (.iload_n 2, 1) := by decide +kernel
theorem dX11_look_23 : decode cX11_look 23 = .ok (.invokevirtual 122, 3) := by decide +kernel
theorem dX11_look_26 : decode cX11_look 26 = .ok (.ifCond .ne 5, 3) := by decide +kernel
theorem dX11_look_29 : decode cX11_look 29 = .ok (.iconst 0, 1) := by decide +kernel
theorem dX11_look_30 : decode cX11_look 30 = .ok (.ireturn, 1) := by decide +kernel
theorem dX11_look_31 : decode cX11_look 31 = .ok (.aload_n 0, 1) := by decide +kernel
theorem dX11_look_32 : decode cX11_look 32 = .ok (.getfield 10, 3) := by decide +kernel
theorem dX11_look_35 : decode cX11_look 35 = .ok (.iload_n 2, 1) := by decide +kernel
theorem dX11_look_36 : decode cX11_look 36 = .ok (.iload_n 3, 1) := by decide +kernel
theorem dX11_look_37 : decode cX11_look 37 = .ok (.aload_n 0, 1) := by decide +kernel
theorem dX11_look_38 : decode cX11_look 38 = .ok (.getfield 66, 3) := by decide +kernel
theorem dX11_look_41 : decode cX11_look 41 = .ok (.getfield 221, 3) := by decide +kernel
theorem dX11_look_44 : decode cX11_look 44 = .ok (.aload_n 0, 1) := by decide +kernel
theorem dX11_look_45 : decode cX11_look 45 = .ok (.getfield 66, 3) := by decide +kernel
theorem dX11_look_48 : decode cX11_look 48 = .ok (.getfield 225, 3) := by decide +kernel
theorem dX11_look_51 : decode cX11_look 51 = .ok (.invokevirtual 228, 3) := by decide +kernel
theorem dX11_look_54 : decode cX11_look 54 = .ok (.aload_n 0, 1) := by decide +kernel
theorem dX11_look_55 : decode cX11_look 55 = .ok (.getfield 52, 3) := by decide +kernel
theorem dX11_look_58 : decode cX11_look 58 = .ok (.aload_n 0, 1) := by decide +kernel
theorem dX11_look_59 : decode cX11_look 59 = .ok (.getfield 10, 3) := by decide +kernel
theorem dX11_look_62 : decode cX11_look 62 = .ok (.getfield 109, 3) := by decide +kernel
theorem dX11_look_65 : decode cX11_look 65 = .ok (.iload_n 2, 1) := by decide +kernel
theorem dX11_look_66 : decode cX11_look 66 = .ok (.invokevirtual 205, 3) := by decide +kernel
theorem dX11_look_69 : decode cX11_look 69 = .ok (.aload_n 0, 1) := by decide +kernel
theorem dX11_look_70 : decode cX11_look 70 = .ok (.getfield 66, 3) := by decide +kernel
theorem dX11_look_73 : decode cX11_look 73 = .ok (.aload 4, 2) := by decide +kernel
theorem dX11_look_75 : decode cX11_look 75 = .ok (.aload_n 0, 1) := by decide +kernel
theorem dX11_look_76 : decode cX11_look 76 = .ok (.getfield 52, 3) := by decide +kernel
theorem dX11_look_79 : decode cX11_look 79 = .ok (.invokevirtual 232, 3) := by decide +kernel
theorem dX11_look_82 : decode cX11_look 82 = .ok (.aload_n 0, 1) := by decide +kernel
theorem dX11_look_83 : decode cX11_look 83 = .ok (.getfield 66, 3) := by decide +kernel
theorem dX11_look_86 : decode cX11_look 86 = .ok (.aload 4, 2) := by decide +kernel
theorem dX11_look_88 : decode cX11_look 88 = .ok (.invokevirtual 236, 3) := by decide +kernel
theorem dX11_look_91 : decode cX11_look 91 = .ok (.aload_n 0, 1) := by decide +kernel
theorem dX11_look_92 : decode cX11_look 92 = .ok (.getfield 66, 3) := by decide +kernel
theorem dX11_look_95 : decode cX11_look 95 = .ok (.invokevirtual 240, 3) := by decide +kernel
theorem dX11_look_98 : decode cX11_look 98 = .ok (.aload_n 0, 1) := by decide +kernel
theorem dX11_look_99 : decode cX11_look 99 = .ok (.getfield 66, 3) := by decide +kernel
theorem dX11_look_102 : decode cX11_look 102 = .ok (.invokevirtual 243, 3) := by decide +kernel
theorem dX11_look_105 : decode cX11_look 105 = .ok (.iconst 1, 1) := by decide +kernel
theorem dX11_look_106 : decode cX11_look 106 = .ok (.ireturn, 1) := by decide +kernel
theorem wk_15 : Cond.fieldLink RX11 10 "ThinLine" "book" "LThinLine$Book;" ∈ tl_L := List.mem_filter.mpr ⟨lw_m2 (i := 139) rfl, rfl⟩
theorem wk_19 : Cond.initialized RX8 ∈ tl_L := List.mem_filter.mpr ⟨lw_m1 (i := 6) rfl, rfl⟩
theorem wk_21 : Cond.fieldLink RX11 29 "ThinLine" "curves" "LThinLine$Texts;" ∈ tl_L := List.mem_filter.mpr ⟨lw_m2 (i := 142) rfl, rfl⟩
theorem wk_34 : Cond.fieldLink RX11 52 "ThinLine" "sums" "LThinLine$Sums;" ∈ tl_L := List.mem_filter.mpr ⟨lw_m2 (i := 146) rfl, rfl⟩
theorem wk_42 : Cond.fieldLink RX11 66 "ThinLine" "view" "LThinLine$View;" ∈ tl_L := List.mem_filter.mpr ⟨lw_m2 (i := 148) rfl, rfl⟩
theorem wk_693 : Cond.instanceMethod yX8_at ∈ tl_L := List.mem_filter.mpr ⟨lw_m4 (i := 17) rfl, rfl⟩
theorem wk_694 : Cond.selects RX8 yX8_at yX8_at ∈ tl_L := List.mem_filter.mpr ⟨lw_s3 (i := 3) (q := (yX8_at, 2)) rfl, rfl⟩
theorem wk_695 : Cond.code yX8_at cX8_at 2 (some (.object "ThinLine$Text")) ∈ tl_L := List.mem_filter.mpr ⟨lw_m4 (i := 18) rfl, rfl⟩
theorem wk_696 : Cond.instanceMethod yX5_setRow ∈ tl_L := List.mem_filter.mpr ⟨lw_m4 (i := 21) rfl, rfl⟩
theorem wk_697 : Cond.selects RX5 yX5_setRow yX5_setRow ∈ tl_L := List.mem_filter.mpr ⟨lw_s3 (i := 4) (q := (yX5_setRow, 2)) rfl, rfl⟩
theorem wk_698 : Cond.code yX5_setRow cX5_setRow 3 none ∈ tl_L := List.mem_filter.mpr ⟨lw_m4 (i := 22) rfl, rfl⟩
theorem wk_830 : Cond.instanceMethod yX0_readRow ∈ tl_L := List.mem_filter.mpr ⟨lw_m4 (i := 114) rfl, rfl⟩
theorem wk_831 : Cond.selects RX0 yX0_readRow yX0_readRow ∈ tl_L := List.mem_filter.mpr ⟨lw_s4 (i := 2) (q := (yX0_readRow, 9)) rfl, rfl⟩
theorem wk_832 : Cond.code yX0_readRow cX0_readRow 7 none ∈ tl_L := List.mem_filter.mpr ⟨lw_m4 (i := 115) rfl, rfl⟩
theorem wk_840 : Cond.instanceMethod yX10_skipBy ∈ tl_L := List.mem_filter.mpr ⟨lw_m4 (i := 126) rfl, rfl⟩
theorem wk_841 : Cond.selects RX10 yX10_skipBy yX10_skipBy ∈ tl_L := List.mem_filter.mpr ⟨lw_s4 (i := 4) (q := (yX10_skipBy, 18)) rfl, rfl⟩
theorem wk_842 : Cond.code yX10_skipBy cX10_skipBy 5 none ∈ tl_L := List.mem_filter.mpr ⟨lw_m4 (i := 127) rfl, rfl⟩
theorem wk_843 : Cond.instanceMethod yX10_frameBy ∈ tl_L := List.mem_filter.mpr ⟨lw_m4 (i := 132) rfl, rfl⟩
theorem wk_844 : Cond.selects RX10 yX10_frameBy yX10_frameBy ∈ tl_L := List.mem_filter.mpr ⟨lw_s4 (i := 5) (q := (yX10_frameBy, 18)) rfl, rfl⟩
theorem wk_845 : Cond.code yX10_frameBy cX10_frameBy 2 none ∈ tl_L := List.mem_filter.mpr ⟨lw_m4 (i := 133) rfl, rfl⟩
theorem wk_850 : Cond.instanceMethod yX10_tally ∈ tl_L := List.mem_filter.mpr ⟨lw_m4 (i := 138) rfl, rfl⟩
theorem wk_851 : Cond.selects RX10 yX10_tally yX10_tally ∈ tl_L := List.mem_filter.mpr ⟨lw_s4 (i := 6) (q := (yX10_tally, 18)) rfl, rfl⟩
theorem wk_852 : Cond.code yX10_tally cX10_tally 3 none ∈ tl_L := List.mem_filter.mpr ⟨lw_m4 (i := 139) rfl, rfl⟩
theorem nk_20 : tl_N[20]? = some (Cond.fieldLinkNest "ThinLine" 109 "ThinLine$Book" "rows" "LThinLine$Rows;" "ThinLine") := by decide +kernel
theorem nk_60 : tl_N[60]? = some (Cond.fieldLinkNest "ThinLine" 221 "ThinLine$View" "told" "[Z" "ThinLine") := by decide +kernel
theorem nk_63 : tl_N[63]? = some (Cond.fieldLinkNest "ThinLine" 225 "ThinLine$View" "seen" "[I" "ThinLine") := by decide +kernel
theorem lk_X11_122 : tl_kVN RX11 122 RX4 yX4_has "ThinLine" cX4_has 2 (some .boolean) 1 73 := ⟨wk_233, by decide +kernel, wk_231, wk_232, wk_60, ⟨by decide +kernel, by decide +kernel, by decide +kernel⟩⟩
theorem lk_X11_201 : tl_kVN RX11 201 RX8 yX8_at "ThinLine" cX8_at 2 (some (.object "ThinLine$Text")) 1 93 := ⟨wk_695, by decide +kernel, wk_693, wk_694, wk_19, ⟨by decide +kernel, by decide +kernel, by decide +kernel⟩⟩
theorem lk_X11_205 : tl_kVN RX11 205 RX5 yX5_setRow "ThinLine" cX5_setRow 3 none 2 94 := ⟨wk_698, by decide +kernel, wk_696, wk_697, wk_33, ⟨by decide +kernel, by decide +kernel, by decide +kernel⟩⟩
theorem lk_X11_228 : tl_kVN RX11 228 RX0 yX0_readRow "ThinLine" cX0_readRow 7 none 4 107 := ⟨wk_832, by decide +kernel, wk_830, wk_831, wk_14, ⟨by decide +kernel, by decide +kernel, by decide +kernel⟩⟩
theorem lk_X11_232 : tl_kVN RX11 232 RX10 yX10_skipBy "ThinLine" cX10_skipBy 5 none 2 109 := ⟨wk_842, by decide +kernel, wk_840, wk_841, wk_41, ⟨by decide +kernel, by decide +kernel, by decide +kernel⟩⟩
theorem lk_X11_236 : tl_kVN RX11 236 RX10 yX10_frameBy "ThinLine" cX10_frameBy 2 none 1 112 := ⟨wk_845, by decide +kernel, wk_843, wk_844, wk_41, ⟨by decide +kernel, by decide +kernel, by decide +kernel⟩⟩
theorem lk_X11_240 : tl_kVN RX11 240 RX10 yX10_tally "ThinLine" cX10_tally 3 none 0 115 := ⟨wk_852, by decide +kernel, wk_850, wk_851, wk_41, ⟨by decide +kernel, by decide +kernel, by decide +kernel⟩⟩
theorem lk_X11_243 : tl_kVN RX11 243 RX10 yX10_lay "ThinLine" cX10_lay 1 none 0 116 := ⟨wk_855, by decide +kernel, wk_853, wk_854, wk_41, ⟨by decide +kernel, by decide +kernel, by decide +kernel⟩⟩
theorem dX11_curve_0 : decode cX11_curve 0 = .ok (.iload_n 3, 1) := by decide +kernel
theorem dX11_curve_1 : decode cX11_curve 1 = .ok (.invokestatic 125, 3) := by decide +kernel
theorem dX11_curve_4 : decode cX11_curve 4 = .ok (.ifCond .eq 23, 3) := by decide +kernel
theorem dX11_curve_7 : decode cX11_curve 7 = .ok (.iload 4, 2) := by decide +kernel
theorem dX11_curve_9 : decode cX11_curve 9 = .ok (.iconst 0, 1) := by decide +kernel
theorem dX11_curve_10 : decode cX11_curve 10 = .ok (.iconst 2, 1) := by decide +kernel
theorem dX11_curve_11 : decode cX11_curve 11 = .ok (.invokestatic 105, 3) := by decide +kernel
theorem dX11_curve_14 : decode cX11_curve 14 = .ok (.ifCond .eq 13, 3) := by decide +kernel
theorem dX11_curve_17 : decode cX11_curve 17 = .ok (.aload_n 0, 1) := by decide +kernel
theorem dX11_curve_18 : decode cX11_curve 18 = .ok (.iload_n 1, 1) := by decide +kernel
theorem dX11_curve_19 : decode cX11_curve 19 = .ok (.iload_n 2, 1) := by decide +kernel
theorem dX11_curve_20 : decode cX11_curve 20 = .ok (.iconst (-1), 1) := by decide +kernel
theorem dX11_curve_21 : decode cX11_curve 21 = .ok (.invokevirtual 246, 3) := by decide +kernel
theorem dX11_curve_24 : decode cX11_curve 24 = .ok (.ifCond .ne 6, 3) := by decide +kernel
theorem dX11_curve_27 : decode cX11_curve 27 = .ok (.ldc 128, 2) := by decide +kernel
theorem dX11_curve_29 : decode cX11_curve 29 = .ok (.ireturn, 1) := by decide +kernel
theorem dX11_curve_30 : decode cX11_curve 30 = .ok (.iload 4, 2) := by decide +kernel
theorem dX11_curve_32 : decode cX11_curve 32 = .ok (.ifCond .ne 20, 3) := by decide +kernel
theorem dX11_curve_35 : decode cX11_curve 35 = .ok (.aload_n 0, 1) := by decide +kernel
theorem dX11_curve_36 : decode cX11_curve 36 = .ok (.getfield 66, 3) := by decide +kernel
theorem dX11_curve_39 : decode cX11_curve 39 = .ok (.iload_n 3, 1) := by decide +kernel
theorem dX11_curve_40 : decode cX11_curve 40 = .ok (.invokevirtual 249, 3) := by decide +kernel
theorem dX11_curve_43 : decode cX11_curve 43 = .ok (.ifCond .eq 7, 3) := by decide +kernel
theorem dX11_curve_46 : decode cX11_curve 46 = .ok (.iconst 1, 1) := by decide +kernel
theorem dX11_curve_47 : decode cX11_curve 47 = .ok (.goto 4, 3) := by decide +kernel
theorem dX11_curve_50 : decode cX11_curve 50 = .ok (.iconst 0, 1) := by decide +kernel
theorem dX11_curve_51 : decode cX11_curve 51 = .ok (.ireturn, 1) := by decide +kernel
theorem dX11_curve_52 : decode cX11_curve 52 = .ok (.aload_n 0, 1) := by decide +kernel
theorem dX11_curve_53 : decode cX11_curve 53 = .ok (.getfield 66, 3) := by decide +kernel
theorem dX11_curve_56 : decode cX11_curve 56 = .ok (.invokevirtual 252, 3) := by decide +kernel
theorem dX11_curve_59 : decode cX11_curve 59 = .ok (.ifCond .eq 21, 3) := by decide +kernel
theorem dX11_curve_62 : decode cX11_curve 62 = .ok (.iload 4, 2) := by decide +kernel
theorem dX11_curve_64 : decode cX11_curve 64 = .ok (.iconst 2, 1) := by decide +kernel
theorem dX11_curve_65 : decode cX11_curve 65 = .ok (.if_icmp .ne 18, 3) := by decide +kernel
theorem dX11_curve_68 : decode cX11_curve 68 = .ok (.aload_n 0, 1) := by decide +kernel
theorem dX11_curve_69 : decode cX11_curve 69 = .ok (.getfield 66, 3) := by decide +kernel
theorem dX11_curve_72 : decode cX11_curve 72 = .ok (.getfield 221, 3) := by decide +kernel
theorem dX11_curve_75 : decode cX11_curve 75 = .ok (.iload_n 3, 1) := by decide +kernel
theorem dX11_curve_76 : decode cX11_curve 76 = .ok (.baload, 1) := by decide +kernel
theorem dX11_curve_77 : decode cX11_curve 77 = .ok (.ifCond .ne 6, 3) := by decide +kernel
theorem dX11_curve_80 : decode cX11_curve 80 = .ok (.ldc 119, 2) := by decide +kernel
theorem dX11_curve_82 : decode cX11_curve 82 = .ok (.ireturn, 1) := by decide +kernel
theorem dX11_curve_83 : decode cX11_curve 83 = .ok (.iload 4, 2) := by decide +kernel
theorem dX11_curve_85 : decode cX11_curve 85 = .ok (.iconst 1, 1) := by decide +kernel
theorem dX11_curve_86 : decode cX11_curve 86 = .ok (.if_icmp .ne 15, 3) := by decide +kernel
theorem dX11_curve_89 : decode cX11_curve 89 = .ok (.aload_n 0, 1) := by decide +kernel
theorem dX11_curve_90 : decode cX11_curve 90 = .ok (.getfield 66, 3) := by decide +kernel
theorem dX11_curve_93 : decode cX11_curve 93 = .ok (.getfield 255, 3) := by decide +kernel
theorem dX11_curve_96 : decode cX11_curve 96 = .ok (.iload_n 3, 1) := by decide +kernel
theorem dX11_curve_97 : decode cX11_curve 97 = .ok (.iaload, 1) := by decide +kernel
theorem dX11_curve_98 : decode cX11_curve 98 = .ok (.goto 11, 3) := by decide +kernel
theorem dX11_curve_101 : decode cX11_curve 101 = .ok (.aload_n 0, 1) := by decide +kernel
theorem dX11_curve_102 : decode cX11_curve 102 = .ok (.getfield 66, 3) := by decide +kernel
theorem dX11_curve_105 : decode cX11_curve 105 = .ok (.iload_n 3, 1) := by decide +kernel
theorem dX11_curve_106 : decode cX11_curve 106 = .ok (.invokevirtual 258, 3) := by decide +kernel
theorem dX11_curve_109 : decode cX11_curve 109 = .ok (.ireturn, 1) := by decide +kernel
theorem wk_227 : Cond.constant RX11 119 (-1000000) ∈ tl_L := List.mem_filter.mpr ⟨lw_m2 (i := 217) rfl, rfl⟩
theorem wk_230 : Cond.constant RX11 128 (-2000000) ∈ tl_L := List.mem_filter.mpr ⟨lw_m2 (i := 227) rfl, rfl⟩
theorem wk_826 : Cond.methodLink RX11 246 yX11_look ∈ tl_L := List.mem_filter.mpr ⟨lw_m4 (i := 108) rfl, rfl⟩
theorem wk_827 : Cond.instanceMethod yX11_look ∈ tl_L := List.mem_filter.mpr ⟨lw_m4 (i := 110) rfl, rfl⟩
theorem wk_828 : Cond.selects RX11 yX11_look yX11_look ∈ tl_L := List.mem_filter.mpr ⟨lw_s4 (i := 1) (q := (yX11_look, 16)) rfl, rfl⟩
theorem wk_829 : Cond.code yX11_look cX11_look 5 (some .boolean) ∈ tl_L := List.mem_filter.mpr ⟨lw_m4 (i := 111) rfl, rfl⟩
theorem wk_890 : Cond.instanceMethod yX10_isUsed ∈ tl_L := List.mem_filter.mpr ⟨lw_m4 (i := 174) rfl, rfl⟩
theorem wk_891 : Cond.selects RX10 yX10_isUsed yX10_isUsed ∈ tl_L := List.mem_filter.mpr ⟨lw_s4 (i := 13) (q := (yX10_isUsed, 18)) rfl, rfl⟩
theorem wk_892 : Cond.code yX10_isUsed cX10_isUsed 2 (some .boolean) ∈ tl_L := List.mem_filter.mpr ⟨lw_m4 (i := 175) rfl, rfl⟩
theorem wk_893 : Cond.instanceMethod yX10_isLaid ∈ tl_L := List.mem_filter.mpr ⟨lw_m4 (i := 179) rfl, rfl⟩
theorem wk_894 : Cond.selects RX10 yX10_isLaid yX10_isLaid ∈ tl_L := List.mem_filter.mpr ⟨lw_s4 (i := 14) (q := (yX10_isLaid, 18)) rfl, rfl⟩
theorem wk_895 : Cond.code yX10_isLaid cX10_isLaid 1 (some .boolean) ∈ tl_L := List.mem_filter.mpr ⟨lw_m4 (i := 180) rfl, rfl⟩
theorem wk_896 : Cond.instanceMethod yX10_leftAt ∈ tl_L := List.mem_filter.mpr ⟨lw_m4 (i := 183) rfl, rfl⟩
theorem wk_897 : Cond.selects RX10 yX10_leftAt yX10_leftAt ∈ tl_L := List.mem_filter.mpr ⟨lw_s4 (i := 15) (q := (yX10_leftAt, 18)) rfl, rfl⟩
theorem wk_898 : Cond.code yX10_leftAt cX10_leftAt 2 (some .int) ∈ tl_L := List.mem_filter.mpr ⟨lw_m4 (i := 184) rfl, rfl⟩
theorem nk_65 : tl_N[65]? = some (Cond.fieldLinkNest "ThinLine" 255 "ThinLine$View" "height" "[I" "ThinLine") := by decide +kernel
theorem lk_X11_246 : tl_kV RX11 246 RX11 yX11_look cX11_look 5 (some .boolean) 3 := ⟨wk_829, wk_826, wk_827, wk_828, wk_2, ⟨by decide +kernel, by decide +kernel, by decide +kernel⟩⟩
theorem lk_X11_249 : tl_kVN RX11 249 RX10 yX10_isUsed "ThinLine" cX10_isUsed 2 (some .boolean) 1 117 := ⟨wk_892, by decide +kernel, wk_890, wk_891, wk_41, ⟨by decide +kernel, by decide +kernel, by decide +kernel⟩⟩
theorem lk_X11_252 : tl_kVN RX11 252 RX10 yX10_isLaid "ThinLine" cX10_isLaid 1 (some .boolean) 0 119 := ⟨wk_895, by decide +kernel, wk_893, wk_894, wk_41, ⟨by decide +kernel, by decide +kernel, by decide +kernel⟩⟩
theorem lk_X11_258 : tl_kVN RX11 258 RX10 yX10_leftAt "ThinLine" cX10_leftAt 2 (some .int) 1 120 := ⟨wk_898, by decide +kernel, wk_896, wk_897, wk_41, ⟨by decide +kernel, by decide +kernel, by decide +kernel⟩⟩
theorem dX11_deep_0 : decode cX11_deep 0 = .ok (.iload_n 3, 1) := by decide +kernel
theorem dX11_deep_1 : decode cX11_deep 1 = .ok (.iconst 0, 1) := by decide +kernel
theorem dX11_deep_2 : decode cX11_deep 2 = .ok (.iconst 4, 1) := by decide +kernel
theorem dX11_deep_3 : decode cX11_deep 3 = .ok (.invokestatic 105, 3) := by decide +kernel
theorem dX11_deep_6 : decode cX11_deep 6 = .ok (.ifCond .eq 13, 3) := by decide +kernel
theorem dX11_deep_9 : decode cX11_deep 9 = .ok (.aload_n 0, 1) := by decide +kernel
theorem dX11_deep_10 : decode cX11_deep 10 = .ok (.iload_n 1, 1) := by decide +kernel
theorem dX11_deep_11 : decode cX11_deep 11 = .ok (.iload_n 2, 1) := by decide +kernel
theorem dX11_deep_12 : decode cX11_deep 12 = .ok (.iconst (-1), 1) := by decide +kernel
theorem dX11_deep_13 : decode cX11_deep 13 = .ok (.invokevirtual 246, 3) := by decide +kernel
theorem dX11_deep_16 : decode cX11_deep 16 = .ok (.ifCond .ne 7, 3) := by decide +kernel
theorem dX11_deep_19 : decode cX11_deep 19 = .ok (.ldc2_w 262, 3) := by decide +kernel
theorem dX11_deep_22 : decode cX11_deep 22 = .ok (.lreturn, 1) := by decide +kernel
theorem dX11_deep_23 : decode cX11_deep 23 = .ok (.iload_n 3, 1) := by decide +kernel
theorem dX11_deep_24 : decode cX11_deep 24 = .ok (.tableswitch 82 0 3 #[32, 41, 65, 73], 32) := by decide +kernel
theorem dX11_deep_56 : decode cX11_deep 56 = .ok (.aload_n 0, 1) := by decide +kernel
theorem dX11_deep_57 : decode cX11_deep 57 = .ok (.getfield 66, 3) := by decide +kernel
theorem dX11_deep_60 : decode cX11_deep 60 = .ok (.invokevirtual 264, 3) := by decide +kernel
theorem dX11_deep_63 : decode cX11_deep 63 = .ok (.i2l, 1) := by decide +kernel
theorem dX11_deep_64 : decode cX11_deep 64 = .ok (.lreturn, 1) := by decide +kernel
theorem dX11_deep_65 : decode cX11_deep 65 = .ok (.aload_n 0, 1) := by decide +kernel
theorem dX11_deep_66 : decode cX11_deep 66 = .ok (.getfield 66, 3) := by decide +kernel
theorem dX11_deep_69 : decode cX11_deep 69 = .ok (.invokevirtual 252, 3) := by decide +kernel
theorem dX11_deep_72 : decode cX11_deep 72 = .ok (.ifCond .eq 13, 3) := by decide +kernel
theorem dX11_deep_75 : decode cX11_deep 75 = .ok (.aload_n 0, 1) := by decide +kernel
theorem dX11_deep_76 : decode cX11_deep 76 = .ok (.getfield 66, 3) := by decide +kernel
theorem dX11_deep_79 : decode cX11_deep 79 = .ok (.invokevirtual 268, 3) := by decide +kernel
theorem dX11_deep_82 : decode cX11_deep 82 = .ok (.goto 6, 3) := by decide +kernel
theorem dX11_deep_85 : decode cX11_deep 85 = .ok (.ldc2_w 272, 3) := by decide +kernel
theorem dX11_deep_88 : decode cX11_deep 88 = .ok (.lreturn, 1) := by decide +kernel
theorem dX11_deep_89 : decode cX11_deep 89 = .ok (.aload_n 0, 1) := by decide +kernel
theorem dX11_deep_90 : decode cX11_deep 90 = .ok (.getfield 66, 3) := by decide +kernel
theorem dX11_deep_93 : decode cX11_deep 93 = .ok (.invokevirtual 274, 3) := by decide +kernel
theorem dX11_deep_96 : decode cX11_deep 96 = .ok (.lreturn, 1) := by decide +kernel
theorem dX11_deep_97 : decode cX11_deep 97 = .ok (.aload_n 0, 1) := by decide +kernel
theorem dX11_deep_98 : decode cX11_deep 98 = .ok (.getfield 66, 3) := by decide +kernel
theorem dX11_deep_101 : decode cX11_deep 101 = .ok (.getfield 277, 3) := by decide +kernel
theorem dX11_deep_104 : decode cX11_deep 104 = .ok (.i2l, 1) := by decide +kernel
theorem dX11_deep_105 : decode cX11_deep 105 = .ok (.lreturn, 1) := by decide +kernel
theorem dX11_deep_106 : decode cX11_deep 106 = .ok (.aload_n 0, 1) := by decide +kernel
theorem dX11_deep_107 : decode cX11_deep 107 = .ok (.getfield 66, 3) := by decide +kernel
theorem dX11_deep_110 : decode cX11_deep 110 = .ok (.getfield 280, 3) := by decide +kernel
theorem dX11_deep_113 : decode cX11_deep 113 = .ok (.i2l, 1) := by decide +kernel
theorem dX11_deep_114 : decode cX11_deep 114 = .ok (.lreturn, 1) := by decide +kernel
theorem wk_961 : Cond.constantLong RX11 262 (-2000000000) ∈ tl_L := List.mem_filter.mpr ⟨lw_m4 (i := 189) rfl, rfl⟩
theorem wk_962 : Cond.constantLong RX11 272 (-1) ∈ tl_L := List.mem_filter.mpr ⟨lw_m4 (i := 207) rfl, rfl⟩
theorem nk_68 : tl_N[68]? = some (Cond.fieldLinkNest "ThinLine" 277 "ThinLine$View" "knots" "I" "ThinLine") := by decide +kernel
theorem nk_70 : tl_N[70]? = some (Cond.fieldLinkNest "ThinLine" 280 "ThinLine$View" "usedCount" "I" "ThinLine") := by decide +kernel
theorem lk_X11_264 : tl_kVN RX11 264 RX10 yX10_deepness "ThinLine" cX10_deepness 1 (some .int) 0 121 := ⟨wk_965, by decide +kernel, wk_963, wk_964, wk_41, ⟨by decide +kernel, by decide +kernel, by decide +kernel⟩⟩
theorem lk_X11_268 : tl_kVN RX11 268 RX10 yX10_noisiness "ThinLine" cX10_noisiness 2 (some .long) 0 122 := ⟨wk_976, by decide +kernel, wk_974, wk_975, wk_41, ⟨by decide +kernel, by decide +kernel, by decide +kernel⟩⟩
theorem lk_X11_274 : tl_kVN RX11 274 RX10 yX10_scored "ThinLine" cX10_scored 1 (some .long) 0 123 := ⟨wk_980, by decide +kernel, wk_978, wk_979, wk_41, ⟨by decide +kernel, by decide +kernel, by decide +kernel⟩⟩
theorem dX11_moved_0 : decode cX11_moved 0 = .ok (.aload_n 0, 1) := by decide +kernel
theorem dX11_moved_1 : decode cX11_moved 1 = .ok (.iload_n 1, 1) := by decide +kernel
theorem dX11_moved_2 : decode cX11_moved 2 = .ok (.iload_n 2, 1) := by decide +kernel
theorem dX11_moved_3 : decode cX11_moved 3 = .ok (.iconst (-1), 1) := by decide +kernel
theorem dX11_moved_4 : decode cX11_moved 4 = .ok (.invokevirtual 246, 3) := by decide +kernel
theorem dX11_moved_7 : decode cX11_moved 7 = .ok (.ifCond .eq 22, 3) := by decide +kernel
theorem dX11_moved_10 : decode cX11_moved 10 = .ok (.iload_n 3, 1) := by decide +kernel
theorem dX11_moved_11 : decode cX11_moved 11 = .ok (.iconst 0, 1) := by decide +kernel
theorem dX11_moved_12 : decode cX11_moved 12 = .ok (.sipush 300, 3) := by decide +kernel
theorem dX11_moved_15 : decode cX11_moved 15 = .ok (.aload_n 0, 1) := by decide +kernel
theorem dX11_moved_16 : decode cX11_moved 16 = .ok (.getfield 66, 3) := by decide +kernel
theorem dX11_moved_19 : decode cX11_moved 19 = .ok (.invokevirtual 283, 3) := by decide +kernel
theorem dX11_moved_22 : decode cX11_moved 22 = .ok (.isub, 1) := by decide +kernel
theorem dX11_moved_23 : decode cX11_moved 23 = .ok (.invokestatic 105, 3) := by decide +kernel
theorem dX11_moved_26 : decode cX11_moved 26 = .ok (.ifCond .ne 7, 3) := by decide +kernel
theorem dX11_moved_29 : decode cX11_moved 29 = .ok (.ldc2_w 262, 3) := by decide +kernel
theorem dX11_moved_32 : decode cX11_moved 32 = .ok (.lreturn, 1) := by decide +kernel
theorem dX11_moved_33 : decode cX11_moved 33 = .ok (.aload_n 0, 1) := by decide +kernel
theorem dX11_moved_34 : decode cX11_moved 34 = .ok (.getfield 66, 3) := by decide +kernel
theorem dX11_moved_37 : decode cX11_moved 37 = .ok (.iload_n 3, 1) := by decide +kernel
theorem dX11_moved_38 : decode cX11_moved 38 = .ok (.invokevirtual 286, 3) := by decide +kernel
theorem dX11_moved_41 : decode cX11_moved 41 = .ok (.aload_n 0, 1) := by decide +kernel
theorem dX11_moved_42 : decode cX11_moved 42 = .ok (.getfield 66, 3) := by decide +kernel
theorem dX11_moved_45 : decode cX11_moved 45 = .ok (.invokevirtual 274, 3) := by decide +kernel
theorem dX11_moved_48 : decode cX11_moved 48 = .ok (.lreturn, 1) := by decide +kernel
theorem wk_996 : Cond.instanceMethod yX10_gapLength ∈ tl_L := List.mem_filter.mpr ⟨lw_m4 (i := 222) rfl, rfl⟩
theorem wk_997 : Cond.selects RX10 yX10_gapLength yX10_gapLength ∈ tl_L := List.mem_filter.mpr ⟨lw_s5 (i := 4) (q := (yX10_gapLength, 18)) rfl, rfl⟩
theorem wk_998 : Cond.code yX10_gapLength cX10_gapLength 1 (some .int) ∈ tl_L := List.mem_filter.mpr ⟨lw_m4 (i := 223) rfl, rfl⟩
theorem wk_999 : Cond.instanceMethod yX10_moveTo ∈ tl_L := List.mem_filter.mpr ⟨lw_m4 (i := 226) rfl, rfl⟩
theorem wk_1000 : Cond.selects RX10 yX10_moveTo yX10_moveTo ∈ tl_L := List.mem_filter.mpr ⟨lw_s5 (i := 5) (q := (yX10_moveTo, 18)) rfl, rfl⟩
theorem wk_1001 : Cond.code yX10_moveTo cX10_moveTo 2 none ∈ tl_L := List.mem_filter.mpr ⟨lw_m4 (i := 227) rfl, rfl⟩
theorem lk_X11_283 : tl_kVN RX11 283 RX10 yX10_gapLength "ThinLine" cX10_gapLength 1 (some .int) 0 124 := ⟨wk_998, by decide +kernel, wk_996, wk_997, wk_41, ⟨by decide +kernel, by decide +kernel, by decide +kernel⟩⟩
theorem lk_X11_286 : tl_kVN RX11 286 RX10 yX10_moveTo "ThinLine" cX10_moveTo 2 none 1 125 := ⟨wk_1001, by decide +kernel, wk_999, wk_1000, wk_41, ⟨by decide +kernel, by decide +kernel, by decide +kernel⟩⟩
theorem dX11_elsewhere_0 : decode cX11_elsewhere 0 = .ok (.iload_n 3, 1) := by decide +kernel
theorem dX11_elsewhere_1 : decode cX11_elsewhere 1 = .ok (.iconst 0, 1) := by decide +kernel
theorem dX11_elsewhere_2 : decode cX11_elsewhere 2 = .ok (.iconst 1, 1) := by decide +kernel
theorem dX11_elsewhere_3 : decode cX11_elsewhere 3 = .ok (.invokestatic 105, 3) := by decide +kernel
theorem dX11_elsewhere_6 : decode cX11_elsewhere 6 = .ok (.ifCond .eq 13, 3) := by decide +kernel
theorem dX11_elsewhere_9 : decode cX11_elsewhere 9 = .ok (.aload_n 0, 1) := by decide +kernel
theorem dX11_elsewhere_10 : decode cX11_elsewhere 10 = .ok (.iload_n 1, 1) := by decide +kernel
theorem dX11_elsewhere_11 : decode cX11_elsewhere 11 = .ok (.iload_n 2, 1) := by decide +kernel
theorem dX11_elsewhere_12 : decode cX11_elsewhere 12 = .ok (.iconst (-1), 1) := by decide +kernel
theorem dX11_elsewhere_13 : decode cX11_elsewhere 13 = .ok (.invokevirtual 246, 3) := by decide +kernel
theorem dX11_elsewhere_16 : decode cX11_elsewhere 16 = .ok (.ifCond .ne 5, 3) := by decide +kernel
theorem dX11_elsewhere_19 : decode cX11_elsewhere 19 = .ok (.iconst (-1), 1) := by decide +kernel
theorem dX11_elsewhere_20 : decode cX11_elsewhere 20 = .ok (.ireturn, 1) := by decide +kernel
theorem dX11_elsewhere_21 : decode cX11_elsewhere 21 = .ok (.aload_n 0, 1) := by decide +kernel
theorem dX11_elsewhere_22 : decode cX11_elsewhere 22 = .ok (.getfield 66, 3) := by decide +kernel
theorem dX11_elsewhere_25 : decode cX11_elsewhere 25 = .ok (.invokevirtual 289, 3) := by decide +kernel
theorem dX11_elsewhere_28 : decode cX11_elsewhere 28 = .ok (.ifCond .ne 6, 3) := by decide +kernel
theorem dX11_elsewhere_31 : decode cX11_elsewhere 31 = .ok (.bipush (-2), 2) := by decide +kernel
theorem dX11_elsewhere_33 : decode cX11_elsewhere 33 = .ok (.ireturn, 1) := by decide +kernel
theorem dX11_elsewhere_34 : decode cX11_elsewhere 34 = .ok (.aload_n 0, 1) := by decide +kernel
theorem dX11_elsewhere_35 : decode cX11_elsewhere 35 = .ok (.getfield 66, 3) := by decide +kernel
theorem dX11_elsewhere_38 : decode cX11_elsewhere 38 = .ok (.invokevirtual 274, 3) := by decide +kernel
theorem dX11_elsewhere_41 : decode cX11_elsewhere 41 = .ok (.lstore 4, 2) := by decide +kernel
theorem dX11_elsewhere_43 : decode cX11_elsewhere 43 = .ok (.aload_n 0, 1) := by decide +kernel
theorem dX11_elsewhere_44 : decode cX11_elsewhere 44 = .ok (.getfield 66, 3) := by decide +kernel
theorem dX11_elsewhere_47 : decode cX11_elsewhere 47 = .ok (.getfield 292, 3) := by decide +kernel
theorem dX11_elsewhere_50 : decode cX11_elsewhere 50 = .ok (.istore 6, 2) := by decide +kernel
theorem dX11_elsewhere_52 : decode cX11_elsewhere 52 = .ok (.aload_n 0, 1) := by decide +kernel
theorem dX11_elsewhere_53 : decode cX11_elsewhere 53 = .ok (.getfield 66, 3) := by decide +kernel
theorem dX11_elsewhere_56 : decode cX11_elsewhere 56 = .ok (.invokevirtual 283, 3) := by decide +kernel
theorem dX11_elsewhere_59 : decode cX11_elsewhere 59 = .ok (.istore 7, 2) := by decide +kernel
theorem dX11_elsewhere_61 : decode cX11_elsewhere 61 = .ok (.iconst 0, 1) := by decide +kernel
theorem dX11_elsewhere_62 : decode cX11_elsewhere 62 = .ok (.istore 8, 2) := by decide +kernel
theorem dX11_elsewhere_64 : decode cX11_elsewhere 64 = .ok (.iconst 0, 1) := by decide +kernel
theorem dX11_elsewhere_65 : decode cX11_elsewhere 65 = .ok (.istore 9, 2) := by decide +kernel
theorem dX11_elsewhere_67 : decode cX11_elsewhere 67 = .ok (.iconst 0, 1) := by decide +kernel
theorem dX11_elsewhere_68 : decode cX11_elsewhere 68 = .ok (.istore 10, 2) := by decide +kernel
theorem dX11_elsewhere_70 : decode cX11_elsewhere 70 = .ok (.iload 10, 2) := by decide +kernel
theorem dX11_elsewhere_72 : decode cX11_elsewhere 72 = .ok (.sipush 300, 3) := by decide +kernel
theorem dX11_elsewhere_75 : decode cX11_elsewhere 75 = .ok (.iload 7, 2) := by decide +kernel
theorem dX11_elsewhere_77 : decode cX11_elsewhere 77 = .ok (.isub, 1) := by decide +kernel
theorem dX11_elsewhere_78 : decode cX11_elsewhere 78 = .ok (.if_icmp .gt 73, 3) := by decide +kernel
theorem dX11_elsewhere_81 : decode cX11_elsewhere 81 = .ok (.iload 10, 2) := by decide +kernel
theorem dX11_elsewhere_83 : decode cX11_elsewhere 83 = .ok (.iload 6, 2) := by decide +kernel
theorem dX11_elsewhere_85 : decode cX11_elsewhere 85 = .ok (.isub, 1) := by decide +kernel
theorem dX11_elsewhere_86 : decode cX11_elsewhere 86 = .ok (.invokestatic 295, 3) := by decide +kernel
theorem dX11_elsewhere_89 : decode cX11_elsewhere 89 = .ok (.iload 7, 2) := by decide +kernel
theorem dX11_elsewhere_91 : decode cX11_elsewhere 91 = .ok (.if_icmp .lt 54, 3) := by decide +kernel
theorem dX11_elsewhere_94 : decode cX11_elsewhere 94 = .ok (.aload_n 0, 1) := by decide +kernel
theorem dX11_elsewhere_95 : decode cX11_elsewhere 95 = .ok (.getfield 66, 3) := by decide +kernel
theorem dX11_elsewhere_98 : decode cX11_elsewhere 98 = .ok (.iload 10, 2) := by decide +kernel
theorem dX11_elsewhere_100 : decode cX11_elsewhere 100 = .ok (.invokevirtual 286, 3) := by decide +kernel
theorem dX11_elsewhere_103 : decode cX11_elsewhere 103 = .ok (.iload 8, 2) := by decide +kernel
theorem dX11_elsewhere_105 : decode cX11_elsewhere 105 = .ok (.aload_n 0, 1) := by decide +kernel
theorem dX11_elsewhere_106 : decode cX11_elsewhere 106 = .ok (.getfield 66, 3) := by decide +kernel
theorem dX11_elsewhere_109 : decode cX11_elsewhere 109 = .ok (.invokevirtual 289, 3) := by decide +kernel
theorem dX11_elsewhere_112 : decode cX11_elsewhere 112 = .ok (.ifCond .eq 7, 3) := by decide +kernel
theorem dX11_elsewhere_115 : decode cX11_elsewhere 115 = .ok (.iconst 1, 1) := by decide +kernel
theorem dX11_elsewhere_116 : decode cX11_elsewhere 116 = .ok (.goto 4, 3) := by decide +kernel
theorem dX11_elsewhere_119 : decode cX11_elsewhere 119 = .ok (.iconst 0, 1) := by decide +kernel
theorem dX11_elsewhere_120 : decode cX11_elsewhere 120 = .ok (.iadd, 1) := by decide +kernel
theorem dX11_elsewhere_121 : decode cX11_elsewhere 121 = .ok (.istore 8, 2) := by decide +kernel
theorem dX11_elsewhere_123 : decode cX11_elsewhere 123 = .ok (.iload 9, 2) := by decide +kernel
theorem dX11_elsewhere_125 : decode cX11_elsewhere 125 = .ok (.aload_n 0, 1) := by decide +kernel
theorem dX11_elsewhere_126 : decode cX11_elsewhere 126 = .ok (.getfield 66, 3) := by decide +kernel
theorem dX11_elsewhere_129 : decode cX11_elsewhere 129 = .ok (.lload 4, 2) := by decide +kernel
theorem dX11_elsewhere_131 : decode cX11_elsewhere 131 = .ok (.invokevirtual 300, 3) := by decide +kernel
theorem dX11_elsewhere_134 : decode cX11_elsewhere 134 = .ok (.ifCond .eq 7, 3) := by decide +kernel
theorem dX11_elsewhere_137 : decode cX11_elsewhere 137 = .ok (.iconst 1, 1) := by decide +kernel
theorem dX11_elsewhere_138 : decode cX11_elsewhere 138 = .ok (.goto 4, 3) := by decide +kernel
theorem dX11_elsewhere_141 : decode cX11_elsewhere 141 = .ok (.iconst 0, 1) := by decide +kernel
theorem dX11_elsewhere_142 : decode cX11_elsewhere 142 = .ok (.iadd, 1) := by decide +kernel
theorem dX11_elsewhere_143 : decode cX11_elsewhere 143 = .ok (.istore 9, 2) := by decide +kernel
theorem dX11_elsewhere_145 : decode cX11_elsewhere 145 = .ok (.iinc 10 1, 3) := by decide +kernel
theorem dX11_elsewhere_148 : decode cX11_elsewhere 148 = .ok (.goto (-78), 3) := by decide +kernel
theorem dX11_elsewhere_151 : decode cX11_elsewhere 151 = .ok (.iload_n 3, 1) := by decide +kernel
theorem dX11_elsewhere_152 : decode cX11_elsewhere 152 = .ok (.ifCond .ne 8, 3) := by decide +kernel
theorem dX11_elsewhere_155 : decode cX11_elsewhere 155 = .ok (.iload 8, 2) := by decide +kernel
theorem dX11_elsewhere_157 : decode cX11_elsewhere 157 = .ok (.goto 5, 3) := by decide +kernel
theorem dX11_elsewhere_160 : decode cX11_elsewhere 160 = .ok (.iload 9, 2) := by decide +kernel
theorem dX11_elsewhere_162 : decode cX11_elsewhere 162 = .ok (.ireturn, 1) := by decide +kernel
theorem wk_1019 : Cond.methodLink RX11 295 Lib.Math.abs.name ∈ tl_L := List.mem_filter.mpr ⟨by decide +kernel, rfl⟩
theorem wk_1020 : Cond.instanceMethod yX10_isNotBelow ∈ tl_L := List.mem_filter.mpr ⟨lw_m4 (i := 237) rfl, rfl⟩
theorem wk_1021 : Cond.selects RX10 yX10_isNotBelow yX10_isNotBelow ∈ tl_L := List.mem_filter.mpr ⟨lw_s5 (i := 6) (q := (yX10_isNotBelow, 18)) rfl, rfl⟩
theorem wk_1022 : Cond.code yX10_isNotBelow cX10_isNotBelow 3 (some .boolean) ∈ tl_L := List.mem_filter.mpr ⟨lw_m4 (i := 238) rfl, rfl⟩
theorem nk_66 : tl_N[66]? = some (Cond.fieldLinkNest "ThinLine" 292 "ThinLine$View" "gapFrom" "I" "ThinLine") := by decide +kernel
theorem lk_X11_289 : tl_kVN RX11 289 RX10 yX10_hasDeep "ThinLine" cX10_hasDeep 1 (some .boolean) 0 126 := ⟨wk_970, by decide +kernel, wk_968, wk_969, wk_41, ⟨by decide +kernel, by decide +kernel, by decide +kernel⟩⟩
theorem lk_X11_300 : tl_kVN RX11 300 RX10 yX10_isNotBelow "ThinLine" cX10_isNotBelow 3 (some .boolean) 1 127 := ⟨wk_1022, by decide +kernel, wk_1020, wk_1021, wk_41, ⟨by decide +kernel, by decide +kernel, by decide +kernel⟩⟩
theorem dX11_deepest_0 : decode cX11_deepest 0 = .ok (.iload_n 3, 1) := by decide +kernel
theorem dX11_deepest_1 : decode cX11_deepest 1 = .ok (.iconst 0, 1) := by decide +kernel
theorem dX11_deepest_2 : decode cX11_deepest 2 = .ok (.iconst 1, 1) := by decide +kernel
theorem dX11_deepest_3 : decode cX11_deepest 3 = .ok (.invokestatic 105, 3) := by decide +kernel
theorem dX11_deepest_6 : decode cX11_deepest 6 = .ok (.ifCond .eq 13, 3) := by decide +kernel
theorem dX11_deepest_9 : decode cX11_deepest 9 = .ok (.aload_n 0, 1) := by decide +kernel
theorem dX11_deepest_10 : decode cX11_deepest 10 = .ok (.iload_n 1, 1) := by decide +kernel
theorem dX11_deepest_11 : decode cX11_deepest 11 = .ok (.iload_n 2, 1) := by decide +kernel
theorem dX11_deepest_12 : decode cX11_deepest 12 = .ok (.iconst (-1), 1) := by decide +kernel
theorem dX11_deepest_13 : decode cX11_deepest 13 = .ok (.invokevirtual 246, 3) := by decide +kernel
theorem dX11_deepest_16 : decode cX11_deepest 16 = .ok (.ifCond .ne 7, 3) := by decide +kernel
theorem dX11_deepest_19 : decode cX11_deepest 19 = .ok (.ldc2_w 304, 3) := by decide +kernel
theorem dX11_deepest_22 : decode cX11_deepest 22 = .ok (.lreturn, 1) := by decide +kernel
theorem dX11_deepest_23 : decode cX11_deepest 23 = .ok (.aload_n 0, 1) := by decide +kernel
theorem dX11_deepest_24 : decode cX11_deepest 24 = .ok (.getfield 66, 3) := by decide +kernel
theorem dX11_deepest_27 : decode cX11_deepest 27 = .ok (.getfield 292, 3) := by decide +kernel
theorem dX11_deepest_30 : decode cX11_deepest 30 = .ok (.istore 4, 2) := by decide +kernel
theorem dX11_deepest_32 : decode cX11_deepest 32 = .ok (.aload_n 0, 1) := by decide +kernel
theorem dX11_deepest_33 : decode cX11_deepest 33 = .ok (.getfield 66, 3) := by decide +kernel
theorem dX11_deepest_36 : decode cX11_deepest 36 = .ok (.invokevirtual 283, 3) := by decide +kernel
theorem dX11_deepest_39 : decode cX11_deepest 39 = .ok (.istore 5, 2) := by decide +kernel
theorem dX11_deepest_41 : decode cX11_deepest 41 = .ok (.iconst (-1), 1) := by decide +kernel
theorem dX11_deepest_42 : decode cX11_deepest 42 = .ok (.istore 6, 2) := by decide +kernel
theorem dX11_deepest_44 : decode cX11_deepest 44 = .ok (.lconst 0, 1) := by decide +kernel
theorem dX11_deepest_45 : decode cX11_deepest 45 = .ok (.lstore 7, 2) := by decide +kernel
theorem dX11_deepest_47 : decode cX11_deepest 47 = .ok (.iconst 0, 1) := by decide +kernel
theorem dX11_deepest_48 : decode cX11_deepest 48 = .ok (.istore 9, 2) := by decide +kernel
theorem dX11_deepest_50 : decode cX11_deepest 50 = .ok (.iload 9, 2) := by decide +kernel
theorem dX11_deepest_52 : decode cX11_deepest 52 = .ok (.sipush 300, 3) := by decide +kernel
theorem dX11_deepest_55 : decode cX11_deepest 55 = .ok (.iload 5, 2) := by decide +kernel
theorem dX11_deepest_57 : decode cX11_deepest 57 = .ok (.isub, 1) := by decide +kernel
theorem dX11_deepest_58 : decode cX11_deepest 58 = .ok (.if_icmp .gt 73, 3) := by decide +kernel
theorem dX11_deepest_61 : decode cX11_deepest 61 = .ok (.iload 9, 2) := by decide +kernel
theorem dX11_deepest_63 : decode cX11_deepest 63 = .ok (.iload 4, 2) := by decide +kernel
theorem dX11_deepest_65 : decode cX11_deepest 65 = .ok (.isub, 1) := by decide +kernel
theorem dX11_deepest_66 : decode cX11_deepest 66 = .ok (.invokestatic 295, 3) := by decide +kernel
theorem dX11_deepest_69 : decode cX11_deepest 69 = .ok (.iload 5, 2) := by decide +kernel
theorem dX11_deepest_71 : decode cX11_deepest 71 = .ok (.if_icmp .lt 54, 3) := by decide +kernel
theorem dX11_deepest_74 : decode cX11_deepest 74 = .ok (.aload_n 0, 1) := by decide +kernel
theorem dX11_deepest_75 : decode cX11_deepest 75 = .ok (.getfield 66, 3) := by decide +kernel
theorem dX11_deepest_78 : decode cX11_deepest 78 = .ok (.iload 9, 2) := by decide +kernel
theorem dX11_deepest_80 : decode cX11_deepest 80 = .ok (.invokevirtual 286, 3) := by decide +kernel
theorem dX11_deepest_83 : decode cX11_deepest 83 = .ok (.aload_n 0, 1) := by decide +kernel
theorem dX11_deepest_84 : decode cX11_deepest 84 = .ok (.getfield 66, 3) := by decide +kernel
theorem dX11_deepest_87 : decode cX11_deepest 87 = .ok (.invokevirtual 289, 3) := by decide +kernel
theorem dX11_deepest_90 : decode cX11_deepest 90 = .ok (.ifCond .eq 35, 3) := by decide +kernel
theorem dX11_deepest_93 : decode cX11_deepest 93 = .ok (.iload 6, 2) := by decide +kernel
theorem dX11_deepest_95 : decode cX11_deepest 95 = .ok (.iconst (-1), 1) := by decide +kernel
theorem dX11_deepest_96 : decode cX11_deepest 96 = .ok (.if_icmp .eq 16, 3) := by decide +kernel
theorem dX11_deepest_99 : decode cX11_deepest 99 = .ok (.aload_n 0, 1) := by decide +kernel
theorem dX11_deepest_100 : decode cX11_deepest 100 = .ok (.getfield 66, 3) := by decide +kernel
theorem dX11_deepest_103 : decode cX11_deepest 103 = .ok (.invokevirtual 274, 3) := by decide +kernel
theorem dX11_deepest_106 : decode cX11_deepest 106 = .ok (.lload 7, 2) := by decide +kernel
theorem dX11_deepest_108 : decode cX11_deepest 108 = .ok (.lcmp, 1) := by decide +kernel
theorem dX11_deepest_109 : decode cX11_deepest 109 = .ok (.ifCond .le 16, 3) := by decide +kernel
theorem dX11_deepest_112 : decode cX11_deepest 112 = .ok (.iload 9, 2) := by decide +kernel
theorem dX11_deepest_114 : decode cX11_deepest 114 = .ok (.istore 6, 2) := by decide +kernel
theorem dX11_deepest_116 : decode cX11_deepest 116 = .ok (.aload_n 0, 1) := by decide +kernel
theorem dX11_deepest_117 : decode cX11_deepest 117 = .ok (.getfield 66, 3) := by decide +kernel
theorem dX11_deepest_120 : decode cX11_deepest 120 = .ok (.invokevirtual 274, 3) := by decide +kernel
theorem dX11_deepest_123 : decode cX11_deepest 123 = .ok (.lstore 7, 2) := by decide +kernel
theorem dX11_deepest_125 : decode cX11_deepest 125 = .ok (.iinc 9 1, 3) := by decide +kernel
theorem dX11_deepest_128 : decode cX11_deepest 128 = .ok (.goto (-78), 3) := by decide +kernel
theorem dX11_deepest_131 : decode cX11_deepest 131 = .ok (.iload 6, 2) := by decide +kernel
theorem dX11_deepest_133 : decode cX11_deepest 133 = .ok (.iconst (-1), 1) := by decide +kernel
theorem dX11_deepest_134 : decode cX11_deepest 134 = .ok (.if_icmp .ne 7, 3) := by decide +kernel
theorem dX11_deepest_137 : decode cX11_deepest 137 = .ok (.ldc2_w 262, 3) := by decide +kernel
theorem dX11_deepest_140 : decode cX11_deepest 140 = .ok (.lreturn, 1) := by decide +kernel
theorem dX11_deepest_141 : decode cX11_deepest 141 = .ok (.iload_n 3, 1) := by decide +kernel
theorem dX11_deepest_142 : decode cX11_deepest 142 = .ok (.ifCond .ne 9, 3) := by decide +kernel
theorem dX11_deepest_145 : decode cX11_deepest 145 = .ok (.iload 6, 2) := by decide +kernel
theorem dX11_deepest_147 : decode cX11_deepest 147 = .ok (.i2l, 1) := by decide +kernel
theorem dX11_deepest_148 : decode cX11_deepest 148 = .ok (.goto 5, 3) := by decide +kernel
theorem dX11_deepest_151 : decode cX11_deepest 151 = .ok (.lload 7, 2) := by decide +kernel
theorem dX11_deepest_153 : decode cX11_deepest 153 = .ok (.lreturn, 1) := by decide +kernel
theorem wk_1302 : Cond.constantLong RX11 304 (-2100000000) ∈ tl_L := List.mem_filter.mpr ⟨lw_m5 (i := 4) rfl, rfl⟩
theorem dX11_bent_0 : decode cX11_bent 0 = .ok (.iload_n 3, 1) := by decide +kernel
theorem dX11_bent_1 : decode cX11_bent 1 = .ok (.iconst 0, 1) := by decide +kernel
theorem dX11_bent_2 : decode cX11_bent 2 = .ok (.bipush 40, 2) := by decide +kernel
theorem dX11_bent_4 : decode cX11_bent 4 = .ok (.invokestatic 105, 3) := by decide +kernel
theorem dX11_bent_7 : decode cX11_bent 7 = .ok (.ifCond .eq 13, 3) := by decide +kernel
theorem dX11_bent_10 : decode cX11_bent 10 = .ok (.aload_n 0, 1) := by decide +kernel
theorem dX11_bent_11 : decode cX11_bent 11 = .ok (.iload_n 1, 1) := by decide +kernel
theorem dX11_bent_12 : decode cX11_bent 12 = .ok (.iload_n 2, 1) := by decide +kernel
theorem dX11_bent_13 : decode cX11_bent 13 = .ok (.iconst (-1), 1) := by decide +kernel
theorem dX11_bent_14 : decode cX11_bent 14 = .ok (.invokevirtual 246, 3) := by decide +kernel
theorem dX11_bent_17 : decode cX11_bent 17 = .ok (.ifCond .ne 7, 3) := by decide +kernel
theorem dX11_bent_20 : decode cX11_bent 20 = .ok (.ldc2_w 262, 3) := by decide +kernel
theorem dX11_bent_23 : decode cX11_bent 23 = .ok (.lreturn, 1) := by decide +kernel
theorem dX11_bent_24 : decode cX11_bent 24 = .ok (.aload_n 0, 1) := by decide +kernel
theorem dX11_bent_25 : decode cX11_bent 25 = .ok (.getfield 66, 3) := by decide +kernel
theorem dX11_bent_28 : decode cX11_bent 28 = .ok (.iload_n 3, 1) := by decide +kernel
theorem dX11_bent_29 : decode cX11_bent 29 = .ok (.invokevirtual 309, 3) := by decide +kernel
theorem dX11_bent_32 : decode cX11_bent 32 = .ok (.aload_n 0, 1) := by decide +kernel
theorem dX11_bent_33 : decode cX11_bent 33 = .ok (.getfield 66, 3) := by decide +kernel
theorem dX11_bent_36 : decode cX11_bent 36 = .ok (.invokevirtual 274, 3) := by decide +kernel
theorem dX11_bent_39 : decode cX11_bent 39 = .ok (.lreturn, 1) := by decide +kernel
theorem wk_1041 : Cond.instanceMethod yX10_bendTo ∈ tl_L := List.mem_filter.mpr ⟨lw_m5 (i := 16) rfl, rfl⟩
theorem wk_1042 : Cond.selects RX10 yX10_bendTo yX10_bendTo ∈ tl_L := List.mem_filter.mpr ⟨lw_s5 (i := 7) (q := (yX10_bendTo, 18)) rfl, rfl⟩
theorem wk_1043 : Cond.code yX10_bendTo cX10_bendTo 2 none ∈ tl_L := List.mem_filter.mpr ⟨lw_m5 (i := 17) rfl, rfl⟩
theorem lk_X11_309 : tl_kVN RX11 309 RX10 yX10_bendTo "ThinLine" cX10_bendTo 2 none 1 129 := ⟨wk_1043, by decide +kernel, wk_1041, wk_1042, wk_41, ⟨by decide +kernel, by decide +kernel, by decide +kernel⟩⟩
theorem dX11_best_0 : decode cX11_best 0 = .ok (.iload_n 3, 1) := by decide +kernel
theorem dX11_best_1 : decode cX11_best 1 = .ok (.iconst 0, 1) := by decide +kernel
theorem dX11_best_2 : decode cX11_best 2 = .ok (.ldc_w 312, 3) := by decide +kernel
theorem dX11_best_5 : decode cX11_best 5 = .ok (.invokestatic 105, 3) := by decide +kernel
theorem dX11_best_8 : decode cX11_best 8 = .ok (.ifCond .eq 23, 3) := by decide +kernel
theorem dX11_best_11 : decode cX11_best 11 = .ok (.iload 4, 2) := by decide +kernel
theorem dX11_best_13 : decode cX11_best 13 = .ok (.iconst 0, 1) := by decide +kernel
theorem dX11_best_14 : decode cX11_best 14 = .ok (.iconst 1, 1) := by decide +kernel
theorem dX11_best_15 : decode cX11_best 15 = .ok (.invokestatic 105, 3) := by decide +kernel
theorem dX11_best_18 : decode cX11_best 18 = .ok (.ifCond .eq 13, 3) := by decide +kernel
theorem dX11_best_21 : decode cX11_best 21 = .ok (.aload_n 0, 1) := by decide +kernel
theorem dX11_best_22 : decode cX11_best 22 = .ok (.iload_n 1, 1) := by decide +kernel
theorem dX11_best_23 : decode cX11_best 23 = .ok (.iload_n 2, 1) := by decide +kernel
theorem dX11_best_24 : decode cX11_best 24 = .ok (.iconst (-1), 1) := by decide +kernel
theorem dX11_best_25 : decode cX11_best 25 = .ok (.invokevirtual 246, 3) := by decide +kernel
theorem dX11_best_28 : decode cX11_best 28 = .ok (.ifCond .ne 7, 3) := by decide +kernel
theorem dX11_best_31 : decode cX11_best 31 = .ok (.ldc2_w 272, 3) := by decide +kernel
theorem dX11_best_34 : decode cX11_best 34 = .ok (.lreturn, 1) := by decide +kernel
theorem dX11_best_35 : decode cX11_best 35 = .ok (.iconst (-1), 1) := by decide +kernel
theorem dX11_best_36 : decode cX11_best 36 = .ok (.istore 5, 2) := by decide +kernel
theorem dX11_best_38 : decode cX11_best 38 = .ok (.lconst 0, 1) := by decide +kernel
theorem dX11_best_39 : decode cX11_best 39 = .ok (.lstore 6, 2) := by decide +kernel
theorem dX11_best_41 : decode cX11_best 41 = .ok (.iconst 0, 1) := by decide +kernel
theorem dX11_best_42 : decode cX11_best 42 = .ok (.istore 8, 2) := by decide +kernel
theorem dX11_best_44 : decode cX11_best 44 = .ok (.iload 8, 2) := by decide +kernel
theorem dX11_best_46 : decode cX11_best 46 = .ok (.bipush 40, 2) := by decide +kernel
theorem dX11_best_48 : decode cX11_best 48 = .ok (.if_icmp .gt 72, 3) := by decide +kernel
theorem dX11_best_51 : decode cX11_best 51 = .ok (.aload_n 0, 1) := by decide +kernel
theorem dX11_best_52 : decode cX11_best 52 = .ok (.getfield 66, 3) := by decide +kernel
theorem dX11_best_55 : decode cX11_best 55 = .ok (.iload 8, 2) := by decide +kernel
theorem dX11_best_57 : decode cX11_best 57 = .ok (.invokevirtual 309, 3) := by decide +kernel
theorem dX11_best_60 : decode cX11_best 60 = .ok (.aload_n 0, 1) := by decide +kernel
theorem dX11_best_61 : decode cX11_best 61 = .ok (.getfield 66, 3) := by decide +kernel
theorem dX11_best_64 : decode cX11_best 64 = .ok (.invokevirtual 313, 3) := by decide +kernel
theorem dX11_best_67 : decode cX11_best 67 = .ok (.ldc2_w 316, 3) := by decide +kernel
theorem dX11_best_70 : decode cX11_best 70 = .ok (.invokestatic 318, 3) := by decide +kernel
theorem dX11_best_73 : decode cX11_best 73 = .ok (.iload_n 3, 1) := by decide +kernel
theorem dX11_best_74 : decode cX11_best 74 = .ok (.i2l, 1) := by decide +kernel
theorem dX11_best_75 : decode cX11_best 75 = .ok (.iload 8, 2) := by decide +kernel
theorem dX11_best_77 : decode cX11_best 77 = .ok (.i2l, 1) := by decide +kernel
theorem dX11_best_78 : decode cX11_best 78 = .ok (.lmul, 1) := by decide +kernel
theorem dX11_best_79 : decode cX11_best 79 = .ok (.ladd, 1) := by decide +kernel
theorem dX11_best_80 : decode cX11_best 80 = .ok (.lstore 9, 2) := by decide +kernel
theorem dX11_best_82 : decode cX11_best 82 = .ok (.aload_n 0, 1) := by decide +kernel
theorem dX11_best_83 : decode cX11_best 83 = .ok (.getfield 66, 3) := by decide +kernel
theorem dX11_best_86 : decode cX11_best 86 = .ok (.invokevirtual 252, 3) := by decide +kernel
theorem dX11_best_89 : decode cX11_best 89 = .ok (.ifCond .eq 25, 3) := by decide +kernel
theorem dX11_best_92 : decode cX11_best 92 = .ok (.iload 5, 2) := by decide +kernel
theorem dX11_best_94 : decode cX11_best 94 = .ok (.iconst (-1), 1) := by decide +kernel
theorem dX11_best_95 : decode cX11_best 95 = .ok (.if_icmp .eq 11, 3) := by decide +kernel
theorem dX11_best_98 : decode cX11_best 98 = .ok (.lload 9, 2) := by decide +kernel
theorem dX11_best_100 : decode cX11_best 100 = .ok (.lload 6, 2) := by decide +kernel
theorem dX11_best_102 : decode cX11_best 102 = .ok (.lcmp, 1) := by decide +kernel
theorem dX11_best_103 : decode cX11_best 103 = .ok (.ifCond .ge 11, 3) := by decide +kernel
theorem dX11_best_106 : decode cX11_best 106 = .ok (.iload 8, 2) := by decide +kernel
theorem dX11_best_108 : decode cX11_best 108 = .ok (.istore 5, 2) := by decide +kernel
theorem dX11_best_110 : decode cX11_best 110 = .ok (.lload 9, 2) := by decide +kernel
theorem dX11_best_112 : decode cX11_best 112 = .ok (.lstore 6, 2) := by decide +kernel
theorem dX11_best_114 : decode cX11_best 114 = .ok (.iinc 8 1, 3) := by decide +kernel
theorem dX11_best_117 : decode cX11_best 117 = .ok (.goto (-73), 3) := by decide +kernel
theorem dX11_best_120 : decode cX11_best 120 = .ok (.iload 5, 2) := by decide +kernel
theorem dX11_best_122 : decode cX11_best 122 = .ok (.iconst (-1), 1) := by decide +kernel
theorem dX11_best_123 : decode cX11_best 123 = .ok (.if_icmp .ne 7, 3) := by decide +kernel
theorem dX11_best_126 : decode cX11_best 126 = .ok (.ldc2_w 322, 3) := by decide +kernel
theorem dX11_best_129 : decode cX11_best 129 = .ok (.lreturn, 1) := by decide +kernel
theorem dX11_best_130 : decode cX11_best 130 = .ok (.iload 4, 2) := by decide +kernel
theorem dX11_best_132 : decode cX11_best 132 = .ok (.ifCond .ne 9, 3) := by decide +kernel
theorem dX11_best_135 : decode cX11_best 135 = .ok (.iload 5, 2) := by decide +kernel
theorem dX11_best_137 : decode cX11_best 137 = .ok (.i2l, 1) := by decide +kernel
theorem dX11_best_138 : decode cX11_best 138 = .ok (.goto 5, 3) := by decide +kernel
theorem dX11_best_141 : decode cX11_best 141 = .ok (.lload 6, 2) := by decide +kernel
theorem dX11_best_143 : decode cX11_best 143 = .ok (.lreturn, 1) := by decide +kernel
theorem wk_1053 : Cond.constant RX11 312 (99999) ∈ tl_L := List.mem_filter.mpr ⟨lw_m5 (i := 22) rfl, rfl⟩
theorem wk_1054 : Cond.constantLong RX11 316 (1000) ∈ tl_L := List.mem_filter.mpr ⟨lw_m5 (i := 27) rfl, rfl⟩
theorem wk_1055 : Cond.constantLong RX11 322 (-2) ∈ tl_L := List.mem_filter.mpr ⟨lw_m5 (i := 29) rfl, rfl⟩
theorem wk_1056 : Cond.instanceMethod yX10_squares ∈ tl_L := List.mem_filter.mpr ⟨lw_m5 (i := 25) rfl, rfl⟩
theorem wk_1057 : Cond.selects RX10 yX10_squares yX10_squares ∈ tl_L := List.mem_filter.mpr ⟨lw_s5 (i := 8) (q := (yX10_squares, 18)) rfl, rfl⟩
theorem wk_1058 : Cond.code yX10_squares cX10_squares 6 (some .long) ∈ tl_L := List.mem_filter.mpr ⟨lw_m5 (i := 26) rfl, rfl⟩
theorem wk_1059 : Cond.methodLink RX11 318 yJ9_floorDiv_f86c9 ∈ tl_L := List.mem_filter.mpr ⟨lw_m5 (i := 28) rfl, rfl⟩
theorem lk_X11_313 : tl_kVN RX11 313 RX10 yX10_squares "ThinLine" cX10_squares 6 (some .long) 0 130 := ⟨wk_1058, by decide +kernel, wk_1056, wk_1057, wk_41, ⟨by decide +kernel, by decide +kernel, by decide +kernel⟩⟩
theorem lk_X11_318 : tl_kS RX11 318 yJ9_floorDiv_f86c9 cJ9_floorDiv_f86c9 6 (some .long) 2 := ⟨wk_973, wk_1059, wk_972, wk_869, ⟨by decide +kernel, by decide +kernel, by decide +kernel⟩⟩
theorem dX11_drawn_0 : decode cX11_drawn 0 = .ok (.aload_n 0, 1) := by decide +kernel
theorem dX11_drawn_1 : decode cX11_drawn 1 = .ok (.getfield 25, 3) := by decide +kernel
theorem dX11_drawn_4 : decode cX11_drawn 4 = .ok (.iload_n 1, 1) := by decide +kernel
theorem dX11_drawn_5 : decode cX11_drawn 5 = .ok (.invokevirtual 201, 3) := by decide +kernel
theorem dX11_drawn_8 : decode cX11_drawn 8 = .ok (.astore 6, 2) := by decide +kernel
theorem dX11_drawn_10 : decode cX11_drawn 10 = .ok (.aload 6, 2) := by decide +kernel
theorem dX11_drawn_12 : decode cX11_drawn 12 = .ok (.ifnull 29, 3) := by decide +kernel
theorem dX11_drawn_15 : decode cX11_drawn 15 = .ok (.iload 4, 2) := by decide +kernel
theorem dX11_drawn_17 : decode cX11_drawn 17 = .ok (.ifCond .lt 24, 3) := by decide +kernel
theorem dX11_drawn_20 : decode cX11_drawn 20 = .ok (.iload 5, 2) := by decide +kernel
theorem dX11_drawn_22 : decode cX11_drawn 22 = .ok (.iconst 1, 1) := by decide +kernel
theorem dX11_drawn_23 : decode cX11_drawn 23 = .ok (.bipush 50, 2) := by decide +kernel
theorem dX11_drawn_25 : decode cX11_drawn 25 = .ok (.invokestatic 105, 3) := by decide +kernel
theorem dX11_drawn_28 : decode cX11_drawn 28 = .ok (.ifCond .eq 13, 3) := by decide +kernel
theorem dX11_drawn_31 : decode cX11_drawn 31 = .ok (.aload_n 0, 1) := by decide +kernel
theorem dX11_drawn_32 : decode cX11_drawn 32 = .ok (.iload_n 2, 1) := by decide +kernel
theorem dX11_drawn_33 : decode cX11_drawn 33 = .ok (.iload_n 3, 1) := by decide +kernel
theorem dX11_drawn_34 : decode cX11_drawn 34 = .ok (.iconst (-1), 1) := by decide +kernel
theorem dX11_drawn_35 : decode cX11_drawn 35 = .ok (.invokevirtual 246, 3) := by decide +kernel
theorem dX11_drawn_38 : decode cX11_drawn 38 = .ok (.ifCond .ne 5, 3) := by decide +kernel
theorem dX11_drawn_41 : decode cX11_drawn 41 = .ok (.iconst (-1), 1) := by decide +kernel
theorem dX11_drawn_42 : decode cX11_drawn 42 = .ok (.ireturn, 1) := by decide +kernel
theorem dX11_drawn_43 : decode cX11_drawn 43 = .ok (.aload_n 0, 1) := by decide +kernel
theorem dX11_drawn_44 : decode cX11_drawn 44 = .ok (.getfield 66, 3) := by decide +kernel
theorem dX11_drawn_47 : decode cX11_drawn 47 = .ok (.invokevirtual 289, 3) := by decide +kernel
theorem dX11_drawn_50 : decode cX11_drawn 50 = .ok (.ifCond .ne 6, 3) := by decide +kernel
theorem dX11_drawn_53 : decode cX11_drawn 53 = .ok (.bipush (-2), 2) := by decide +kernel
theorem dX11_drawn_55 : decode cX11_drawn 55 = .ok (.ireturn, 1) := by decide +kernel
theorem dX11_drawn_56 : decode cX11_drawn 56 = .ok (.aload_n 0, 1) := by decide +kernel
theorem dX11_drawn_57 : decode cX11_drawn 57 = .ok (.getfield 66, 3) := by decide +kernel
theorem dX11_drawn_60 : decode cX11_drawn 60 = .ok (.invokevirtual 274, 3) := by decide +kernel
theorem dX11_drawn_63 : decode cX11_drawn 63 = .ok (.lstore 7, 2) := by decide +kernel
theorem dX11_drawn_65 : decode cX11_drawn 65 = .ok (.iconst 0, 1) := by decide +kernel
theorem dX11_drawn_66 : decode cX11_drawn 66 = .ok (.istore 9, 2) := by decide +kernel
theorem dX11_drawn_68 : decode cX11_drawn 68 = .ok (.aload_n 0, 1) := by decide +kernel
theorem dX11_drawn_69 : decode cX11_drawn 69 = .ok (.getfield 59, 3) := by decide +kernel
theorem dX11_drawn_72 : decode cX11_drawn 72 = .ok (.aload 6, 2) := by decide +kernel
theorem dX11_drawn_74 : decode cX11_drawn 74 = .ok (.iload 4, 2) := by decide +kernel
theorem dX11_drawn_76 : decode cX11_drawn 76 = .ok (.invokevirtual 209, 3) := by decide +kernel
theorem dX11_drawn_79 : decode cX11_drawn 79 = .ok (.aload_n 0, 1) := by decide +kernel
theorem dX11_drawn_80 : decode cX11_drawn 80 = .ok (.getfield 59, 3) := by decide +kernel
theorem dX11_drawn_83 : decode cX11_drawn 83 = .ok (.invokevirtual 306, 3) := by decide +kernel
theorem dX11_drawn_86 : decode cX11_drawn 86 = .ok (.iconst 0, 1) := by decide +kernel
theorem dX11_drawn_87 : decode cX11_drawn 87 = .ok (.istore 10, 2) := by decide +kernel
theorem dX11_drawn_89 : decode cX11_drawn 89 = .ok (.iload 10, 2) := by decide +kernel
theorem dX11_drawn_91 : decode cX11_drawn 91 = .ok (.iload 5, 2) := by decide +kernel
theorem dX11_drawn_93 : decode cX11_drawn 93 = .ok (.if_icmp .ge 98, 3) := by decide +kernel
theorem dX11_drawn_96 : decode cX11_drawn 96 = .ok (.iconst 0, 1) := by decide +kernel
theorem dX11_drawn_97 : decode cX11_drawn 97 = .ok (.istore 11, 2) := by decide +kernel
theorem dX11_drawn_99 : decode cX11_drawn 99 = .ok (.iload 11, 2) := by decide +kernel
theorem dX11_drawn_101 : decode cX11_drawn 101 = .ok (.sipush 300, 3) := by decide +kernel
theorem dX11_drawn_104 : decode cX11_drawn 104 = .ok (.if_icmp .ge 45, 3) := by decide +kernel
theorem dX11_drawn_107 : decode cX11_drawn 107 = .ok (.aload_n 0, 1) := by decide +kernel
theorem dX11_drawn_108 : decode cX11_drawn 108 = .ok (.getfield 66, 3) := by decide +kernel
theorem dX11_drawn_111 : decode cX11_drawn 111 = .ok (.getfield 225, 3) := by decide +kernel
theorem dX11_drawn_114 : decode cX11_drawn 114 = .ok (.iload 11, 2) := by decide +kernel
theorem dX11_drawn_116 : decode cX11_drawn 116 = .ok (.aload_n 0, 1) := by decide +kernel
theorem dX11_drawn_117 : decode cX11_drawn 117 = .ok (.getfield 59, 3) := by decide +kernel
theorem dX11_drawn_120 : decode cX11_drawn 120 = .ok (.aload 6, 2) := by decide +kernel
theorem dX11_drawn_122 : decode cX11_drawn 122 = .ok (.aload_n 0, 1) := by decide +kernel
theorem dX11_drawn_123 : decode cX11_drawn 123 = .ok (.getfield 52, 3) := by decide +kernel
theorem dX11_drawn_126 : decode cX11_drawn 126 = .ok (.iload 11, 2) := by decide +kernel
theorem dX11_drawn_128 : decode cX11_drawn 128 = .ok (.invokevirtual 217, 3) := by decide +kernel
theorem dX11_drawn_131 : decode cX11_drawn 131 = .ok (.iastore, 1) := by decide +kernel
theorem dX11_drawn_132 : decode cX11_drawn 132 = .ok (.aload_n 0, 1) := by decide +kernel
theorem dX11_drawn_133 : decode cX11_drawn 133 = .ok (.getfield 66, 3) := by decide +kernel
theorem dX11_drawn_136 : decode cX11_drawn 136 = .ok (.getfield 221, 3) := by decide +kernel
theorem dX11_drawn_139 : decode cX11_drawn 139 = .ok (.iload 11, 2) := by decide +kernel
theorem dX11_drawn_141 : decode cX11_drawn 141 = .ok (.iconst 1, 1) := by decide +kernel
theorem dX11_drawn_142 : decode cX11_drawn 142 = .ok (.bastore, 1) := by decide +kernel
theorem dX11_drawn_143 : decode cX11_drawn 143 = .ok (.iinc 11 1, 3) := by decide +kernel
theorem dX11_drawn_146 : decode cX11_drawn 146 = .ok (.goto (-47), 3) := by decide +kernel
theorem dX11_drawn_149 : decode cX11_drawn 149 = .ok (.aload_n 0, 1) := by decide +kernel
theorem dX11_drawn_150 : decode cX11_drawn 150 = .ok (.getfield 66, 3) := by decide +kernel
theorem dX11_drawn_153 : decode cX11_drawn 153 = .ok (.invokevirtual 240, 3) := by decide +kernel
theorem dX11_drawn_156 : decode cX11_drawn 156 = .ok (.aload_n 0, 1) := by decide +kernel
theorem dX11_drawn_157 : decode cX11_drawn 157 = .ok (.getfield 66, 3) := by decide +kernel
theorem dX11_drawn_160 : decode cX11_drawn 160 = .ok (.invokevirtual 243, 3) := by decide +kernel
theorem dX11_drawn_163 : decode cX11_drawn 163 = .ok (.iload 9, 2) := by decide +kernel
theorem dX11_drawn_165 : decode cX11_drawn 165 = .ok (.aload_n 0, 1) := by decide +kernel
theorem dX11_drawn_166 : decode cX11_drawn 166 = .ok (.getfield 66, 3) := by decide +kernel
theorem dX11_drawn_169 : decode cX11_drawn 169 = .ok (.lload 7, 2) := by decide +kernel
theorem dX11_drawn_171 : decode cX11_drawn 171 = .ok (.invokevirtual 300, 3) := by decide +kernel
theorem dX11_drawn_174 : decode cX11_drawn 174 = .ok (.ifCond .eq 7, 3) := by decide +kernel
theorem dX11_drawn_177 : decode cX11_drawn 177 = .ok (.iconst 1, 1) := by decide +kernel
theorem dX11_drawn_178 : decode cX11_drawn 178 = .ok (.goto 4, 3) := by decide +kernel
theorem dX11_drawn_181 : decode cX11_drawn 181 = .ok (.iconst 0, 1) := by decide +kernel
theorem dX11_drawn_182 : decode cX11_drawn 182 = .ok (.iadd, 1) := by decide +kernel
theorem dX11_drawn_183 : decode cX11_drawn 183 = .ok (.istore 9, 2) := by decide +kernel
theorem dX11_drawn_185 : decode cX11_drawn 185 = .ok (.iinc 10 1, 3) := by decide +kernel
theorem dX11_drawn_188 : decode cX11_drawn 188 = .ok (.goto (-99), 3) := by decide +kernel
theorem dX11_drawn_191 : decode cX11_drawn 191 = .ok (.iload 9, 2) := by decide +kernel
theorem dX11_drawn_193 : decode cX11_drawn 193 = .ok (.ireturn, 1) := by decide +kernel
theorem wk_20 : Cond.fieldLink RX11 25 "ThinLine" "laws" "LThinLine$Texts;" ∈ tl_L := List.mem_filter.mpr ⟨lw_m2 (i := 141) rfl, rfl⟩
theorem wk_38 : Cond.fieldLink RX11 59 "ThinLine" "maker" "LThinLine$Maker;" ∈ tl_L := List.mem_filter.mpr ⟨lw_m2 (i := 147) rfl, rfl⟩
theorem wk_699 : Cond.instanceMethod yX1_begin ∈ tl_L := List.mem_filter.mpr ⟨lw_m4 (i := 26) rfl, rfl⟩
theorem wk_700 : Cond.selects RX1 yX1_begin yX1_begin ∈ tl_L := List.mem_filter.mpr ⟨lw_s3 (i := 5) (q := (yX1_begin, 5)) rfl, rfl⟩
theorem wk_701 : Cond.code yX1_begin cX1_begin 3 none ∈ tl_L := List.mem_filter.mpr ⟨lw_m4 (i := 27) rfl, rfl⟩
theorem wk_721 : Cond.instanceMethod yX1_makeAt ∈ tl_L := List.mem_filter.mpr ⟨lw_m4 (i := 50) rfl, rfl⟩
theorem wk_722 : Cond.selects RX1 yX1_makeAt yX1_makeAt ∈ tl_L := List.mem_filter.mpr ⟨lw_s3 (i := 10) (q := (yX1_makeAt, 5)) rfl, rfl⟩
theorem wk_723 : Cond.code yX1_makeAt cX1_makeAt 6 (some .int) ∈ tl_L := List.mem_filter.mpr ⟨lw_m4 (i := 51) rfl, rfl⟩
theorem lk_X11_209 : tl_kVN RX11 209 RX1 yX1_begin "ThinLine" cX1_begin 3 none 2 96 := ⟨wk_701, by decide +kernel, wk_699, wk_700, wk_37, ⟨by decide +kernel, by decide +kernel, by decide +kernel⟩⟩
theorem lk_X11_217 : tl_kVN RX11 217 RX1 yX1_makeAt "ThinLine" cX1_makeAt 6 (some .int) 3 102 := ⟨wk_723, by decide +kernel, wk_721, wk_722, wk_37, ⟨by decide +kernel, by decide +kernel, by decide +kernel⟩⟩
theorem lk_X11_306 : tl_kVN RX11 306 RX1 yX1_eatNothing "ThinLine" cX1_eatNothing 1 none 0 128 := ⟨wk_719, by decide +kernel, wk_717, wk_718, wk_37, ⟨by decide +kernel, by decide +kernel, by decide +kernel⟩⟩
theorem dX11_taken_0 : decode cX11_taken 0 = .ok (.iload_n 3, 1) := by decide +kernel
theorem dX11_taken_1 : decode cX11_taken 1 = .ok (.iconst 1, 1) := by decide +kernel
theorem dX11_taken_2 : decode cX11_taken 2 = .ok (.sipush 9999, 3) := by decide +kernel
theorem dX11_taken_5 : decode cX11_taken 5 = .ok (.invokestatic 105, 3) := by decide +kernel
theorem dX11_taken_8 : decode cX11_taken 8 = .ok (.ifCond .eq 24, 3) := by decide +kernel
theorem dX11_taken_11 : decode cX11_taken 11 = .ok (.iload 4, 2) := by decide +kernel
theorem dX11_taken_13 : decode cX11_taken 13 = .ok (.iconst 1, 1) := by decide +kernel
theorem dX11_taken_14 : decode cX11_taken 14 = .ok (.bipush 99, 2) := by decide +kernel
theorem dX11_taken_16 : decode cX11_taken 16 = .ok (.invokestatic 105, 3) := by decide +kernel
theorem dX11_taken_19 : decode cX11_taken 19 = .ok (.ifCond .eq 13, 3) := by decide +kernel
theorem dX11_taken_22 : decode cX11_taken 22 = .ok (.aload_n 0, 1) := by decide +kernel
theorem dX11_taken_23 : decode cX11_taken 23 = .ok (.iload_n 1, 1) := by decide +kernel
theorem dX11_taken_24 : decode cX11_taken 24 = .ok (.iload_n 2, 1) := by decide +kernel
theorem dX11_taken_25 : decode cX11_taken 25 = .ok (.iconst (-1), 1) := by decide +kernel
theorem dX11_taken_26 : decode cX11_taken 26 = .ok (.invokevirtual 246, 3) := by decide +kernel
theorem dX11_taken_29 : decode cX11_taken 29 = .ok (.ifCond .ne 6, 3) := by decide +kernel
theorem dX11_taken_32 : decode cX11_taken 32 = .ok (.ldc 128, 2) := by decide +kernel
theorem dX11_taken_34 : decode cX11_taken 34 = .ok (.ireturn, 1) := by decide +kernel
theorem dX11_taken_35 : decode cX11_taken 35 = .ok (.aload_n 0, 1) := by decide +kernel
theorem dX11_taken_36 : decode cX11_taken 36 = .ok (.getfield 66, 3) := by decide +kernel
theorem dX11_taken_39 : decode cX11_taken 39 = .ok (.invokevirtual 289, 3) := by decide +kernel
theorem dX11_taken_42 : decode cX11_taken 42 = .ok (.ifCond .ne 6, 3) := by decide +kernel
theorem dX11_taken_45 : decode cX11_taken 45 = .ok (.ldc 119, 2) := by decide +kernel
theorem dX11_taken_47 : decode cX11_taken 47 = .ok (.ireturn, 1) := by decide +kernel
theorem dX11_taken_48 : decode cX11_taken 48 = .ok (.aload_n 0, 1) := by decide +kernel
theorem dX11_taken_49 : decode cX11_taken 49 = .ok (.getfield 66, 3) := by decide +kernel
theorem dX11_taken_52 : decode cX11_taken 52 = .ok (.invokevirtual 264, 3) := by decide +kernel
theorem dX11_taken_55 : decode cX11_taken 55 = .ok (.istore 5, 2) := by decide +kernel
theorem dX11_taken_57 : decode cX11_taken 57 = .ok (.aload_n 0, 1) := by decide +kernel
theorem dX11_taken_58 : decode cX11_taken 58 = .ok (.getfield 66, 3) := by decide +kernel
theorem dX11_taken_61 : decode cX11_taken 61 = .ok (.getfield 292, 3) := by decide +kernel
theorem dX11_taken_64 : decode cX11_taken 64 = .ok (.aload_n 0, 1) := by decide +kernel
theorem dX11_taken_65 : decode cX11_taken 65 = .ok (.getfield 66, 3) := by decide +kernel
theorem dX11_taken_68 : decode cX11_taken 68 = .ok (.getfield 324, 3) := by decide +kernel
theorem dX11_taken_71 : decode cX11_taken 71 = .ok (.iadd, 1) := by decide +kernel
theorem dX11_taken_72 : decode cX11_taken 72 = .ok (.iconst 2, 1) := by decide +kernel
theorem dX11_taken_73 : decode cX11_taken 73 = .ok (.idiv, 1) := by decide +kernel
theorem dX11_taken_74 : decode cX11_taken 74 = .ok (.istore 6, 2) := by decide +kernel
theorem dX11_taken_76 : decode cX11_taken 76 = .ok (.iconst 0, 1) := by decide +kernel
theorem dX11_taken_77 : decode cX11_taken 77 = .ok (.istore 7, 2) := by decide +kernel
theorem dX11_taken_79 : decode cX11_taken 79 = .ok (.iconst 0, 1) := by decide +kernel
theorem dX11_taken_80 : decode cX11_taken 80 = .ok (.istore 8, 2) := by decide +kernel
theorem dX11_taken_82 : decode cX11_taken 82 = .ok (.iload 8, 2) := by decide +kernel
theorem dX11_taken_84 : decode cX11_taken 84 = .ok (.sipush 300, 3) := by decide +kernel
theorem dX11_taken_87 : decode cX11_taken 87 = .ok (.if_icmp .ge 89, 3) := by decide +kernel
theorem dX11_taken_90 : decode cX11_taken 90 = .ok (.iload 8, 2) := by decide +kernel
theorem dX11_taken_92 : decode cX11_taken 92 = .ok (.iload 6, 2) := by decide +kernel
theorem dX11_taken_94 : decode cX11_taken 94 = .ok (.isub, 1) := by decide +kernel
theorem dX11_taken_95 : decode cX11_taken 95 = .ok (.invokestatic 295, 3) := by decide +kernel
theorem dX11_taken_98 : decode cX11_taken 98 = .ok (.istore 9, 2) := by decide +kernel
theorem dX11_taken_100 : decode cX11_taken 100 = .ok (.aload_n 0, 1) := by decide +kernel
theorem dX11_taken_101 : decode cX11_taken 101 = .ok (.getfield 66, 3) := by decide +kernel
theorem dX11_taken_104 : decode cX11_taken 104 = .ok (.getfield 221, 3) := by decide +kernel
theorem dX11_taken_107 : decode cX11_taken 107 = .ok (.iload 8, 2) := by decide +kernel
theorem dX11_taken_109 : decode cX11_taken 109 = .ok (.baload, 1) := by decide +kernel
theorem dX11_taken_110 : decode cX11_taken 110 = .ok (.ifCond .eq 60, 3) := by decide +kernel
theorem dX11_taken_113 : decode cX11_taken 113 = .ok (.iload 9, 2) := by decide +kernel
theorem dX11_taken_115 : decode cX11_taken 115 = .ok (.iload 4, 2) := by decide +kernel
theorem dX11_taken_117 : decode cX11_taken 117 = .ok (.if_icmp .ge 53, 3) := by decide +kernel
theorem dX11_taken_120 : decode cX11_taken 120 = .ok (.iload_n 3, 1) := by decide +kernel
theorem dX11_taken_121 : decode cX11_taken 121 = .ok (.iload 4, 2) := by decide +kernel
theorem dX11_taken_123 : decode cX11_taken 123 = .ok (.iload 9, 2) := by decide +kernel
theorem dX11_taken_125 : decode cX11_taken 125 = .ok (.isub, 1) := by decide +kernel
theorem dX11_taken_126 : decode cX11_taken 126 = .ok (.imul, 1) := by decide +kernel
theorem dX11_taken_127 : decode cX11_taken 127 = .ok (.iload 4, 2) := by decide +kernel
theorem dX11_taken_129 : decode cX11_taken 129 = .ok (.idiv, 1) := by decide +kernel
theorem dX11_taken_130 : decode cX11_taken 130 = .ok (.istore 10, 2) := by decide +kernel
theorem dX11_taken_132 : decode cX11_taken 132 = .ok (.aload_n 0, 1) := by decide +kernel
theorem dX11_taken_133 : decode cX11_taken 133 = .ok (.getfield 66, 3) := by decide +kernel
theorem dX11_taken_136 : decode cX11_taken 136 = .ok (.getfield 225, 3) := by decide +kernel
theorem dX11_taken_139 : decode cX11_taken 139 = .ok (.iload 8, 2) := by decide +kernel
theorem dX11_taken_141 : decode cX11_taken 141 = .ok (.dup2, 1) := by decide +kernel
theorem dX11_taken_142 : decode cX11_taken 142 = .ok (.iaload, 1) := by decide +kernel
theorem dX11_taken_143 : decode cX11_taken 143 = .ok (.iload 10, 2) := by decide +kernel
theorem dX11_taken_145 : decode cX11_taken 145 = .ok (.isub, 1) := by decide +kernel
theorem dX11_taken_146 : decode cX11_taken 146 = .ok (.iastore, 1) := by decide +kernel
theorem dX11_taken_147 : decode cX11_taken 147 = .ok (.iload 7, 2) := by decide +kernel
theorem dX11_taken_149 : decode cX11_taken 149 = .ok (.aload_n 0, 1) := by decide +kernel
theorem dX11_taken_150 : decode cX11_taken 150 = .ok (.getfield 66, 3) := by decide +kernel
theorem dX11_taken_153 : decode cX11_taken 153 = .ok (.iload 8, 2) := by decide +kernel
theorem dX11_taken_155 : decode cX11_taken 155 = .ok (.invokevirtual 327, 3) := by decide +kernel
theorem dX11_taken_158 : decode cX11_taken 158 = .ok (.ifCond .eq 8, 3) := by decide +kernel
theorem dX11_taken_161 : decode cX11_taken 161 = .ok (.iload 10, 2) := by decide +kernel
theorem dX11_taken_163 : decode cX11_taken 163 = .ok (.goto 4, 3) := by decide +kernel
theorem dX11_taken_166 : decode cX11_taken 166 = .ok (.iconst 0, 1) := by decide +kernel
theorem dX11_taken_167 : decode cX11_taken 167 = .ok (.iadd, 1) := by decide +kernel
theorem dX11_taken_168 : decode cX11_taken 168 = .ok (.istore 7, 2) := by decide +kernel
theorem dX11_taken_170 : decode cX11_taken 170 = .ok (.iinc 8 1, 3) := by decide +kernel
theorem dX11_taken_173 : decode cX11_taken 173 = .ok (.goto (-91), 3) := by decide +kernel
theorem dX11_taken_176 : decode cX11_taken 176 = .ok (.aload_n 0, 1) := by decide +kernel
theorem dX11_taken_177 : decode cX11_taken 177 = .ok (.getfield 66, 3) := by decide +kernel
theorem dX11_taken_180 : decode cX11_taken 180 = .ok (.invokevirtual 240, 3) := by decide +kernel
theorem dX11_taken_183 : decode cX11_taken 183 = .ok (.aload_n 0, 1) := by decide +kernel
theorem dX11_taken_184 : decode cX11_taken 184 = .ok (.getfield 66, 3) := by decide +kernel
theorem dX11_taken_187 : decode cX11_taken 187 = .ok (.invokevirtual 243, 3) := by decide +kernel
theorem dX11_taken_190 : decode cX11_taken 190 = .ok (.iload 7, 2) := by decide +kernel
theorem dX11_taken_192 : decode cX11_taken 192 = .ok (.iconst 1, 1) := by decide +kernel
theorem dX11_taken_193 : decode cX11_taken 193 = .ok (.aload_n 0, 1) := by decide +kernel
theorem dX11_taken_194 : decode cX11_taken 194 = .ok (.getfield 66, 3) := by decide +kernel
theorem dX11_taken_197 : decode cX11_taken 197 = .ok (.getfield 330, 3) := by decide +kernel
theorem dX11_taken_200 : decode cX11_taken 200 = .ok (.invokestatic 333, 3) := by decide +kernel
theorem dX11_taken_203 : decode cX11_taken 203 = .ok (.idiv, 1) := by decide +kernel
theorem dX11_taken_204 : decode cX11_taken 204 = .ok (.aload_n 0, 1) := by decide +kernel
theorem dX11_taken_205 : decode cX11_taken 205 = .ok (.getfield 66, 3) := by decide +kernel
theorem dX11_taken_208 : decode cX11_taken 208 = .ok (.invokevirtual 264, 3) := by decide +kernel
theorem dX11_taken_211 : decode cX11_taken 211 = .ok (.iload 5, 2) := by decide +kernel
theorem dX11_taken_213 : decode cX11_taken 213 = .ok (.isub, 1) := by decide +kernel
theorem dX11_taken_214 : decode cX11_taken 214 = .ok (.isub, 1) := by decide +kernel
theorem dX11_taken_215 : decode cX11_taken 215 = .ok (.ireturn, 1) := by decide +kernel
theorem wk_1069 : Cond.methodLink RX11 333 Lib.Math.max.name ∈ tl_L := List.mem_filter.mpr ⟨by decide +kernel, rfl⟩
theorem wk_1070 : Cond.instanceMethod yX10_isInGap ∈ tl_L := List.mem_filter.mpr ⟨lw_m5 (i := 36) rfl, rfl⟩
theorem wk_1071 : Cond.selects RX10 yX10_isInGap yX10_isInGap ∈ tl_L := List.mem_filter.mpr ⟨lw_s5 (i := 9) (q := (yX10_isInGap, 18)) rfl, rfl⟩
theorem wk_1072 : Cond.code yX10_isInGap cX10_isInGap 2 (some .boolean) ∈ tl_L := List.mem_filter.mpr ⟨lw_m5 (i := 37) rfl, rfl⟩
theorem nk_67 : tl_N[67]? = some (Cond.fieldLinkNest "ThinLine" 324 "ThinLine$View" "gapTo" "I" "ThinLine") := by decide +kernel
theorem nk_69 : tl_N[69]? = some (Cond.fieldLinkNest "ThinLine" 330 "ThinLine$View" "gapCount" "I" "ThinLine") := by decide +kernel
theorem lk_X11_327 : tl_kVN RX11 327 RX10 yX10_isInGap "ThinLine" cX10_isInGap 2 (some .boolean) 1 131 := ⟨wk_1072, by decide +kernel, wk_1070, wk_1071, wk_41, ⟨by decide +kernel, by decide +kernel, by decide +kernel⟩⟩
theorem dX11_apart_0 : decode cX11_apart 0 = .ok (.aload_n 0, 1) := by decide +kernel
theorem dX11_apart_1 : decode cX11_apart 1 = .ok (.getfield 29, 3) := by decide +kernel
theorem dX11_apart_4 : decode cX11_apart 4 = .ok (.iload_n 1, 1) := by decide +kernel
theorem dX11_apart_5 : decode cX11_apart 5 = .ok (.invokevirtual 201, 3) := by decide +kernel
theorem dX11_apart_8 : decode cX11_apart 8 = .ok (.ifnull 26, 3) := by decide +kernel
theorem dX11_apart_11 : decode cX11_apart 11 = .ok (.aload_n 0, 1) := by decide +kernel
theorem dX11_apart_12 : decode cX11_apart 12 = .ok (.getfield 29, 3) := by decide +kernel
theorem dX11_apart_15 : decode cX11_apart 15 = .ok (.iload_n 2, 1) := by decide +kernel
theorem dX11_apart_16 : decode cX11_apart 16 = .ok (.invokevirtual 201, 3) := by decide +kernel
theorem dX11_apart_19 : decode cX11_apart 19 = .ok (.ifnull 15, 3) := by decide +kernel
theorem dX11_apart_22 : decode cX11_apart 22 = .ok (.iload_n 1, 1) := by decide +kernel
theorem dX11_apart_23 : decode cX11_apart 23 = .ok (.iload_n 2, 1) := by decide +kernel
theorem dX11_apart_24 : decode cX11_apart 24 = .ok (.if_icmp .eq 10, 3) := by decide +kernel
theorem dX11_apart_27 : decode cX11_apart 27 = .ok (.iload_n 3, 1) := by decide +kernel
theorem dX11_apart_28 : decode cX11_apart 28 = .ok (.invokestatic 336, 3) := by decide +kernel
theorem dX11_apart_31 : decode cX11_apart 31 = .ok (.ifCond .ne 5, 3) := by decide +kernel
theorem dX11_apart_34 : decode cX11_apart 34 = .ok (.iconst (-1), 1) := by decide +kernel
theorem dX11_apart_35 : decode cX11_apart 35 = .ok (.ireturn, 1) := by decide +kernel
theorem dX11_apart_36 : decode cX11_apart 36 = .ok (.iconst 0, 1) := by decide +kernel
theorem dX11_apart_37 : decode cX11_apart 37 = .ok (.istore 4, 2) := by decide +kernel
theorem dX11_apart_39 : decode cX11_apart 39 = .ok (.iconst 0, 1) := by decide +kernel
theorem dX11_apart_40 : decode cX11_apart 40 = .ok (.istore 5, 2) := by decide +kernel
theorem dX11_apart_42 : decode cX11_apart 42 = .ok (.iload 5, 2) := by decide +kernel
theorem dX11_apart_44 : decode cX11_apart 44 = .ok (.aload_n 0, 1) := by decide +kernel
theorem dX11_apart_45 : decode cX11_apart 45 = .ok (.getfield 10, 3) := by decide +kernel
theorem dX11_apart_48 : decode cX11_apart 48 = .ok (.getfield 109, 3) := by decide +kernel
theorem dX11_apart_51 : decode cX11_apart 51 = .ok (.getfield 339, 3) := by decide +kernel
theorem dX11_apart_54 : decode cX11_apart 54 = .ok (.if_icmp .ge 86, 3) := by decide +kernel
theorem dX11_apart_57 : decode cX11_apart 57 = .ok (.aload_n 0, 1) := by decide +kernel
theorem dX11_apart_58 : decode cX11_apart 58 = .ok (.iload_n 1, 1) := by decide +kernel
theorem dX11_apart_59 : decode cX11_apart 59 = .ok (.iload 5, 2) := by decide +kernel
theorem dX11_apart_61 : decode cX11_apart 61 = .ok (.iconst (-1), 1) := by decide +kernel
theorem dX11_apart_62 : decode cX11_apart 62 = .ok (.invokevirtual 246, 3) := by decide +kernel
theorem dX11_apart_65 : decode cX11_apart 65 = .ok (.ifCond .eq 19, 3) := by decide +kernel
theorem dX11_apart_68 : decode cX11_apart 68 = .ok (.aload_n 0, 1) := by decide +kernel
theorem dX11_apart_69 : decode cX11_apart 69 = .ok (.getfield 66, 3) := by decide +kernel
theorem dX11_apart_72 : decode cX11_apart 72 = .ok (.iload_n 3, 1) := by decide +kernel
theorem dX11_apart_73 : decode cX11_apart 73 = .ok (.i2l, 1) := by decide +kernel
theorem dX11_apart_74 : decode cX11_apart 74 = .ok (.invokevirtual 300, 3) := by decide +kernel
theorem dX11_apart_77 : decode cX11_apart 77 = .ok (.ifCond .eq 7, 3) := by decide +kernel
theorem dX11_apart_80 : decode cX11_apart 80 = .ok (.iconst 1, 1) := by decide +kernel
theorem dX11_apart_81 : decode cX11_apart 81 = .ok (.goto 4, 3) := by decide +kernel
theorem dX11_apart_84 : decode cX11_apart 84 = .ok (.iconst 0, 1) := by decide +kernel
theorem dX11_apart_85 : decode cX11_apart 85 = .ok (.istore 6, 2) := by decide +kernel
theorem dX11_apart_87 : decode cX11_apart 87 = .ok (.aload_n 0, 1) := by decide +kernel
theorem dX11_apart_88 : decode cX11_apart 88 = .ok (.iload_n 2, 1) := by decide +kernel
theorem dX11_apart_89 : decode cX11_apart 89 = .ok (.iload 5, 2) := by decide +kernel
theorem dX11_apart_91 : decode cX11_apart 91 = .ok (.iconst (-1), 1) := by decide +kernel
theorem dX11_apart_92 : decode cX11_apart 92 = .ok (.invokevirtual 246, 3) := by decide +kernel
theorem dX11_apart_95 : decode cX11_apart 95 = .ok (.ifCond .eq 19, 3) := by decide +kernel
theorem dX11_apart_98 : decode cX11_apart 98 = .ok (.aload_n 0, 1) := by decide +kernel
theorem dX11_apart_99 : decode cX11_apart 99 = .ok (.getfield 66, 3) := by decide +kernel
theorem dX11_apart_102 : decode cX11_apart 102 = .ok (.iload_n 3, 1) := by decide +kernel
theorem dX11_apart_103 : decode cX11_apart 103 = .ok (.i2l, 1) := by decide +kernel
theorem dX11_apart_104 : decode cX11_apart 104 = .ok (.invokevirtual 300, 3) := by decide +kernel
theorem dX11_apart_107 : decode cX11_apart 107 = .ok (.ifCond .eq 7, 3) := by decide +kernel
theorem dX11_apart_110 : decode cX11_apart 110 = .ok (.iconst 1, 1) := by decide +kernel
theorem dX11_apart_111 : decode cX11_apart 111 = .ok (.goto 4, 3) := by decide +kernel
theorem dX11_apart_114 : decode cX11_apart 114 = .ok (.iconst 0, 1) := by decide +kernel
theorem dX11_apart_115 : decode cX11_apart 115 = .ok (.istore 7, 2) := by decide +kernel
theorem dX11_apart_117 : decode cX11_apart 117 = .ok (.iload 4, 2) := by decide +kernel
theorem dX11_apart_119 : decode cX11_apart 119 = .ok (.iload 6, 2) := by decide +kernel
theorem dX11_apart_121 : decode cX11_apart 121 = .ok (.iload 7, 2) := by decide +kernel
theorem dX11_apart_123 : decode cX11_apart 123 = .ok (.if_icmp .eq 7, 3) := by decide +kernel
theorem dX11_apart_126 : decode cX11_apart 126 = .ok (.iconst 1, 1) := by decide +kernel
theorem dX11_apart_127 : decode cX11_apart 127 = .ok (.goto 4, 3) := by decide +kernel
theorem dX11_apart_130 : decode cX11_apart 130 = .ok (.iconst 0, 1) := by decide +kernel
theorem dX11_apart_131 : decode cX11_apart 131 = .ok (.iadd, 1) := by decide +kernel
theorem dX11_apart_132 : decode cX11_apart 132 = .ok (.istore 4, 2) := by decide +kernel
theorem dX11_apart_134 : decode cX11_apart 134 = .ok (.iinc 5 1, 3) := by decide +kernel
theorem dX11_apart_137 : decode cX11_apart 137 = .ok (.goto (-95), 3) := by decide +kernel
theorem dX11_apart_140 : decode cX11_apart 140 = .ok (.iload 4, 2) := by decide +kernel
theorem dX11_apart_142 : decode cX11_apart 142 = .ok (.ireturn, 1) := by decide +kernel
theorem wk_1082 : Cond.methodLink RX11 336 yX11_isBar ∈ tl_L := List.mem_filter.mpr ⟨lw_m5 (i := 43) rfl, rfl⟩
theorem wk_1083 : Cond.static yX11_isBar ∈ tl_L := List.mem_filter.mpr ⟨lw_m5 (i := 44) rfl, rfl⟩
theorem wk_1084 : Cond.code yX11_isBar cX11_isBar 1 (some .boolean) ∈ tl_L := List.mem_filter.mpr ⟨lw_m5 (i := 45) rfl, rfl⟩
theorem nk_2 : tl_N[2]? = some (Cond.fieldLinkNest "ThinLine" 339 "ThinLine$Rows" "size" "I" "ThinLine") := by decide +kernel
theorem lk_X11_336 : tl_kS RX11 336 yX11_isBar cX11_isBar 1 (some .boolean) 1 := ⟨wk_1084, wk_1082, wk_1083, wk_2, ⟨by decide +kernel, by decide +kernel, by decide +kernel⟩⟩
set_option maxHeartbeats 4000000 in
set_option maxRecDepth 100000 in
theorem t_X11_look (l : Launch) (D : va_G) (cy : Nat → ClassId) (sz : Nat) (L : List Nat) (K : Nat → tk_K) (Γ : tk_G) (f : Nat → va_E) (o : Nat) (p0 : Int32) (p1 : Int32) (p2 : Int32) (ho : tp_r L K 0 (0) 0 o) : Met l yX11_look (tl_w yX11_look cX11_look 5 (some .boolean)) ({ frames := 4, cells := 0, slots := 0, locals := 89 }) (va_Pc [.ref o, .int p0, .int p1, .int p2] (tp_P D cy L K Γ f sz)) (va_Qi (fun (r : Int32) (u : Nat → va_E) => tl_J r (tv_gx f u o)) (tp_B D cy L K Γ f [28, 29, 23, 24, 27, 30, 31, 32]) (tp_A L sz)) 0 0 (tp_A L sz) := by
  refine Met.ofW (cc := cX11_look) (maxL := 5) (ret := (some .boolean)) (by decide) rfl ?_
  intro p e s m args below meth c s₁ B hml hv
  obtain ⟨rfl, hsz, hP, hK, hL, hI, hN, hU⟩ := hv
  have hx := B.exec
  have hb := B.bytes
  have hr := B.returns
  have hta := tl_hta (atoms_spec (ws := tl_w yX11_look cX11_look 5 (some .boolean)) B.pre)
  have hown : s.vm.findClass RX11 = some m.cls := findClass_of_methodNamed B.named
  have hlocks := B.notSynchronized
  subst hsz
  have hI0 := hI
  generalize hAe : tp_A L s.heap.size = A
  have hA : ∀ q : Nat, s.heap.size ≤ q → A q := fun q h => by rw [← hAe]; exact Or.inr h
  have hAL : ∀ q ∈ L, A q := fun q h => by rw [← hAe]; exact Or.inl h
  have hAf : ∀ (H : Heap), s.heap.size ≤ H.size → ∀ q, tp_A L H.size q → A q := fun H h q hq => hq.elim (hAL q) (fun h2 => hA q (Nat.le_trans h h2))
  have hS : va_S A s.heap s.heap [] := va_S.rf
  have hD : va_D A (va_pl L f) := tp_D hL hAL
  have hfr : ∀ b, (K b).1 ∉ ([28, 29, 23, 24, 27, 30, 31, 32] : List Nat) → f b = f b := fun _ _ => rfl
  have hl := lv_entry ([.ref o, .int p0, .int p1, .int p2]) (n := 5) (Nat.le_of_ble_eq_true rfl)
  rw [lg_entry_eq]
  generalize (lg_sl ([.ref o, .int p0, .int p1, .int p2]) ++ List.replicate (5 - (lg_sl ([.ref o, .int p0, .int p1, .int p2])).length) Slot.unset).toArray = ls at hl ⊢
  have hl : lv_has ls 5 [(0, .ref o), (1, .int p0), (2, .int p1), (3, .int p2)] := hl
  refine lv_aload_n hx hb dX11_look_0 rfl (lv_at hl 0 rfl) ?_
  obtain ⟨x_2, x_3, x_4, x_5, x_6, x_7, x_8, x_9, x_10, x_11, x_12, x_13, x_14, x_15, x_16, x_17, hf_1, hx_2, hx_3, hx_4, hx_5, hx_6, hx_7, hx_8, hx_9, hx_10, hx_11, hx_12, hx_13, hx_14, hx_15, hx_16, hx_17⟩ := (show tp_o_X L K (0) 0 (Γ (0, 0, 0)) (f o) from hI0.at ho)
  refine tp_get (cy := cy) (ci := 11) (v := .ref x_5) (C := RX11) (T := TX11) (N := 16) hx hb hta inlX11 hown hK hP ho.1 hf_1 rfl 3 (by decide) (hta _ wk_21) (fun _ h9 => h9) rfl dX11_look_1 ?_
  refine lv_iload_n hx hb dX11_look_4 rfl (lv_at hl 1 rfl) ?_
  obtain ⟨x_19, x_20, hf_18, hx_19, hx_20⟩ := (show tp_o_TEXTS L K (8) 0 (Γ (13, 8, 0)) (f x_5) from hI0.at hx_5)
  refine tl_sq (tq_rVN hN (As := [.int p0]) (rest := []) ⟨hx, hb, hml, hown, hta⟩ (tp_P.pre hK hN hL hU hI hP) (tp_recv hK hP hx_5.1 hf_18 rfl) lk_X11_201 (t_X8_at l D cy s.heap.size L K Γ f 8 x_5 p0 hx_5 (by first | omega | (simp only [Int32.toInt_toInt64]; omega) | decide | assumption)) rfl rfl ⟨Nat.le_of_ble_eq_true rfl, Nat.le_of_ble_eq_true rfl⟩ rfl hl.1 rfl (Nat.le_of_ble_eq_true rfl) dX11_look_5 ⟨Nat.le_of_ble_eq_true rfl, Nat.le_of_ble_eq_true rfl⟩) (fun r_22 hw_21 => ?_)
  rcases r_22 with _ | b_23
  · refine W.eq (g2 := F0 m 8 ls ([.null])) (by rfl) ?_
    refine lv_astoreN (lv' := [(4, .null), (0, .ref o), (1, .int p0), (2, .int p1), (3, .int p2)]) hx hb dX11_look_8 hl (by decide) rfl (fun ls hl => ?_)
    refine lv_aloadN hx hb dX11_look_10 (lv_at hl 0 rfl) ?_
    refine lv_ifnullN (tgt := 29) hx hb dX11_look_12 (by decide) ?_
    refine lv_iconst (v := 0) hx hb dX11_look_29 (by decide) ?_
    exact W.zret (ty := .boolean) (v := 0) hx hb hr rfl (fun t ht hW => ⟨⟨_, f, rfl, (Or.inr rfl), by rw [ht]; exact hP, hI, hfr⟩, hS.F ht⟩) hS.2.2 dX11_look_30
  · have hb_23 := hw_21 _ rfl
    have hb_23 : tp_r L K 18 (0) 0 b_23 := hb_23
    refine W.eq (g2 := F0 m 8 ls ([.ref b_23])) (by rfl) ?_
    refine lv_astore (lv' := [(4, .ref b_23), (0, .ref o), (1, .int p0), (2, .int p1), (3, .int p2)]) hx hb dX11_look_8 hl (by decide) rfl (fun ls hl => ?_)
    refine lv_aload hx hb dX11_look_10 (lv_at hl 0 rfl) ?_
    refine lv_ifnull hx hb dX11_look_12 ?_
    refine lv_aload_n hx hb dX11_look_15 rfl (lv_at hl 1 rfl) ?_
    refine tp_get (cy := cy) (ci := 11) (v := .ref x_2) (C := RX11) (T := TX11) (N := 16) hx hb hta inlX11 hown hK hP ho.1 hf_1 rfl 0 (by decide) (hta _ wk_15) (fun _ h9 => h9) rfl dX11_look_16 ?_
    obtain ⟨x_25, x_26, x_27, x_28, x_29, x_30, x_31, x_32, x_33, hf_24, hx_25, hx_26, hx_27, hx_28, hx_29, hx_30, hx_31, hx_32, hx_33⟩ := (show tp_o_BOOK L K (0) 0 (Γ (1, 0, 0)) (f x_2) from hI0.at hx_2)
    refine tp_getN (cy := cy) (ci := 0) (v := .ref x_27) (C := RX0) (T := TX0) (N := 9) hx hb hta inlX0 hown hK hP hx_2.1 hf_24 rfl 2 (by decide) (va_Nw.use rfl (hN.1 20 _ nk_20)) (fun _ h9 => h9) rfl dX11_look_19 ?_
    refine lv_iload_n hx hb dX11_look_22 rfl (lv_at hl 3 rfl) ?_
    obtain ⟨x_35, x_36, x_37, x_38, x_39, x_40, hf_34, hx_35, hx_37, hx_38, hx_39, hx_40⟩ := (show tp_o_ROWS L K (0) 0 (Γ (3, 0, 0)) (f x_27) from hI0.at hx_27)
    refine tl_si (tq_rVN hN (As := [.int p1]) (rest := []) ⟨hx, hb, hml, hown, hta⟩ (tp_P.pre hK hN hL hU hI hP) (tp_recv hK hP hx_27.1 hf_34 rfl) lk_X11_122 (t_X4_has l D cy s.heap.size L K Γ f 0 x_27 p1 hx_27) rfl rfl ⟨Nat.le_of_ble_eq_true rfl, Nat.le_of_ble_eq_true rfl⟩ rfl hl.1 rfl (Nat.le_of_ble_eq_true rfl) dX11_look_23 ⟨Nat.le_of_ble_eq_true rfl, Nat.le_of_ble_eq_true rfl⟩) (fun r_42 hw_41 => ?_)
    have hw_41 : tl_E r_42 (0 ≤ p1.toInt ∧ p1.toInt < Γ (3, 0, 0) 0) 1 0 := hw_41
    refine lv_if_ne (tgt := 31) hx hb dX11_look_26 (by decide) (fun c_43 => ?_) (fun c_43 => ?_)
    · have c_43 := hw_41.t c_43
      refine lv_aload_n hx hb dX11_look_31 rfl (lv_at hl 1 rfl) ?_
      refine tp_get (cy := cy) (ci := 11) (v := .ref x_2) (C := RX11) (T := TX11) (N := 16) hx hb hta inlX11 hown hK hP ho.1 hf_1 rfl 0 (by decide) (hta _ wk_15) (fun _ h9 => h9) rfl dX11_look_32 ?_
      refine lv_iload_n hx hb dX11_look_35 rfl (lv_at hl 3 rfl) ?_
      refine lv_iload_n hx hb dX11_look_36 rfl (lv_at hl 4 rfl) ?_
      refine lv_aload_n hx hb dX11_look_37 rfl (lv_at hl 1 rfl) ?_
      refine tp_get (cy := cy) (ci := 11) (v := .ref x_11) (C := RX11) (T := TX11) (N := 16) hx hb hta inlX11 hown hK hP ho.1 hf_1 rfl 9 (by decide) (hta _ wk_42) (fun _ h9 => h9) rfl dX11_look_38 ?_
      obtain ⟨x_45, x_46, x_47, x_48, x_49, x_50, x_51, x_52, x_53, x_54, x_55, x_56, x_57, x_58, x_59, x_60, x_61, x_62, hf_44, hx_45, hx_46, hx_47, hx_48, hx_49, hx_50, hx_51, hx_52, hx_53, hx_55, hx_58⟩ := (show tp_o_VIEW L K (0) 0 (Γ (27, 0, 0)) (f x_11) from hI.at hx_11)
      refine tp_getN (cy := cy) (ci := 10) (v := .ref x_45) (C := RX10) (T := TX10) (N := 18) hx hb hta inlX10 hown hK hP hx_11.1 hf_44 rfl 0 (by decide) (va_Nw.use rfl (hN.1 60 _ nk_60)) (fun _ h9 => h9) rfl dX11_look_41 ?_
      refine lv_aload_n hx hb dX11_look_44 rfl (lv_at hl 1 rfl) ?_
      refine tp_get (cy := cy) (ci := 11) (v := .ref x_11) (C := RX11) (T := TX11) (N := 16) hx hb hta inlX11 hown hK hP ho.1 hf_1 rfl 9 (by decide) (hta _ wk_42) (fun _ h9 => h9) rfl dX11_look_45 ?_
      refine tp_getN (cy := cy) (ci := 10) (v := .ref x_48) (C := RX10) (T := TX10) (N := 18) hx hb hta inlX10 hown hK hP hx_11.1 hf_44 rfl 3 (by decide) (va_Nw.use rfl (hN.1 63 _ nk_63)) (fun _ h9 => h9) rfl dX11_look_48 ?_
      refine tq_cv hS (hAf _ hS.1) (tq_rVN hN (As := [.int p1, .int p2, .ref x_45, .ref x_48]) (rest := []) ⟨hx, hb, hml, hown, hta⟩ (tp_P.pre hK hN hL hU hI hP) (tp_recv hK hP hx_2.1 hf_24 rfl) lk_X11_228 (t_X0_readRow l D cy s.heap.size L K Γ f 0 x_2 p1 p2 x_45 x_48 hx_2 hx_45 hx_48) rfl rfl ⟨Nat.le_of_ble_eq_true rfl, Nat.le_of_ble_eq_true rfl⟩ rfl hl.1 rfl (Nat.le_of_ble_eq_true rfl) dX11_look_51 ⟨Nat.le_of_ble_eq_true rfl, Nat.le_of_ble_eq_true rfl⟩) (fun f_65 H locs hw_63 hP hI hc_66 hS => ?_)
      have hD : va_D A (va_pl L f_65) := tp_D hL hAL
      have hfr := tp_fr2 hfr hc_66 (by decide)
      have hf_67 := (tp_un hc_66 hx_11 (by decide)).trans hf_44
      refine lv_aload_n hx hb dX11_look_54 rfl (lv_at hl 1 rfl) ?_
      refine tp_get (cy := cy) (ci := 11) (v := .ref x_9) (C := RX11) (T := TX11) (N := 16) hx hb hta inlX11 hown hK hP ho.1 ((tp_un hfr ho (by decide)).trans hf_1) rfl 7 (by decide) (hta _ wk_34) (fun _ h9 => h9) rfl dX11_look_55 ?_
      refine lv_aload_n hx hb dX11_look_58 rfl (lv_at hl 1 rfl) ?_
      refine tp_get (cy := cy) (ci := 11) (v := .ref x_2) (C := RX11) (T := TX11) (N := 16) hx hb hta inlX11 hown hK hP ho.1 ((tp_un hfr ho (by decide)).trans hf_1) rfl 0 (by decide) (hta _ wk_15) (fun _ h9 => h9) rfl dX11_look_59 ?_
      refine tp_getN (cy := cy) (ci := 0) (v := .ref x_27) (C := RX0) (T := TX0) (N := 9) hx hb hta inlX0 hown hK hP hx_2.1 ((tp_un hfr hx_2 (by decide)).trans hf_24) rfl 2 (by decide) (va_Nw.use rfl (hN.1 20 _ nk_20)) (fun _ h9 => h9) rfl dX11_look_62 ?_
      refine lv_iload_n hx hb dX11_look_65 rfl (lv_at hl 3 rfl) ?_
      obtain ⟨x_69, x_70, hf_68, hx_69, hx_70⟩ := (show tp_o_SUMS L K (0) 0 (Γ (22, 0, 0)) (f x_9) from hI0.at hx_9)
      refine tq_cv hS (hAf _ hS.1) (tq_rVN hN (As := [.ref x_27, .int p1]) (rest := []) ⟨hx, hb, hml, hown, hta⟩ (tp_P.pre hK hN hL hU hI hP) (tp_recv hK hP hx_9.1 ((tp_un hfr hx_9 (by decide)).trans hf_68) rfl) lk_X11_205 (t_X5_setRow l D cy H.size L K Γ f_65 x_9 0 x_27 p1 hx_9 hx_27) rfl rfl ⟨Nat.le_of_ble_eq_true rfl, Nat.le_of_ble_eq_true rfl⟩ rfl hl.1 rfl (Nat.le_of_ble_eq_true rfl) dX11_look_66 ⟨Nat.le_of_ble_eq_true rfl, Nat.le_of_ble_eq_true rfl⟩) (fun f_73 H locs hw_71 hP hI hc_74 hS => ?_)
      have hD : va_D A (va_pl L f_73) := tp_D hL hAL
      have hfr := tp_fr2 hfr hc_74 (by decide)
      have hf_75 := (tp_un hc_74 hx_11 (by decide)).trans hf_67
      refine lv_aload_n hx hb dX11_look_69 rfl (lv_at hl 1 rfl) ?_
      refine tp_get (cy := cy) (ci := 11) (v := .ref x_11) (C := RX11) (T := TX11) (N := 16) hx hb hta inlX11 hown hK hP ho.1 ((tp_un hfr ho (by decide)).trans hf_1) rfl 9 (by decide) (hta _ wk_42) (fun _ h9 => h9) rfl dX11_look_70 ?_
      refine lv_aload hx hb dX11_look_73 (lv_at hl 0 rfl) ?_
      refine lv_aload_n hx hb dX11_look_75 rfl (lv_at hl 1 rfl) ?_
      refine tp_get (cy := cy) (ci := 11) (v := .ref x_9) (C := RX11) (T := TX11) (N := 16) hx hb hta inlX11 hown hK hP ho.1 ((tp_un hfr ho (by decide)).trans hf_1) rfl 7 (by decide) (hta _ wk_34) (fun _ h9 => h9) rfl dX11_look_76 ?_
      refine tq_cv hS (hAf _ hS.1) (tq_rVN hN (As := [.ref b_23, .ref x_9]) (rest := []) ⟨hx, hb, hml, hown, hta⟩ (tp_P.pre hK hN hL hU hI hP) (tp_recv hK hP hx_11.1 hf_75 rfl) lk_X11_232 (t_X10_skipBy l D cy H.size L K Γ f_73 x_11 b_23 x_9 hx_11 hb_23 hx_9) rfl rfl ⟨Nat.le_of_ble_eq_true rfl, Nat.le_of_ble_eq_true rfl⟩ rfl hl.1 rfl (Nat.le_of_ble_eq_true rfl) dX11_look_79 ⟨Nat.le_of_ble_eq_true rfl, Nat.le_of_ble_eq_true rfl⟩) (fun f_78 H locs hw_76 hP hI hc_79 hS => ?_)
      have hD : va_D A (va_pl L f_78) := tp_D hL hAL
      have hfr := tp_fr2 hfr hc_79 (by decide)
      have hf_80 := (tp_un hc_79 hx_11 (by decide)).trans hf_75
      refine lv_aload_n hx hb dX11_look_82 rfl (lv_at hl 1 rfl) ?_
      refine tp_get (cy := cy) (ci := 11) (v := .ref x_11) (C := RX11) (T := TX11) (N := 16) hx hb hta inlX11 hown hK hP ho.1 ((tp_un hfr ho (by decide)).trans hf_1) rfl 9 (by decide) (hta _ wk_42) (fun _ h9 => h9) rfl dX11_look_83 ?_
      refine lv_aload hx hb dX11_look_86 (lv_at hl 0 rfl) ?_
      refine tq_cv hS (hAf _ hS.1) (tq_rVN hN (As := [.ref b_23]) (rest := []) ⟨hx, hb, hml, hown, hta⟩ (tp_P.pre hK hN hL hU hI hP) (tp_recv hK hP hx_11.1 hf_80 rfl) lk_X11_236 (t_X10_frameBy l D cy H.size L K Γ f_78 x_11 b_23 hx_11 hb_23) rfl rfl ⟨Nat.le_of_ble_eq_true rfl, Nat.le_of_ble_eq_true rfl⟩ rfl hl.1 rfl (Nat.le_of_ble_eq_true rfl) dX11_look_88 ⟨Nat.le_of_ble_eq_true rfl, Nat.le_of_ble_eq_true rfl⟩) (fun f_83 H locs hw_81 hP hI hc_84 hS => ?_)
      have hD : va_D A (va_pl L f_83) := tp_D hL hAL
      have hfr := tp_fr2 hfr hc_84 (by decide)
      have hw_81 : tv_gap (f_83 x_11) := hw_81
      have hk1 : tv_gap (f_83 x_11) := hw_81
      refine lv_aload_n hx hb dX11_look_91 rfl (lv_at hl 1 rfl) ?_
      refine tp_get (cy := cy) (ci := 11) (v := .ref x_11) (C := RX11) (T := TX11) (N := 16) hx hb hta inlX11 hown hK hP ho.1 ((tp_un hfr ho (by decide)).trans hf_1) rfl 9 (by decide) (hta _ wk_42) (fun _ h9 => h9) rfl dX11_look_92 ?_
      obtain ⟨x_86, x_87, x_88, x_89, x_90, x_91, x_92, x_93, x_94, x_95, x_96, x_97, x_98, x_99, x_100, x_101, x_102, x_103, hf_85, hx_86, hx_87, hx_88, hx_89, hx_90, hx_91, hx_92, hx_93, hx_94, hx_96, hx_99⟩ := (show tp_o_VIEW L K (0) 0 (Γ (27, 0, 0)) (f_83 x_11) from hI.at hx_11)
      refine tq_cv hS (hAf _ hS.1) (tq_rVN hN (As := []) (rest := []) ⟨hx, hb, hml, hown, hta⟩ (tp_P.pre hK hN hL hU hI hP) (tp_recv hK hP hx_11.1 hf_85 rfl) lk_X11_240 (t_X10_tally l D cy H.size L K Γ f_83 x_11 hx_11) rfl rfl ⟨Nat.le_of_ble_eq_true rfl, Nat.le_of_ble_eq_true rfl⟩ rfl hl.1 rfl (Nat.le_of_ble_eq_true rfl) dX11_look_95 ⟨Nat.le_of_ble_eq_true rfl, Nat.le_of_ble_eq_true rfl⟩) (fun f_106 H locs hw_104 hP hI hc_107 hS => ?_)
      have hD : va_D A (va_pl L f_106) := tp_D hL hAL
      have hfr := tp_fr2 hfr hc_107 (by decide)
      have hf_108 := (tp_un hc_107 hx_11 (by decide)).trans hf_85
      have hk2 : tv_gap (f_106 x_11) := by rw [tp_un hc_107 hx_11 (by decide)]; exact hk1
      refine lv_aload_n hx hb dX11_look_98 rfl (lv_at hl 1 rfl) ?_
      refine tp_get (cy := cy) (ci := 11) (v := .ref x_11) (C := RX11) (T := TX11) (N := 16) hx hb hta inlX11 hown hK hP ho.1 ((tp_un hfr ho (by decide)).trans hf_1) rfl 9 (by decide) (hta _ wk_42) (fun _ h9 => h9) rfl dX11_look_99 ?_
      refine tq_cv hS (hAf _ hS.1) (tq_rVN hN (As := []) (rest := []) ⟨hx, hb, hml, hown, hta⟩ (tp_P.pre hK hN hL hU hI hP) (tp_recv hK hP hx_11.1 hf_108 rfl) lk_X11_243 (t_X10_lay l D cy H.size L K Γ f_106 x_11 hx_11) rfl rfl ⟨Nat.le_of_ble_eq_true rfl, Nat.le_of_ble_eq_true rfl⟩ rfl hl.1 rfl (Nat.le_of_ble_eq_true rfl) dX11_look_102 ⟨Nat.le_of_ble_eq_true rfl, Nat.le_of_ble_eq_true rfl⟩) (fun f_111 H locs hw_109 hP hI hc_112 hS => ?_)
      have hD : va_D A (va_pl L f_111) := tp_D hL hAL
      have hfr := tp_fr2 hfr hc_112 (by decide)
      have hw_109 : tv_gap (f_106 x_11) → tv_gap (f_111 x_11) := hw_109
      have hk3 : tv_gap (f_111 x_11) := hw_109 hk2
      refine lv_iconst (v := 1) hx hb dX11_look_105 (by decide) ?_
      exact W.zret (ty := .boolean) (v := 1) hx hb hr rfl (fun t ht hW => ⟨⟨_, f_111, rfl, (Or.inl ⟨rfl, tv_gx.of hf_1 rfl hk3⟩), by rw [ht]; exact hP, hI, hfr⟩, hS.F ht⟩) hS.2.2 dX11_look_106
    · have c_43 := hw_41.f c_43
      refine lv_iconst (v := 0) hx hb dX11_look_29 (by decide) ?_
      exact W.zret (ty := .boolean) (v := 0) hx hb hr rfl (fun t ht hW => ⟨⟨_, f, rfl, (Or.inr rfl), by rw [ht]; exact hP, hI, hfr⟩, hS.F ht⟩) hS.2.2 dX11_look_30
set_option maxHeartbeats 4000000 in
set_option maxRecDepth 100000 in
theorem t_X11_curve (l : Launch) (D : va_G) (cy : Nat → ClassId) (sz : Nat) (L : List Nat) (K : Nat → tk_K) (Γ : tk_G) (f : Nat → va_E) (o : Nat) (p0 : Int32) (p1 : Int32) (p2 : Int32) (p3 : Int32) (ho : tp_r L K 0 (0) 0 o) : Met l yX11_curve (tl_w yX11_curve cX11_curve 5 (some .int)) ({ frames := 5, cells := 0, slots := 0, locals := 113 }) (va_Pc [.ref o, .int p0, .int p1, .int p2, .int p3] (tp_P D cy L K Γ f sz)) (va_Qi (fun (r : Int32) (u : Nat → va_E) => True) (tp_B D cy L K Γ f [28, 29, 23, 24, 27, 30, 31, 32]) (tp_A L sz)) 0 0 (tp_A L sz) := by
  refine Met.ofW (cc := cX11_curve) (maxL := 5) (ret := (some .int)) (by decide) rfl ?_
  intro p e s m args below meth c s₁ B hml hv
  obtain ⟨rfl, hsz, hP, hK, hL, hI, hN, hU⟩ := hv
  have hx := B.exec
  have hb := B.bytes
  have hr := B.returns
  have hta := tl_hta (atoms_spec (ws := tl_w yX11_curve cX11_curve 5 (some .int)) B.pre)
  have hown : s.vm.findClass RX11 = some m.cls := findClass_of_methodNamed B.named
  have hlocks := B.notSynchronized
  subst hsz
  have hI0 := hI
  generalize hAe : tp_A L s.heap.size = A
  have hA : ∀ q : Nat, s.heap.size ≤ q → A q := fun q h => by rw [← hAe]; exact Or.inr h
  have hAL : ∀ q ∈ L, A q := fun q h => by rw [← hAe]; exact Or.inl h
  have hAf : ∀ (H : Heap), s.heap.size ≤ H.size → ∀ q, tp_A L H.size q → A q := fun H h q hq => hq.elim (hAL q) (fun h2 => hA q (Nat.le_trans h h2))
  have hS : va_S A s.heap s.heap [] := va_S.rf
  have hD : va_D A (va_pl L f) := tp_D hL hAL
  have hfr : ∀ b, (K b).1 ∉ ([28, 29, 23, 24, 27, 30, 31, 32] : List Nat) → f b = f b := fun _ _ => rfl
  have hl := lv_entry ([.ref o, .int p0, .int p1, .int p2, .int p3]) (n := 5) (Nat.le_of_ble_eq_true rfl)
  rw [lg_entry_eq]
  generalize (lg_sl ([.ref o, .int p0, .int p1, .int p2, .int p3]) ++ List.replicate (5 - (lg_sl ([.ref o, .int p0, .int p1, .int p2, .int p3])).length) Slot.unset).toArray = ls at hl ⊢
  have hl : lv_has ls 5 [(0, .ref o), (1, .int p0), (2, .int p1), (3, .int p2), (4, .int p3)] := hl
  refine lv_iload_n hx hb dX11_curve_0 rfl (lv_at hl 3 rfl) ?_
  refine tl_si (tq_rS (As := [.int p2]) (rest := []) ⟨hx, hb, hml, hown, hta⟩ (tp_P.pre hK hN hL hU hI hP) lk_X11_125 (t_X11_isColour l D cy s.heap.size L K Γ f p2 ) rfl rfl ⟨Nat.le_of_ble_eq_true rfl, Nat.le_of_ble_eq_true rfl⟩ rfl hl.1 rfl (Nat.le_of_ble_eq_true rfl) dX11_curve_1 ⟨Nat.le_of_ble_eq_true rfl, Nat.le_of_ble_eq_true rfl⟩) (fun r_2 hw_1 => ?_)
  have hw_1 : tl_E r_2 (0 ≤ p2.toInt ∧ p2.toInt ≤ 299) 1 0 := hw_1
  refine lv_if_eq (tgt := 27) hx hb dX11_curve_4 (by decide) (fun c_3 => ?_) (fun c_3 => ?_)
  · have c_3 := hw_1.f c_3
    refine lv_ldc (v := (-2000000)) hx hb hown (hta _ wk_230) dX11_curve_27 ?_
    exact W.iret (v := (-2000000)) hx hb hr (fun t ht hW => ⟨⟨_, f, rfl, trivial, by rw [ht]; exact hP, hI, hfr⟩, hS.F ht⟩) hS.2.2 dX11_curve_29
  · have c_3 := hw_1.t c_3
    refine lv_iload hx hb dX11_curve_7 (lv_at hl 4 rfl) ?_
    refine lv_iconst (v := 0) hx hb dX11_curve_9 (by decide) ?_
    refine lv_iconst (v := 2) hx hb dX11_curve_10 (by decide) ?_
    refine tl_si (tq_rS (As := [.int p3, .int 0, .int 2]) (rest := []) ⟨hx, hb, hml, hown, hta⟩ (tp_P.pre hK hN hL hU hI hP) lk_X11_105 (t_X11_isIn l D cy s.heap.size L K Γ f p3 0 2 ) rfl rfl ⟨Nat.le_of_ble_eq_true rfl, Nat.le_of_ble_eq_true rfl⟩ rfl hl.1 rfl (Nat.le_of_ble_eq_true rfl) dX11_curve_11 ⟨Nat.le_of_ble_eq_true rfl, Nat.le_of_ble_eq_true rfl⟩) (fun r_5 hw_4 => ?_)
    have hw_4 : tl_E r_5 ((0 : Int) ≤ p3.toInt ∧ p3.toInt ≤ (2 : Int)) 1 0 := hw_4
    refine lv_if_eq (tgt := 27) hx hb dX11_curve_14 (by decide) (fun c_6 => ?_) (fun c_6 => ?_)
    · have c_6 := hw_4.f c_6
      refine lv_ldc (v := (-2000000)) hx hb hown (hta _ wk_230) dX11_curve_27 ?_
      exact W.iret (v := (-2000000)) hx hb hr (fun t ht hW => ⟨⟨_, f, rfl, trivial, by rw [ht]; exact hP, hI, hfr⟩, hS.F ht⟩) hS.2.2 dX11_curve_29
    · have c_6 := hw_4.t c_6
      refine lv_aload_n hx hb dX11_curve_17 rfl (lv_at hl 0 rfl) ?_
      refine lv_iload_n hx hb dX11_curve_18 rfl (lv_at hl 1 rfl) ?_
      refine lv_iload_n hx hb dX11_curve_19 rfl (lv_at hl 2 rfl) ?_
      refine lv_iconst (v := (-1)) hx hb dX11_curve_20 (by decide) ?_
      obtain ⟨x_8, x_9, x_10, x_11, x_12, x_13, x_14, x_15, x_16, x_17, x_18, x_19, x_20, x_21, x_22, x_23, hf_7, hx_8, hx_9, hx_10, hx_11, hx_12, hx_13, hx_14, hx_15, hx_16, hx_17, hx_18, hx_19, hx_20, hx_21, hx_22, hx_23⟩ := (show tp_o_X L K (0) 0 (Γ (0, 0, 0)) (f o) from hI0.at ho)
      refine tq_ci hS (hAf _ hS.1) (tq_rV (As := [.int p0, .int p1, .int (-1)]) (rest := []) ⟨hx, hb, hml, hown, hta⟩ (tp_P.pre hK hN hL hU hI hP) (tp_recv hK hP ho.1 hf_7 rfl) lk_X11_246 (t_X11_look l D cy s.heap.size L K Γ f o p0 p1 (-1) ho) rfl rfl ⟨Nat.le_of_ble_eq_true rfl, Nat.le_of_ble_eq_true rfl⟩ rfl hl.1 rfl (Nat.le_of_ble_eq_true rfl) dX11_curve_21 ⟨Nat.le_of_ble_eq_true rfl, Nat.le_of_ble_eq_true rfl⟩) (fun r_25 f_26 H locs hw_24 hP hI hc_27 hS => ?_)
      have hD : va_D A (va_pl L f_26) := tp_D hL hAL
      have hfr := tp_fr2 hfr hc_27 (by decide)
      have hw_24 : tl_J r_25 (tv_gx f f_26 o) := hw_24
      refine lv_if_ne (tgt := 30) hx hb dX11_curve_24 (by decide) (fun c_28 => ?_) (fun c_28 => ?_)
      · have c_28 := hw_24.t c_28
        refine lv_iload hx hb dX11_curve_30 (lv_at hl 4 rfl) ?_
        refine lv_if_ne (tgt := 52) hx hb dX11_curve_32 (by decide) (fun c_29 => ?_) (fun c_29 => ?_)
        · have c_29 : ¬ p3.toInt = (0 : Int) := tl_neq c_29
          refine lv_aload_n hx hb dX11_curve_52 rfl (lv_at hl 0 rfl) ?_
          refine tp_get (cy := cy) (ci := 11) (v := .ref x_17) (C := RX11) (T := TX11) (N := 16) hx hb hta inlX11 hown hK hP ho.1 ((tp_un hfr ho (by decide)).trans hf_7) rfl 9 (by decide) (hta _ wk_42) (fun _ h9 => h9) rfl dX11_curve_53 ?_
          obtain ⟨x_31, x_32, x_33, x_34, x_35, x_36, x_37, x_38, x_39, x_40, x_41, x_42, x_43, x_44, x_45, x_46, x_47, x_48, hf_30, hx_31, hx_32, hx_33, hx_34, hx_35, hx_36, hx_37, hx_38, hx_39, hx_41, hx_44⟩ := (show tp_o_VIEW L K (0) 0 (Γ (27, 0, 0)) (f_26 x_17) from hI.at hx_17)
          refine tl_si (tq_rVN hN (As := []) (rest := []) ⟨hx, hb, hml, hown, hta⟩ (tp_P.pre hK hN hL hU hI hP) (tp_recv hK hP hx_17.1 hf_30 rfl) lk_X11_252 (t_X10_isLaid l D cy H.size L K Γ f_26 x_17 hx_17) rfl rfl ⟨Nat.le_of_ble_eq_true rfl, Nat.le_of_ble_eq_true rfl⟩ rfl hl.1 rfl (Nat.le_of_ble_eq_true rfl) dX11_curve_56 ⟨Nat.le_of_ble_eq_true rfl, Nat.le_of_ble_eq_true rfl⟩) (fun r_50 hw_49 => ?_)
          have hw_49 : tl_J r_50 (True) := hw_49
          refine lv_if_eq (tgt := 80) hx hb dX11_curve_59 (by decide) (fun c_51 => ?_) (fun c_51 => ?_)
          · have c_51 := c_51
            refine lv_ldc (v := (-1000000)) hx hb hown (hta _ wk_227) dX11_curve_80 ?_
            exact W.iret (v := (-1000000)) hx hb hr (fun t ht hW => ⟨⟨_, f_26, rfl, trivial, by rw [ht]; exact hP, hI, hfr⟩, hS.F ht⟩) hS.2.2 dX11_curve_82
          · have c_51 := hw_49.t c_51
            refine lv_iload hx hb dX11_curve_62 (lv_at hl 4 rfl) ?_
            refine lv_iconst (v := 2) hx hb dX11_curve_64 (by decide) ?_
            refine lv_icmp_ne (tgt := 83) hx hb dX11_curve_65 (by decide) (fun c_52 => ?_) (fun c_52 => ?_)
            · have c_52 : ¬ p3.toInt = (2 : Int) := tl_neq c_52
              refine lv_iload hx hb dX11_curve_83 (lv_at hl 4 rfl) ?_
              refine lv_iconst (v := 1) hx hb dX11_curve_85 (by decide) ?_
              refine lv_icmp_ne (tgt := 101) hx hb dX11_curve_86 (by decide) (fun c_53 => ?_) (fun c_53 => ?_)
              · have c_53 : ¬ p3.toInt = (1 : Int) := tl_neq c_53
                exfalso; omega
              · have c_53 : p3.toInt = (1 : Int) := tl_eq c_53
                refine lv_aload_n hx hb dX11_curve_89 rfl (lv_at hl 0 rfl) ?_
                refine tp_get (cy := cy) (ci := 11) (v := .ref x_17) (C := RX11) (T := TX11) (N := 16) hx hb hta inlX11 hown hK hP ho.1 ((tp_un hfr ho (by decide)).trans hf_7) rfl 9 (by decide) (hta _ wk_42) (fun _ h9 => h9) rfl dX11_curve_90 ?_
                refine tp_getN (cy := cy) (ci := 10) (v := .ref x_35) (C := RX10) (T := TX10) (N := 18) hx hb hta inlX10 hown hK hP hx_17.1 hf_30 rfl 4 (by decide) (va_Nw.use rfl (hN.1 65 _ nk_65)) (fun _ h9 => h9) rfl dX11_curve_93 ?_
                refine lv_iload_n hx hb dX11_curve_96 rfl (lv_at hl 3 rfl) ?_
                obtain ⟨g_55, hf_54, hg_56⟩ := (show tp_ai cy 29 (300) (f_26 x_35) from hI.at hx_35)
                have hn_57 : vp_in p2 (300) := tl_in (by omega) (by omega)
                refine tp_iald (cy := cy) hx hb hK hP hx_35.1 hf_54 hn_57 dX11_curve_97 ?_
                refine lv_topi (fun z_58 ez_58 => ?_)
                refine lv_goto (tgt := 109) hx hb dX11_curve_98 (by decide) ?_
                exact W.iret (v := z_58) hx hb hr (fun t ht hW => ⟨⟨_, f_26, rfl, trivial, by rw [ht]; exact hP, hI, hfr⟩, hS.F ht⟩) hS.2.2 dX11_curve_109
            · have c_52 : p3.toInt = (2 : Int) := tl_eq c_52
              refine lv_aload_n hx hb dX11_curve_68 rfl (lv_at hl 0 rfl) ?_
              refine tp_get (cy := cy) (ci := 11) (v := .ref x_17) (C := RX11) (T := TX11) (N := 16) hx hb hta inlX11 hown hK hP ho.1 ((tp_un hfr ho (by decide)).trans hf_7) rfl 9 (by decide) (hta _ wk_42) (fun _ h9 => h9) rfl dX11_curve_69 ?_
              refine tp_getN (cy := cy) (ci := 10) (v := .ref x_31) (C := RX10) (T := TX10) (N := 18) hx hb hta inlX10 hown hK hP hx_17.1 hf_30 rfl 0 (by decide) (va_Nw.use rfl (hN.1 60 _ nk_60)) (fun _ h9 => h9) rfl dX11_curve_72 ?_
              refine lv_iload_n hx hb dX11_curve_75 rfl (lv_at hl 3 rfl) ?_
              obtain ⟨g_60, hf_59⟩ := (show tp_az cy (300) (f_26 x_31) from hI.at hx_31)
              have hn_62 : vp_in p2 (300) := tl_in (by omega) (by omega)
              refine tp_zald (cy := cy) hx hb hK hP hx_31.1 hf_59 hn_62 dX11_curve_76 ?_
              refine lv_topi (fun z_63 ez_63 => ?_)
              refine lv_if_ne (tgt := 83) hx hb dX11_curve_77 (by decide) (fun c_64 => ?_) (fun c_64 => ?_)
              · have c_64 : ¬ z_63.toInt = (0 : Int) := tl_neq c_64
                refine lv_iload hx hb dX11_curve_83 (lv_at hl 4 rfl) ?_
                refine lv_iconst (v := 1) hx hb dX11_curve_85 (by decide) ?_
                refine lv_icmp_ne (tgt := 101) hx hb dX11_curve_86 (by decide) (fun c_65 => ?_) (fun c_65 => ?_)
                · have c_65 : ¬ p3.toInt = (1 : Int) := tl_neq c_65
                  refine lv_aload_n hx hb dX11_curve_101 rfl (lv_at hl 0 rfl) ?_
                  refine tp_get (cy := cy) (ci := 11) (v := .ref x_17) (C := RX11) (T := TX11) (N := 16) hx hb hta inlX11 hown hK hP ho.1 ((tp_un hfr ho (by decide)).trans hf_7) rfl 9 (by decide) (hta _ wk_42) (fun _ h9 => h9) rfl dX11_curve_102 ?_
                  refine lv_iload_n hx hb dX11_curve_105 rfl (lv_at hl 3 rfl) ?_
                  refine tl_si (tq_rVN hN (As := [.int p2]) (rest := []) ⟨hx, hb, hml, hown, hta⟩ (tp_P.pre hK hN hL hU hI hP) (tp_recv hK hP hx_17.1 hf_30 rfl) lk_X11_258 (t_X10_leftAt l D cy H.size L K Γ f_26 x_17 p2 hx_17) rfl rfl ⟨Nat.le_of_ble_eq_true rfl, Nat.le_of_ble_eq_true rfl⟩ rfl hl.1 rfl (Nat.le_of_ble_eq_true rfl) dX11_curve_106 ⟨Nat.le_of_ble_eq_true rfl, Nat.le_of_ble_eq_true rfl⟩) (fun r_67 hw_66 => ?_)
                  exact W.iret (v := r_67) hx hb hr (fun t ht hW => ⟨⟨_, f_26, rfl, trivial, by rw [ht]; exact hP, hI, hfr⟩, hS.F ht⟩) hS.2.2 dX11_curve_109
                · have c_65 : p3.toInt = (1 : Int) := tl_eq c_65
                  exfalso; omega
              · have c_64 : z_63.toInt = (0 : Int) := tl_eq c_64
                refine lv_ldc (v := (-1000000)) hx hb hown (hta _ wk_227) dX11_curve_80 ?_
                exact W.iret (v := (-1000000)) hx hb hr (fun t ht hW => ⟨⟨_, f_26, rfl, trivial, by rw [ht]; exact hP, hI, hfr⟩, hS.F ht⟩) hS.2.2 dX11_curve_82
        · have c_29 : p3.toInt = (0 : Int) := tl_eq c_29
          refine lv_aload_n hx hb dX11_curve_35 rfl (lv_at hl 0 rfl) ?_
          refine tp_get (cy := cy) (ci := 11) (v := .ref x_17) (C := RX11) (T := TX11) (N := 16) hx hb hta inlX11 hown hK hP ho.1 ((tp_un hfr ho (by decide)).trans hf_7) rfl 9 (by decide) (hta _ wk_42) (fun _ h9 => h9) rfl dX11_curve_36 ?_
          refine lv_iload_n hx hb dX11_curve_39 rfl (lv_at hl 3 rfl) ?_
          obtain ⟨x_69, x_70, x_71, x_72, x_73, x_74, x_75, x_76, x_77, x_78, x_79, x_80, x_81, x_82, x_83, x_84, x_85, x_86, hf_68, hx_69, hx_70, hx_71, hx_72, hx_73, hx_74, hx_75, hx_76, hx_77, hx_79, hx_82⟩ := (show tp_o_VIEW L K (0) 0 (Γ (27, 0, 0)) (f_26 x_17) from hI.at hx_17)
          refine tl_si (tq_rVN hN (As := [.int p2]) (rest := []) ⟨hx, hb, hml, hown, hta⟩ (tp_P.pre hK hN hL hU hI hP) (tp_recv hK hP hx_17.1 hf_68 rfl) lk_X11_249 (t_X10_isUsed l D cy H.size L K Γ f_26 x_17 p2 hx_17) rfl rfl ⟨Nat.le_of_ble_eq_true rfl, Nat.le_of_ble_eq_true rfl⟩ rfl hl.1 rfl (Nat.le_of_ble_eq_true rfl) dX11_curve_40 ⟨Nat.le_of_ble_eq_true rfl, Nat.le_of_ble_eq_true rfl⟩) (fun r_88 hw_87 => ?_)
          have hw_87 : tl_J r_88 (True) := hw_87
          refine lv_if_eq (tgt := 50) hx hb dX11_curve_43 (by decide) (fun c_89 => ?_) (fun c_89 => ?_)
          · have c_89 := c_89
            refine lv_iconst (v := 0) hx hb dX11_curve_50 (by decide) ?_
            exact W.iret (v := 0) hx hb hr (fun t ht hW => ⟨⟨_, f_26, rfl, trivial, by rw [ht]; exact hP, hI, hfr⟩, hS.F ht⟩) hS.2.2 dX11_curve_51
          · have c_89 := hw_87.t c_89
            refine lv_iconst (v := 1) hx hb dX11_curve_46 (by decide) ?_
            refine lv_goto (tgt := 51) hx hb dX11_curve_47 (by decide) ?_
            exact W.iret (v := 1) hx hb hr (fun t ht hW => ⟨⟨_, f_26, rfl, trivial, by rw [ht]; exact hP, hI, hfr⟩, hS.F ht⟩) hS.2.2 dX11_curve_51
      · have c_28 := c_28
        refine lv_ldc (v := (-2000000)) hx hb hown (hta _ wk_230) dX11_curve_27 ?_
        exact W.iret (v := (-2000000)) hx hb hr (fun t ht hW => ⟨⟨_, f_26, rfl, trivial, by rw [ht]; exact hP, hI, hfr⟩, hS.F ht⟩) hS.2.2 dX11_curve_29
set_option maxHeartbeats 4000000 in
set_option maxRecDepth 100000 in
theorem t_X11_deep (l : Launch) (D : va_G) (cy : Nat → ClassId) (sz : Nat) (L : List Nat) (K : Nat → tk_K) (Γ : tk_G) (f : Nat → va_E) (o : Nat) (p0 : Int32) (p1 : Int32) (p2 : Int32) (ho : tp_r L K 0 (0) 0 o) : Met l yX11_deep (tl_w yX11_deep cX11_deep 4 (some .long)) ({ frames := 5, cells := 0, slots := 0, locals := 113 }) (va_Pc [.ref o, .int p0, .int p1, .int p2] (tp_P D cy L K Γ f sz)) (va_Ql (fun (r : Int64) (u : Nat → va_E) => True) (tp_B D cy L K Γ f [28, 29, 23, 24, 27, 30, 31, 32]) (tp_A L sz)) 0 0 (tp_A L sz) := by
  refine Met.ofW (cc := cX11_deep) (maxL := 4) (ret := (some .long)) (by decide) rfl ?_
  intro p e s m args below meth c s₁ B hml hv
  obtain ⟨rfl, hsz, hP, hK, hL, hI, hN, hU⟩ := hv
  have hx := B.exec
  have hb := B.bytes
  have hr := B.returns
  have hta := tl_hta (atoms_spec (ws := tl_w yX11_deep cX11_deep 4 (some .long)) B.pre)
  have hown : s.vm.findClass RX11 = some m.cls := findClass_of_methodNamed B.named
  have hlocks := B.notSynchronized
  subst hsz
  have hI0 := hI
  generalize hAe : tp_A L s.heap.size = A
  have hA : ∀ q : Nat, s.heap.size ≤ q → A q := fun q h => by rw [← hAe]; exact Or.inr h
  have hAL : ∀ q ∈ L, A q := fun q h => by rw [← hAe]; exact Or.inl h
  have hAf : ∀ (H : Heap), s.heap.size ≤ H.size → ∀ q, tp_A L H.size q → A q := fun H h q hq => hq.elim (hAL q) (fun h2 => hA q (Nat.le_trans h h2))
  have hS : va_S A s.heap s.heap [] := va_S.rf
  have hD : va_D A (va_pl L f) := tp_D hL hAL
  have hfr : ∀ b, (K b).1 ∉ ([28, 29, 23, 24, 27, 30, 31, 32] : List Nat) → f b = f b := fun _ _ => rfl
  have hl := lv_entry ([.ref o, .int p0, .int p1, .int p2]) (n := 4) (Nat.le_of_ble_eq_true rfl)
  rw [lg_entry_eq]
  generalize (lg_sl ([.ref o, .int p0, .int p1, .int p2]) ++ List.replicate (4 - (lg_sl ([.ref o, .int p0, .int p1, .int p2])).length) Slot.unset).toArray = ls at hl ⊢
  have hl : lv_has ls 4 [(0, .ref o), (1, .int p0), (2, .int p1), (3, .int p2)] := hl
  refine lv_iload_n hx hb dX11_deep_0 rfl (lv_at hl 3 rfl) ?_
  refine lv_iconst (v := 0) hx hb dX11_deep_1 (by decide) ?_
  refine lv_iconst (v := 4) hx hb dX11_deep_2 (by decide) ?_
  refine tl_si (tq_rS (As := [.int p2, .int 0, .int 4]) (rest := []) ⟨hx, hb, hml, hown, hta⟩ (tp_P.pre hK hN hL hU hI hP) lk_X11_105 (t_X11_isIn l D cy s.heap.size L K Γ f p2 0 4 ) rfl rfl ⟨Nat.le_of_ble_eq_true rfl, Nat.le_of_ble_eq_true rfl⟩ rfl hl.1 rfl (Nat.le_of_ble_eq_true rfl) dX11_deep_3 ⟨Nat.le_of_ble_eq_true rfl, Nat.le_of_ble_eq_true rfl⟩) (fun r_2 hw_1 => ?_)
  have hw_1 : tl_E r_2 ((0 : Int) ≤ p2.toInt ∧ p2.toInt ≤ (4 : Int)) 1 0 := hw_1
  refine lv_if_eq (tgt := 19) hx hb dX11_deep_6 (by decide) (fun c_3 => ?_) (fun c_3 => ?_)
  · have c_3 := hw_1.f c_3
    refine lv_ldc2 (v := (-2000000000)) hx hb hown (hta _ wk_961) dX11_deep_19 ?_
    exact W.lret (v := (-2000000000)) hx hb hr (fun t ht hW => ⟨⟨_, f, rfl, trivial, by rw [ht]; exact hP, hI, hfr⟩, hS.F ht⟩) hS.2.2 dX11_deep_22
  · have c_3 := hw_1.t c_3
    refine lv_aload_n hx hb dX11_deep_9 rfl (lv_at hl 0 rfl) ?_
    refine lv_iload_n hx hb dX11_deep_10 rfl (lv_at hl 1 rfl) ?_
    refine lv_iload_n hx hb dX11_deep_11 rfl (lv_at hl 2 rfl) ?_
    refine lv_iconst (v := (-1)) hx hb dX11_deep_12 (by decide) ?_
    obtain ⟨x_5, x_6, x_7, x_8, x_9, x_10, x_11, x_12, x_13, x_14, x_15, x_16, x_17, x_18, x_19, x_20, hf_4, hx_5, hx_6, hx_7, hx_8, hx_9, hx_10, hx_11, hx_12, hx_13, hx_14, hx_15, hx_16, hx_17, hx_18, hx_19, hx_20⟩ := (show tp_o_X L K (0) 0 (Γ (0, 0, 0)) (f o) from hI0.at ho)
    refine tq_ci hS (hAf _ hS.1) (tq_rV (As := [.int p0, .int p1, .int (-1)]) (rest := []) ⟨hx, hb, hml, hown, hta⟩ (tp_P.pre hK hN hL hU hI hP) (tp_recv hK hP ho.1 hf_4 rfl) lk_X11_246 (t_X11_look l D cy s.heap.size L K Γ f o p0 p1 (-1) ho) rfl rfl ⟨Nat.le_of_ble_eq_true rfl, Nat.le_of_ble_eq_true rfl⟩ rfl hl.1 rfl (Nat.le_of_ble_eq_true rfl) dX11_deep_13 ⟨Nat.le_of_ble_eq_true rfl, Nat.le_of_ble_eq_true rfl⟩) (fun r_22 f_23 H locs hw_21 hP hI hc_24 hS => ?_)
    have hD : va_D A (va_pl L f_23) := tp_D hL hAL
    have hfr := tp_fr2 hfr hc_24 (by decide)
    have hw_21 : tl_J r_22 (tv_gx f f_23 o) := hw_21
    refine lv_if_ne (tgt := 23) hx hb dX11_deep_16 (by decide) (fun c_25 => ?_) (fun c_25 => ?_)
    · have c_25 := hw_21.t c_25
      refine lv_iload_n hx hb dX11_deep_23 rfl (lv_at hl 3 rfl) ?_
      rcases (show p2.toInt = 0 ∨ p2.toInt = 1 ∨ p2.toInt = 2 ∨ p2.toInt = 3 ∨ (p2.toInt < 0 ∨ 3 < p2.toInt) by omega) with c_26 | c_26 | c_26 | c_26 | c_26
      · refine lv_tableIn (tgt := 56) hx hb dX11_deep_24 (by omega) (by omega) (by rw [c_26]; rfl) (by decide) ?_
        refine lv_aload_n hx hb dX11_deep_56 rfl (lv_at hl 0 rfl) ?_
        refine tp_get (cy := cy) (ci := 11) (v := .ref x_14) (C := RX11) (T := TX11) (N := 16) hx hb hta inlX11 hown hK hP ho.1 ((tp_un hfr ho (by decide)).trans hf_4) rfl 9 (by decide) (hta _ wk_42) (fun _ h9 => h9) rfl dX11_deep_57 ?_
        obtain ⟨x_28, x_29, x_30, x_31, x_32, x_33, x_34, x_35, x_36, x_37, x_38, x_39, x_40, x_41, x_42, x_43, x_44, x_45, hf_27, hx_28, hx_29, hx_30, hx_31, hx_32, hx_33, hx_34, hx_35, hx_36, hx_38, hx_41⟩ := (show tp_o_VIEW L K (0) 0 (Γ (27, 0, 0)) (f_23 x_14) from hI.at hx_14)
        refine tl_si (tq_rVN hN (As := []) (rest := []) ⟨hx, hb, hml, hown, hta⟩ (tp_P.pre hK hN hL hU hI hP) (tp_recv hK hP hx_14.1 hf_27 rfl) lk_X11_264 (t_X10_deepness l D cy H.size L K Γ f_23 x_14 hx_14) rfl rfl ⟨Nat.le_of_ble_eq_true rfl, Nat.le_of_ble_eq_true rfl⟩ rfl hl.1 rfl (Nat.le_of_ble_eq_true rfl) dX11_deep_60 ⟨Nat.le_of_ble_eq_true rfl, Nat.le_of_ble_eq_true rfl⟩) (fun r_47 hw_46 => ?_)
        refine lv_i2l (v := r_47.toInt64) hx hb dX11_deep_63 (by first | rfl | decide) ?_
        exact W.lret (v := r_47.toInt64) hx hb hr (fun t ht hW => ⟨⟨_, f_23, rfl, trivial, by rw [ht]; exact hP, hI, hfr⟩, hS.F ht⟩) hS.2.2 dX11_deep_64
      · refine lv_tableIn (tgt := 65) hx hb dX11_deep_24 (by omega) (by omega) (by rw [c_26]; rfl) (by decide) ?_
        refine lv_aload_n hx hb dX11_deep_65 rfl (lv_at hl 0 rfl) ?_
        refine tp_get (cy := cy) (ci := 11) (v := .ref x_14) (C := RX11) (T := TX11) (N := 16) hx hb hta inlX11 hown hK hP ho.1 ((tp_un hfr ho (by decide)).trans hf_4) rfl 9 (by decide) (hta _ wk_42) (fun _ h9 => h9) rfl dX11_deep_66 ?_
        obtain ⟨x_49, x_50, x_51, x_52, x_53, x_54, x_55, x_56, x_57, x_58, x_59, x_60, x_61, x_62, x_63, x_64, x_65, x_66, hf_48, hx_49, hx_50, hx_51, hx_52, hx_53, hx_54, hx_55, hx_56, hx_57, hx_59, hx_62⟩ := (show tp_o_VIEW L K (0) 0 (Γ (27, 0, 0)) (f_23 x_14) from hI.at hx_14)
        refine tl_si (tq_rVN hN (As := []) (rest := []) ⟨hx, hb, hml, hown, hta⟩ (tp_P.pre hK hN hL hU hI hP) (tp_recv hK hP hx_14.1 hf_48 rfl) lk_X11_252 (t_X10_isLaid l D cy H.size L K Γ f_23 x_14 hx_14) rfl rfl ⟨Nat.le_of_ble_eq_true rfl, Nat.le_of_ble_eq_true rfl⟩ rfl hl.1 rfl (Nat.le_of_ble_eq_true rfl) dX11_deep_69 ⟨Nat.le_of_ble_eq_true rfl, Nat.le_of_ble_eq_true rfl⟩) (fun r_68 hw_67 => ?_)
        have hw_67 : tl_J r_68 (True) := hw_67
        refine lv_if_eq (tgt := 85) hx hb dX11_deep_72 (by decide) (fun c_69 => ?_) (fun c_69 => ?_)
        · have c_69 := c_69
          refine lv_ldc2 (v := (-1)) hx hb hown (hta _ wk_962) dX11_deep_85 ?_
          exact W.lret (v := (-1)) hx hb hr (fun t ht hW => ⟨⟨_, f_23, rfl, trivial, by rw [ht]; exact hP, hI, hfr⟩, hS.F ht⟩) hS.2.2 dX11_deep_88
        · have c_69 := hw_67.t c_69
          refine lv_aload_n hx hb dX11_deep_75 rfl (lv_at hl 0 rfl) ?_
          refine tp_get (cy := cy) (ci := 11) (v := .ref x_14) (C := RX11) (T := TX11) (N := 16) hx hb hta inlX11 hown hK hP ho.1 ((tp_un hfr ho (by decide)).trans hf_4) rfl 9 (by decide) (hta _ wk_42) (fun _ h9 => h9) rfl dX11_deep_76 ?_
          refine tl_sl (tq_rVN hN (As := []) (rest := []) ⟨hx, hb, hml, hown, hta⟩ (tp_P.pre hK hN hL hU hI hP) (tp_recv hK hP hx_14.1 hf_48 rfl) lk_X11_268 (t_X10_noisiness l D cy H.size L K Γ f_23 x_14 hx_14) rfl rfl ⟨Nat.le_of_ble_eq_true rfl, Nat.le_of_ble_eq_true rfl⟩ rfl hl.1 rfl (Nat.le_of_ble_eq_true rfl) dX11_deep_79 ⟨Nat.le_of_ble_eq_true rfl, Nat.le_of_ble_eq_true rfl⟩) (fun r_71 hw_70 => ?_)
          have hw_70 : 1 ≤ r_71.toInt := hw_70
          refine lv_goto (tgt := 88) hx hb dX11_deep_82 (by decide) ?_
          exact W.lret (v := r_71) hx hb hr (fun t ht hW => ⟨⟨_, f_23, rfl, trivial, by rw [ht]; exact hP, hI, hfr⟩, hS.F ht⟩) hS.2.2 dX11_deep_88
      · refine lv_tableIn (tgt := 89) hx hb dX11_deep_24 (by omega) (by omega) (by rw [c_26]; rfl) (by decide) ?_
        refine lv_aload_n hx hb dX11_deep_89 rfl (lv_at hl 0 rfl) ?_
        refine tp_get (cy := cy) (ci := 11) (v := .ref x_14) (C := RX11) (T := TX11) (N := 16) hx hb hta inlX11 hown hK hP ho.1 ((tp_un hfr ho (by decide)).trans hf_4) rfl 9 (by decide) (hta _ wk_42) (fun _ h9 => h9) rfl dX11_deep_90 ?_
        obtain ⟨x_73, x_74, x_75, x_76, x_77, x_78, x_79, x_80, x_81, x_82, x_83, x_84, x_85, x_86, x_87, x_88, x_89, x_90, hf_72, hx_73, hx_74, hx_75, hx_76, hx_77, hx_78, hx_79, hx_80, hx_81, hx_83, hx_86⟩ := (show tp_o_VIEW L K (0) 0 (Γ (27, 0, 0)) (f_23 x_14) from hI.at hx_14)
        refine tl_sl (tq_rVN hN (As := []) (rest := []) ⟨hx, hb, hml, hown, hta⟩ (tp_P.pre hK hN hL hU hI hP) (tp_recv hK hP hx_14.1 hf_72 rfl) lk_X11_274 (t_X10_scored l D cy H.size L K Γ f_23 x_14 hx_14) rfl rfl ⟨Nat.le_of_ble_eq_true rfl, Nat.le_of_ble_eq_true rfl⟩ rfl hl.1 rfl (Nat.le_of_ble_eq_true rfl) dX11_deep_93 ⟨Nat.le_of_ble_eq_true rfl, Nat.le_of_ble_eq_true rfl⟩) (fun r_92 hw_91 => ?_)
        exact W.lret (v := r_92) hx hb hr (fun t ht hW => ⟨⟨_, f_23, rfl, trivial, by rw [ht]; exact hP, hI, hfr⟩, hS.F ht⟩) hS.2.2 dX11_deep_96
      · refine lv_tableIn (tgt := 97) hx hb dX11_deep_24 (by omega) (by omega) (by rw [c_26]; rfl) (by decide) ?_
        refine lv_aload_n hx hb dX11_deep_97 rfl (lv_at hl 0 rfl) ?_
        refine tp_get (cy := cy) (ci := 11) (v := .ref x_14) (C := RX11) (T := TX11) (N := 16) hx hb hta inlX11 hown hK hP ho.1 ((tp_un hfr ho (by decide)).trans hf_4) rfl 9 (by decide) (hta _ wk_42) (fun _ h9 => h9) rfl dX11_deep_98 ?_
        obtain ⟨x_94, x_95, x_96, x_97, x_98, x_99, x_100, x_101, x_102, x_103, x_104, x_105, x_106, x_107, x_108, x_109, x_110, x_111, hf_93, hx_94, hx_95, hx_96, hx_97, hx_98, hx_99, hx_100, hx_101, hx_102, hx_104, hx_107⟩ := (show tp_o_VIEW L K (0) 0 (Γ (27, 0, 0)) (f_23 x_14) from hI.at hx_14)
        refine tp_getN (cy := cy) (ci := 10) (v := .int x_107) (C := RX10) (T := TX10) (N := 18) hx hb hta inlX10 hown hK hP hx_14.1 hf_93 rfl 13 (by decide) (va_Nw.use rfl (hN.1 68 _ nk_68)) (fun _ h9 => h9) rfl dX11_deep_101 ?_
        refine lv_i2l (v := x_107.toInt64) hx hb dX11_deep_104 (by first | rfl | decide) ?_
        exact W.lret (v := x_107.toInt64) hx hb hr (fun t ht hW => ⟨⟨_, f_23, rfl, trivial, by rw [ht]; exact hP, hI, hfr⟩, hS.F ht⟩) hS.2.2 dX11_deep_105
      · refine lv_tableOut (tgt := 106) hx hb dX11_deep_24 (by omega) (by decide) ?_
        refine lv_aload_n hx hb dX11_deep_106 rfl (lv_at hl 0 rfl) ?_
        refine tp_get (cy := cy) (ci := 11) (v := .ref x_14) (C := RX11) (T := TX11) (N := 16) hx hb hta inlX11 hown hK hP ho.1 ((tp_un hfr ho (by decide)).trans hf_4) rfl 9 (by decide) (hta _ wk_42) (fun _ h9 => h9) rfl dX11_deep_107 ?_
        obtain ⟨x_113, x_114, x_115, x_116, x_117, x_118, x_119, x_120, x_121, x_122, x_123, x_124, x_125, x_126, x_127, x_128, x_129, x_130, hf_112, hx_113, hx_114, hx_115, hx_116, hx_117, hx_118, hx_119, hx_120, hx_121, hx_123, hx_126⟩ := (show tp_o_VIEW L K (0) 0 (Γ (27, 0, 0)) (f_23 x_14) from hI.at hx_14)
        refine tp_getN (cy := cy) (ci := 10) (v := .int x_128) (C := RX10) (T := TX10) (N := 18) hx hb hta inlX10 hown hK hP hx_14.1 hf_112 rfl 15 (by decide) (va_Nw.use rfl (hN.1 70 _ nk_70)) (fun _ h9 => h9) rfl dX11_deep_110 ?_
        refine lv_i2l (v := x_128.toInt64) hx hb dX11_deep_113 (by first | rfl | decide) ?_
        exact W.lret (v := x_128.toInt64) hx hb hr (fun t ht hW => ⟨⟨_, f_23, rfl, trivial, by rw [ht]; exact hP, hI, hfr⟩, hS.F ht⟩) hS.2.2 dX11_deep_114
    · have c_25 := c_25
      refine lv_ldc2 (v := (-2000000000)) hx hb hown (hta _ wk_961) dX11_deep_19 ?_
      exact W.lret (v := (-2000000000)) hx hb hr (fun t ht hW => ⟨⟨_, f_23, rfl, trivial, by rw [ht]; exact hP, hI, hfr⟩, hS.F ht⟩) hS.2.2 dX11_deep_22
set_option maxHeartbeats 4000000 in
set_option maxRecDepth 100000 in
theorem t_X11_moved (l : Launch) (D : va_G) (cy : Nat → ClassId) (sz : Nat) (L : List Nat) (K : Nat → tk_K) (Γ : tk_G) (f : Nat → va_E) (o : Nat) (p0 : Int32) (p1 : Int32) (p2 : Int32) (ho : tp_r L K 0 (0) 0 o) : Met l yX11_moved (tl_w yX11_moved cX11_moved 4 (some .long)) ({ frames := 5, cells := 0, slots := 0, locals := 113 }) (va_Pc [.ref o, .int p0, .int p1, .int p2] (tp_P D cy L K Γ f sz)) (va_Ql (fun (r : Int64) (u : Nat → va_E) => True) (tp_B D cy L K Γ f [28, 29, 23, 24, 27, 30, 31, 32]) (tp_A L sz)) 0 0 (tp_A L sz) := by
  refine Met.ofW (cc := cX11_moved) (maxL := 4) (ret := (some .long)) (by decide) rfl ?_
  intro p e s m args below meth c s₁ B hml hv
  obtain ⟨rfl, hsz, hP, hK, hL, hI, hN, hU⟩ := hv
  have hx := B.exec
  have hb := B.bytes
  have hr := B.returns
  have hta := tl_hta (atoms_spec (ws := tl_w yX11_moved cX11_moved 4 (some .long)) B.pre)
  have hown : s.vm.findClass RX11 = some m.cls := findClass_of_methodNamed B.named
  have hlocks := B.notSynchronized
  subst hsz
  have hI0 := hI
  generalize hAe : tp_A L s.heap.size = A
  have hA : ∀ q : Nat, s.heap.size ≤ q → A q := fun q h => by rw [← hAe]; exact Or.inr h
  have hAL : ∀ q ∈ L, A q := fun q h => by rw [← hAe]; exact Or.inl h
  have hAf : ∀ (H : Heap), s.heap.size ≤ H.size → ∀ q, tp_A L H.size q → A q := fun H h q hq => hq.elim (hAL q) (fun h2 => hA q (Nat.le_trans h h2))
  have hS : va_S A s.heap s.heap [] := va_S.rf
  have hD : va_D A (va_pl L f) := tp_D hL hAL
  have hfr : ∀ b, (K b).1 ∉ ([28, 29, 23, 24, 27, 30, 31, 32] : List Nat) → f b = f b := fun _ _ => rfl
  have hl := lv_entry ([.ref o, .int p0, .int p1, .int p2]) (n := 4) (Nat.le_of_ble_eq_true rfl)
  rw [lg_entry_eq]
  generalize (lg_sl ([.ref o, .int p0, .int p1, .int p2]) ++ List.replicate (4 - (lg_sl ([.ref o, .int p0, .int p1, .int p2])).length) Slot.unset).toArray = ls at hl ⊢
  have hl : lv_has ls 4 [(0, .ref o), (1, .int p0), (2, .int p1), (3, .int p2)] := hl
  refine lv_aload_n hx hb dX11_moved_0 rfl (lv_at hl 0 rfl) ?_
  refine lv_iload_n hx hb dX11_moved_1 rfl (lv_at hl 1 rfl) ?_
  refine lv_iload_n hx hb dX11_moved_2 rfl (lv_at hl 2 rfl) ?_
  refine lv_iconst (v := (-1)) hx hb dX11_moved_3 (by decide) ?_
  obtain ⟨x_2, x_3, x_4, x_5, x_6, x_7, x_8, x_9, x_10, x_11, x_12, x_13, x_14, x_15, x_16, x_17, hf_1, hx_2, hx_3, hx_4, hx_5, hx_6, hx_7, hx_8, hx_9, hx_10, hx_11, hx_12, hx_13, hx_14, hx_15, hx_16, hx_17⟩ := (show tp_o_X L K (0) 0 (Γ (0, 0, 0)) (f o) from hI0.at ho)
  refine tq_ci hS (hAf _ hS.1) (tq_rV (As := [.int p0, .int p1, .int (-1)]) (rest := []) ⟨hx, hb, hml, hown, hta⟩ (tp_P.pre hK hN hL hU hI hP) (tp_recv hK hP ho.1 hf_1 rfl) lk_X11_246 (t_X11_look l D cy s.heap.size L K Γ f o p0 p1 (-1) ho) rfl rfl ⟨Nat.le_of_ble_eq_true rfl, Nat.le_of_ble_eq_true rfl⟩ rfl hl.1 rfl (Nat.le_of_ble_eq_true rfl) dX11_moved_4 ⟨Nat.le_of_ble_eq_true rfl, Nat.le_of_ble_eq_true rfl⟩) (fun r_19 f_20 H locs hw_18 hP hI hc_21 hS => ?_)
  have hD : va_D A (va_pl L f_20) := tp_D hL hAL
  have hfr := tp_fr2 hfr hc_21 (by decide)
  have hw_18 : tl_J r_19 (tv_gx f f_20 o) := hw_18
  refine lv_if_eq (tgt := 29) hx hb dX11_moved_7 (by decide) (fun c_22 => ?_) (fun c_22 => ?_)
  · have c_22 := c_22
    refine lv_ldc2 (v := (-2000000000)) hx hb hown (hta _ wk_961) dX11_moved_29 ?_
    exact W.lret (v := (-2000000000)) hx hb hr (fun t ht hW => ⟨⟨_, f_20, rfl, trivial, by rw [ht]; exact hP, hI, hfr⟩, hS.F ht⟩) hS.2.2 dX11_moved_32
  · have c_22 := hw_18.t c_22
    refine lv_iload_n hx hb dX11_moved_10 rfl (lv_at hl 3 rfl) ?_
    refine lv_iconst (v := 0) hx hb dX11_moved_11 (by decide) ?_
    refine lv_sipush (v := 300) hx hb dX11_moved_12 (by decide) ?_
    refine lv_aload_n hx hb dX11_moved_15 rfl (lv_at hl 0 rfl) ?_
    refine tp_get (cy := cy) (ci := 11) (v := .ref x_11) (C := RX11) (T := TX11) (N := 16) hx hb hta inlX11 hown hK hP ho.1 ((tp_un hfr ho (by decide)).trans hf_1) rfl 9 (by decide) (hta _ wk_42) (fun _ h9 => h9) rfl dX11_moved_16 ?_
    obtain ⟨x_24, x_25, x_26, x_27, x_28, x_29, x_30, x_31, x_32, x_33, x_34, x_35, x_36, x_37, x_38, x_39, x_40, x_41, hf_23, hx_24, hx_25, hx_26, hx_27, hx_28, hx_29, hx_30, hx_31, hx_32, hx_34, hx_37⟩ := (show tp_o_VIEW L K (0) 0 (Γ (27, 0, 0)) (f_20 x_11) from hI.at hx_11)
    refine tl_si (tq_rVN hN (As := []) (rest := [.int 300, .int 0, .int p2]) ⟨hx, hb, hml, hown, hta⟩ (tp_P.pre hK hN hL hU hI hP) (tp_recv hK hP hx_11.1 hf_23 rfl) lk_X11_283 (t_X10_gapLength l D cy H.size L K Γ f_20 x_11 hx_11) rfl rfl ⟨Nat.le_of_ble_eq_true rfl, Nat.le_of_ble_eq_true rfl⟩ rfl hl.1 rfl (Nat.le_of_ble_eq_true rfl) dX11_moved_19 ⟨Nat.le_of_ble_eq_true rfl, Nat.le_of_ble_eq_true rfl⟩) (fun r_43 hw_42 => ?_)
    have hw_42 : tv_len (f_20 x_11) r_43 := hw_42
    refine lv_isub hx hb dX11_moved_22 ?_
    refine lv_topi (fun z_44 ez_44 => ?_)
    try have iz_44 : z_44.toInt = (300 : Int) - r_43.toInt := by rw [ez_44]; exact tl_subN 300 r_43 rfl rfl (by omega) (by omega)
    refine tl_si (tq_rS (As := [.int p2, .int 0, .int z_44]) (rest := []) ⟨hx, hb, hml, hown, hta⟩ (tp_P.pre hK hN hL hU hI hP) lk_X11_105 (t_X11_isIn l D cy H.size L K Γ f_20 p2 0 z_44 ) rfl rfl ⟨Nat.le_of_ble_eq_true rfl, Nat.le_of_ble_eq_true rfl⟩ rfl hl.1 rfl (Nat.le_of_ble_eq_true rfl) dX11_moved_23 ⟨Nat.le_of_ble_eq_true rfl, Nat.le_of_ble_eq_true rfl⟩) (fun r_46 hw_45 => ?_)
    have hw_45 : tl_E r_46 ((0 : Int) ≤ p2.toInt ∧ p2.toInt ≤ z_44.toInt) 1 0 := hw_45
    refine lv_if_ne (tgt := 33) hx hb dX11_moved_26 (by decide) (fun c_47 => ?_) (fun c_47 => ?_)
    · have c_47 := hw_45.t c_47
      refine lv_aload_n hx hb dX11_moved_33 rfl (lv_at hl 0 rfl) ?_
      refine tp_get (cy := cy) (ci := 11) (v := .ref x_11) (C := RX11) (T := TX11) (N := 16) hx hb hta inlX11 hown hK hP ho.1 ((tp_un hfr ho (by decide)).trans hf_1) rfl 9 (by decide) (hta _ wk_42) (fun _ h9 => h9) rfl dX11_moved_34 ?_
      refine lv_iload_n hx hb dX11_moved_37 rfl (lv_at hl 3 rfl) ?_
      refine tq_cv hS (hAf _ hS.1) (tq_rVN hN (As := [.int p2]) (rest := []) ⟨hx, hb, hml, hown, hta⟩ (tp_P.pre hK hN hL hU hI hP) (tp_recv hK hP hx_11.1 hf_23 rfl) lk_X11_286 (t_X10_moveTo l D cy H.size L K Γ f_20 x_11 p2 hx_11) rfl rfl ⟨Nat.le_of_ble_eq_true rfl, Nat.le_of_ble_eq_true rfl⟩ rfl hl.1 rfl (Nat.le_of_ble_eq_true rfl) dX11_moved_38 ⟨Nat.le_of_ble_eq_true rfl, Nat.le_of_ble_eq_true rfl⟩) (fun f_50 H locs hw_48 hP hI hc_51 hS => ?_)
      have hD : va_D A (va_pl L f_50) := tp_D hL hAL
      have hfr := tp_fr2 hfr hc_51 (by decide)
      refine lv_aload_n hx hb dX11_moved_41 rfl (lv_at hl 0 rfl) ?_
      refine tp_get (cy := cy) (ci := 11) (v := .ref x_11) (C := RX11) (T := TX11) (N := 16) hx hb hta inlX11 hown hK hP ho.1 ((tp_un hfr ho (by decide)).trans hf_1) rfl 9 (by decide) (hta _ wk_42) (fun _ h9 => h9) rfl dX11_moved_42 ?_
      obtain ⟨x_53, x_54, x_55, x_56, x_57, x_58, x_59, x_60, x_61, x_62, x_63, x_64, x_65, x_66, x_67, x_68, x_69, x_70, hf_52, hx_53, hx_54, hx_55, hx_56, hx_57, hx_58, hx_59, hx_60, hx_61, hx_63, hx_66⟩ := (show tp_o_VIEW L K (0) 0 (Γ (27, 0, 0)) (f_50 x_11) from hI.at hx_11)
      refine tl_sl (tq_rVN hN (As := []) (rest := []) ⟨hx, hb, hml, hown, hta⟩ (tp_P.pre hK hN hL hU hI hP) (tp_recv hK hP hx_11.1 hf_52 rfl) lk_X11_274 (t_X10_scored l D cy H.size L K Γ f_50 x_11 hx_11) rfl rfl ⟨Nat.le_of_ble_eq_true rfl, Nat.le_of_ble_eq_true rfl⟩ rfl hl.1 rfl (Nat.le_of_ble_eq_true rfl) dX11_moved_45 ⟨Nat.le_of_ble_eq_true rfl, Nat.le_of_ble_eq_true rfl⟩) (fun r_72 hw_71 => ?_)
      exact W.lret (v := r_72) hx hb hr (fun t ht hW => ⟨⟨_, f_50, rfl, trivial, by rw [ht]; exact hP, hI, hfr⟩, hS.F ht⟩) hS.2.2 dX11_moved_48
    · have c_47 := hw_45.f c_47
      refine lv_ldc2 (v := (-2000000000)) hx hb hown (hta _ wk_961) dX11_moved_29 ?_
      exact W.lret (v := (-2000000000)) hx hb hr (fun t ht hW => ⟨⟨_, f_20, rfl, trivial, by rw [ht]; exact hP, hI, hfr⟩, hS.F ht⟩) hS.2.2 dX11_moved_32
set_option maxHeartbeats 4000000 in
set_option maxRecDepth 100000 in
theorem t_X11_elsewhere (l : Launch) (D : va_G) (cy : Nat → ClassId) (sz : Nat) (L : List Nat) (K : Nat → tk_K) (Γ : tk_G) (f : Nat → va_E) (o : Nat) (p0 : Int32) (p1 : Int32) (p2 : Int32) (ho : tp_r L K 0 (0) 0 o) : Met l yX11_elsewhere (tl_w yX11_elsewhere cX11_elsewhere 11 (some .int)) ({ frames := 5, cells := 0, slots := 0, locals := 113 }) (va_Pc [.ref o, .int p0, .int p1, .int p2] (tp_P D cy L K Γ f sz)) (va_Qi (fun (r : Int32) (u : Nat → va_E) => True) (tp_B D cy L K Γ f [28, 29, 23, 24, 27, 30, 31, 32]) (tp_A L sz)) 0 0 (tp_A L sz) := by
  refine Met.ofW (cc := cX11_elsewhere) (maxL := 11) (ret := (some .int)) (by decide) rfl ?_
  intro p e s m args below meth c s₁ B hml hv
  obtain ⟨rfl, hsz, hP, hK, hL, hI, hN, hU⟩ := hv
  have hx := B.exec
  have hb := B.bytes
  have hr := B.returns
  have hta := tl_hta (atoms_spec (ws := tl_w yX11_elsewhere cX11_elsewhere 11 (some .int)) B.pre)
  have hown : s.vm.findClass RX11 = some m.cls := findClass_of_methodNamed B.named
  have hlocks := B.notSynchronized
  subst hsz
  have hI0 := hI
  generalize hAe : tp_A L s.heap.size = A
  have hA : ∀ q : Nat, s.heap.size ≤ q → A q := fun q h => by rw [← hAe]; exact Or.inr h
  have hAL : ∀ q ∈ L, A q := fun q h => by rw [← hAe]; exact Or.inl h
  have hAf : ∀ (H : Heap), s.heap.size ≤ H.size → ∀ q, tp_A L H.size q → A q := fun H h q hq => hq.elim (hAL q) (fun h2 => hA q (Nat.le_trans h h2))
  have hS : va_S A s.heap s.heap [] := va_S.rf
  have hD : va_D A (va_pl L f) := tp_D hL hAL
  have hfr : ∀ b, (K b).1 ∉ ([28, 29, 23, 24, 27, 30, 31, 32] : List Nat) → f b = f b := fun _ _ => rfl
  have hl := lv_entry ([.ref o, .int p0, .int p1, .int p2]) (n := 11) (Nat.le_of_ble_eq_true rfl)
  rw [lg_entry_eq]
  generalize (lg_sl ([.ref o, .int p0, .int p1, .int p2]) ++ List.replicate (11 - (lg_sl ([.ref o, .int p0, .int p1, .int p2])).length) Slot.unset).toArray = ls at hl ⊢
  have hl : lv_has ls 11 [(0, .ref o), (1, .int p0), (2, .int p1), (3, .int p2)] := hl
  refine lv_iload_n hx hb dX11_elsewhere_0 rfl (lv_at hl 3 rfl) ?_
  refine lv_iconst (v := 0) hx hb dX11_elsewhere_1 (by decide) ?_
  refine lv_iconst (v := 1) hx hb dX11_elsewhere_2 (by decide) ?_
  refine tl_si (tq_rS (As := [.int p2, .int 0, .int 1]) (rest := []) ⟨hx, hb, hml, hown, hta⟩ (tp_P.pre hK hN hL hU hI hP) lk_X11_105 (t_X11_isIn l D cy s.heap.size L K Γ f p2 0 1 ) rfl rfl ⟨Nat.le_of_ble_eq_true rfl, Nat.le_of_ble_eq_true rfl⟩ rfl hl.1 rfl (Nat.le_of_ble_eq_true rfl) dX11_elsewhere_3 ⟨Nat.le_of_ble_eq_true rfl, Nat.le_of_ble_eq_true rfl⟩) (fun r_2 hw_1 => ?_)
  have hw_1 : tl_E r_2 ((0 : Int) ≤ p2.toInt ∧ p2.toInt ≤ (1 : Int)) 1 0 := hw_1
  refine lv_if_eq (tgt := 19) hx hb dX11_elsewhere_6 (by decide) (fun c_3 => ?_) (fun c_3 => ?_)
  · have c_3 := hw_1.f c_3
    refine lv_iconst (v := (-1)) hx hb dX11_elsewhere_19 (by decide) ?_
    exact W.iret (v := (-1)) hx hb hr (fun t ht hW => ⟨⟨_, f, rfl, trivial, by rw [ht]; exact hP, hI, hfr⟩, hS.F ht⟩) hS.2.2 dX11_elsewhere_20
  · have c_3 := hw_1.t c_3
    refine lv_aload_n hx hb dX11_elsewhere_9 rfl (lv_at hl 0 rfl) ?_
    refine lv_iload_n hx hb dX11_elsewhere_10 rfl (lv_at hl 1 rfl) ?_
    refine lv_iload_n hx hb dX11_elsewhere_11 rfl (lv_at hl 2 rfl) ?_
    refine lv_iconst (v := (-1)) hx hb dX11_elsewhere_12 (by decide) ?_
    obtain ⟨x_5, x_6, x_7, x_8, x_9, x_10, x_11, x_12, x_13, x_14, x_15, x_16, x_17, x_18, x_19, x_20, hf_4, hx_5, hx_6, hx_7, hx_8, hx_9, hx_10, hx_11, hx_12, hx_13, hx_14, hx_15, hx_16, hx_17, hx_18, hx_19, hx_20⟩ := (show tp_o_X L K (0) 0 (Γ (0, 0, 0)) (f o) from hI0.at ho)
    refine tq_ci hS (hAf _ hS.1) (tq_rV (As := [.int p0, .int p1, .int (-1)]) (rest := []) ⟨hx, hb, hml, hown, hta⟩ (tp_P.pre hK hN hL hU hI hP) (tp_recv hK hP ho.1 hf_4 rfl) lk_X11_246 (t_X11_look l D cy s.heap.size L K Γ f o p0 p1 (-1) ho) rfl rfl ⟨Nat.le_of_ble_eq_true rfl, Nat.le_of_ble_eq_true rfl⟩ rfl hl.1 rfl (Nat.le_of_ble_eq_true rfl) dX11_elsewhere_13 ⟨Nat.le_of_ble_eq_true rfl, Nat.le_of_ble_eq_true rfl⟩) (fun r_22 f_23 H locs hw_21 hP hI hc_24 hS => ?_)
    have hD : va_D A (va_pl L f_23) := tp_D hL hAL
    have hfr := tp_fr2 hfr hc_24 (by decide)
    have hw_21 : tl_J r_22 (tv_gx f f_23 o) := hw_21
    refine lv_if_ne (tgt := 21) hx hb dX11_elsewhere_16 (by decide) (fun c_25 => ?_) (fun c_25 => ?_)
    · have c_25 := hw_21.t c_25
      refine lv_aload_n hx hb dX11_elsewhere_21 rfl (lv_at hl 0 rfl) ?_
      refine tp_get (cy := cy) (ci := 11) (v := .ref x_14) (C := RX11) (T := TX11) (N := 16) hx hb hta inlX11 hown hK hP ho.1 ((tp_un hfr ho (by decide)).trans hf_4) rfl 9 (by decide) (hta _ wk_42) (fun _ h9 => h9) rfl dX11_elsewhere_22 ?_
      obtain ⟨x_27, x_28, x_29, x_30, x_31, x_32, x_33, x_34, x_35, x_36, x_37, x_38, x_39, x_40, x_41, x_42, x_43, x_44, hf_26, hx_27, hx_28, hx_29, hx_30, hx_31, hx_32, hx_33, hx_34, hx_35, hx_37, hx_40⟩ := (show tp_o_VIEW L K (0) 0 (Γ (27, 0, 0)) (f_23 x_14) from hI.at hx_14)
      refine tl_si (tq_rVN hN (As := []) (rest := []) ⟨hx, hb, hml, hown, hta⟩ (tp_P.pre hK hN hL hU hI hP) (tp_recv hK hP hx_14.1 hf_26 rfl) lk_X11_289 (t_X10_hasDeep l D cy H.size L K Γ f_23 x_14 hx_14) rfl rfl ⟨Nat.le_of_ble_eq_true rfl, Nat.le_of_ble_eq_true rfl⟩ rfl hl.1 rfl (Nat.le_of_ble_eq_true rfl) dX11_elsewhere_25 ⟨Nat.le_of_ble_eq_true rfl, Nat.le_of_ble_eq_true rfl⟩) (fun r_46 hw_45 => ?_)
      have hw_45 : tl_J r_46 (tv_gc (f_23 x_14)) := hw_45
      refine lv_if_ne (tgt := 34) hx hb dX11_elsewhere_28 (by decide) (fun c_47 => ?_) (fun c_47 => ?_)
      · have c_47 := hw_45.t c_47
        refine lv_aload_n hx hb dX11_elsewhere_34 rfl (lv_at hl 0 rfl) ?_
        refine tp_get (cy := cy) (ci := 11) (v := .ref x_14) (C := RX11) (T := TX11) (N := 16) hx hb hta inlX11 hown hK hP ho.1 ((tp_un hfr ho (by decide)).trans hf_4) rfl 9 (by decide) (hta _ wk_42) (fun _ h9 => h9) rfl dX11_elsewhere_35 ?_
        refine tl_sl (tq_rVN hN (As := []) (rest := []) ⟨hx, hb, hml, hown, hta⟩ (tp_P.pre hK hN hL hU hI hP) (tp_recv hK hP hx_14.1 hf_26 rfl) lk_X11_274 (t_X10_scored l D cy H.size L K Γ f_23 x_14 hx_14) rfl rfl ⟨Nat.le_of_ble_eq_true rfl, Nat.le_of_ble_eq_true rfl⟩ rfl hl.1 rfl (Nat.le_of_ble_eq_true rfl) dX11_elsewhere_38 ⟨Nat.le_of_ble_eq_true rfl, Nat.le_of_ble_eq_true rfl⟩) (fun r_49 hw_48 => ?_)
        refine lv_lstore (lv' := [(4, .long r_49), (0, .ref o), (1, .int p0), (2, .int p1), (3, .int p2)]) hx hb dX11_elsewhere_41 hl (by decide) rfl (fun ls hl => ?_)
        refine lv_aload_n hx hb dX11_elsewhere_43 rfl (lv_at hl 1 rfl) ?_
        refine tp_get (cy := cy) (ci := 11) (v := .ref x_14) (C := RX11) (T := TX11) (N := 16) hx hb hta inlX11 hown hK hP ho.1 ((tp_un hfr ho (by decide)).trans hf_4) rfl 9 (by decide) (hta _ wk_42) (fun _ h9 => h9) rfl dX11_elsewhere_44 ?_
        refine tp_getN (cy := cy) (ci := 10) (v := .int x_38) (C := RX10) (T := TX10) (N := 18) hx hb hta inlX10 hown hK hP hx_14.1 hf_26 rfl 11 (by decide) (va_Nw.use rfl (hN.1 66 _ nk_66)) (fun _ h9 => h9) rfl dX11_elsewhere_47 ?_
        refine lv_istore (lv' := [(6, .int x_38), (4, .long r_49), (0, .ref o), (1, .int p0), (2, .int p1), (3, .int p2)]) hx hb dX11_elsewhere_50 hl (by decide) rfl (fun ls hl => ?_)
        refine lv_aload_n hx hb dX11_elsewhere_52 rfl (lv_at hl 2 rfl) ?_
        refine tp_get (cy := cy) (ci := 11) (v := .ref x_14) (C := RX11) (T := TX11) (N := 16) hx hb hta inlX11 hown hK hP ho.1 ((tp_un hfr ho (by decide)).trans hf_4) rfl 9 (by decide) (hta _ wk_42) (fun _ h9 => h9) rfl dX11_elsewhere_53 ?_
        refine tl_si (tq_rVN hN (As := []) (rest := []) ⟨hx, hb, hml, hown, hta⟩ (tp_P.pre hK hN hL hU hI hP) (tp_recv hK hP hx_14.1 hf_26 rfl) lk_X11_283 (t_X10_gapLength l D cy H.size L K Γ f_23 x_14 hx_14) rfl rfl ⟨Nat.le_of_ble_eq_true rfl, Nat.le_of_ble_eq_true rfl⟩ rfl hl.1 rfl (Nat.le_of_ble_eq_true rfl) dX11_elsewhere_56 ⟨Nat.le_of_ble_eq_true rfl, Nat.le_of_ble_eq_true rfl⟩) (fun r_51 hw_50 => ?_)
        have hgv : tv_gap (f_23 x_14) := (by assumption : tv_gx f f_23 o) _ _ hf_4 rfl
        have hgb := tv_gap.use hgv hf_26 rfl rfl
        have irl : r_51.toInt = x_39.toInt - x_38.toInt + 1 := by rw [hw_50 _ _ _ hf_26 rfl rfl]; exact tl_lenB hgb.1 hgb.2
        have hw_50 : tv_len (f_23 x_14) r_51 := hw_50
        refine lv_istore (lv' := [(7, .int r_51), (6, .int x_38), (4, .long r_49), (0, .ref o), (1, .int p0), (2, .int p1), (3, .int p2)]) hx hb dX11_elsewhere_59 hl (by decide) rfl (fun ls hl => ?_)
        refine lv_iconst (v := 0) hx hb dX11_elsewhere_61 (by decide) ?_
        refine lv_istore (lv' := [(8, .int 0), (7, .int r_51), (6, .int x_38), (4, .long r_49), (0, .ref o), (1, .int p0), (2, .int p1), (3, .int p2)]) hx hb dX11_elsewhere_62 hl (by decide) rfl (fun ls hl => ?_)
        refine lv_iconst (v := 0) hx hb dX11_elsewhere_64 (by decide) ?_
        refine lv_istore (lv' := [(9, .int 0), (8, .int 0), (7, .int r_51), (6, .int x_38), (4, .long r_49), (0, .ref o), (1, .int p0), (2, .int p1), (3, .int p2)]) hx hb dX11_elsewhere_65 hl (by decide) rfl (fun ls hl => ?_)
        refine lv_iconst (v := 0) hx hb dX11_elsewhere_67 (by decide) ?_
        refine lv_istore (lv' := [(10, .int 0), (9, .int 0), (8, .int 0), (7, .int r_51), (6, .int x_38), (4, .long r_49), (0, .ref o), (1, .int p0), (2, .int p1), (3, .int p2)]) hx hb dX11_elsewhere_68 hl (by decide) rfl (fun ls hl => ?_)
        refine tl_ind (G := fun H locs ls => W p l e ((headSpec (tl_w yX11_elsewhere cX11_elsewhere 11 (some .int)) ({ frames := 5, cells := 0, slots := 0, locals := 113 })).room) s m #[.ref o, .int p0, .int p1, .int p2] below meth c H locs 0 0 (MQ below (va_Qi (fun (r : Int32) (u : Nat → va_E) => True) (tp_B D cy L K Γ f [28, 29, 23, 24, 27, 30, 31, 32]) A) #[.ref o, .int p0, .int p1, .int p2] s 0 0 A) (F0 m 70 ls [])) (α := (Nat → va_E) × Int32 × Int32 × Int32) (fun aq => (10299 - aq.2.1.toInt).toNat) (fun aq H locs ls => (0 ≤ aq.2.1.toInt) ∧ (aq.2.1.toInt ≤ 10299) ∧ va_P D vwCl (va_pl L aq.1) H ∧ tp_I cy L K Γ aq.1 ∧ (∀ b, (K b).1 ∉ ([28, 29, 23, 24, 27, 30, 31, 32] : List Nat) → aq.1 b = f b) ∧ va_S A s.heap H locs ∧ lv_has ls 11 [(10, .int aq.2.1), (9, .int aq.2.2.1), (8, .int aq.2.2.2), (7, .int r_51), (6, .int x_38), (4, .long r_49), (0, .ref o), (1, .int p0), (2, .int p1), (3, .int p2)]) ?_ (f_23, (0 : Int32), (0 : Int32), (0 : Int32)) H locs ls ⟨(show 0 ≤ (0 : Int) from (by omega)), (show (0 : Int) ≤ 10299 from (by omega)), hP, hI, hfr, hS, lv_sub hl [0, 1, 2, 3, 4, 5, 6, 7, 8, 9] rfl⟩
        rintro ⟨f_52, v10, v9, v8⟩ H locs ls ⟨h0, h1, hP, hI, hfr, hS, hl⟩ ih70
        have hP : va_P D vwCl (va_pl L f_52) H := hP
        have hI : tp_I cy L K Γ f_52 := hI
        have hfr : ∀ b, (K b).1 ∉ ([28, 29, 23, 24, 27, 30, 31, 32] : List Nat) → f_52 b = f b := hfr
        have hD : va_D A (va_pl L f_52) := tp_D hL hAL
        have h0 : 0 ≤ v10.toInt := h0
        have h1 : v10.toInt ≤ 10299 := h1
        have hl : lv_has ls 11 [(10, .int v10), (9, .int v9), (8, .int v8), (7, .int r_51), (6, .int x_38), (4, .long r_49), (0, .ref o), (1, .int p0), (2, .int p1), (3, .int p2)] := hl
        refine lv_iload hx hb dX11_elsewhere_70 (lv_at hl 0 rfl) ?_
        refine lv_sipush (v := 300) hx hb dX11_elsewhere_72 (by decide) ?_
        refine lv_iload hx hb dX11_elsewhere_75 (lv_at hl 3 rfl) ?_
        refine lv_isub hx hb dX11_elsewhere_77 ?_
        refine lv_topi (fun z_53 ez_53 => ?_)
        try have iz_53 : z_53.toInt = (300 : Int) - r_51.toInt := by rw [ez_53]; exact tl_subN 300 r_51 rfl rfl (by omega) (by omega)
        refine lv_icmp_gt (tgt := 151) hx hb dX11_elsewhere_78 (by decide) (fun c_54 => ?_) (fun c_54 => ?_)
        · have c_54 : z_53.toInt < v10.toInt := tl_lt c_54
          refine lv_iload_n hx hb dX11_elsewhere_151 rfl (lv_at hl 9 rfl) ?_
          refine lv_if_ne (tgt := 160) hx hb dX11_elsewhere_152 (by decide) (fun c_55 => ?_) (fun c_55 => ?_)
          · have c_55 : ¬ p2.toInt = (0 : Int) := tl_neq c_55
            refine lv_iload hx hb dX11_elsewhere_160 (lv_at hl 1 rfl) ?_
            exact W.iret (v := v9) hx hb hr (fun t ht hW => ⟨⟨_, f_52, rfl, trivial, by rw [ht]; exact hP, hI, hfr⟩, hS.F ht⟩) hS.2.2 dX11_elsewhere_162
          · have c_55 : p2.toInt = (0 : Int) := tl_eq c_55
            refine lv_iload hx hb dX11_elsewhere_155 (lv_at hl 2 rfl) ?_
            refine lv_goto (tgt := 162) hx hb dX11_elsewhere_157 (by decide) ?_
            exact W.iret (v := v8) hx hb hr (fun t ht hW => ⟨⟨_, f_52, rfl, trivial, by rw [ht]; exact hP, hI, hfr⟩, hS.F ht⟩) hS.2.2 dX11_elsewhere_162
        · have c_54 : v10.toInt ≤ z_53.toInt := tl_nlt c_54
          refine lv_iload hx hb dX11_elsewhere_81 (lv_at hl 0 rfl) ?_
          refine lv_iload hx hb dX11_elsewhere_83 (lv_at hl 4 rfl) ?_
          refine lv_isub hx hb dX11_elsewhere_85 ?_
          refine lv_topi (fun z_56 ez_56 => ?_)
          try have iz_56 : z_56.toInt = v10.toInt - x_38.toInt := by rw [ez_56]; exact tl_subN v10 x_38 rfl rfl (by omega) (by omega)
          refine va_mabs hx hb (by rw [hml]; exact hl.1.symm) hown (hta _ wk_1019) (hta _ wk_888) (hta _ wk_83) (hta _ wk_889) (Nat.le_of_ble_eq_true rfl) (Nat.le_of_ble_eq_true rfl) (Nat.le_of_ble_eq_true rfl) (Nat.le_of_ble_eq_true rfl) dX11_elsewhere_86 ?_
          refine lv_topi (fun z_57 ez_57 => ?_)
          have iz_57 : (z_57.toInt = z_56.toInt ∧ 0 ≤ z_56.toInt) ∨ (z_56.toInt < 0 ∧ (z_57.toInt = -z_56.toInt ∨ z_56.toInt = -2147483648)) := by rw [ez_57]; exact tl_absF
          refine lv_iload hx hb dX11_elsewhere_89 (lv_at hl 3 rfl) ?_
          refine lv_icmp_lt (tgt := 145) hx hb dX11_elsewhere_91 (by decide) (fun c_58 => ?_) (fun c_58 => ?_)
          · have c_58 : z_57.toInt < r_51.toInt := tl_lt c_58
            obtain ⟨z_59, ez_59⟩ : ∃ y : Int32, y = v10 + 1 := ⟨_, rfl⟩
            refine lv_iinc (v := z_59) (lv' := [(10, .int z_59), (9, .int v9), (8, .int v8), (7, .int r_51), (6, .int x_38), (4, .long r_49), (0, .ref o), (1, .int p0), (2, .int p1), (3, .int p2)]) hx hb dX11_elsewhere_145 hl (k := 0) rfl (by rw [ez_59]; rfl) (by decide) rfl (fun ls hl => ?_)
            try have iz_59 : z_59.toInt = v10.toInt + 1 := by rw [ez_59]; exact tl_addL v10 1 (by decide) (by omega) (by omega)
            refine lv_goto (tgt := 70) hx hb dX11_elsewhere_148 (by decide) ?_
            exact ih70 (f_52, z_59, v9, v8) H locs ls (by show (10299 - z_59.toInt).toNat < (10299 - v10.toInt).toNat; omega) ⟨(show 0 ≤ z_59.toInt from (by omega)), (show z_59.toInt ≤ 10299 from (by omega)), hP, hI, hfr, hS, lv_sub hl [0, 1, 2, 3, 4, 5, 6, 7, 8, 9] rfl⟩
          · have c_58 : r_51.toInt ≤ z_57.toInt := tl_nlt c_58
            refine lv_aload_n hx hb dX11_elsewhere_94 rfl (lv_at hl 6 rfl) ?_
            refine tp_get (cy := cy) (ci := 11) (v := .ref x_14) (C := RX11) (T := TX11) (N := 16) hx hb hta inlX11 hown hK hP ho.1 ((tp_un hfr ho (by decide)).trans hf_4) rfl 9 (by decide) (hta _ wk_42) (fun _ h9 => h9) rfl dX11_elsewhere_95 ?_
            refine lv_iload hx hb dX11_elsewhere_98 (lv_at hl 0 rfl) ?_
            obtain ⟨x_61, x_62, x_63, x_64, x_65, x_66, x_67, x_68, x_69, x_70, x_71, x_72, x_73, x_74, x_75, x_76, x_77, x_78, hf_60, hx_61, hx_62, hx_63, hx_64, hx_65, hx_66, hx_67, hx_68, hx_69, hx_71, hx_74⟩ := (show tp_o_VIEW L K (0) 0 (Γ (27, 0, 0)) (f_52 x_14) from hI.at hx_14)
            refine tq_cv hS (hAf _ hS.1) (tq_rVN hN (As := [.int v10]) (rest := []) ⟨hx, hb, hml, hown, hta⟩ (tp_P.pre hK hN hL hU hI hP) (tp_recv hK hP hx_14.1 hf_60 rfl) lk_X11_286 (t_X10_moveTo l D cy H.size L K Γ f_52 x_14 v10 hx_14) rfl rfl ⟨Nat.le_of_ble_eq_true rfl, Nat.le_of_ble_eq_true rfl⟩ rfl hl.1 rfl (Nat.le_of_ble_eq_true rfl) dX11_elsewhere_100 ⟨Nat.le_of_ble_eq_true rfl, Nat.le_of_ble_eq_true rfl⟩) (fun f_81 H locs hw_79 hP hI hc_82 hS => ?_)
            have hD : va_D A (va_pl L f_81) := tp_D hL hAL
            have hfr := tp_fr2 hfr hc_82 (by decide)
            refine lv_iload hx hb dX11_elsewhere_103 (lv_at hl 2 rfl) ?_
            refine lv_aload_n hx hb dX11_elsewhere_105 rfl (lv_at hl 6 rfl) ?_
            refine tp_get (cy := cy) (ci := 11) (v := .ref x_14) (C := RX11) (T := TX11) (N := 16) hx hb hta inlX11 hown hK hP ho.1 ((tp_un hfr ho (by decide)).trans hf_4) rfl 9 (by decide) (hta _ wk_42) (fun _ h9 => h9) rfl dX11_elsewhere_106 ?_
            obtain ⟨x_84, x_85, x_86, x_87, x_88, x_89, x_90, x_91, x_92, x_93, x_94, x_95, x_96, x_97, x_98, x_99, x_100, x_101, hf_83, hx_84, hx_85, hx_86, hx_87, hx_88, hx_89, hx_90, hx_91, hx_92, hx_94, hx_97⟩ := (show tp_o_VIEW L K (0) 0 (Γ (27, 0, 0)) (f_81 x_14) from hI.at hx_14)
            refine tl_si (tq_rVN hN (As := []) (rest := [.int v8]) ⟨hx, hb, hml, hown, hta⟩ (tp_P.pre hK hN hL hU hI hP) (tp_recv hK hP hx_14.1 hf_83 rfl) lk_X11_289 (t_X10_hasDeep l D cy H.size L K Γ f_81 x_14 hx_14) rfl rfl ⟨Nat.le_of_ble_eq_true rfl, Nat.le_of_ble_eq_true rfl⟩ rfl hl.1 rfl (Nat.le_of_ble_eq_true rfl) dX11_elsewhere_109 ⟨Nat.le_of_ble_eq_true rfl, Nat.le_of_ble_eq_true rfl⟩) (fun r_103 hw_102 => ?_)
            have hw_102 : tl_J r_103 (tv_gc (f_81 x_14)) := hw_102
            refine lv_if_eq (tgt := 119) hx hb dX11_elsewhere_112 (by decide) (fun c_104 => ?_) (fun c_104 => ?_)
            · have c_104 := c_104
              refine lv_iconst (v := 0) hx hb dX11_elsewhere_119 (by decide) ?_
              refine lv_iadd hx hb dX11_elsewhere_120 ?_
              refine lv_topi (fun z_105 ez_105 => ?_)
              try have iz_105 : z_105.toInt = v8.toInt + (0 : Int) := by rw [ez_105]; exact tl_addN v8 0 rfl rfl (by omega) (by omega)
              refine lv_istore (lv' := [(8, .int z_105), (10, .int v10), (9, .int v9), (7, .int r_51), (6, .int x_38), (4, .long r_49), (0, .ref o), (1, .int p0), (2, .int p1), (3, .int p2)]) hx hb dX11_elsewhere_121 hl (by decide) rfl (fun ls hl => ?_)
              refine lv_iload hx hb dX11_elsewhere_123 (lv_at hl 2 rfl) ?_
              refine lv_aload_n hx hb dX11_elsewhere_125 rfl (lv_at hl 6 rfl) ?_
              refine tp_get (cy := cy) (ci := 11) (v := .ref x_14) (C := RX11) (T := TX11) (N := 16) hx hb hta inlX11 hown hK hP ho.1 ((tp_un hfr ho (by decide)).trans hf_4) rfl 9 (by decide) (hta _ wk_42) (fun _ h9 => h9) rfl dX11_elsewhere_126 ?_
              refine lv_lload hx hb dX11_elsewhere_129 (lv_at hl 5 rfl) ?_
              refine tl_si (tq_rVN hN (As := [.long r_49]) (rest := [.int v9]) ⟨hx, hb, hml, hown, hta⟩ (tp_P.pre hK hN hL hU hI hP) (tp_recv hK hP hx_14.1 hf_83 rfl) lk_X11_300 (t_X10_isNotBelow l D cy H.size L K Γ f_81 x_14 r_49 hx_14) rfl rfl ⟨Nat.le_of_ble_eq_true rfl, Nat.le_of_ble_eq_true rfl⟩ rfl hl.1 rfl (Nat.le_of_ble_eq_true rfl) dX11_elsewhere_131 ⟨Nat.le_of_ble_eq_true rfl, Nat.le_of_ble_eq_true rfl⟩) (fun r_107 hw_106 => ?_)
              have hw_106 : tl_J r_107 (True) := hw_106
              refine lv_if_eq (tgt := 141) hx hb dX11_elsewhere_134 (by decide) (fun c_108 => ?_) (fun c_108 => ?_)
              · have c_108 := c_108
                refine lv_iconst (v := 0) hx hb dX11_elsewhere_141 (by decide) ?_
                refine lv_iadd hx hb dX11_elsewhere_142 ?_
                refine lv_topi (fun z_109 ez_109 => ?_)
                try have iz_109 : z_109.toInt = v9.toInt + (0 : Int) := by rw [ez_109]; exact tl_addN v9 0 rfl rfl (by omega) (by omega)
                refine lv_istore (lv' := [(9, .int z_109), (8, .int z_105), (10, .int v10), (7, .int r_51), (6, .int x_38), (4, .long r_49), (0, .ref o), (1, .int p0), (2, .int p1), (3, .int p2)]) hx hb dX11_elsewhere_143 hl (by decide) rfl (fun ls hl => ?_)
                obtain ⟨z_110, ez_110⟩ : ∃ y : Int32, y = v10 + 1 := ⟨_, rfl⟩
                refine lv_iinc (v := z_110) (lv' := [(10, .int z_110), (9, .int z_109), (8, .int z_105), (7, .int r_51), (6, .int x_38), (4, .long r_49), (0, .ref o), (1, .int p0), (2, .int p1), (3, .int p2)]) hx hb dX11_elsewhere_145 hl (k := 2) rfl (by rw [ez_110]; rfl) (by decide) rfl (fun ls hl => ?_)
                try have iz_110 : z_110.toInt = v10.toInt + 1 := by rw [ez_110]; exact tl_addL v10 1 (by decide) (by omega) (by omega)
                refine lv_goto (tgt := 70) hx hb dX11_elsewhere_148 (by decide) ?_
                exact ih70 (f_81, z_110, z_109, z_105) H locs ls (by show (10299 - z_110.toInt).toNat < (10299 - v10.toInt).toNat; omega) ⟨(show 0 ≤ z_110.toInt from (by omega)), (show z_110.toInt ≤ 10299 from (by omega)), hP, hI, hfr, hS, lv_sub hl [0, 1, 2, 3, 4, 5, 6, 7, 8, 9] rfl⟩
              · have c_108 := hw_106.t c_108
                refine lv_iconst (v := 1) hx hb dX11_elsewhere_137 (by decide) ?_
                refine lv_goto (tgt := 142) hx hb dX11_elsewhere_138 (by decide) ?_
                refine lv_iadd hx hb dX11_elsewhere_142 ?_
                refine lv_topi (fun z_111 ez_111 => ?_)
                try have iz_111 : z_111.toInt = v9.toInt + (1 : Int) := by rw [ez_111]; exact tl_addN v9 1 rfl rfl (by omega) (by omega)
                refine lv_istore (lv' := [(9, .int z_111), (8, .int z_105), (10, .int v10), (7, .int r_51), (6, .int x_38), (4, .long r_49), (0, .ref o), (1, .int p0), (2, .int p1), (3, .int p2)]) hx hb dX11_elsewhere_143 hl (by decide) rfl (fun ls hl => ?_)
                obtain ⟨z_112, ez_112⟩ : ∃ y : Int32, y = v10 + 1 := ⟨_, rfl⟩
                refine lv_iinc (v := z_112) (lv' := [(10, .int z_112), (9, .int z_111), (8, .int z_105), (7, .int r_51), (6, .int x_38), (4, .long r_49), (0, .ref o), (1, .int p0), (2, .int p1), (3, .int p2)]) hx hb dX11_elsewhere_145 hl (k := 2) rfl (by rw [ez_112]; rfl) (by decide) rfl (fun ls hl => ?_)
                try have iz_112 : z_112.toInt = v10.toInt + 1 := by rw [ez_112]; exact tl_addL v10 1 (by decide) (by omega) (by omega)
                refine lv_goto (tgt := 70) hx hb dX11_elsewhere_148 (by decide) ?_
                exact ih70 (f_81, z_112, z_111, z_105) H locs ls (by show (10299 - z_112.toInt).toNat < (10299 - v10.toInt).toNat; omega) ⟨(show 0 ≤ z_112.toInt from (by omega)), (show z_112.toInt ≤ 10299 from (by omega)), hP, hI, hfr, hS, lv_sub hl [0, 1, 2, 3, 4, 5, 6, 7, 8, 9] rfl⟩
            · have c_104 := hw_102.t c_104
              refine lv_iconst (v := 1) hx hb dX11_elsewhere_115 (by decide) ?_
              refine lv_goto (tgt := 120) hx hb dX11_elsewhere_116 (by decide) ?_
              refine lv_iadd hx hb dX11_elsewhere_120 ?_
              refine lv_topi (fun z_113 ez_113 => ?_)
              try have iz_113 : z_113.toInt = v8.toInt + (1 : Int) := by rw [ez_113]; exact tl_addN v8 1 rfl rfl (by omega) (by omega)
              refine lv_istore (lv' := [(8, .int z_113), (10, .int v10), (9, .int v9), (7, .int r_51), (6, .int x_38), (4, .long r_49), (0, .ref o), (1, .int p0), (2, .int p1), (3, .int p2)]) hx hb dX11_elsewhere_121 hl (by decide) rfl (fun ls hl => ?_)
              refine lv_iload hx hb dX11_elsewhere_123 (lv_at hl 2 rfl) ?_
              refine lv_aload_n hx hb dX11_elsewhere_125 rfl (lv_at hl 6 rfl) ?_
              refine tp_get (cy := cy) (ci := 11) (v := .ref x_14) (C := RX11) (T := TX11) (N := 16) hx hb hta inlX11 hown hK hP ho.1 ((tp_un hfr ho (by decide)).trans hf_4) rfl 9 (by decide) (hta _ wk_42) (fun _ h9 => h9) rfl dX11_elsewhere_126 ?_
              refine lv_lload hx hb dX11_elsewhere_129 (lv_at hl 5 rfl) ?_
              refine tl_si (tq_rVN hN (As := [.long r_49]) (rest := [.int v9]) ⟨hx, hb, hml, hown, hta⟩ (tp_P.pre hK hN hL hU hI hP) (tp_recv hK hP hx_14.1 hf_83 rfl) lk_X11_300 (t_X10_isNotBelow l D cy H.size L K Γ f_81 x_14 r_49 hx_14) rfl rfl ⟨Nat.le_of_ble_eq_true rfl, Nat.le_of_ble_eq_true rfl⟩ rfl hl.1 rfl (Nat.le_of_ble_eq_true rfl) dX11_elsewhere_131 ⟨Nat.le_of_ble_eq_true rfl, Nat.le_of_ble_eq_true rfl⟩) (fun r_115 hw_114 => ?_)
              have hw_114 : tl_J r_115 (True) := hw_114
              refine lv_if_eq (tgt := 141) hx hb dX11_elsewhere_134 (by decide) (fun c_116 => ?_) (fun c_116 => ?_)
              · have c_116 := c_116
                refine lv_iconst (v := 0) hx hb dX11_elsewhere_141 (by decide) ?_
                refine lv_iadd hx hb dX11_elsewhere_142 ?_
                refine lv_topi (fun z_117 ez_117 => ?_)
                try have iz_117 : z_117.toInt = v9.toInt + (0 : Int) := by rw [ez_117]; exact tl_addN v9 0 rfl rfl (by omega) (by omega)
                refine lv_istore (lv' := [(9, .int z_117), (8, .int z_113), (10, .int v10), (7, .int r_51), (6, .int x_38), (4, .long r_49), (0, .ref o), (1, .int p0), (2, .int p1), (3, .int p2)]) hx hb dX11_elsewhere_143 hl (by decide) rfl (fun ls hl => ?_)
                obtain ⟨z_118, ez_118⟩ : ∃ y : Int32, y = v10 + 1 := ⟨_, rfl⟩
                refine lv_iinc (v := z_118) (lv' := [(10, .int z_118), (9, .int z_117), (8, .int z_113), (7, .int r_51), (6, .int x_38), (4, .long r_49), (0, .ref o), (1, .int p0), (2, .int p1), (3, .int p2)]) hx hb dX11_elsewhere_145 hl (k := 2) rfl (by rw [ez_118]; rfl) (by decide) rfl (fun ls hl => ?_)
                try have iz_118 : z_118.toInt = v10.toInt + 1 := by rw [ez_118]; exact tl_addL v10 1 (by decide) (by omega) (by omega)
                refine lv_goto (tgt := 70) hx hb dX11_elsewhere_148 (by decide) ?_
                exact ih70 (f_81, z_118, z_117, z_113) H locs ls (by show (10299 - z_118.toInt).toNat < (10299 - v10.toInt).toNat; omega) ⟨(show 0 ≤ z_118.toInt from (by omega)), (show z_118.toInt ≤ 10299 from (by omega)), hP, hI, hfr, hS, lv_sub hl [0, 1, 2, 3, 4, 5, 6, 7, 8, 9] rfl⟩
              · have c_116 := hw_114.t c_116
                refine lv_iconst (v := 1) hx hb dX11_elsewhere_137 (by decide) ?_
                refine lv_goto (tgt := 142) hx hb dX11_elsewhere_138 (by decide) ?_
                refine lv_iadd hx hb dX11_elsewhere_142 ?_
                refine lv_topi (fun z_119 ez_119 => ?_)
                try have iz_119 : z_119.toInt = v9.toInt + (1 : Int) := by rw [ez_119]; exact tl_addN v9 1 rfl rfl (by omega) (by omega)
                refine lv_istore (lv' := [(9, .int z_119), (8, .int z_113), (10, .int v10), (7, .int r_51), (6, .int x_38), (4, .long r_49), (0, .ref o), (1, .int p0), (2, .int p1), (3, .int p2)]) hx hb dX11_elsewhere_143 hl (by decide) rfl (fun ls hl => ?_)
                obtain ⟨z_120, ez_120⟩ : ∃ y : Int32, y = v10 + 1 := ⟨_, rfl⟩
                refine lv_iinc (v := z_120) (lv' := [(10, .int z_120), (9, .int z_119), (8, .int z_113), (7, .int r_51), (6, .int x_38), (4, .long r_49), (0, .ref o), (1, .int p0), (2, .int p1), (3, .int p2)]) hx hb dX11_elsewhere_145 hl (k := 2) rfl (by rw [ez_120]; rfl) (by decide) rfl (fun ls hl => ?_)
                try have iz_120 : z_120.toInt = v10.toInt + 1 := by rw [ez_120]; exact tl_addL v10 1 (by decide) (by omega) (by omega)
                refine lv_goto (tgt := 70) hx hb dX11_elsewhere_148 (by decide) ?_
                exact ih70 (f_81, z_120, z_119, z_113) H locs ls (by show (10299 - z_120.toInt).toNat < (10299 - v10.toInt).toNat; omega) ⟨(show 0 ≤ z_120.toInt from (by omega)), (show z_120.toInt ≤ 10299 from (by omega)), hP, hI, hfr, hS, lv_sub hl [0, 1, 2, 3, 4, 5, 6, 7, 8, 9] rfl⟩
      · have c_47 := c_47
        refine lv_bipush (v := (-2)) hx hb dX11_elsewhere_31 (by decide) ?_
        exact W.iret (v := (-2)) hx hb hr (fun t ht hW => ⟨⟨_, f_23, rfl, trivial, by rw [ht]; exact hP, hI, hfr⟩, hS.F ht⟩) hS.2.2 dX11_elsewhere_33
    · have c_25 := c_25
      refine lv_iconst (v := (-1)) hx hb dX11_elsewhere_19 (by decide) ?_
      exact W.iret (v := (-1)) hx hb hr (fun t ht hW => ⟨⟨_, f_23, rfl, trivial, by rw [ht]; exact hP, hI, hfr⟩, hS.F ht⟩) hS.2.2 dX11_elsewhere_20
set_option maxHeartbeats 4000000 in
set_option maxRecDepth 100000 in
theorem t_X11_deepest (l : Launch) (D : va_G) (cy : Nat → ClassId) (sz : Nat) (L : List Nat) (K : Nat → tk_K) (Γ : tk_G) (f : Nat → va_E) (o : Nat) (p0 : Int32) (p1 : Int32) (p2 : Int32) (ho : tp_r L K 0 (0) 0 o) : Met l yX11_deepest (tl_w yX11_deepest cX11_deepest 10 (some .long)) ({ frames := 5, cells := 0, slots := 0, locals := 113 }) (va_Pc [.ref o, .int p0, .int p1, .int p2] (tp_P D cy L K Γ f sz)) (va_Ql (fun (r : Int64) (u : Nat → va_E) => True) (tp_B D cy L K Γ f [28, 29, 23, 24, 27, 30, 31, 32]) (tp_A L sz)) 0 0 (tp_A L sz) := by
  refine Met.ofW (cc := cX11_deepest) (maxL := 10) (ret := (some .long)) (by decide) rfl ?_
  intro p e s m args below meth c s₁ B hml hv
  obtain ⟨rfl, hsz, hP, hK, hL, hI, hN, hU⟩ := hv
  have hx := B.exec
  have hb := B.bytes
  have hr := B.returns
  have hta := tl_hta (atoms_spec (ws := tl_w yX11_deepest cX11_deepest 10 (some .long)) B.pre)
  have hown : s.vm.findClass RX11 = some m.cls := findClass_of_methodNamed B.named
  have hlocks := B.notSynchronized
  subst hsz
  have hI0 := hI
  generalize hAe : tp_A L s.heap.size = A
  have hA : ∀ q : Nat, s.heap.size ≤ q → A q := fun q h => by rw [← hAe]; exact Or.inr h
  have hAL : ∀ q ∈ L, A q := fun q h => by rw [← hAe]; exact Or.inl h
  have hAf : ∀ (H : Heap), s.heap.size ≤ H.size → ∀ q, tp_A L H.size q → A q := fun H h q hq => hq.elim (hAL q) (fun h2 => hA q (Nat.le_trans h h2))
  have hS : va_S A s.heap s.heap [] := va_S.rf
  have hD : va_D A (va_pl L f) := tp_D hL hAL
  have hfr : ∀ b, (K b).1 ∉ ([28, 29, 23, 24, 27, 30, 31, 32] : List Nat) → f b = f b := fun _ _ => rfl
  have hl := lv_entry ([.ref o, .int p0, .int p1, .int p2]) (n := 10) (Nat.le_of_ble_eq_true rfl)
  rw [lg_entry_eq]
  generalize (lg_sl ([.ref o, .int p0, .int p1, .int p2]) ++ List.replicate (10 - (lg_sl ([.ref o, .int p0, .int p1, .int p2])).length) Slot.unset).toArray = ls at hl ⊢
  have hl : lv_has ls 10 [(0, .ref o), (1, .int p0), (2, .int p1), (3, .int p2)] := hl
  refine lv_iload_n hx hb dX11_deepest_0 rfl (lv_at hl 3 rfl) ?_
  refine lv_iconst (v := 0) hx hb dX11_deepest_1 (by decide) ?_
  refine lv_iconst (v := 1) hx hb dX11_deepest_2 (by decide) ?_
  refine tl_si (tq_rS (As := [.int p2, .int 0, .int 1]) (rest := []) ⟨hx, hb, hml, hown, hta⟩ (tp_P.pre hK hN hL hU hI hP) lk_X11_105 (t_X11_isIn l D cy s.heap.size L K Γ f p2 0 1 ) rfl rfl ⟨Nat.le_of_ble_eq_true rfl, Nat.le_of_ble_eq_true rfl⟩ rfl hl.1 rfl (Nat.le_of_ble_eq_true rfl) dX11_deepest_3 ⟨Nat.le_of_ble_eq_true rfl, Nat.le_of_ble_eq_true rfl⟩) (fun r_2 hw_1 => ?_)
  have hw_1 : tl_E r_2 ((0 : Int) ≤ p2.toInt ∧ p2.toInt ≤ (1 : Int)) 1 0 := hw_1
  refine lv_if_eq (tgt := 19) hx hb dX11_deepest_6 (by decide) (fun c_3 => ?_) (fun c_3 => ?_)
  · have c_3 := hw_1.f c_3
    refine lv_ldc2 (v := (-2100000000)) hx hb hown (hta _ wk_1302) dX11_deepest_19 ?_
    exact W.lret (v := (-2100000000)) hx hb hr (fun t ht hW => ⟨⟨_, f, rfl, trivial, by rw [ht]; exact hP, hI, hfr⟩, hS.F ht⟩) hS.2.2 dX11_deepest_22
  · have c_3 := hw_1.t c_3
    refine lv_aload_n hx hb dX11_deepest_9 rfl (lv_at hl 0 rfl) ?_
    refine lv_iload_n hx hb dX11_deepest_10 rfl (lv_at hl 1 rfl) ?_
    refine lv_iload_n hx hb dX11_deepest_11 rfl (lv_at hl 2 rfl) ?_
    refine lv_iconst (v := (-1)) hx hb dX11_deepest_12 (by decide) ?_
    obtain ⟨x_5, x_6, x_7, x_8, x_9, x_10, x_11, x_12, x_13, x_14, x_15, x_16, x_17, x_18, x_19, x_20, hf_4, hx_5, hx_6, hx_7, hx_8, hx_9, hx_10, hx_11, hx_12, hx_13, hx_14, hx_15, hx_16, hx_17, hx_18, hx_19, hx_20⟩ := (show tp_o_X L K (0) 0 (Γ (0, 0, 0)) (f o) from hI0.at ho)
    refine tq_ci hS (hAf _ hS.1) (tq_rV (As := [.int p0, .int p1, .int (-1)]) (rest := []) ⟨hx, hb, hml, hown, hta⟩ (tp_P.pre hK hN hL hU hI hP) (tp_recv hK hP ho.1 hf_4 rfl) lk_X11_246 (t_X11_look l D cy s.heap.size L K Γ f o p0 p1 (-1) ho) rfl rfl ⟨Nat.le_of_ble_eq_true rfl, Nat.le_of_ble_eq_true rfl⟩ rfl hl.1 rfl (Nat.le_of_ble_eq_true rfl) dX11_deepest_13 ⟨Nat.le_of_ble_eq_true rfl, Nat.le_of_ble_eq_true rfl⟩) (fun r_22 f_23 H locs hw_21 hP hI hc_24 hS => ?_)
    have hD : va_D A (va_pl L f_23) := tp_D hL hAL
    have hfr := tp_fr2 hfr hc_24 (by decide)
    have hw_21 : tl_J r_22 (tv_gx f f_23 o) := hw_21
    refine lv_if_ne (tgt := 23) hx hb dX11_deepest_16 (by decide) (fun c_25 => ?_) (fun c_25 => ?_)
    · have c_25 := hw_21.t c_25
      refine lv_aload_n hx hb dX11_deepest_23 rfl (lv_at hl 0 rfl) ?_
      refine tp_get (cy := cy) (ci := 11) (v := .ref x_14) (C := RX11) (T := TX11) (N := 16) hx hb hta inlX11 hown hK hP ho.1 ((tp_un hfr ho (by decide)).trans hf_4) rfl 9 (by decide) (hta _ wk_42) (fun _ h9 => h9) rfl dX11_deepest_24 ?_
      obtain ⟨x_27, x_28, x_29, x_30, x_31, x_32, x_33, x_34, x_35, x_36, x_37, x_38, x_39, x_40, x_41, x_42, x_43, x_44, hf_26, hx_27, hx_28, hx_29, hx_30, hx_31, hx_32, hx_33, hx_34, hx_35, hx_37, hx_40⟩ := (show tp_o_VIEW L K (0) 0 (Γ (27, 0, 0)) (f_23 x_14) from hI.at hx_14)
      refine tp_getN (cy := cy) (ci := 10) (v := .int x_38) (C := RX10) (T := TX10) (N := 18) hx hb hta inlX10 hown hK hP hx_14.1 hf_26 rfl 11 (by decide) (va_Nw.use rfl (hN.1 66 _ nk_66)) (fun _ h9 => h9) rfl dX11_deepest_27 ?_
      refine lv_istore (lv' := [(4, .int x_38), (0, .ref o), (1, .int p0), (2, .int p1), (3, .int p2)]) hx hb dX11_deepest_30 hl (by decide) rfl (fun ls hl => ?_)
      refine lv_aload_n hx hb dX11_deepest_32 rfl (lv_at hl 1 rfl) ?_
      refine tp_get (cy := cy) (ci := 11) (v := .ref x_14) (C := RX11) (T := TX11) (N := 16) hx hb hta inlX11 hown hK hP ho.1 ((tp_un hfr ho (by decide)).trans hf_4) rfl 9 (by decide) (hta _ wk_42) (fun _ h9 => h9) rfl dX11_deepest_33 ?_
      refine tl_si (tq_rVN hN (As := []) (rest := []) ⟨hx, hb, hml, hown, hta⟩ (tp_P.pre hK hN hL hU hI hP) (tp_recv hK hP hx_14.1 hf_26 rfl) lk_X11_283 (t_X10_gapLength l D cy H.size L K Γ f_23 x_14 hx_14) rfl rfl ⟨Nat.le_of_ble_eq_true rfl, Nat.le_of_ble_eq_true rfl⟩ rfl hl.1 rfl (Nat.le_of_ble_eq_true rfl) dX11_deepest_36 ⟨Nat.le_of_ble_eq_true rfl, Nat.le_of_ble_eq_true rfl⟩) (fun r_46 hw_45 => ?_)
      have hgv : tv_gap (f_23 x_14) := (by assumption : tv_gx f f_23 o) _ _ hf_4 rfl
      have hgb := tv_gap.use hgv hf_26 rfl rfl
      have irl : r_46.toInt = x_39.toInt - x_38.toInt + 1 := by rw [hw_45 _ _ _ hf_26 rfl rfl]; exact tl_lenB hgb.1 hgb.2
      have hw_45 : tv_len (f_23 x_14) r_46 := hw_45
      refine lv_istore (lv' := [(5, .int r_46), (4, .int x_38), (0, .ref o), (1, .int p0), (2, .int p1), (3, .int p2)]) hx hb dX11_deepest_39 hl (by decide) rfl (fun ls hl => ?_)
      refine lv_iconst (v := (-1)) hx hb dX11_deepest_41 (by decide) ?_
      refine lv_istore (lv' := [(6, .int (-1)), (5, .int r_46), (4, .int x_38), (0, .ref o), (1, .int p0), (2, .int p1), (3, .int p2)]) hx hb dX11_deepest_42 hl (by decide) rfl (fun ls hl => ?_)
      refine lv_lconst (v := 0) hx hb dX11_deepest_44 (by decide) ?_
      refine lv_lstore (lv' := [(7, .long 0), (6, .int (-1)), (5, .int r_46), (4, .int x_38), (0, .ref o), (1, .int p0), (2, .int p1), (3, .int p2)]) hx hb dX11_deepest_45 hl (by decide) rfl (fun ls hl => ?_)
      refine lv_iconst (v := 0) hx hb dX11_deepest_47 (by decide) ?_
      refine lv_istore (lv' := [(9, .int 0), (7, .long 0), (6, .int (-1)), (5, .int r_46), (4, .int x_38), (0, .ref o), (1, .int p0), (2, .int p1), (3, .int p2)]) hx hb dX11_deepest_48 hl (by decide) rfl (fun ls hl => ?_)
      refine tl_ind (G := fun H locs ls => W p l e ((headSpec (tl_w yX11_deepest cX11_deepest 10 (some .long)) ({ frames := 5, cells := 0, slots := 0, locals := 113 })).room) s m #[.ref o, .int p0, .int p1, .int p2] below meth c H locs 0 0 (MQ below (va_Ql (fun (r : Int64) (u : Nat → va_E) => True) (tp_B D cy L K Γ f [28, 29, 23, 24, 27, 30, 31, 32]) A) #[.ref o, .int p0, .int p1, .int p2] s 0 0 A) (F0 m 50 ls [])) (α := (Nat → va_E) × Int32 × Int64 × Int32) (fun aq => (10299 - aq.2.1.toInt).toNat) (fun aq H locs ls => (0 ≤ aq.2.1.toInt) ∧ (aq.2.1.toInt ≤ 10299) ∧ va_P D vwCl (va_pl L aq.1) H ∧ tp_I cy L K Γ aq.1 ∧ (∀ b, (K b).1 ∉ ([28, 29, 23, 24, 27, 30, 31, 32] : List Nat) → aq.1 b = f b) ∧ va_S A s.heap H locs ∧ lv_has ls 10 [(9, .int aq.2.1), (7, .long aq.2.2.1), (6, .int aq.2.2.2), (5, .int r_46), (4, .int x_38), (0, .ref o), (1, .int p0), (2, .int p1), (3, .int p2)]) ?_ (f_23, (0 : Int32), (0 : Int64), ((-1) : Int32)) H locs ls ⟨(show 0 ≤ (0 : Int) from (by omega)), (show (0 : Int) ≤ 10299 from (by omega)), hP, hI, hfr, hS, lv_sub hl [0, 1, 2, 3, 4, 5, 6, 7, 8] rfl⟩
      rintro ⟨f_47, v9, v7, v6⟩ H locs ls ⟨h0, h1, hP, hI, hfr, hS, hl⟩ ih50
      have hP : va_P D vwCl (va_pl L f_47) H := hP
      have hI : tp_I cy L K Γ f_47 := hI
      have hfr : ∀ b, (K b).1 ∉ ([28, 29, 23, 24, 27, 30, 31, 32] : List Nat) → f_47 b = f b := hfr
      have hD : va_D A (va_pl L f_47) := tp_D hL hAL
      have h0 : 0 ≤ v9.toInt := h0
      have h1 : v9.toInt ≤ 10299 := h1
      have hl : lv_has ls 10 [(9, .int v9), (7, .long v7), (6, .int v6), (5, .int r_46), (4, .int x_38), (0, .ref o), (1, .int p0), (2, .int p1), (3, .int p2)] := hl
      refine lv_iload hx hb dX11_deepest_50 (lv_at hl 0 rfl) ?_
      refine lv_sipush (v := 300) hx hb dX11_deepest_52 (by decide) ?_
      refine lv_iload hx hb dX11_deepest_55 (lv_at hl 3 rfl) ?_
      refine lv_isub hx hb dX11_deepest_57 ?_
      refine lv_topi (fun z_48 ez_48 => ?_)
      try have iz_48 : z_48.toInt = (300 : Int) - r_46.toInt := by rw [ez_48]; exact tl_subN 300 r_46 rfl rfl (by omega) (by omega)
      refine lv_icmp_gt (tgt := 131) hx hb dX11_deepest_58 (by decide) (fun c_49 => ?_) (fun c_49 => ?_)
      · have c_49 : z_48.toInt < v9.toInt := tl_lt c_49
        refine lv_iload hx hb dX11_deepest_131 (lv_at hl 2 rfl) ?_
        refine lv_iconst (v := (-1)) hx hb dX11_deepest_133 (by decide) ?_
        refine lv_icmp_ne (tgt := 141) hx hb dX11_deepest_134 (by decide) (fun c_50 => ?_) (fun c_50 => ?_)
        · have c_50 : ¬ v6.toInt = (-1 : Int) := tl_neq c_50
          refine lv_iload_n hx hb dX11_deepest_141 rfl (lv_at hl 8 rfl) ?_
          refine lv_if_ne (tgt := 151) hx hb dX11_deepest_142 (by decide) (fun c_51 => ?_) (fun c_51 => ?_)
          · have c_51 : ¬ p2.toInt = (0 : Int) := tl_neq c_51
            refine lv_lload hx hb dX11_deepest_151 (lv_at hl 1 rfl) ?_
            exact W.lret (v := v7) hx hb hr (fun t ht hW => ⟨⟨_, f_47, rfl, trivial, by rw [ht]; exact hP, hI, hfr⟩, hS.F ht⟩) hS.2.2 dX11_deepest_153
          · have c_51 : p2.toInt = (0 : Int) := tl_eq c_51
            refine lv_iload hx hb dX11_deepest_145 (lv_at hl 2 rfl) ?_
            refine lv_i2l (v := v6.toInt64) hx hb dX11_deepest_147 (by first | rfl | decide) ?_
            refine lv_goto (tgt := 153) hx hb dX11_deepest_148 (by decide) ?_
            exact W.lret (v := v6.toInt64) hx hb hr (fun t ht hW => ⟨⟨_, f_47, rfl, trivial, by rw [ht]; exact hP, hI, hfr⟩, hS.F ht⟩) hS.2.2 dX11_deepest_153
        · have c_50 : v6.toInt = (-1 : Int) := tl_eq c_50
          refine lv_ldc2 (v := (-2000000000)) hx hb hown (hta _ wk_961) dX11_deepest_137 ?_
          exact W.lret (v := (-2000000000)) hx hb hr (fun t ht hW => ⟨⟨_, f_47, rfl, trivial, by rw [ht]; exact hP, hI, hfr⟩, hS.F ht⟩) hS.2.2 dX11_deepest_140
      · have c_49 : v9.toInt ≤ z_48.toInt := tl_nlt c_49
        refine lv_iload hx hb dX11_deepest_61 (lv_at hl 0 rfl) ?_
        refine lv_iload hx hb dX11_deepest_63 (lv_at hl 4 rfl) ?_
        refine lv_isub hx hb dX11_deepest_65 ?_
        refine lv_topi (fun z_52 ez_52 => ?_)
        try have iz_52 : z_52.toInt = v9.toInt - x_38.toInt := by rw [ez_52]; exact tl_subN v9 x_38 rfl rfl (by omega) (by omega)
        refine va_mabs hx hb (by rw [hml]; exact hl.1.symm) hown (hta _ wk_1019) (hta _ wk_888) (hta _ wk_83) (hta _ wk_889) (Nat.le_of_ble_eq_true rfl) (Nat.le_of_ble_eq_true rfl) (Nat.le_of_ble_eq_true rfl) (Nat.le_of_ble_eq_true rfl) dX11_deepest_66 ?_
        refine lv_topi (fun z_53 ez_53 => ?_)
        have iz_53 : (z_53.toInt = z_52.toInt ∧ 0 ≤ z_52.toInt) ∨ (z_52.toInt < 0 ∧ (z_53.toInt = -z_52.toInt ∨ z_52.toInt = -2147483648)) := by rw [ez_53]; exact tl_absF
        refine lv_iload hx hb dX11_deepest_69 (lv_at hl 3 rfl) ?_
        refine lv_icmp_lt (tgt := 125) hx hb dX11_deepest_71 (by decide) (fun c_54 => ?_) (fun c_54 => ?_)
        · have c_54 : z_53.toInt < r_46.toInt := tl_lt c_54
          obtain ⟨z_55, ez_55⟩ : ∃ y : Int32, y = v9 + 1 := ⟨_, rfl⟩
          refine lv_iinc (v := z_55) (lv' := [(9, .int z_55), (7, .long v7), (6, .int v6), (5, .int r_46), (4, .int x_38), (0, .ref o), (1, .int p0), (2, .int p1), (3, .int p2)]) hx hb dX11_deepest_125 hl (k := 0) rfl (by rw [ez_55]; rfl) (by decide) rfl (fun ls hl => ?_)
          try have iz_55 : z_55.toInt = v9.toInt + 1 := by rw [ez_55]; exact tl_addL v9 1 (by decide) (by omega) (by omega)
          refine lv_goto (tgt := 50) hx hb dX11_deepest_128 (by decide) ?_
          exact ih50 (f_47, z_55, v7, v6) H locs ls (by show (10299 - z_55.toInt).toNat < (10299 - v9.toInt).toNat; omega) ⟨(show 0 ≤ z_55.toInt from (by omega)), (show z_55.toInt ≤ 10299 from (by omega)), hP, hI, hfr, hS, lv_sub hl [0, 1, 2, 3, 4, 5, 6, 7, 8] rfl⟩
        · have c_54 : r_46.toInt ≤ z_53.toInt := tl_nlt c_54
          refine lv_aload_n hx hb dX11_deepest_74 rfl (lv_at hl 5 rfl) ?_
          refine tp_get (cy := cy) (ci := 11) (v := .ref x_14) (C := RX11) (T := TX11) (N := 16) hx hb hta inlX11 hown hK hP ho.1 ((tp_un hfr ho (by decide)).trans hf_4) rfl 9 (by decide) (hta _ wk_42) (fun _ h9 => h9) rfl dX11_deepest_75 ?_
          refine lv_iload hx hb dX11_deepest_78 (lv_at hl 0 rfl) ?_
          obtain ⟨x_57, x_58, x_59, x_60, x_61, x_62, x_63, x_64, x_65, x_66, x_67, x_68, x_69, x_70, x_71, x_72, x_73, x_74, hf_56, hx_57, hx_58, hx_59, hx_60, hx_61, hx_62, hx_63, hx_64, hx_65, hx_67, hx_70⟩ := (show tp_o_VIEW L K (0) 0 (Γ (27, 0, 0)) (f_47 x_14) from hI.at hx_14)
          refine tq_cv hS (hAf _ hS.1) (tq_rVN hN (As := [.int v9]) (rest := []) ⟨hx, hb, hml, hown, hta⟩ (tp_P.pre hK hN hL hU hI hP) (tp_recv hK hP hx_14.1 hf_56 rfl) lk_X11_286 (t_X10_moveTo l D cy H.size L K Γ f_47 x_14 v9 hx_14) rfl rfl ⟨Nat.le_of_ble_eq_true rfl, Nat.le_of_ble_eq_true rfl⟩ rfl hl.1 rfl (Nat.le_of_ble_eq_true rfl) dX11_deepest_80 ⟨Nat.le_of_ble_eq_true rfl, Nat.le_of_ble_eq_true rfl⟩) (fun f_77 H locs hw_75 hP hI hc_78 hS => ?_)
          have hD : va_D A (va_pl L f_77) := tp_D hL hAL
          have hfr := tp_fr2 hfr hc_78 (by decide)
          refine lv_aload_n hx hb dX11_deepest_83 rfl (lv_at hl 5 rfl) ?_
          refine tp_get (cy := cy) (ci := 11) (v := .ref x_14) (C := RX11) (T := TX11) (N := 16) hx hb hta inlX11 hown hK hP ho.1 ((tp_un hfr ho (by decide)).trans hf_4) rfl 9 (by decide) (hta _ wk_42) (fun _ h9 => h9) rfl dX11_deepest_84 ?_
          obtain ⟨x_80, x_81, x_82, x_83, x_84, x_85, x_86, x_87, x_88, x_89, x_90, x_91, x_92, x_93, x_94, x_95, x_96, x_97, hf_79, hx_80, hx_81, hx_82, hx_83, hx_84, hx_85, hx_86, hx_87, hx_88, hx_90, hx_93⟩ := (show tp_o_VIEW L K (0) 0 (Γ (27, 0, 0)) (f_77 x_14) from hI.at hx_14)
          refine tl_si (tq_rVN hN (As := []) (rest := []) ⟨hx, hb, hml, hown, hta⟩ (tp_P.pre hK hN hL hU hI hP) (tp_recv hK hP hx_14.1 hf_79 rfl) lk_X11_289 (t_X10_hasDeep l D cy H.size L K Γ f_77 x_14 hx_14) rfl rfl ⟨Nat.le_of_ble_eq_true rfl, Nat.le_of_ble_eq_true rfl⟩ rfl hl.1 rfl (Nat.le_of_ble_eq_true rfl) dX11_deepest_87 ⟨Nat.le_of_ble_eq_true rfl, Nat.le_of_ble_eq_true rfl⟩) (fun r_99 hw_98 => ?_)
          have hw_98 : tl_J r_99 (tv_gc (f_77 x_14)) := hw_98
          refine lv_if_eq (tgt := 125) hx hb dX11_deepest_90 (by decide) (fun c_100 => ?_) (fun c_100 => ?_)
          · have c_100 := c_100
            obtain ⟨z_101, ez_101⟩ : ∃ y : Int32, y = v9 + 1 := ⟨_, rfl⟩
            refine lv_iinc (v := z_101) (lv' := [(9, .int z_101), (7, .long v7), (6, .int v6), (5, .int r_46), (4, .int x_38), (0, .ref o), (1, .int p0), (2, .int p1), (3, .int p2)]) hx hb dX11_deepest_125 hl (k := 0) rfl (by rw [ez_101]; rfl) (by decide) rfl (fun ls hl => ?_)
            try have iz_101 : z_101.toInt = v9.toInt + 1 := by rw [ez_101]; exact tl_addL v9 1 (by decide) (by omega) (by omega)
            refine lv_goto (tgt := 50) hx hb dX11_deepest_128 (by decide) ?_
            exact ih50 (f_77, z_101, v7, v6) H locs ls (by show (10299 - z_101.toInt).toNat < (10299 - v9.toInt).toNat; omega) ⟨(show 0 ≤ z_101.toInt from (by omega)), (show z_101.toInt ≤ 10299 from (by omega)), hP, hI, hfr, hS, lv_sub hl [0, 1, 2, 3, 4, 5, 6, 7, 8] rfl⟩
          · have c_100 := hw_98.t c_100
            refine lv_iload hx hb dX11_deepest_93 (lv_at hl 2 rfl) ?_
            refine lv_iconst (v := (-1)) hx hb dX11_deepest_95 (by decide) ?_
            refine lv_icmp_eq (tgt := 112) hx hb dX11_deepest_96 (by decide) (fun c_102 => ?_) (fun c_102 => ?_)
            · have c_102 : v6.toInt = (-1 : Int) := tl_eq c_102
              refine lv_iload hx hb dX11_deepest_112 (lv_at hl 0 rfl) ?_
              refine lv_istore (lv' := [(6, .int v9), (9, .int v9), (7, .long v7), (5, .int r_46), (4, .int x_38), (0, .ref o), (1, .int p0), (2, .int p1), (3, .int p2)]) hx hb dX11_deepest_114 hl (by decide) rfl (fun ls hl => ?_)
              refine lv_aload_n hx hb dX11_deepest_116 rfl (lv_at hl 5 rfl) ?_
              refine tp_get (cy := cy) (ci := 11) (v := .ref x_14) (C := RX11) (T := TX11) (N := 16) hx hb hta inlX11 hown hK hP ho.1 ((tp_un hfr ho (by decide)).trans hf_4) rfl 9 (by decide) (hta _ wk_42) (fun _ h9 => h9) rfl dX11_deepest_117 ?_
              refine tl_sl (tq_rVN hN (As := []) (rest := []) ⟨hx, hb, hml, hown, hta⟩ (tp_P.pre hK hN hL hU hI hP) (tp_recv hK hP hx_14.1 hf_79 rfl) lk_X11_274 (t_X10_scored l D cy H.size L K Γ f_77 x_14 hx_14) rfl rfl ⟨Nat.le_of_ble_eq_true rfl, Nat.le_of_ble_eq_true rfl⟩ rfl hl.1 rfl (Nat.le_of_ble_eq_true rfl) dX11_deepest_120 ⟨Nat.le_of_ble_eq_true rfl, Nat.le_of_ble_eq_true rfl⟩) (fun r_104 hw_103 => ?_)
              refine lv_lstore (lv' := [(7, .long r_104), (6, .int v9), (9, .int v9), (5, .int r_46), (4, .int x_38), (0, .ref o), (1, .int p0), (2, .int p1), (3, .int p2)]) hx hb dX11_deepest_123 hl (by decide) rfl (fun ls hl => ?_)
              obtain ⟨z_105, ez_105⟩ : ∃ y : Int32, y = v9 + 1 := ⟨_, rfl⟩
              refine lv_iinc (v := z_105) (lv' := [(9, .int z_105), (7, .long r_104), (6, .int v9), (5, .int r_46), (4, .int x_38), (0, .ref o), (1, .int p0), (2, .int p1), (3, .int p2)]) hx hb dX11_deepest_125 hl (k := 2) rfl (by rw [ez_105]; rfl) (by decide) rfl (fun ls hl => ?_)
              try have iz_105 : z_105.toInt = v9.toInt + 1 := by rw [ez_105]; exact tl_addL v9 1 (by decide) (by omega) (by omega)
              refine lv_goto (tgt := 50) hx hb dX11_deepest_128 (by decide) ?_
              exact ih50 (f_77, z_105, r_104, v9) H locs ls (by show (10299 - z_105.toInt).toNat < (10299 - v9.toInt).toNat; omega) ⟨(show 0 ≤ z_105.toInt from (by omega)), (show z_105.toInt ≤ 10299 from (by omega)), hP, hI, hfr, hS, lv_sub hl [0, 1, 2, 3, 4, 5, 6, 7, 8] rfl⟩
            · have c_102 : ¬ v6.toInt = (-1 : Int) := tl_neq c_102
              refine lv_aload_n hx hb dX11_deepest_99 rfl (lv_at hl 5 rfl) ?_
              refine tp_get (cy := cy) (ci := 11) (v := .ref x_14) (C := RX11) (T := TX11) (N := 16) hx hb hta inlX11 hown hK hP ho.1 ((tp_un hfr ho (by decide)).trans hf_4) rfl 9 (by decide) (hta _ wk_42) (fun _ h9 => h9) rfl dX11_deepest_100 ?_
              refine tl_sl (tq_rVN hN (As := []) (rest := []) ⟨hx, hb, hml, hown, hta⟩ (tp_P.pre hK hN hL hU hI hP) (tp_recv hK hP hx_14.1 hf_79 rfl) lk_X11_274 (t_X10_scored l D cy H.size L K Γ f_77 x_14 hx_14) rfl rfl ⟨Nat.le_of_ble_eq_true rfl, Nat.le_of_ble_eq_true rfl⟩ rfl hl.1 rfl (Nat.le_of_ble_eq_true rfl) dX11_deepest_103 ⟨Nat.le_of_ble_eq_true rfl, Nat.le_of_ble_eq_true rfl⟩) (fun r_107 hw_106 => ?_)
              refine lv_lload hx hb dX11_deepest_106 (lv_at hl 1 rfl) ?_
              refine W.lcmp hx hb dX11_deepest_108 ?_
              refine lv_if_le (tgt := 125) hx hb dX11_deepest_109 (by decide) (fun c_108 => ?_) (fun c_108 => ?_)
              · have c_108 : r_107.toInt ≤ v7.toInt := tl_cmp_le c_108
                obtain ⟨z_109, ez_109⟩ : ∃ y : Int32, y = v9 + 1 := ⟨_, rfl⟩
                refine lv_iinc (v := z_109) (lv' := [(9, .int z_109), (7, .long v7), (6, .int v6), (5, .int r_46), (4, .int x_38), (0, .ref o), (1, .int p0), (2, .int p1), (3, .int p2)]) hx hb dX11_deepest_125 hl (k := 0) rfl (by rw [ez_109]; rfl) (by decide) rfl (fun ls hl => ?_)
                try have iz_109 : z_109.toInt = v9.toInt + 1 := by rw [ez_109]; exact tl_addL v9 1 (by decide) (by omega) (by omega)
                refine lv_goto (tgt := 50) hx hb dX11_deepest_128 (by decide) ?_
                exact ih50 (f_77, z_109, v7, v6) H locs ls (by show (10299 - z_109.toInt).toNat < (10299 - v9.toInt).toNat; omega) ⟨(show 0 ≤ z_109.toInt from (by omega)), (show z_109.toInt ≤ 10299 from (by omega)), hP, hI, hfr, hS, lv_sub hl [0, 1, 2, 3, 4, 5, 6, 7, 8] rfl⟩
              · have c_108 : r_107.toInt > v7.toInt := tl_cmp_nle c_108
                refine lv_iload hx hb dX11_deepest_112 (lv_at hl 0 rfl) ?_
                refine lv_istore (lv' := [(6, .int v9), (9, .int v9), (7, .long v7), (5, .int r_46), (4, .int x_38), (0, .ref o), (1, .int p0), (2, .int p1), (3, .int p2)]) hx hb dX11_deepest_114 hl (by decide) rfl (fun ls hl => ?_)
                refine lv_aload_n hx hb dX11_deepest_116 rfl (lv_at hl 5 rfl) ?_
                refine tp_get (cy := cy) (ci := 11) (v := .ref x_14) (C := RX11) (T := TX11) (N := 16) hx hb hta inlX11 hown hK hP ho.1 ((tp_un hfr ho (by decide)).trans hf_4) rfl 9 (by decide) (hta _ wk_42) (fun _ h9 => h9) rfl dX11_deepest_117 ?_
                refine tl_sl (tq_rVN hN (As := []) (rest := []) ⟨hx, hb, hml, hown, hta⟩ (tp_P.pre hK hN hL hU hI hP) (tp_recv hK hP hx_14.1 hf_79 rfl) lk_X11_274 (t_X10_scored l D cy H.size L K Γ f_77 x_14 hx_14) rfl rfl ⟨Nat.le_of_ble_eq_true rfl, Nat.le_of_ble_eq_true rfl⟩ rfl hl.1 rfl (Nat.le_of_ble_eq_true rfl) dX11_deepest_120 ⟨Nat.le_of_ble_eq_true rfl, Nat.le_of_ble_eq_true rfl⟩) (fun r_111 hw_110 => ?_)
                refine lv_lstore (lv' := [(7, .long r_111), (6, .int v9), (9, .int v9), (5, .int r_46), (4, .int x_38), (0, .ref o), (1, .int p0), (2, .int p1), (3, .int p2)]) hx hb dX11_deepest_123 hl (by decide) rfl (fun ls hl => ?_)
                obtain ⟨z_112, ez_112⟩ : ∃ y : Int32, y = v9 + 1 := ⟨_, rfl⟩
                refine lv_iinc (v := z_112) (lv' := [(9, .int z_112), (7, .long r_111), (6, .int v9), (5, .int r_46), (4, .int x_38), (0, .ref o), (1, .int p0), (2, .int p1), (3, .int p2)]) hx hb dX11_deepest_125 hl (k := 2) rfl (by rw [ez_112]; rfl) (by decide) rfl (fun ls hl => ?_)
                try have iz_112 : z_112.toInt = v9.toInt + 1 := by rw [ez_112]; exact tl_addL v9 1 (by decide) (by omega) (by omega)
                refine lv_goto (tgt := 50) hx hb dX11_deepest_128 (by decide) ?_
                exact ih50 (f_77, z_112, r_111, v9) H locs ls (by show (10299 - z_112.toInt).toNat < (10299 - v9.toInt).toNat; omega) ⟨(show 0 ≤ z_112.toInt from (by omega)), (show z_112.toInt ≤ 10299 from (by omega)), hP, hI, hfr, hS, lv_sub hl [0, 1, 2, 3, 4, 5, 6, 7, 8] rfl⟩
    · have c_25 := c_25
      refine lv_ldc2 (v := (-2100000000)) hx hb hown (hta _ wk_1302) dX11_deepest_19 ?_
      exact W.lret (v := (-2100000000)) hx hb hr (fun t ht hW => ⟨⟨_, f_23, rfl, trivial, by rw [ht]; exact hP, hI, hfr⟩, hS.F ht⟩) hS.2.2 dX11_deepest_22
set_option maxHeartbeats 4000000 in
set_option maxRecDepth 100000 in
theorem t_X11_bent (l : Launch) (D : va_G) (cy : Nat → ClassId) (sz : Nat) (L : List Nat) (K : Nat → tk_K) (Γ : tk_G) (f : Nat → va_E) (o : Nat) (p0 : Int32) (p1 : Int32) (p2 : Int32) (ho : tp_r L K 0 (0) 0 o) : Met l yX11_bent (tl_w yX11_bent cX11_bent 4 (some .long)) ({ frames := 5, cells := 0, slots := 0, locals := 113 }) (va_Pc [.ref o, .int p0, .int p1, .int p2] (tp_P D cy L K Γ f sz)) (va_Ql (fun (r : Int64) (u : Nat → va_E) => True) (tp_B D cy L K Γ f [28, 29, 23, 24, 27, 30, 31, 32]) (tp_A L sz)) 0 0 (tp_A L sz) := by
  refine Met.ofW (cc := cX11_bent) (maxL := 4) (ret := (some .long)) (by decide) rfl ?_
  intro p e s m args below meth c s₁ B hml hv
  obtain ⟨rfl, hsz, hP, hK, hL, hI, hN, hU⟩ := hv
  have hx := B.exec
  have hb := B.bytes
  have hr := B.returns
  have hta := tl_hta (atoms_spec (ws := tl_w yX11_bent cX11_bent 4 (some .long)) B.pre)
  have hown : s.vm.findClass RX11 = some m.cls := findClass_of_methodNamed B.named
  have hlocks := B.notSynchronized
  subst hsz
  have hI0 := hI
  generalize hAe : tp_A L s.heap.size = A
  have hA : ∀ q : Nat, s.heap.size ≤ q → A q := fun q h => by rw [← hAe]; exact Or.inr h
  have hAL : ∀ q ∈ L, A q := fun q h => by rw [← hAe]; exact Or.inl h
  have hAf : ∀ (H : Heap), s.heap.size ≤ H.size → ∀ q, tp_A L H.size q → A q := fun H h q hq => hq.elim (hAL q) (fun h2 => hA q (Nat.le_trans h h2))
  have hS : va_S A s.heap s.heap [] := va_S.rf
  have hD : va_D A (va_pl L f) := tp_D hL hAL
  have hfr : ∀ b, (K b).1 ∉ ([28, 29, 23, 24, 27, 30, 31, 32] : List Nat) → f b = f b := fun _ _ => rfl
  have hl := lv_entry ([.ref o, .int p0, .int p1, .int p2]) (n := 4) (Nat.le_of_ble_eq_true rfl)
  rw [lg_entry_eq]
  generalize (lg_sl ([.ref o, .int p0, .int p1, .int p2]) ++ List.replicate (4 - (lg_sl ([.ref o, .int p0, .int p1, .int p2])).length) Slot.unset).toArray = ls at hl ⊢
  have hl : lv_has ls 4 [(0, .ref o), (1, .int p0), (2, .int p1), (3, .int p2)] := hl
  refine lv_iload_n hx hb dX11_bent_0 rfl (lv_at hl 3 rfl) ?_
  refine lv_iconst (v := 0) hx hb dX11_bent_1 (by decide) ?_
  refine lv_bipush (v := 40) hx hb dX11_bent_2 (by decide) ?_
  refine tl_si (tq_rS (As := [.int p2, .int 0, .int 40]) (rest := []) ⟨hx, hb, hml, hown, hta⟩ (tp_P.pre hK hN hL hU hI hP) lk_X11_105 (t_X11_isIn l D cy s.heap.size L K Γ f p2 0 40 ) rfl rfl ⟨Nat.le_of_ble_eq_true rfl, Nat.le_of_ble_eq_true rfl⟩ rfl hl.1 rfl (Nat.le_of_ble_eq_true rfl) dX11_bent_4 ⟨Nat.le_of_ble_eq_true rfl, Nat.le_of_ble_eq_true rfl⟩) (fun r_2 hw_1 => ?_)
  have hw_1 : tl_E r_2 ((0 : Int) ≤ p2.toInt ∧ p2.toInt ≤ (40 : Int)) 1 0 := hw_1
  refine lv_if_eq (tgt := 20) hx hb dX11_bent_7 (by decide) (fun c_3 => ?_) (fun c_3 => ?_)
  · have c_3 := hw_1.f c_3
    refine lv_ldc2 (v := (-2000000000)) hx hb hown (hta _ wk_961) dX11_bent_20 ?_
    exact W.lret (v := (-2000000000)) hx hb hr (fun t ht hW => ⟨⟨_, f, rfl, trivial, by rw [ht]; exact hP, hI, hfr⟩, hS.F ht⟩) hS.2.2 dX11_bent_23
  · have c_3 := hw_1.t c_3
    refine lv_aload_n hx hb dX11_bent_10 rfl (lv_at hl 0 rfl) ?_
    refine lv_iload_n hx hb dX11_bent_11 rfl (lv_at hl 1 rfl) ?_
    refine lv_iload_n hx hb dX11_bent_12 rfl (lv_at hl 2 rfl) ?_
    refine lv_iconst (v := (-1)) hx hb dX11_bent_13 (by decide) ?_
    obtain ⟨x_5, x_6, x_7, x_8, x_9, x_10, x_11, x_12, x_13, x_14, x_15, x_16, x_17, x_18, x_19, x_20, hf_4, hx_5, hx_6, hx_7, hx_8, hx_9, hx_10, hx_11, hx_12, hx_13, hx_14, hx_15, hx_16, hx_17, hx_18, hx_19, hx_20⟩ := (show tp_o_X L K (0) 0 (Γ (0, 0, 0)) (f o) from hI0.at ho)
    refine tq_ci hS (hAf _ hS.1) (tq_rV (As := [.int p0, .int p1, .int (-1)]) (rest := []) ⟨hx, hb, hml, hown, hta⟩ (tp_P.pre hK hN hL hU hI hP) (tp_recv hK hP ho.1 hf_4 rfl) lk_X11_246 (t_X11_look l D cy s.heap.size L K Γ f o p0 p1 (-1) ho) rfl rfl ⟨Nat.le_of_ble_eq_true rfl, Nat.le_of_ble_eq_true rfl⟩ rfl hl.1 rfl (Nat.le_of_ble_eq_true rfl) dX11_bent_14 ⟨Nat.le_of_ble_eq_true rfl, Nat.le_of_ble_eq_true rfl⟩) (fun r_22 f_23 H locs hw_21 hP hI hc_24 hS => ?_)
    have hD : va_D A (va_pl L f_23) := tp_D hL hAL
    have hfr := tp_fr2 hfr hc_24 (by decide)
    have hw_21 : tl_J r_22 (tv_gx f f_23 o) := hw_21
    refine lv_if_ne (tgt := 24) hx hb dX11_bent_17 (by decide) (fun c_25 => ?_) (fun c_25 => ?_)
    · have c_25 := hw_21.t c_25
      refine lv_aload_n hx hb dX11_bent_24 rfl (lv_at hl 0 rfl) ?_
      refine tp_get (cy := cy) (ci := 11) (v := .ref x_14) (C := RX11) (T := TX11) (N := 16) hx hb hta inlX11 hown hK hP ho.1 ((tp_un hfr ho (by decide)).trans hf_4) rfl 9 (by decide) (hta _ wk_42) (fun _ h9 => h9) rfl dX11_bent_25 ?_
      refine lv_iload_n hx hb dX11_bent_28 rfl (lv_at hl 3 rfl) ?_
      obtain ⟨x_27, x_28, x_29, x_30, x_31, x_32, x_33, x_34, x_35, x_36, x_37, x_38, x_39, x_40, x_41, x_42, x_43, x_44, hf_26, hx_27, hx_28, hx_29, hx_30, hx_31, hx_32, hx_33, hx_34, hx_35, hx_37, hx_40⟩ := (show tp_o_VIEW L K (0) 0 (Γ (27, 0, 0)) (f_23 x_14) from hI.at hx_14)
      refine tq_cv hS (hAf _ hS.1) (tq_rVN hN (As := [.int p2]) (rest := []) ⟨hx, hb, hml, hown, hta⟩ (tp_P.pre hK hN hL hU hI hP) (tp_recv hK hP hx_14.1 hf_26 rfl) lk_X11_309 (t_X10_bendTo l D cy H.size L K Γ f_23 x_14 p2 hx_14) rfl rfl ⟨Nat.le_of_ble_eq_true rfl, Nat.le_of_ble_eq_true rfl⟩ rfl hl.1 rfl (Nat.le_of_ble_eq_true rfl) dX11_bent_29 ⟨Nat.le_of_ble_eq_true rfl, Nat.le_of_ble_eq_true rfl⟩) (fun f_47 H locs hw_45 hP hI hc_48 hS => ?_)
      have hD : va_D A (va_pl L f_47) := tp_D hL hAL
      have hfr := tp_fr2 hfr hc_48 (by decide)
      refine lv_aload_n hx hb dX11_bent_32 rfl (lv_at hl 0 rfl) ?_
      refine tp_get (cy := cy) (ci := 11) (v := .ref x_14) (C := RX11) (T := TX11) (N := 16) hx hb hta inlX11 hown hK hP ho.1 ((tp_un hfr ho (by decide)).trans hf_4) rfl 9 (by decide) (hta _ wk_42) (fun _ h9 => h9) rfl dX11_bent_33 ?_
      obtain ⟨x_50, x_51, x_52, x_53, x_54, x_55, x_56, x_57, x_58, x_59, x_60, x_61, x_62, x_63, x_64, x_65, x_66, x_67, hf_49, hx_50, hx_51, hx_52, hx_53, hx_54, hx_55, hx_56, hx_57, hx_58, hx_60, hx_63⟩ := (show tp_o_VIEW L K (0) 0 (Γ (27, 0, 0)) (f_47 x_14) from hI.at hx_14)
      refine tl_sl (tq_rVN hN (As := []) (rest := []) ⟨hx, hb, hml, hown, hta⟩ (tp_P.pre hK hN hL hU hI hP) (tp_recv hK hP hx_14.1 hf_49 rfl) lk_X11_274 (t_X10_scored l D cy H.size L K Γ f_47 x_14 hx_14) rfl rfl ⟨Nat.le_of_ble_eq_true rfl, Nat.le_of_ble_eq_true rfl⟩ rfl hl.1 rfl (Nat.le_of_ble_eq_true rfl) dX11_bent_36 ⟨Nat.le_of_ble_eq_true rfl, Nat.le_of_ble_eq_true rfl⟩) (fun r_69 hw_68 => ?_)
      exact W.lret (v := r_69) hx hb hr (fun t ht hW => ⟨⟨_, f_47, rfl, trivial, by rw [ht]; exact hP, hI, hfr⟩, hS.F ht⟩) hS.2.2 dX11_bent_39
    · have c_25 := c_25
      refine lv_ldc2 (v := (-2000000000)) hx hb hown (hta _ wk_961) dX11_bent_20 ?_
      exact W.lret (v := (-2000000000)) hx hb hr (fun t ht hW => ⟨⟨_, f_23, rfl, trivial, by rw [ht]; exact hP, hI, hfr⟩, hS.F ht⟩) hS.2.2 dX11_bent_23
set_option maxHeartbeats 4000000 in
set_option maxRecDepth 100000 in
theorem t_X11_best (l : Launch) (D : va_G) (cy : Nat → ClassId) (sz : Nat) (L : List Nat) (K : Nat → tk_K) (Γ : tk_G) (f : Nat → va_E) (o : Nat) (p0 : Int32) (p1 : Int32) (p2 : Int32) (p3 : Int32) (ho : tp_r L K 0 (0) 0 o) : Met l yX11_best (tl_w yX11_best cX11_best 11 (some .long)) ({ frames := 5, cells := 0, slots := 0, locals := 113 }) (va_Pc [.ref o, .int p0, .int p1, .int p2, .int p3] (tp_P D cy L K Γ f sz)) (va_Ql (fun (r : Int64) (u : Nat → va_E) => True) (tp_B D cy L K Γ f [28, 29, 23, 24, 27, 30, 31, 32]) (tp_A L sz)) 0 0 (tp_A L sz) := by
  refine Met.ofW (cc := cX11_best) (maxL := 11) (ret := (some .long)) (by decide) rfl ?_
  intro p e s m args below meth c s₁ B hml hv
  obtain ⟨rfl, hsz, hP, hK, hL, hI, hN, hU⟩ := hv
  have hx := B.exec
  have hb := B.bytes
  have hr := B.returns
  have hta := tl_hta (atoms_spec (ws := tl_w yX11_best cX11_best 11 (some .long)) B.pre)
  have hown : s.vm.findClass RX11 = some m.cls := findClass_of_methodNamed B.named
  have hlocks := B.notSynchronized
  subst hsz
  have hI0 := hI
  generalize hAe : tp_A L s.heap.size = A
  have hA : ∀ q : Nat, s.heap.size ≤ q → A q := fun q h => by rw [← hAe]; exact Or.inr h
  have hAL : ∀ q ∈ L, A q := fun q h => by rw [← hAe]; exact Or.inl h
  have hAf : ∀ (H : Heap), s.heap.size ≤ H.size → ∀ q, tp_A L H.size q → A q := fun H h q hq => hq.elim (hAL q) (fun h2 => hA q (Nat.le_trans h h2))
  have hS : va_S A s.heap s.heap [] := va_S.rf
  have hD : va_D A (va_pl L f) := tp_D hL hAL
  have hfr : ∀ b, (K b).1 ∉ ([28, 29, 23, 24, 27, 30, 31, 32] : List Nat) → f b = f b := fun _ _ => rfl
  have hl := lv_entry ([.ref o, .int p0, .int p1, .int p2, .int p3]) (n := 11) (Nat.le_of_ble_eq_true rfl)
  rw [lg_entry_eq]
  generalize (lg_sl ([.ref o, .int p0, .int p1, .int p2, .int p3]) ++ List.replicate (11 - (lg_sl ([.ref o, .int p0, .int p1, .int p2, .int p3])).length) Slot.unset).toArray = ls at hl ⊢
  have hl : lv_has ls 11 [(0, .ref o), (1, .int p0), (2, .int p1), (3, .int p2), (4, .int p3)] := hl
  refine lv_iload_n hx hb dX11_best_0 rfl (lv_at hl 3 rfl) ?_
  refine lv_iconst (v := 0) hx hb dX11_best_1 (by decide) ?_
  refine lv_ldcw (v := 99999) hx hb hown (hta _ wk_1053) dX11_best_2 ?_
  refine tl_si (tq_rS (As := [.int p2, .int 0, .int 99999]) (rest := []) ⟨hx, hb, hml, hown, hta⟩ (tp_P.pre hK hN hL hU hI hP) lk_X11_105 (t_X11_isIn l D cy s.heap.size L K Γ f p2 0 99999 ) rfl rfl ⟨Nat.le_of_ble_eq_true rfl, Nat.le_of_ble_eq_true rfl⟩ rfl hl.1 rfl (Nat.le_of_ble_eq_true rfl) dX11_best_5 ⟨Nat.le_of_ble_eq_true rfl, Nat.le_of_ble_eq_true rfl⟩) (fun r_2 hw_1 => ?_)
  have hw_1 : tl_E r_2 ((0 : Int) ≤ p2.toInt ∧ p2.toInt ≤ (99999 : Int)) 1 0 := hw_1
  refine lv_if_eq (tgt := 31) hx hb dX11_best_8 (by decide) (fun c_3 => ?_) (fun c_3 => ?_)
  · have c_3 := hw_1.f c_3
    refine lv_ldc2 (v := (-1)) hx hb hown (hta _ wk_962) dX11_best_31 ?_
    exact W.lret (v := (-1)) hx hb hr (fun t ht hW => ⟨⟨_, f, rfl, trivial, by rw [ht]; exact hP, hI, hfr⟩, hS.F ht⟩) hS.2.2 dX11_best_34
  · have c_3 := hw_1.t c_3
    refine lv_iload hx hb dX11_best_11 (lv_at hl 4 rfl) ?_
    refine lv_iconst (v := 0) hx hb dX11_best_13 (by decide) ?_
    refine lv_iconst (v := 1) hx hb dX11_best_14 (by decide) ?_
    refine tl_si (tq_rS (As := [.int p3, .int 0, .int 1]) (rest := []) ⟨hx, hb, hml, hown, hta⟩ (tp_P.pre hK hN hL hU hI hP) lk_X11_105 (t_X11_isIn l D cy s.heap.size L K Γ f p3 0 1 ) rfl rfl ⟨Nat.le_of_ble_eq_true rfl, Nat.le_of_ble_eq_true rfl⟩ rfl hl.1 rfl (Nat.le_of_ble_eq_true rfl) dX11_best_15 ⟨Nat.le_of_ble_eq_true rfl, Nat.le_of_ble_eq_true rfl⟩) (fun r_5 hw_4 => ?_)
    have hw_4 : tl_E r_5 ((0 : Int) ≤ p3.toInt ∧ p3.toInt ≤ (1 : Int)) 1 0 := hw_4
    refine lv_if_eq (tgt := 31) hx hb dX11_best_18 (by decide) (fun c_6 => ?_) (fun c_6 => ?_)
    · have c_6 := hw_4.f c_6
      refine lv_ldc2 (v := (-1)) hx hb hown (hta _ wk_962) dX11_best_31 ?_
      exact W.lret (v := (-1)) hx hb hr (fun t ht hW => ⟨⟨_, f, rfl, trivial, by rw [ht]; exact hP, hI, hfr⟩, hS.F ht⟩) hS.2.2 dX11_best_34
    · have c_6 := hw_4.t c_6
      refine lv_aload_n hx hb dX11_best_21 rfl (lv_at hl 0 rfl) ?_
      refine lv_iload_n hx hb dX11_best_22 rfl (lv_at hl 1 rfl) ?_
      refine lv_iload_n hx hb dX11_best_23 rfl (lv_at hl 2 rfl) ?_
      refine lv_iconst (v := (-1)) hx hb dX11_best_24 (by decide) ?_
      obtain ⟨x_8, x_9, x_10, x_11, x_12, x_13, x_14, x_15, x_16, x_17, x_18, x_19, x_20, x_21, x_22, x_23, hf_7, hx_8, hx_9, hx_10, hx_11, hx_12, hx_13, hx_14, hx_15, hx_16, hx_17, hx_18, hx_19, hx_20, hx_21, hx_22, hx_23⟩ := (show tp_o_X L K (0) 0 (Γ (0, 0, 0)) (f o) from hI0.at ho)
      refine tq_ci hS (hAf _ hS.1) (tq_rV (As := [.int p0, .int p1, .int (-1)]) (rest := []) ⟨hx, hb, hml, hown, hta⟩ (tp_P.pre hK hN hL hU hI hP) (tp_recv hK hP ho.1 hf_7 rfl) lk_X11_246 (t_X11_look l D cy s.heap.size L K Γ f o p0 p1 (-1) ho) rfl rfl ⟨Nat.le_of_ble_eq_true rfl, Nat.le_of_ble_eq_true rfl⟩ rfl hl.1 rfl (Nat.le_of_ble_eq_true rfl) dX11_best_25 ⟨Nat.le_of_ble_eq_true rfl, Nat.le_of_ble_eq_true rfl⟩) (fun r_25 f_26 H locs hw_24 hP hI hc_27 hS => ?_)
      have hD : va_D A (va_pl L f_26) := tp_D hL hAL
      have hfr := tp_fr2 hfr hc_27 (by decide)
      have hw_24 : tl_J r_25 (tv_gx f f_26 o) := hw_24
      refine lv_if_ne (tgt := 35) hx hb dX11_best_28 (by decide) (fun c_28 => ?_) (fun c_28 => ?_)
      · have c_28 := hw_24.t c_28
        refine lv_iconst (v := (-1)) hx hb dX11_best_35 (by decide) ?_
        refine lv_istore (lv' := [(5, .int (-1)), (0, .ref o), (1, .int p0), (2, .int p1), (3, .int p2), (4, .int p3)]) hx hb dX11_best_36 hl (by decide) rfl (fun ls hl => ?_)
        refine lv_lconst (v := 0) hx hb dX11_best_38 (by decide) ?_
        refine lv_lstore (lv' := [(6, .long 0), (5, .int (-1)), (0, .ref o), (1, .int p0), (2, .int p1), (3, .int p2), (4, .int p3)]) hx hb dX11_best_39 hl (by decide) rfl (fun ls hl => ?_)
        refine lv_iconst (v := 0) hx hb dX11_best_41 (by decide) ?_
        refine lv_istore (lv' := [(8, .int 0), (6, .long 0), (5, .int (-1)), (0, .ref o), (1, .int p0), (2, .int p1), (3, .int p2), (4, .int p3)]) hx hb dX11_best_42 hl (by decide) rfl (fun ls hl => ?_)
        refine tl_ind (G := fun H locs ls => W p l e ((headSpec (tl_w yX11_best cX11_best 11 (some .long)) ({ frames := 5, cells := 0, slots := 0, locals := 113 })).room) s m #[.ref o, .int p0, .int p1, .int p2, .int p3] below meth c H locs 0 0 (MQ below (va_Ql (fun (r : Int64) (u : Nat → va_E) => True) (tp_B D cy L K Γ f [28, 29, 23, 24, 27, 30, 31, 32]) A) #[.ref o, .int p0, .int p1, .int p2, .int p3] s 0 0 A) (F0 m 44 ls [])) (α := (Nat → va_E) × Int32 × Int64 × Int32) (fun aq => (41 - aq.2.1.toInt).toNat) (fun aq H locs ls => (0 ≤ aq.2.1.toInt) ∧ (aq.2.1.toInt ≤ 41) ∧ va_P D vwCl (va_pl L aq.1) H ∧ tp_I cy L K Γ aq.1 ∧ (∀ b, (K b).1 ∉ ([28, 29, 23, 24, 27, 30, 31, 32] : List Nat) → aq.1 b = f b) ∧ va_S A s.heap H locs ∧ lv_has ls 11 [(8, .int aq.2.1), (6, .long aq.2.2.1), (5, .int aq.2.2.2), (0, .ref o), (1, .int p0), (2, .int p1), (3, .int p2), (4, .int p3)]) ?_ (f_26, (0 : Int32), (0 : Int64), ((-1) : Int32)) H locs ls ⟨(show 0 ≤ (0 : Int) from (by omega)), (show (0 : Int) ≤ 41 from (by omega)), hP, hI, hfr, hS, lv_sub hl [0, 1, 2, 3, 4, 5, 6, 7] rfl⟩
        rintro ⟨f_29, v8, v6, v5⟩ H locs ls ⟨h0, h1, hP, hI, hfr, hS, hl⟩ ih44
        have hP : va_P D vwCl (va_pl L f_29) H := hP
        have hI : tp_I cy L K Γ f_29 := hI
        have hfr : ∀ b, (K b).1 ∉ ([28, 29, 23, 24, 27, 30, 31, 32] : List Nat) → f_29 b = f b := hfr
        have hD : va_D A (va_pl L f_29) := tp_D hL hAL
        have h0 : 0 ≤ v8.toInt := h0
        have h1 : v8.toInt ≤ 41 := h1
        have hl : lv_has ls 11 [(8, .int v8), (6, .long v6), (5, .int v5), (0, .ref o), (1, .int p0), (2, .int p1), (3, .int p2), (4, .int p3)] := hl
        refine lv_iload hx hb dX11_best_44 (lv_at hl 0 rfl) ?_
        refine lv_bipush (v := 40) hx hb dX11_best_46 (by decide) ?_
        refine lv_icmp_gt (tgt := 120) hx hb dX11_best_48 (by decide) (fun c_30 => ?_) (fun c_30 => ?_)
        · have c_30 : (40 : Int) < v8.toInt := tl_lt c_30
          refine lv_iload hx hb dX11_best_120 (lv_at hl 2 rfl) ?_
          refine lv_iconst (v := (-1)) hx hb dX11_best_122 (by decide) ?_
          refine lv_icmp_ne (tgt := 130) hx hb dX11_best_123 (by decide) (fun c_31 => ?_) (fun c_31 => ?_)
          · have c_31 : ¬ v5.toInt = (-1 : Int) := tl_neq c_31
            refine lv_iload hx hb dX11_best_130 (lv_at hl 7 rfl) ?_
            refine lv_if_ne (tgt := 141) hx hb dX11_best_132 (by decide) (fun c_32 => ?_) (fun c_32 => ?_)
            · have c_32 : ¬ p3.toInt = (0 : Int) := tl_neq c_32
              refine lv_lload hx hb dX11_best_141 (lv_at hl 1 rfl) ?_
              exact W.lret (v := v6) hx hb hr (fun t ht hW => ⟨⟨_, f_29, rfl, trivial, by rw [ht]; exact hP, hI, hfr⟩, hS.F ht⟩) hS.2.2 dX11_best_143
            · have c_32 : p3.toInt = (0 : Int) := tl_eq c_32
              refine lv_iload hx hb dX11_best_135 (lv_at hl 2 rfl) ?_
              refine lv_i2l (v := v5.toInt64) hx hb dX11_best_137 (by first | rfl | decide) ?_
              refine lv_goto (tgt := 143) hx hb dX11_best_138 (by decide) ?_
              exact W.lret (v := v5.toInt64) hx hb hr (fun t ht hW => ⟨⟨_, f_29, rfl, trivial, by rw [ht]; exact hP, hI, hfr⟩, hS.F ht⟩) hS.2.2 dX11_best_143
          · have c_31 : v5.toInt = (-1 : Int) := tl_eq c_31
            refine lv_ldc2 (v := (-2)) hx hb hown (hta _ wk_1055) dX11_best_126 ?_
            exact W.lret (v := (-2)) hx hb hr (fun t ht hW => ⟨⟨_, f_29, rfl, trivial, by rw [ht]; exact hP, hI, hfr⟩, hS.F ht⟩) hS.2.2 dX11_best_129
        · have c_30 : v8.toInt ≤ (40 : Int) := tl_nlt c_30
          refine lv_aload_n hx hb dX11_best_51 rfl (lv_at hl 3 rfl) ?_
          refine tp_get (cy := cy) (ci := 11) (v := .ref x_17) (C := RX11) (T := TX11) (N := 16) hx hb hta inlX11 hown hK hP ho.1 ((tp_un hfr ho (by decide)).trans hf_7) rfl 9 (by decide) (hta _ wk_42) (fun _ h9 => h9) rfl dX11_best_52 ?_
          refine lv_iload hx hb dX11_best_55 (lv_at hl 0 rfl) ?_
          obtain ⟨x_34, x_35, x_36, x_37, x_38, x_39, x_40, x_41, x_42, x_43, x_44, x_45, x_46, x_47, x_48, x_49, x_50, x_51, hf_33, hx_34, hx_35, hx_36, hx_37, hx_38, hx_39, hx_40, hx_41, hx_42, hx_44, hx_47⟩ := (show tp_o_VIEW L K (0) 0 (Γ (27, 0, 0)) (f_29 x_17) from hI.at hx_17)
          refine tq_cv hS (hAf _ hS.1) (tq_rVN hN (As := [.int v8]) (rest := []) ⟨hx, hb, hml, hown, hta⟩ (tp_P.pre hK hN hL hU hI hP) (tp_recv hK hP hx_17.1 hf_33 rfl) lk_X11_309 (t_X10_bendTo l D cy H.size L K Γ f_29 x_17 v8 hx_17) rfl rfl ⟨Nat.le_of_ble_eq_true rfl, Nat.le_of_ble_eq_true rfl⟩ rfl hl.1 rfl (Nat.le_of_ble_eq_true rfl) dX11_best_57 ⟨Nat.le_of_ble_eq_true rfl, Nat.le_of_ble_eq_true rfl⟩) (fun f_54 H locs hw_52 hP hI hc_55 hS => ?_)
          have hD : va_D A (va_pl L f_54) := tp_D hL hAL
          have hfr := tp_fr2 hfr hc_55 (by decide)
          refine lv_aload_n hx hb dX11_best_60 rfl (lv_at hl 3 rfl) ?_
          refine tp_get (cy := cy) (ci := 11) (v := .ref x_17) (C := RX11) (T := TX11) (N := 16) hx hb hta inlX11 hown hK hP ho.1 ((tp_un hfr ho (by decide)).trans hf_7) rfl 9 (by decide) (hta _ wk_42) (fun _ h9 => h9) rfl dX11_best_61 ?_
          obtain ⟨x_57, x_58, x_59, x_60, x_61, x_62, x_63, x_64, x_65, x_66, x_67, x_68, x_69, x_70, x_71, x_72, x_73, x_74, hf_56, hx_57, hx_58, hx_59, hx_60, hx_61, hx_62, hx_63, hx_64, hx_65, hx_67, hx_70⟩ := (show tp_o_VIEW L K (0) 0 (Γ (27, 0, 0)) (f_54 x_17) from hI.at hx_17)
          refine tl_sl (tq_rVN hN (As := []) (rest := []) ⟨hx, hb, hml, hown, hta⟩ (tp_P.pre hK hN hL hU hI hP) (tp_recv hK hP hx_17.1 hf_56 rfl) lk_X11_313 (t_X10_squares l D cy H.size L K Γ f_54 x_17 hx_17) rfl rfl ⟨Nat.le_of_ble_eq_true rfl, Nat.le_of_ble_eq_true rfl⟩ rfl hl.1 rfl (Nat.le_of_ble_eq_true rfl) dX11_best_64 ⟨Nat.le_of_ble_eq_true rfl, Nat.le_of_ble_eq_true rfl⟩) (fun r_76 hw_75 => ?_)
          refine lv_ldc2 (v := 1000) hx hb hown (hta _ wk_1054) dX11_best_67 ?_
          refine tl_sl (tq_rS (As := [.long r_76, .long 1000]) (rest := []) ⟨hx, hb, hml, hown, hta⟩ (tp_P.pre hK hN hL hU hI hP) lk_X11_318 (t_J9_floorDiv_f86c9 l D cy H.size L K Γ f_54 r_76 1000 (by first | omega | (simp only [Int32.toInt_toInt64]; omega) | decide | assumption)) rfl rfl ⟨Nat.le_of_ble_eq_true rfl, Nat.le_of_ble_eq_true rfl⟩ rfl hl.1 rfl (Nat.le_of_ble_eq_true rfl) dX11_best_70 ⟨Nat.le_of_ble_eq_true rfl, Nat.le_of_ble_eq_true rfl⟩) (fun r_78 hw_77 => ?_)
          refine lv_iload_n hx hb dX11_best_73 rfl (lv_at hl 6 rfl) ?_
          refine lv_i2l (v := p2.toInt64) hx hb dX11_best_74 (by first | rfl | decide) ?_
          refine lv_iload hx hb dX11_best_75 (lv_at hl 0 rfl) ?_
          refine lv_i2l (v := v8.toInt64) hx hb dX11_best_77 (by first | rfl | decide) ?_
          refine lv_lmul hx hb dX11_best_78 ?_
          refine lv_topl (fun z_79 ez_79 => ?_)
          refine lv_ladd hx hb dX11_best_79 ?_
          refine lv_topl (fun z_80 ez_80 => ?_)
          refine lv_lstore (lv' := [(9, .long z_80), (8, .int v8), (6, .long v6), (5, .int v5), (0, .ref o), (1, .int p0), (2, .int p1), (3, .int p2), (4, .int p3)]) hx hb dX11_best_80 hl (by decide) rfl (fun ls hl => ?_)
          refine lv_aload_n hx hb dX11_best_82 rfl (lv_at hl 4 rfl) ?_
          refine tp_get (cy := cy) (ci := 11) (v := .ref x_17) (C := RX11) (T := TX11) (N := 16) hx hb hta inlX11 hown hK hP ho.1 ((tp_un hfr ho (by decide)).trans hf_7) rfl 9 (by decide) (hta _ wk_42) (fun _ h9 => h9) rfl dX11_best_83 ?_
          refine tl_si (tq_rVN hN (As := []) (rest := []) ⟨hx, hb, hml, hown, hta⟩ (tp_P.pre hK hN hL hU hI hP) (tp_recv hK hP hx_17.1 hf_56 rfl) lk_X11_252 (t_X10_isLaid l D cy H.size L K Γ f_54 x_17 hx_17) rfl rfl ⟨Nat.le_of_ble_eq_true rfl, Nat.le_of_ble_eq_true rfl⟩ rfl hl.1 rfl (Nat.le_of_ble_eq_true rfl) dX11_best_86 ⟨Nat.le_of_ble_eq_true rfl, Nat.le_of_ble_eq_true rfl⟩) (fun r_82 hw_81 => ?_)
          have hw_81 : tl_J r_82 (True) := hw_81
          refine lv_if_eq (tgt := 114) hx hb dX11_best_89 (by decide) (fun c_83 => ?_) (fun c_83 => ?_)
          · have c_83 := c_83
            obtain ⟨z_84, ez_84⟩ : ∃ y : Int32, y = v8 + 1 := ⟨_, rfl⟩
            refine lv_iinc (v := z_84) (lv' := [(8, .int z_84), (9, .long z_80), (6, .long v6), (5, .int v5), (0, .ref o), (1, .int p0), (2, .int p1), (3, .int p2), (4, .int p3)]) hx hb dX11_best_114 hl (k := 1) rfl (by rw [ez_84]; rfl) (by decide) rfl (fun ls hl => ?_)
            try have iz_84 : z_84.toInt = v8.toInt + 1 := by rw [ez_84]; exact tl_addL v8 1 (by decide) (by omega) (by omega)
            refine lv_goto (tgt := 44) hx hb dX11_best_117 (by decide) ?_
            exact ih44 (f_54, z_84, v6, v5) H locs ls (by show (41 - z_84.toInt).toNat < (41 - v8.toInt).toNat; omega) ⟨(show 0 ≤ z_84.toInt from (by omega)), (show z_84.toInt ≤ 41 from (by omega)), hP, hI, hfr, hS, lv_sub hl [0, 2, 3, 4, 5, 6, 7, 8] rfl⟩
          · have c_83 := hw_81.t c_83
            refine lv_iload hx hb dX11_best_92 (lv_at hl 3 rfl) ?_
            refine lv_iconst (v := (-1)) hx hb dX11_best_94 (by decide) ?_
            refine lv_icmp_eq (tgt := 106) hx hb dX11_best_95 (by decide) (fun c_85 => ?_) (fun c_85 => ?_)
            · have c_85 : v5.toInt = (-1 : Int) := tl_eq c_85
              refine lv_iload hx hb dX11_best_106 (lv_at hl 1 rfl) ?_
              refine lv_istore (lv' := [(5, .int v8), (9, .long z_80), (8, .int v8), (6, .long v6), (0, .ref o), (1, .int p0), (2, .int p1), (3, .int p2), (4, .int p3)]) hx hb dX11_best_108 hl (by decide) rfl (fun ls hl => ?_)
              refine lv_lload hx hb dX11_best_110 (lv_at hl 1 rfl) ?_
              refine lv_lstore (lv' := [(6, .long z_80), (5, .int v8), (9, .long z_80), (8, .int v8), (0, .ref o), (1, .int p0), (2, .int p1), (3, .int p2), (4, .int p3)]) hx hb dX11_best_112 hl (by decide) rfl (fun ls hl => ?_)
              obtain ⟨z_86, ez_86⟩ : ∃ y : Int32, y = v8 + 1 := ⟨_, rfl⟩
              refine lv_iinc (v := z_86) (lv' := [(8, .int z_86), (6, .long z_80), (5, .int v8), (9, .long z_80), (0, .ref o), (1, .int p0), (2, .int p1), (3, .int p2), (4, .int p3)]) hx hb dX11_best_114 hl (k := 3) rfl (by rw [ez_86]; rfl) (by decide) rfl (fun ls hl => ?_)
              try have iz_86 : z_86.toInt = v8.toInt + 1 := by rw [ez_86]; exact tl_addL v8 1 (by decide) (by omega) (by omega)
              refine lv_goto (tgt := 44) hx hb dX11_best_117 (by decide) ?_
              exact ih44 (f_54, z_86, z_80, v8) H locs ls (by show (41 - z_86.toInt).toNat < (41 - v8.toInt).toNat; omega) ⟨(show 0 ≤ z_86.toInt from (by omega)), (show z_86.toInt ≤ 41 from (by omega)), hP, hI, hfr, hS, lv_sub hl [0, 1, 2, 4, 5, 6, 7, 8] rfl⟩
            · have c_85 : ¬ v5.toInt = (-1 : Int) := tl_neq c_85
              refine lv_lload hx hb dX11_best_98 (lv_at hl 0 rfl) ?_
              refine lv_lload hx hb dX11_best_100 (lv_at hl 2 rfl) ?_
              refine W.lcmp hx hb dX11_best_102 ?_
              refine lv_if_ge (tgt := 114) hx hb dX11_best_103 (by decide) (fun c_87 => ?_) (fun c_87 => ?_)
              · have c_87 : z_80.toInt ≥ v6.toInt := tl_cmp_ge c_87
                obtain ⟨z_88, ez_88⟩ : ∃ y : Int32, y = v8 + 1 := ⟨_, rfl⟩
                refine lv_iinc (v := z_88) (lv' := [(8, .int z_88), (9, .long z_80), (6, .long v6), (5, .int v5), (0, .ref o), (1, .int p0), (2, .int p1), (3, .int p2), (4, .int p3)]) hx hb dX11_best_114 hl (k := 1) rfl (by rw [ez_88]; rfl) (by decide) rfl (fun ls hl => ?_)
                try have iz_88 : z_88.toInt = v8.toInt + 1 := by rw [ez_88]; exact tl_addL v8 1 (by decide) (by omega) (by omega)
                refine lv_goto (tgt := 44) hx hb dX11_best_117 (by decide) ?_
                exact ih44 (f_54, z_88, v6, v5) H locs ls (by show (41 - z_88.toInt).toNat < (41 - v8.toInt).toNat; omega) ⟨(show 0 ≤ z_88.toInt from (by omega)), (show z_88.toInt ≤ 41 from (by omega)), hP, hI, hfr, hS, lv_sub hl [0, 2, 3, 4, 5, 6, 7, 8] rfl⟩
              · have c_87 : z_80.toInt < v6.toInt := tl_cmp_nge c_87
                refine lv_iload hx hb dX11_best_106 (lv_at hl 1 rfl) ?_
                refine lv_istore (lv' := [(5, .int v8), (9, .long z_80), (8, .int v8), (6, .long v6), (0, .ref o), (1, .int p0), (2, .int p1), (3, .int p2), (4, .int p3)]) hx hb dX11_best_108 hl (by decide) rfl (fun ls hl => ?_)
                refine lv_lload hx hb dX11_best_110 (lv_at hl 1 rfl) ?_
                refine lv_lstore (lv' := [(6, .long z_80), (5, .int v8), (9, .long z_80), (8, .int v8), (0, .ref o), (1, .int p0), (2, .int p1), (3, .int p2), (4, .int p3)]) hx hb dX11_best_112 hl (by decide) rfl (fun ls hl => ?_)
                obtain ⟨z_89, ez_89⟩ : ∃ y : Int32, y = v8 + 1 := ⟨_, rfl⟩
                refine lv_iinc (v := z_89) (lv' := [(8, .int z_89), (6, .long z_80), (5, .int v8), (9, .long z_80), (0, .ref o), (1, .int p0), (2, .int p1), (3, .int p2), (4, .int p3)]) hx hb dX11_best_114 hl (k := 3) rfl (by rw [ez_89]; rfl) (by decide) rfl (fun ls hl => ?_)
                try have iz_89 : z_89.toInt = v8.toInt + 1 := by rw [ez_89]; exact tl_addL v8 1 (by decide) (by omega) (by omega)
                refine lv_goto (tgt := 44) hx hb dX11_best_117 (by decide) ?_
                exact ih44 (f_54, z_89, z_80, v8) H locs ls (by show (41 - z_89.toInt).toNat < (41 - v8.toInt).toNat; omega) ⟨(show 0 ≤ z_89.toInt from (by omega)), (show z_89.toInt ≤ 41 from (by omega)), hP, hI, hfr, hS, lv_sub hl [0, 1, 2, 4, 5, 6, 7, 8] rfl⟩
      · have c_28 := c_28
        refine lv_ldc2 (v := (-1)) hx hb hown (hta _ wk_962) dX11_best_31 ?_
        exact W.lret (v := (-1)) hx hb hr (fun t ht hW => ⟨⟨_, f_26, rfl, trivial, by rw [ht]; exact hP, hI, hfr⟩, hS.F ht⟩) hS.2.2 dX11_best_34
set_option maxHeartbeats 4000000 in
set_option maxRecDepth 100000 in
theorem t_X11_drawn (l : Launch) (D : va_G) (cy : Nat → ClassId) (sz : Nat) (L : List Nat) (K : Nat → tk_K) (Γ : tk_G) (f : Nat → va_E) (o : Nat) (p0 : Int32) (p1 : Int32) (p2 : Int32) (p3 : Int32) (p4 : Int32) (ho : tp_r L K 0 (0) 0 o) : Met l yX11_drawn (tl_w yX11_drawn cX11_drawn 12 (some .int)) ({ frames := 5, cells := 0, slots := 0, locals := 122 }) (va_Pc [.ref o, .int p0, .int p1, .int p2, .int p3, .int p4] (tp_P D cy L K Γ f sz)) (va_Qi (fun (r : Int32) (u : Nat → va_E) => True) (tp_B D cy L K Γ f [28, 29, 23, 24, 27, 30, 31, 32, 25, 26]) (tp_A L sz)) 0 0 (tp_A L sz) := by
  refine Met.ofW (cc := cX11_drawn) (maxL := 12) (ret := (some .int)) (by decide) rfl ?_
  intro p e s m args below meth c s₁ B hml hv
  obtain ⟨rfl, hsz, hP, hK, hL, hI, hN, hU⟩ := hv
  have hx := B.exec
  have hb := B.bytes
  have hr := B.returns
  have hta := tl_hta (atoms_spec (ws := tl_w yX11_drawn cX11_drawn 12 (some .int)) B.pre)
  have hown : s.vm.findClass RX11 = some m.cls := findClass_of_methodNamed B.named
  have hlocks := B.notSynchronized
  subst hsz
  have hI0 := hI
  generalize hAe : tp_A L s.heap.size = A
  have hA : ∀ q : Nat, s.heap.size ≤ q → A q := fun q h => by rw [← hAe]; exact Or.inr h
  have hAL : ∀ q ∈ L, A q := fun q h => by rw [← hAe]; exact Or.inl h
  have hAf : ∀ (H : Heap), s.heap.size ≤ H.size → ∀ q, tp_A L H.size q → A q := fun H h q hq => hq.elim (hAL q) (fun h2 => hA q (Nat.le_trans h h2))
  have hS : va_S A s.heap s.heap [] := va_S.rf
  have hD : va_D A (va_pl L f) := tp_D hL hAL
  have hfr : ∀ b, (K b).1 ∉ ([28, 29, 23, 24, 27, 30, 31, 32, 25, 26] : List Nat) → f b = f b := fun _ _ => rfl
  have hl := lv_entry ([.ref o, .int p0, .int p1, .int p2, .int p3, .int p4]) (n := 12) (Nat.le_of_ble_eq_true rfl)
  rw [lg_entry_eq]
  generalize (lg_sl ([.ref o, .int p0, .int p1, .int p2, .int p3, .int p4]) ++ List.replicate (12 - (lg_sl ([.ref o, .int p0, .int p1, .int p2, .int p3, .int p4])).length) Slot.unset).toArray = ls at hl ⊢
  have hl : lv_has ls 12 [(0, .ref o), (1, .int p0), (2, .int p1), (3, .int p2), (4, .int p3), (5, .int p4)] := hl
  refine lv_aload_n hx hb dX11_drawn_0 rfl (lv_at hl 0 rfl) ?_
  obtain ⟨x_2, x_3, x_4, x_5, x_6, x_7, x_8, x_9, x_10, x_11, x_12, x_13, x_14, x_15, x_16, x_17, hf_1, hx_2, hx_3, hx_4, hx_5, hx_6, hx_7, hx_8, hx_9, hx_10, hx_11, hx_12, hx_13, hx_14, hx_15, hx_16, hx_17⟩ := (show tp_o_X L K (0) 0 (Γ (0, 0, 0)) (f o) from hI0.at ho)
  refine tp_get (cy := cy) (ci := 11) (v := .ref x_4) (C := RX11) (T := TX11) (N := 16) hx hb hta inlX11 hown hK hP ho.1 hf_1 rfl 2 (by decide) (hta _ wk_20) (fun _ h9 => h9) rfl dX11_drawn_1 ?_
  refine lv_iload_n hx hb dX11_drawn_4 rfl (lv_at hl 1 rfl) ?_
  obtain ⟨x_19, x_20, hf_18, hx_19, hx_20⟩ := (show tp_o_TEXTS L K (6) 0 (Γ (13, 6, 0)) (f x_4) from hI0.at hx_4)
  refine tl_sq (tq_rVN hN (As := [.int p0]) (rest := []) ⟨hx, hb, hml, hown, hta⟩ (tp_P.pre hK hN hL hU hI hP) (tp_recv hK hP hx_4.1 hf_18 rfl) lk_X11_201 (t_X8_at l D cy s.heap.size L K Γ f 6 x_4 p0 hx_4 (by first | omega | (simp only [Int32.toInt_toInt64]; omega) | decide | assumption)) rfl rfl ⟨Nat.le_of_ble_eq_true rfl, Nat.le_of_ble_eq_true rfl⟩ rfl hl.1 rfl (Nat.le_of_ble_eq_true rfl) dX11_drawn_5 ⟨Nat.le_of_ble_eq_true rfl, Nat.le_of_ble_eq_true rfl⟩) (fun r_22 hw_21 => ?_)
  rcases r_22 with _ | b_23
  · refine W.eq (g2 := F0 m 8 ls ([.null])) (by rfl) ?_
    refine lv_astoreN (lv' := [(6, .null), (0, .ref o), (1, .int p0), (2, .int p1), (3, .int p2), (4, .int p3), (5, .int p4)]) hx hb dX11_drawn_8 hl (by decide) rfl (fun ls hl => ?_)
    refine lv_aloadN hx hb dX11_drawn_10 (lv_at hl 0 rfl) ?_
    refine lv_ifnullN (tgt := 41) hx hb dX11_drawn_12 (by decide) ?_
    refine lv_iconst (v := (-1)) hx hb dX11_drawn_41 (by decide) ?_
    exact W.iret (v := (-1)) hx hb hr (fun t ht hW => ⟨⟨_, f, rfl, trivial, by rw [ht]; exact hP, hI, hfr⟩, hS.F ht⟩) hS.2.2 dX11_drawn_42
  · have hb_23 := hw_21 _ rfl
    have hb_23 : tp_r L K 18 (0) 0 b_23 := hb_23
    refine W.eq (g2 := F0 m 8 ls ([.ref b_23])) (by rfl) ?_
    refine lv_astore (lv' := [(6, .ref b_23), (0, .ref o), (1, .int p0), (2, .int p1), (3, .int p2), (4, .int p3), (5, .int p4)]) hx hb dX11_drawn_8 hl (by decide) rfl (fun ls hl => ?_)
    refine lv_aload hx hb dX11_drawn_10 (lv_at hl 0 rfl) ?_
    refine lv_ifnull hx hb dX11_drawn_12 ?_
    refine lv_iload hx hb dX11_drawn_15 (lv_at hl 5 rfl) ?_
    refine lv_if_lt (tgt := 41) hx hb dX11_drawn_17 (by decide) (fun c_24 => ?_) (fun c_24 => ?_)
    · have c_24 : p3.toInt < (0 : Int) := tl_lt c_24
      refine lv_iconst (v := (-1)) hx hb dX11_drawn_41 (by decide) ?_
      exact W.iret (v := (-1)) hx hb hr (fun t ht hW => ⟨⟨_, f, rfl, trivial, by rw [ht]; exact hP, hI, hfr⟩, hS.F ht⟩) hS.2.2 dX11_drawn_42
    · have c_24 : (0 : Int) ≤ p3.toInt := tl_nlt c_24
      refine lv_iload hx hb dX11_drawn_20 (lv_at hl 6 rfl) ?_
      refine lv_iconst (v := 1) hx hb dX11_drawn_22 (by decide) ?_
      refine lv_bipush (v := 50) hx hb dX11_drawn_23 (by decide) ?_
      refine tl_si (tq_rS (As := [.int p4, .int 1, .int 50]) (rest := []) ⟨hx, hb, hml, hown, hta⟩ (tp_P.pre hK hN hL hU hI hP) lk_X11_105 (t_X11_isIn l D cy s.heap.size L K Γ f p4 1 50 ) rfl rfl ⟨Nat.le_of_ble_eq_true rfl, Nat.le_of_ble_eq_true rfl⟩ rfl hl.1 rfl (Nat.le_of_ble_eq_true rfl) dX11_drawn_25 ⟨Nat.le_of_ble_eq_true rfl, Nat.le_of_ble_eq_true rfl⟩) (fun r_26 hw_25 => ?_)
      have hw_25 : tl_E r_26 ((1 : Int) ≤ p4.toInt ∧ p4.toInt ≤ (50 : Int)) 1 0 := hw_25
      refine lv_if_eq (tgt := 41) hx hb dX11_drawn_28 (by decide) (fun c_27 => ?_) (fun c_27 => ?_)
      · have c_27 := hw_25.f c_27
        refine lv_iconst (v := (-1)) hx hb dX11_drawn_41 (by decide) ?_
        exact W.iret (v := (-1)) hx hb hr (fun t ht hW => ⟨⟨_, f, rfl, trivial, by rw [ht]; exact hP, hI, hfr⟩, hS.F ht⟩) hS.2.2 dX11_drawn_42
      · have c_27 := hw_25.t c_27
        refine lv_aload_n hx hb dX11_drawn_31 rfl (lv_at hl 1 rfl) ?_
        refine lv_iload_n hx hb dX11_drawn_32 rfl (lv_at hl 3 rfl) ?_
        refine lv_iload_n hx hb dX11_drawn_33 rfl (lv_at hl 4 rfl) ?_
        refine lv_iconst (v := (-1)) hx hb dX11_drawn_34 (by decide) ?_
        refine tq_ci hS (hAf _ hS.1) (tq_rV (As := [.int p1, .int p2, .int (-1)]) (rest := []) ⟨hx, hb, hml, hown, hta⟩ (tp_P.pre hK hN hL hU hI hP) (tp_recv hK hP ho.1 hf_1 rfl) lk_X11_246 (t_X11_look l D cy s.heap.size L K Γ f o p1 p2 (-1) ho) rfl rfl ⟨Nat.le_of_ble_eq_true rfl, Nat.le_of_ble_eq_true rfl⟩ rfl hl.1 rfl (Nat.le_of_ble_eq_true rfl) dX11_drawn_35 ⟨Nat.le_of_ble_eq_true rfl, Nat.le_of_ble_eq_true rfl⟩) (fun r_29 f_30 H locs hw_28 hP hI hc_31 hS => ?_)
        have hD : va_D A (va_pl L f_30) := tp_D hL hAL
        have hfr := tp_fr2 hfr hc_31 (by decide)
        have hw_28 : tl_J r_29 (tv_gx f f_30 o) := hw_28
        refine lv_if_ne (tgt := 43) hx hb dX11_drawn_38 (by decide) (fun c_32 => ?_) (fun c_32 => ?_)
        · have c_32 := hw_28.t c_32
          refine lv_aload_n hx hb dX11_drawn_43 rfl (lv_at hl 1 rfl) ?_
          refine tp_get (cy := cy) (ci := 11) (v := .ref x_11) (C := RX11) (T := TX11) (N := 16) hx hb hta inlX11 hown hK hP ho.1 ((tp_un hfr ho (by decide)).trans hf_1) rfl 9 (by decide) (hta _ wk_42) (fun _ h9 => h9) rfl dX11_drawn_44 ?_
          obtain ⟨x_34, x_35, x_36, x_37, x_38, x_39, x_40, x_41, x_42, x_43, x_44, x_45, x_46, x_47, x_48, x_49, x_50, x_51, hf_33, hx_34, hx_35, hx_36, hx_37, hx_38, hx_39, hx_40, hx_41, hx_42, hx_44, hx_47⟩ := (show tp_o_VIEW L K (0) 0 (Γ (27, 0, 0)) (f_30 x_11) from hI.at hx_11)
          refine tl_si (tq_rVN hN (As := []) (rest := []) ⟨hx, hb, hml, hown, hta⟩ (tp_P.pre hK hN hL hU hI hP) (tp_recv hK hP hx_11.1 hf_33 rfl) lk_X11_289 (t_X10_hasDeep l D cy H.size L K Γ f_30 x_11 hx_11) rfl rfl ⟨Nat.le_of_ble_eq_true rfl, Nat.le_of_ble_eq_true rfl⟩ rfl hl.1 rfl (Nat.le_of_ble_eq_true rfl) dX11_drawn_47 ⟨Nat.le_of_ble_eq_true rfl, Nat.le_of_ble_eq_true rfl⟩) (fun r_53 hw_52 => ?_)
          have hw_52 : tl_J r_53 (tv_gc (f_30 x_11)) := hw_52
          refine lv_if_ne (tgt := 56) hx hb dX11_drawn_50 (by decide) (fun c_54 => ?_) (fun c_54 => ?_)
          · have c_54 := hw_52.t c_54
            refine lv_aload_n hx hb dX11_drawn_56 rfl (lv_at hl 1 rfl) ?_
            refine tp_get (cy := cy) (ci := 11) (v := .ref x_11) (C := RX11) (T := TX11) (N := 16) hx hb hta inlX11 hown hK hP ho.1 ((tp_un hfr ho (by decide)).trans hf_1) rfl 9 (by decide) (hta _ wk_42) (fun _ h9 => h9) rfl dX11_drawn_57 ?_
            refine tl_sl (tq_rVN hN (As := []) (rest := []) ⟨hx, hb, hml, hown, hta⟩ (tp_P.pre hK hN hL hU hI hP) (tp_recv hK hP hx_11.1 hf_33 rfl) lk_X11_274 (t_X10_scored l D cy H.size L K Γ f_30 x_11 hx_11) rfl rfl ⟨Nat.le_of_ble_eq_true rfl, Nat.le_of_ble_eq_true rfl⟩ rfl hl.1 rfl (Nat.le_of_ble_eq_true rfl) dX11_drawn_60 ⟨Nat.le_of_ble_eq_true rfl, Nat.le_of_ble_eq_true rfl⟩) (fun r_56 hw_55 => ?_)
            refine lv_lstore (lv' := [(7, .long r_56), (6, .ref b_23), (0, .ref o), (1, .int p0), (2, .int p1), (3, .int p2), (4, .int p3), (5, .int p4)]) hx hb dX11_drawn_63 hl (by decide) rfl (fun ls hl => ?_)
            refine lv_iconst (v := 0) hx hb dX11_drawn_65 (by decide) ?_
            refine lv_istore (lv' := [(9, .int 0), (7, .long r_56), (6, .ref b_23), (0, .ref o), (1, .int p0), (2, .int p1), (3, .int p2), (4, .int p3), (5, .int p4)]) hx hb dX11_drawn_66 hl (by decide) rfl (fun ls hl => ?_)
            refine lv_aload_n hx hb dX11_drawn_68 rfl (lv_at hl 3 rfl) ?_
            refine tp_get (cy := cy) (ci := 11) (v := .ref x_10) (C := RX11) (T := TX11) (N := 16) hx hb hta inlX11 hown hK hP ho.1 ((tp_un hfr ho (by decide)).trans hf_1) rfl 8 (by decide) (hta _ wk_38) (fun _ h9 => h9) rfl dX11_drawn_69 ?_
            refine lv_aload hx hb dX11_drawn_72 (lv_at hl 2 rfl) ?_
            refine lv_iload hx hb dX11_drawn_74 (lv_at hl 7 rfl) ?_
            obtain ⟨x_58, x_59, x_60, x_61, x_62, hf_57, hx_58⟩ := (show tp_o_MAKER L K (0) 0 (Γ (25, 0, 0)) (f_30 x_10) from hI.at hx_10)
            refine tq_cv hS (hAf _ hS.1) (tq_rVN hN (As := [.ref b_23, .int p3]) (rest := []) ⟨hx, hb, hml, hown, hta⟩ (tp_P.pre hK hN hL hU hI hP) (tp_recv hK hP hx_10.1 hf_57 rfl) lk_X11_209 (t_X1_begin l D cy H.size L K Γ f_30 x_10 b_23 p3 hx_10 hb_23) rfl rfl ⟨Nat.le_of_ble_eq_true rfl, Nat.le_of_ble_eq_true rfl⟩ rfl hl.1 rfl (Nat.le_of_ble_eq_true rfl) dX11_drawn_76 ⟨Nat.le_of_ble_eq_true rfl, Nat.le_of_ble_eq_true rfl⟩) (fun f_65 H locs hw_63 hP hI hc_66 hS => ?_)
            have hD : va_D A (va_pl L f_65) := tp_D hL hAL
            have hfr := tp_fr2 hfr hc_66 (by decide)
            have hf_67 := (tp_un hc_66 hx_11 (by decide)).trans hf_33
            refine lv_aload_n hx hb dX11_drawn_79 rfl (lv_at hl 3 rfl) ?_
            refine tp_get (cy := cy) (ci := 11) (v := .ref x_10) (C := RX11) (T := TX11) (N := 16) hx hb hta inlX11 hown hK hP ho.1 ((tp_un hfr ho (by decide)).trans hf_1) rfl 8 (by decide) (hta _ wk_38) (fun _ h9 => h9) rfl dX11_drawn_80 ?_
            obtain ⟨x_69, x_70, x_71, x_72, x_73, hf_68, hx_69⟩ := (show tp_o_MAKER L K (0) 0 (Γ (25, 0, 0)) (f_65 x_10) from hI.at hx_10)
            refine tq_cv hS (hAf _ hS.1) (tq_rVN hN (As := []) (rest := []) ⟨hx, hb, hml, hown, hta⟩ (tp_P.pre hK hN hL hU hI hP) (tp_recv hK hP hx_10.1 hf_68 rfl) lk_X11_306 (t_X1_eatNothing l D cy H.size L K Γ f_65 x_10 hx_10) rfl rfl ⟨Nat.le_of_ble_eq_true rfl, Nat.le_of_ble_eq_true rfl⟩ rfl hl.1 rfl (Nat.le_of_ble_eq_true rfl) dX11_drawn_83 ⟨Nat.le_of_ble_eq_true rfl, Nat.le_of_ble_eq_true rfl⟩) (fun f_76 H locs hw_74 hP hI hc_77 hS => ?_)
            have hD : va_D A (va_pl L f_76) := tp_D hL hAL
            have hfr := tp_fr2 hfr hc_77 (by decide)
            have hf_78 := (tp_un hc_77 hx_11 (by decide)).trans hf_67
            have hf_79 := (tp_un hc_77 hx_10 (by decide)).trans hf_68
            refine lv_iconst (v := 0) hx hb dX11_drawn_86 (by decide) ?_
            refine lv_istore (lv' := [(10, .int 0), (9, .int 0), (7, .long r_56), (6, .ref b_23), (0, .ref o), (1, .int p0), (2, .int p1), (3, .int p2), (4, .int p3), (5, .int p4)]) hx hb dX11_drawn_87 hl (by decide) rfl (fun ls hl => ?_)
            refine tl_ind (G := fun H locs ls => W p l e ((headSpec (tl_w yX11_drawn cX11_drawn 12 (some .int)) ({ frames := 5, cells := 0, slots := 0, locals := 122 })).room) s m #[.ref o, .int p0, .int p1, .int p2, .int p3, .int p4] below meth c H locs 0 0 (MQ below (va_Qi (fun (r : Int32) (u : Nat → va_E) => True) (tp_B D cy L K Γ f [28, 29, 23, 24, 27, 30, 31, 32, 25, 26]) A) #[.ref o, .int p0, .int p1, .int p2, .int p3, .int p4] s 0 0 A) (F0 m 89 ls [])) (α := (Nat → va_E) × Int32 × Int32) (fun aq => (50 - aq.2.1.toInt).toNat) (fun aq H locs ls => (0 ≤ aq.2.1.toInt) ∧ (aq.2.1.toInt ≤ 50) ∧ va_P D vwCl (va_pl L aq.1) H ∧ tp_I cy L K Γ aq.1 ∧ (∀ b, (K b).1 ∉ ([28, 29, 23, 24, 27, 30, 31, 32, 25, 26] : List Nat) → aq.1 b = f b) ∧ va_S A s.heap H locs ∧ lv_has ls 12 [(10, .int aq.2.1), (9, .int aq.2.2), (7, .long r_56), (6, .ref b_23), (0, .ref o), (1, .int p0), (2, .int p1), (3, .int p2), (4, .int p3), (5, .int p4)]) ?_ (f_76, (0 : Int32), (0 : Int32)) H locs ls ⟨(show 0 ≤ (0 : Int) from (by omega)), (show (0 : Int) ≤ 50 from (by omega)), hP, hI, hfr, hS, lv_sub hl [0, 1, 2, 3, 4, 5, 6, 7, 8, 9] rfl⟩
            rintro ⟨f_80, v10, v9⟩ H locs ls ⟨h0, h1, hP, hI, hfr, hS, hl⟩ ih89
            have hP : va_P D vwCl (va_pl L f_80) H := hP
            have hI : tp_I cy L K Γ f_80 := hI
            have hfr : ∀ b, (K b).1 ∉ ([28, 29, 23, 24, 27, 30, 31, 32, 25, 26] : List Nat) → f_80 b = f b := hfr
            have hD : va_D A (va_pl L f_80) := tp_D hL hAL
            have h0 : 0 ≤ v10.toInt := h0
            have h1 : v10.toInt ≤ 50 := h1
            have hl : lv_has ls 12 [(10, .int v10), (9, .int v9), (7, .long r_56), (6, .ref b_23), (0, .ref o), (1, .int p0), (2, .int p1), (3, .int p2), (4, .int p3), (5, .int p4)] := hl
            refine lv_iload hx hb dX11_drawn_89 (lv_at hl 0 rfl) ?_
            refine lv_iload hx hb dX11_drawn_91 (lv_at hl 9 rfl) ?_
            refine lv_icmp_ge (tgt := 191) hx hb dX11_drawn_93 (by decide) (fun c_81 => ?_) (fun c_81 => ?_)
            · have c_81 : p4.toInt ≤ v10.toInt := tl_le c_81
              refine lv_iload hx hb dX11_drawn_191 (lv_at hl 1 rfl) ?_
              exact W.iret (v := v9) hx hb hr (fun t ht hW => ⟨⟨_, f_80, rfl, trivial, by rw [ht]; exact hP, hI, hfr⟩, hS.F ht⟩) hS.2.2 dX11_drawn_193
            · have c_81 : v10.toInt < p4.toInt := tl_nle c_81
              refine lv_iconst (v := 0) hx hb dX11_drawn_96 (by decide) ?_
              refine lv_istore (lv' := [(11, .int 0), (10, .int v10), (9, .int v9), (7, .long r_56), (6, .ref b_23), (0, .ref o), (1, .int p0), (2, .int p1), (3, .int p2), (4, .int p3), (5, .int p4)]) hx hb dX11_drawn_97 hl (by decide) rfl (fun ls hl => ?_)
              refine tl_ind (G := fun H locs ls => W p l e ((headSpec (tl_w yX11_drawn cX11_drawn 12 (some .int)) ({ frames := 5, cells := 0, slots := 0, locals := 122 })).room) s m #[.ref o, .int p0, .int p1, .int p2, .int p3, .int p4] below meth c H locs 0 0 (MQ below (va_Qi (fun (r : Int32) (u : Nat → va_E) => True) (tp_B D cy L K Γ f [28, 29, 23, 24, 27, 30, 31, 32, 25, 26]) A) #[.ref o, .int p0, .int p1, .int p2, .int p3, .int p4] s 0 0 A) (F0 m 99 ls [])) (α := (Nat → va_E) × Int32) (fun aq => (300 - aq.2.toInt).toNat) (fun aq H locs ls => (0 ≤ aq.2.toInt) ∧ (aq.2.toInt ≤ 300) ∧ va_P D vwCl (va_pl L aq.1) H ∧ tp_I cy L K Γ aq.1 ∧ (∀ b, (K b).1 ∉ ([28, 29, 23, 24, 27, 30, 31, 32, 25, 26] : List Nat) → aq.1 b = f b) ∧ va_S A s.heap H locs ∧ lv_has ls 12 [(11, .int aq.2), (10, .int v10), (9, .int v9), (7, .long r_56), (6, .ref b_23), (0, .ref o), (1, .int p0), (2, .int p1), (3, .int p2), (4, .int p3), (5, .int p4)]) ?_ (f_80, (0 : Int32)) H locs ls ⟨(show 0 ≤ (0 : Int) from (by omega)), (show (0 : Int) ≤ 300 from (by omega)), hP, hI, hfr, hS, lv_sub hl [0, 1, 2, 3, 4, 5, 6, 7, 8, 9, 10] rfl⟩
              rintro ⟨f_82, v11⟩ H locs ls ⟨h0, h1, hP, hI, hfr, hS, hl⟩ ih99
              have hP : va_P D vwCl (va_pl L f_82) H := hP
              have hI : tp_I cy L K Γ f_82 := hI
              have hfr : ∀ b, (K b).1 ∉ ([28, 29, 23, 24, 27, 30, 31, 32, 25, 26] : List Nat) → f_82 b = f b := hfr
              have hD : va_D A (va_pl L f_82) := tp_D hL hAL
              have h0 : 0 ≤ v11.toInt := h0
              have h1 : v11.toInt ≤ 300 := h1
              have hl : lv_has ls 12 [(11, .int v11), (10, .int v10), (9, .int v9), (7, .long r_56), (6, .ref b_23), (0, .ref o), (1, .int p0), (2, .int p1), (3, .int p2), (4, .int p3), (5, .int p4)] := hl
              refine lv_iload hx hb dX11_drawn_99 (lv_at hl 0 rfl) ?_
              refine lv_sipush (v := 300) hx hb dX11_drawn_101 (by decide) ?_
              refine lv_icmp_ge (tgt := 149) hx hb dX11_drawn_104 (by decide) (fun c_83 => ?_) (fun c_83 => ?_)
              · have c_83 : (300 : Int) ≤ v11.toInt := tl_le c_83
                refine lv_aload_n hx hb dX11_drawn_149 rfl (lv_at hl 5 rfl) ?_
                refine tp_get (cy := cy) (ci := 11) (v := .ref x_11) (C := RX11) (T := TX11) (N := 16) hx hb hta inlX11 hown hK hP ho.1 ((tp_un hfr ho (by decide)).trans hf_1) rfl 9 (by decide) (hta _ wk_42) (fun _ h9 => h9) rfl dX11_drawn_150 ?_
                obtain ⟨x_85, x_86, x_87, x_88, x_89, x_90, x_91, x_92, x_93, x_94, x_95, x_96, x_97, x_98, x_99, x_100, x_101, x_102, hf_84, hx_85, hx_86, hx_87, hx_88, hx_89, hx_90, hx_91, hx_92, hx_93, hx_95, hx_98⟩ := (show tp_o_VIEW L K (0) 0 (Γ (27, 0, 0)) (f_82 x_11) from hI.at hx_11)
                refine tq_cv hS (hAf _ hS.1) (tq_rVN hN (As := []) (rest := []) ⟨hx, hb, hml, hown, hta⟩ (tp_P.pre hK hN hL hU hI hP) (tp_recv hK hP hx_11.1 hf_84 rfl) lk_X11_240 (t_X10_tally l D cy H.size L K Γ f_82 x_11 hx_11) rfl rfl ⟨Nat.le_of_ble_eq_true rfl, Nat.le_of_ble_eq_true rfl⟩ rfl hl.1 rfl (Nat.le_of_ble_eq_true rfl) dX11_drawn_153 ⟨Nat.le_of_ble_eq_true rfl, Nat.le_of_ble_eq_true rfl⟩) (fun f_105 H locs hw_103 hP hI hc_106 hS => ?_)
                have hD : va_D A (va_pl L f_105) := tp_D hL hAL
                have hfr := tp_fr2 hfr hc_106 (by decide)
                have hf_107 := (tp_un hc_106 hx_11 (by decide)).trans hf_84
                refine lv_aload_n hx hb dX11_drawn_156 rfl (lv_at hl 5 rfl) ?_
                refine tp_get (cy := cy) (ci := 11) (v := .ref x_11) (C := RX11) (T := TX11) (N := 16) hx hb hta inlX11 hown hK hP ho.1 ((tp_un hfr ho (by decide)).trans hf_1) rfl 9 (by decide) (hta _ wk_42) (fun _ h9 => h9) rfl dX11_drawn_157 ?_
                refine tq_cv hS (hAf _ hS.1) (tq_rVN hN (As := []) (rest := []) ⟨hx, hb, hml, hown, hta⟩ (tp_P.pre hK hN hL hU hI hP) (tp_recv hK hP hx_11.1 hf_107 rfl) lk_X11_243 (t_X10_lay l D cy H.size L K Γ f_105 x_11 hx_11) rfl rfl ⟨Nat.le_of_ble_eq_true rfl, Nat.le_of_ble_eq_true rfl⟩ rfl hl.1 rfl (Nat.le_of_ble_eq_true rfl) dX11_drawn_160 ⟨Nat.le_of_ble_eq_true rfl, Nat.le_of_ble_eq_true rfl⟩) (fun f_110 H locs hw_108 hP hI hc_111 hS => ?_)
                have hD : va_D A (va_pl L f_110) := tp_D hL hAL
                have hfr := tp_fr2 hfr hc_111 (by decide)
                have hw_108 : tv_gap (f_105 x_11) → tv_gap (f_110 x_11) := hw_108
                refine lv_iload hx hb dX11_drawn_163 (lv_at hl 2 rfl) ?_
                refine lv_aload_n hx hb dX11_drawn_165 rfl (lv_at hl 5 rfl) ?_
                refine tp_get (cy := cy) (ci := 11) (v := .ref x_11) (C := RX11) (T := TX11) (N := 16) hx hb hta inlX11 hown hK hP ho.1 ((tp_un hfr ho (by decide)).trans hf_1) rfl 9 (by decide) (hta _ wk_42) (fun _ h9 => h9) rfl dX11_drawn_166 ?_
                refine lv_lload hx hb dX11_drawn_169 (lv_at hl 3 rfl) ?_
                obtain ⟨x_113, x_114, x_115, x_116, x_117, x_118, x_119, x_120, x_121, x_122, x_123, x_124, x_125, x_126, x_127, x_128, x_129, x_130, hf_112, hx_113, hx_114, hx_115, hx_116, hx_117, hx_118, hx_119, hx_120, hx_121, hx_123, hx_126⟩ := (show tp_o_VIEW L K (0) 0 (Γ (27, 0, 0)) (f_110 x_11) from hI.at hx_11)
                refine tl_si (tq_rVN hN (As := [.long r_56]) (rest := [.int v9]) ⟨hx, hb, hml, hown, hta⟩ (tp_P.pre hK hN hL hU hI hP) (tp_recv hK hP hx_11.1 hf_112 rfl) lk_X11_300 (t_X10_isNotBelow l D cy H.size L K Γ f_110 x_11 r_56 hx_11) rfl rfl ⟨Nat.le_of_ble_eq_true rfl, Nat.le_of_ble_eq_true rfl⟩ rfl hl.1 rfl (Nat.le_of_ble_eq_true rfl) dX11_drawn_171 ⟨Nat.le_of_ble_eq_true rfl, Nat.le_of_ble_eq_true rfl⟩) (fun r_132 hw_131 => ?_)
                have hw_131 : tl_J r_132 (True) := hw_131
                refine lv_if_eq (tgt := 181) hx hb dX11_drawn_174 (by decide) (fun c_133 => ?_) (fun c_133 => ?_)
                · have c_133 := c_133
                  refine lv_iconst (v := 0) hx hb dX11_drawn_181 (by decide) ?_
                  refine lv_iadd hx hb dX11_drawn_182 ?_
                  refine lv_topi (fun z_134 ez_134 => ?_)
                  try have iz_134 : z_134.toInt = v9.toInt + (0 : Int) := by rw [ez_134]; exact tl_addN v9 0 rfl rfl (by omega) (by omega)
                  refine lv_istore (lv' := [(9, .int z_134), (11, .int v11), (10, .int v10), (7, .long r_56), (6, .ref b_23), (0, .ref o), (1, .int p0), (2, .int p1), (3, .int p2), (4, .int p3), (5, .int p4)]) hx hb dX11_drawn_183 hl (by decide) rfl (fun ls hl => ?_)
                  obtain ⟨z_135, ez_135⟩ : ∃ y : Int32, y = v10 + 1 := ⟨_, rfl⟩
                  refine lv_iinc (v := z_135) (lv' := [(10, .int z_135), (9, .int z_134), (11, .int v11), (7, .long r_56), (6, .ref b_23), (0, .ref o), (1, .int p0), (2, .int p1), (3, .int p2), (4, .int p3), (5, .int p4)]) hx hb dX11_drawn_185 hl (k := 2) rfl (by rw [ez_135]; rfl) (by decide) rfl (fun ls hl => ?_)
                  try have iz_135 : z_135.toInt = v10.toInt + 1 := by rw [ez_135]; exact tl_addL v10 1 (by decide) (by omega) (by omega)
                  refine lv_goto (tgt := 89) hx hb dX11_drawn_188 (by decide) ?_
                  exact ih89 (f_110, z_135, z_134) H locs ls (by show (50 - z_135.toInt).toNat < (50 - v10.toInt).toNat; omega) ⟨(show 0 ≤ z_135.toInt from (by omega)), (show z_135.toInt ≤ 50 from (by omega)), hP, hI, hfr, hS, lv_sub hl [0, 1, 3, 4, 5, 6, 7, 8, 9, 10] rfl⟩
                · have c_133 := hw_131.t c_133
                  refine lv_iconst (v := 1) hx hb dX11_drawn_177 (by decide) ?_
                  refine lv_goto (tgt := 182) hx hb dX11_drawn_178 (by decide) ?_
                  refine lv_iadd hx hb dX11_drawn_182 ?_
                  refine lv_topi (fun z_136 ez_136 => ?_)
                  try have iz_136 : z_136.toInt = v9.toInt + (1 : Int) := by rw [ez_136]; exact tl_addN v9 1 rfl rfl (by omega) (by omega)
                  refine lv_istore (lv' := [(9, .int z_136), (11, .int v11), (10, .int v10), (7, .long r_56), (6, .ref b_23), (0, .ref o), (1, .int p0), (2, .int p1), (3, .int p2), (4, .int p3), (5, .int p4)]) hx hb dX11_drawn_183 hl (by decide) rfl (fun ls hl => ?_)
                  obtain ⟨z_137, ez_137⟩ : ∃ y : Int32, y = v10 + 1 := ⟨_, rfl⟩
                  refine lv_iinc (v := z_137) (lv' := [(10, .int z_137), (9, .int z_136), (11, .int v11), (7, .long r_56), (6, .ref b_23), (0, .ref o), (1, .int p0), (2, .int p1), (3, .int p2), (4, .int p3), (5, .int p4)]) hx hb dX11_drawn_185 hl (k := 2) rfl (by rw [ez_137]; rfl) (by decide) rfl (fun ls hl => ?_)
                  try have iz_137 : z_137.toInt = v10.toInt + 1 := by rw [ez_137]; exact tl_addL v10 1 (by decide) (by omega) (by omega)
                  refine lv_goto (tgt := 89) hx hb dX11_drawn_188 (by decide) ?_
                  exact ih89 (f_110, z_137, z_136) H locs ls (by show (50 - z_137.toInt).toNat < (50 - v10.toInt).toNat; omega) ⟨(show 0 ≤ z_137.toInt from (by omega)), (show z_137.toInt ≤ 50 from (by omega)), hP, hI, hfr, hS, lv_sub hl [0, 1, 3, 4, 5, 6, 7, 8, 9, 10] rfl⟩
              · have c_83 : v11.toInt < (300 : Int) := tl_nle c_83
                refine lv_aload_n hx hb dX11_drawn_107 rfl (lv_at hl 5 rfl) ?_
                refine tp_get (cy := cy) (ci := 11) (v := .ref x_11) (C := RX11) (T := TX11) (N := 16) hx hb hta inlX11 hown hK hP ho.1 ((tp_un hfr ho (by decide)).trans hf_1) rfl 9 (by decide) (hta _ wk_42) (fun _ h9 => h9) rfl dX11_drawn_108 ?_
                obtain ⟨x_139, x_140, x_141, x_142, x_143, x_144, x_145, x_146, x_147, x_148, x_149, x_150, x_151, x_152, x_153, x_154, x_155, x_156, hf_138, hx_139, hx_140, hx_141, hx_142, hx_143, hx_144, hx_145, hx_146, hx_147, hx_149, hx_152⟩ := (show tp_o_VIEW L K (0) 0 (Γ (27, 0, 0)) (f_82 x_11) from hI.at hx_11)
                refine tp_getN (cy := cy) (ci := 10) (v := .ref x_142) (C := RX10) (T := TX10) (N := 18) hx hb hta inlX10 hown hK hP hx_11.1 hf_138 rfl 3 (by decide) (va_Nw.use rfl (hN.1 63 _ nk_63)) (fun _ h9 => h9) rfl dX11_drawn_111 ?_
                refine lv_iload hx hb dX11_drawn_114 (lv_at hl 0 rfl) ?_
                refine lv_aload_n hx hb dX11_drawn_116 rfl (lv_at hl 5 rfl) ?_
                refine tp_get (cy := cy) (ci := 11) (v := .ref x_10) (C := RX11) (T := TX11) (N := 16) hx hb hta inlX11 hown hK hP ho.1 ((tp_un hfr ho (by decide)).trans hf_1) rfl 8 (by decide) (hta _ wk_38) (fun _ h9 => h9) rfl dX11_drawn_117 ?_
                refine lv_aload hx hb dX11_drawn_120 (lv_at hl 4 rfl) ?_
                refine lv_aload_n hx hb dX11_drawn_122 rfl (lv_at hl 5 rfl) ?_
                refine tp_get (cy := cy) (ci := 11) (v := .ref x_9) (C := RX11) (T := TX11) (N := 16) hx hb hta inlX11 hown hK hP ho.1 ((tp_un hfr ho (by decide)).trans hf_1) rfl 7 (by decide) (hta _ wk_34) (fun _ h9 => h9) rfl dX11_drawn_123 ?_
                refine lv_iload hx hb dX11_drawn_126 (lv_at hl 0 rfl) ?_
                obtain ⟨x_158, x_159, x_160, x_161, x_162, hf_157, hx_158⟩ := (show tp_o_MAKER L K (0) 0 (Γ (25, 0, 0)) (f_82 x_10) from hI.at hx_10)
                refine tq_ci hS (hAf _ hS.1) (tq_rVN hN (As := [.ref b_23, .ref x_9, .int v11]) (rest := [.int v11, .ref x_142]) ⟨hx, hb, hml, hown, hta⟩ (tp_P.pre hK hN hL hU hI hP) (tp_recv hK hP hx_10.1 hf_157 rfl) lk_X11_217 (t_X1_makeAt l D cy H.size L K Γ f_82 x_10 b_23 x_9 v11 hx_10 hb_23 hx_9 (by first | omega | (simp only [Int32.toInt_toInt64]; omega) | decide | assumption)) rfl rfl ⟨Nat.le_of_ble_eq_true rfl, Nat.le_of_ble_eq_true rfl⟩ rfl hl.1 rfl (Nat.le_of_ble_eq_true rfl) dX11_drawn_128 ⟨Nat.le_of_ble_eq_true rfl, Nat.le_of_ble_eq_true rfl⟩) (fun r_164 f_165 H locs hw_163 hP hI hc_166 hS => ?_)
                have hD : va_D A (va_pl L f_165) := tp_D hL hAL
                have hfr := tp_fr2 hfr hc_166 (by decide)
                have hf_167 := (tp_un hc_166 hx_11 (by decide)).trans hf_138
                obtain ⟨g_169, hf_168, hg_170⟩ := (show tp_ai cy 29 (300) (f_165 x_142) from hI.at hx_142)
                have hn_171 : vp_in v11 (300) := tl_in (by omega) (by omega)
                have hI9 : tp_I cy L K Γ (va_up f_165 x_142 (.inl (cy 0, 300, .inl (upd g_169 v11.toNatClampNeg r_164)))) := hI.set hx_142 (show tp_ai cy 29 (300) _ from ⟨_, rfl, tp_pi_upd hg_170 trivial⟩)
                have hfr9 : ∀ b, (K b).1 ∉ ([28, 29, 23, 24, 27, 30, 31, 32, 25, 26] : List Nat) → va_up f_165 x_142 (.inl (cy 0, 300, .inl (upd g_169 v11.toNatClampNeg r_164))) b = f b := tp_fr hfr hx_142 (by decide)
                refine tp_iast (cy := cy) hx hb hK hP hD hS hx_142.1 hf_168 hn_171 dX11_drawn_131 (fun H locs hP hD hS => ?_)
                have hP : va_P D vwCl (va_pl L (va_up f_165 x_142 (.inl (cy 0, 300, .inl (upd g_169 v11.toNatClampNeg r_164))))) H := hP
                generalize hfe : va_up f_165 x_142 (.inl (cy 0, 300, .inl (upd g_169 v11.toNatClampNeg r_164))) = f_172 at hP hI9 hfr9
                have hD : va_D A (va_pl L f_172) := tp_D hL hAL
                have hf_173 := (show f_172 x_11 = _ from by rw [← hfe, va_up_ne _ _ (tp_ne hx_11 hx_142 (by decide))]).trans hf_167
                have hf_174 : f_172 x_142 = .inl (cy 0, 300, .inl (upd g_169 v11.toNatClampNeg r_164)) := by rw [← hfe]; exact va_up_self _ _ _
                clear hfe
                have hI := hI9
                have hfr := hfr9
                clear hI9 hfr9
                refine lv_aload_n hx hb dX11_drawn_132 rfl (lv_at hl 5 rfl) ?_
                refine tp_get (cy := cy) (ci := 11) (v := .ref x_11) (C := RX11) (T := TX11) (N := 16) hx hb hta inlX11 hown hK hP ho.1 ((tp_un hfr ho (by decide)).trans hf_1) rfl 9 (by decide) (hta _ wk_42) (fun _ h9 => h9) rfl dX11_drawn_133 ?_
                refine tp_getN (cy := cy) (ci := 10) (v := .ref x_139) (C := RX10) (T := TX10) (N := 18) hx hb hta inlX10 hown hK hP hx_11.1 hf_173 rfl 0 (by decide) (va_Nw.use rfl (hN.1 60 _ nk_60)) (fun _ h9 => h9) rfl dX11_drawn_136 ?_
                refine lv_iload hx hb dX11_drawn_139 (lv_at hl 0 rfl) ?_
                refine lv_iconst (v := 1) hx hb dX11_drawn_141 (by decide) ?_
                obtain ⟨g_176, hf_175⟩ := (show tp_az cy (300) (f_172 x_139) from hI.at hx_139)
                have hn_178 : vp_in v11 (300) := tl_in (by omega) (by omega)
                have hI9 : tp_I cy L K Γ (va_up f_172 x_139 (.inl (cy 2, 300, .inl (upd g_176 v11.toNatClampNeg (vp_nar .boolean 1))))) := hI.set hx_139 (show tp_az cy (300) _ from ⟨_, rfl⟩)
                have hfr9 : ∀ b, (K b).1 ∉ ([28, 29, 23, 24, 27, 30, 31, 32, 25, 26] : List Nat) → va_up f_172 x_139 (.inl (cy 2, 300, .inl (upd g_176 v11.toNatClampNeg (vp_nar .boolean 1)))) b = f b := tp_fr hfr hx_139 (by decide)
                refine tp_zast (cy := cy) hx hb hK hP hD hS hx_139.1 hf_175 hn_178 dX11_drawn_142 (fun H locs hP hD hS => ?_)
                have hP : va_P D vwCl (va_pl L (va_up f_172 x_139 (.inl (cy 2, 300, .inl (upd g_176 v11.toNatClampNeg (vp_nar .boolean 1)))))) H := hP
                generalize hfe : va_up f_172 x_139 (.inl (cy 2, 300, .inl (upd g_176 v11.toNatClampNeg (vp_nar .boolean 1)))) = f_179 at hP hI9 hfr9
                have hD : va_D A (va_pl L f_179) := tp_D hL hAL
                have hf_180 := (show f_179 x_11 = _ from by rw [← hfe, va_up_ne _ _ (tp_ne hx_11 hx_139 (by decide))]).trans hf_173
                have hf_181 : f_179 x_139 = .inl (cy 2, 300, .inl (upd g_176 v11.toNatClampNeg (vp_nar .boolean 1))) := by rw [← hfe]; exact va_up_self _ _ _
                clear hfe
                have hI := hI9
                have hfr := hfr9
                clear hI9 hfr9
                obtain ⟨z_182, ez_182⟩ : ∃ y : Int32, y = v11 + 1 := ⟨_, rfl⟩
                refine lv_iinc (v := z_182) (lv' := [(11, .int z_182), (10, .int v10), (9, .int v9), (7, .long r_56), (6, .ref b_23), (0, .ref o), (1, .int p0), (2, .int p1), (3, .int p2), (4, .int p3), (5, .int p4)]) hx hb dX11_drawn_143 hl (k := 0) rfl (by rw [ez_182]; rfl) (by decide) rfl (fun ls hl => ?_)
                try have iz_182 : z_182.toInt = v11.toInt + 1 := by rw [ez_182]; exact tl_addL v11 1 (by decide) (by omega) (by omega)
                refine lv_goto (tgt := 99) hx hb dX11_drawn_146 (by decide) ?_
                exact ih99 (f_179, z_182) H locs ls (by show (300 - z_182.toInt).toNat < (300 - v11.toInt).toNat; omega) ⟨(show 0 ≤ z_182.toInt from (by omega)), (show z_182.toInt ≤ 300 from (by omega)), hP, hI, hfr, hS, lv_sub hl [0, 1, 2, 3, 4, 5, 6, 7, 8, 9, 10] rfl⟩
          · have c_54 := c_54
            refine lv_bipush (v := (-2)) hx hb dX11_drawn_53 (by decide) ?_
            exact W.iret (v := (-2)) hx hb hr (fun t ht hW => ⟨⟨_, f_30, rfl, trivial, by rw [ht]; exact hP, hI, hfr⟩, hS.F ht⟩) hS.2.2 dX11_drawn_55
        · have c_32 := c_32
          refine lv_iconst (v := (-1)) hx hb dX11_drawn_41 (by decide) ?_
          exact W.iret (v := (-1)) hx hb hr (fun t ht hW => ⟨⟨_, f_30, rfl, trivial, by rw [ht]; exact hP, hI, hfr⟩, hS.F ht⟩) hS.2.2 dX11_drawn_42
set_option maxHeartbeats 4000000 in
set_option maxRecDepth 100000 in
theorem t_X11_taken (l : Launch) (D : va_G) (cy : Nat → ClassId) (sz : Nat) (L : List Nat) (K : Nat → tk_K) (Γ : tk_G) (f : Nat → va_E) (o : Nat) (p0 : Int32) (p1 : Int32) (p2 : Int32) (p3 : Int32) (ho : tp_r L K 0 (0) 0 o) : Met l yX11_taken (tl_w yX11_taken cX11_taken 11 (some .int)) ({ frames := 5, cells := 0, slots := 0, locals := 113 }) (va_Pc [.ref o, .int p0, .int p1, .int p2, .int p3] (tp_P D cy L K Γ f sz)) (va_Qi (fun (r : Int32) (u : Nat → va_E) => True) (tp_B D cy L K Γ f [28, 29, 23, 24, 27, 30, 31, 32]) (tp_A L sz)) 0 0 (tp_A L sz) := by
  refine Met.ofW (cc := cX11_taken) (maxL := 11) (ret := (some .int)) (by decide) rfl ?_
  intro p e s m args below meth c s₁ B hml hv
  obtain ⟨rfl, hsz, hP, hK, hL, hI, hN, hU⟩ := hv
  have hx := B.exec
  have hb := B.bytes
  have hr := B.returns
  have hta := tl_hta (atoms_spec (ws := tl_w yX11_taken cX11_taken 11 (some .int)) B.pre)
  have hown : s.vm.findClass RX11 = some m.cls := findClass_of_methodNamed B.named
  have hlocks := B.notSynchronized
  subst hsz
  have hI0 := hI
  generalize hAe : tp_A L s.heap.size = A
  have hA : ∀ q : Nat, s.heap.size ≤ q → A q := fun q h => by rw [← hAe]; exact Or.inr h
  have hAL : ∀ q ∈ L, A q := fun q h => by rw [← hAe]; exact Or.inl h
  have hAf : ∀ (H : Heap), s.heap.size ≤ H.size → ∀ q, tp_A L H.size q → A q := fun H h q hq => hq.elim (hAL q) (fun h2 => hA q (Nat.le_trans h h2))
  have hS : va_S A s.heap s.heap [] := va_S.rf
  have hD : va_D A (va_pl L f) := tp_D hL hAL
  have hfr : ∀ b, (K b).1 ∉ ([28, 29, 23, 24, 27, 30, 31, 32] : List Nat) → f b = f b := fun _ _ => rfl
  have hl := lv_entry ([.ref o, .int p0, .int p1, .int p2, .int p3]) (n := 11) (Nat.le_of_ble_eq_true rfl)
  rw [lg_entry_eq]
  generalize (lg_sl ([.ref o, .int p0, .int p1, .int p2, .int p3]) ++ List.replicate (11 - (lg_sl ([.ref o, .int p0, .int p1, .int p2, .int p3])).length) Slot.unset).toArray = ls at hl ⊢
  have hl : lv_has ls 11 [(0, .ref o), (1, .int p0), (2, .int p1), (3, .int p2), (4, .int p3)] := hl
  refine lv_iload_n hx hb dX11_taken_0 rfl (lv_at hl 3 rfl) ?_
  refine lv_iconst (v := 1) hx hb dX11_taken_1 (by decide) ?_
  refine lv_sipush (v := 9999) hx hb dX11_taken_2 (by decide) ?_
  refine tl_si (tq_rS (As := [.int p2, .int 1, .int 9999]) (rest := []) ⟨hx, hb, hml, hown, hta⟩ (tp_P.pre hK hN hL hU hI hP) lk_X11_105 (t_X11_isIn l D cy s.heap.size L K Γ f p2 1 9999 ) rfl rfl ⟨Nat.le_of_ble_eq_true rfl, Nat.le_of_ble_eq_true rfl⟩ rfl hl.1 rfl (Nat.le_of_ble_eq_true rfl) dX11_taken_5 ⟨Nat.le_of_ble_eq_true rfl, Nat.le_of_ble_eq_true rfl⟩) (fun r_2 hw_1 => ?_)
  have hw_1 : tl_E r_2 ((1 : Int) ≤ p2.toInt ∧ p2.toInt ≤ (9999 : Int)) 1 0 := hw_1
  refine lv_if_eq (tgt := 32) hx hb dX11_taken_8 (by decide) (fun c_3 => ?_) (fun c_3 => ?_)
  · have c_3 := hw_1.f c_3
    refine lv_ldc (v := (-2000000)) hx hb hown (hta _ wk_230) dX11_taken_32 ?_
    exact W.iret (v := (-2000000)) hx hb hr (fun t ht hW => ⟨⟨_, f, rfl, trivial, by rw [ht]; exact hP, hI, hfr⟩, hS.F ht⟩) hS.2.2 dX11_taken_34
  · have c_3 := hw_1.t c_3
    refine lv_iload hx hb dX11_taken_11 (lv_at hl 4 rfl) ?_
    refine lv_iconst (v := 1) hx hb dX11_taken_13 (by decide) ?_
    refine lv_bipush (v := 99) hx hb dX11_taken_14 (by decide) ?_
    refine tl_si (tq_rS (As := [.int p3, .int 1, .int 99]) (rest := []) ⟨hx, hb, hml, hown, hta⟩ (tp_P.pre hK hN hL hU hI hP) lk_X11_105 (t_X11_isIn l D cy s.heap.size L K Γ f p3 1 99 ) rfl rfl ⟨Nat.le_of_ble_eq_true rfl, Nat.le_of_ble_eq_true rfl⟩ rfl hl.1 rfl (Nat.le_of_ble_eq_true rfl) dX11_taken_16 ⟨Nat.le_of_ble_eq_true rfl, Nat.le_of_ble_eq_true rfl⟩) (fun r_5 hw_4 => ?_)
    have hw_4 : tl_E r_5 ((1 : Int) ≤ p3.toInt ∧ p3.toInt ≤ (99 : Int)) 1 0 := hw_4
    refine lv_if_eq (tgt := 32) hx hb dX11_taken_19 (by decide) (fun c_6 => ?_) (fun c_6 => ?_)
    · have c_6 := hw_4.f c_6
      refine lv_ldc (v := (-2000000)) hx hb hown (hta _ wk_230) dX11_taken_32 ?_
      exact W.iret (v := (-2000000)) hx hb hr (fun t ht hW => ⟨⟨_, f, rfl, trivial, by rw [ht]; exact hP, hI, hfr⟩, hS.F ht⟩) hS.2.2 dX11_taken_34
    · have c_6 := hw_4.t c_6
      refine lv_aload_n hx hb dX11_taken_22 rfl (lv_at hl 0 rfl) ?_
      refine lv_iload_n hx hb dX11_taken_23 rfl (lv_at hl 1 rfl) ?_
      refine lv_iload_n hx hb dX11_taken_24 rfl (lv_at hl 2 rfl) ?_
      refine lv_iconst (v := (-1)) hx hb dX11_taken_25 (by decide) ?_
      obtain ⟨x_8, x_9, x_10, x_11, x_12, x_13, x_14, x_15, x_16, x_17, x_18, x_19, x_20, x_21, x_22, x_23, hf_7, hx_8, hx_9, hx_10, hx_11, hx_12, hx_13, hx_14, hx_15, hx_16, hx_17, hx_18, hx_19, hx_20, hx_21, hx_22, hx_23⟩ := (show tp_o_X L K (0) 0 (Γ (0, 0, 0)) (f o) from hI0.at ho)
      refine tq_ci hS (hAf _ hS.1) (tq_rV (As := [.int p0, .int p1, .int (-1)]) (rest := []) ⟨hx, hb, hml, hown, hta⟩ (tp_P.pre hK hN hL hU hI hP) (tp_recv hK hP ho.1 hf_7 rfl) lk_X11_246 (t_X11_look l D cy s.heap.size L K Γ f o p0 p1 (-1) ho) rfl rfl ⟨Nat.le_of_ble_eq_true rfl, Nat.le_of_ble_eq_true rfl⟩ rfl hl.1 rfl (Nat.le_of_ble_eq_true rfl) dX11_taken_26 ⟨Nat.le_of_ble_eq_true rfl, Nat.le_of_ble_eq_true rfl⟩) (fun r_25 f_26 H locs hw_24 hP hI hc_27 hS => ?_)
      have hD : va_D A (va_pl L f_26) := tp_D hL hAL
      have hfr := tp_fr2 hfr hc_27 (by decide)
      have hw_24 : tl_J r_25 (tv_gx f f_26 o) := hw_24
      refine lv_if_ne (tgt := 35) hx hb dX11_taken_29 (by decide) (fun c_28 => ?_) (fun c_28 => ?_)
      · have c_28 := hw_24.t c_28
        refine lv_aload_n hx hb dX11_taken_35 rfl (lv_at hl 0 rfl) ?_
        refine tp_get (cy := cy) (ci := 11) (v := .ref x_17) (C := RX11) (T := TX11) (N := 16) hx hb hta inlX11 hown hK hP ho.1 ((tp_un hfr ho (by decide)).trans hf_7) rfl 9 (by decide) (hta _ wk_42) (fun _ h9 => h9) rfl dX11_taken_36 ?_
        obtain ⟨x_30, x_31, x_32, x_33, x_34, x_35, x_36, x_37, x_38, x_39, x_40, x_41, x_42, x_43, x_44, x_45, x_46, x_47, hf_29, hx_30, hx_31, hx_32, hx_33, hx_34, hx_35, hx_36, hx_37, hx_38, hx_40, hx_43⟩ := (show tp_o_VIEW L K (0) 0 (Γ (27, 0, 0)) (f_26 x_17) from hI.at hx_17)
        refine tl_si (tq_rVN hN (As := []) (rest := []) ⟨hx, hb, hml, hown, hta⟩ (tp_P.pre hK hN hL hU hI hP) (tp_recv hK hP hx_17.1 hf_29 rfl) lk_X11_289 (t_X10_hasDeep l D cy H.size L K Γ f_26 x_17 hx_17) rfl rfl ⟨Nat.le_of_ble_eq_true rfl, Nat.le_of_ble_eq_true rfl⟩ rfl hl.1 rfl (Nat.le_of_ble_eq_true rfl) dX11_taken_39 ⟨Nat.le_of_ble_eq_true rfl, Nat.le_of_ble_eq_true rfl⟩) (fun r_49 hw_48 => ?_)
        have hw_48 : tl_J r_49 (tv_gc (f_26 x_17)) := hw_48
        refine lv_if_ne (tgt := 48) hx hb dX11_taken_42 (by decide) (fun c_50 => ?_) (fun c_50 => ?_)
        · have c_50 := hw_48.t c_50
          refine lv_aload_n hx hb dX11_taken_48 rfl (lv_at hl 0 rfl) ?_
          refine tp_get (cy := cy) (ci := 11) (v := .ref x_17) (C := RX11) (T := TX11) (N := 16) hx hb hta inlX11 hown hK hP ho.1 ((tp_un hfr ho (by decide)).trans hf_7) rfl 9 (by decide) (hta _ wk_42) (fun _ h9 => h9) rfl dX11_taken_49 ?_
          refine tl_si (tq_rVN hN (As := []) (rest := []) ⟨hx, hb, hml, hown, hta⟩ (tp_P.pre hK hN hL hU hI hP) (tp_recv hK hP hx_17.1 hf_29 rfl) lk_X11_264 (t_X10_deepness l D cy H.size L K Γ f_26 x_17 hx_17) rfl rfl ⟨Nat.le_of_ble_eq_true rfl, Nat.le_of_ble_eq_true rfl⟩ rfl hl.1 rfl (Nat.le_of_ble_eq_true rfl) dX11_taken_52 ⟨Nat.le_of_ble_eq_true rfl, Nat.le_of_ble_eq_true rfl⟩) (fun r_52 hw_51 => ?_)
          refine lv_istore (lv' := [(5, .int r_52), (0, .ref o), (1, .int p0), (2, .int p1), (3, .int p2), (4, .int p3)]) hx hb dX11_taken_55 hl (by decide) rfl (fun ls hl => ?_)
          refine lv_aload_n hx hb dX11_taken_57 rfl (lv_at hl 1 rfl) ?_
          refine tp_get (cy := cy) (ci := 11) (v := .ref x_17) (C := RX11) (T := TX11) (N := 16) hx hb hta inlX11 hown hK hP ho.1 ((tp_un hfr ho (by decide)).trans hf_7) rfl 9 (by decide) (hta _ wk_42) (fun _ h9 => h9) rfl dX11_taken_58 ?_
          refine tp_getN (cy := cy) (ci := 10) (v := .int x_41) (C := RX10) (T := TX10) (N := 18) hx hb hta inlX10 hown hK hP hx_17.1 hf_29 rfl 11 (by decide) (va_Nw.use rfl (hN.1 66 _ nk_66)) (fun _ h9 => h9) rfl dX11_taken_61 ?_
          refine lv_aload_n hx hb dX11_taken_64 rfl (lv_at hl 1 rfl) ?_
          refine tp_get (cy := cy) (ci := 11) (v := .ref x_17) (C := RX11) (T := TX11) (N := 16) hx hb hta inlX11 hown hK hP ho.1 ((tp_un hfr ho (by decide)).trans hf_7) rfl 9 (by decide) (hta _ wk_42) (fun _ h9 => h9) rfl dX11_taken_65 ?_
          refine tp_getN (cy := cy) (ci := 10) (v := .int x_42) (C := RX10) (T := TX10) (N := 18) hx hb hta inlX10 hown hK hP hx_17.1 hf_29 rfl 12 (by decide) (va_Nw.use rfl (hN.1 67 _ nk_67)) (fun _ h9 => h9) rfl dX11_taken_68 ?_
          refine lv_iadd hx hb dX11_taken_71 ?_
          refine lv_topi (fun z_53 ez_53 => ?_)
          try have iz_53 : z_53.toInt = x_41.toInt + x_42.toInt := by rw [ez_53]; exact tl_addN x_41 x_42 rfl rfl (by omega) (by omega)
          refine lv_iconst (v := 2) hx hb dX11_taken_72 (by decide) ?_
          refine lv_idiv hx hb dX11_taken_73 (by decide) ?_
          refine lv_topi (fun z_54 ez_54 => ?_)
          refine lv_istore (lv' := [(6, .int z_54), (5, .int r_52), (0, .ref o), (1, .int p0), (2, .int p1), (3, .int p2), (4, .int p3)]) hx hb dX11_taken_74 hl (by decide) rfl (fun ls hl => ?_)
          refine lv_iconst (v := 0) hx hb dX11_taken_76 (by decide) ?_
          refine lv_istore (lv' := [(7, .int 0), (6, .int z_54), (5, .int r_52), (0, .ref o), (1, .int p0), (2, .int p1), (3, .int p2), (4, .int p3)]) hx hb dX11_taken_77 hl (by decide) rfl (fun ls hl => ?_)
          refine lv_iconst (v := 0) hx hb dX11_taken_79 (by decide) ?_
          refine lv_istore (lv' := [(8, .int 0), (7, .int 0), (6, .int z_54), (5, .int r_52), (0, .ref o), (1, .int p0), (2, .int p1), (3, .int p2), (4, .int p3)]) hx hb dX11_taken_80 hl (by decide) rfl (fun ls hl => ?_)
          refine tl_ind (G := fun H locs ls => W p l e ((headSpec (tl_w yX11_taken cX11_taken 11 (some .int)) ({ frames := 5, cells := 0, slots := 0, locals := 113 })).room) s m #[.ref o, .int p0, .int p1, .int p2, .int p3] below meth c H locs 0 0 (MQ below (va_Qi (fun (r : Int32) (u : Nat → va_E) => True) (tp_B D cy L K Γ f [28, 29, 23, 24, 27, 30, 31, 32]) A) #[.ref o, .int p0, .int p1, .int p2, .int p3] s 0 0 A) (F0 m 82 ls [])) (α := (Nat → va_E) × Int32 × Int32) (fun aq => (300 - aq.2.1.toInt).toNat) (fun aq H locs ls => (0 ≤ aq.2.1.toInt) ∧ (aq.2.1.toInt ≤ 300) ∧ va_P D vwCl (va_pl L aq.1) H ∧ tp_I cy L K Γ aq.1 ∧ (∀ b, (K b).1 ∉ ([28, 29, 23, 24, 27, 30, 31, 32] : List Nat) → aq.1 b = f b) ∧ va_S A s.heap H locs ∧ lv_has ls 11 [(8, .int aq.2.1), (7, .int aq.2.2), (6, .int z_54), (5, .int r_52), (0, .ref o), (1, .int p0), (2, .int p1), (3, .int p2), (4, .int p3)]) ?_ (f_26, (0 : Int32), (0 : Int32)) H locs ls ⟨(show 0 ≤ (0 : Int) from (by omega)), (show (0 : Int) ≤ 300 from (by omega)), hP, hI, hfr, hS, lv_sub hl [0, 1, 2, 3, 4, 5, 6, 7, 8] rfl⟩
          rintro ⟨f_55, v8, v7⟩ H locs ls ⟨h0, h1, hP, hI, hfr, hS, hl⟩ ih82
          have hP : va_P D vwCl (va_pl L f_55) H := hP
          have hI : tp_I cy L K Γ f_55 := hI
          have hfr : ∀ b, (K b).1 ∉ ([28, 29, 23, 24, 27, 30, 31, 32] : List Nat) → f_55 b = f b := hfr
          have hD : va_D A (va_pl L f_55) := tp_D hL hAL
          have h0 : 0 ≤ v8.toInt := h0
          have h1 : v8.toInt ≤ 300 := h1
          have hl : lv_has ls 11 [(8, .int v8), (7, .int v7), (6, .int z_54), (5, .int r_52), (0, .ref o), (1, .int p0), (2, .int p1), (3, .int p2), (4, .int p3)] := hl
          refine lv_iload hx hb dX11_taken_82 (lv_at hl 0 rfl) ?_
          refine lv_sipush (v := 300) hx hb dX11_taken_84 (by decide) ?_
          refine lv_icmp_ge (tgt := 176) hx hb dX11_taken_87 (by decide) (fun c_56 => ?_) (fun c_56 => ?_)
          · have c_56 : (300 : Int) ≤ v8.toInt := tl_le c_56
            refine lv_aload_n hx hb dX11_taken_176 rfl (lv_at hl 4 rfl) ?_
            refine tp_get (cy := cy) (ci := 11) (v := .ref x_17) (C := RX11) (T := TX11) (N := 16) hx hb hta inlX11 hown hK hP ho.1 ((tp_un hfr ho (by decide)).trans hf_7) rfl 9 (by decide) (hta _ wk_42) (fun _ h9 => h9) rfl dX11_taken_177 ?_
            obtain ⟨x_58, x_59, x_60, x_61, x_62, x_63, x_64, x_65, x_66, x_67, x_68, x_69, x_70, x_71, x_72, x_73, x_74, x_75, hf_57, hx_58, hx_59, hx_60, hx_61, hx_62, hx_63, hx_64, hx_65, hx_66, hx_68, hx_71⟩ := (show tp_o_VIEW L K (0) 0 (Γ (27, 0, 0)) (f_55 x_17) from hI.at hx_17)
            refine tq_cv hS (hAf _ hS.1) (tq_rVN hN (As := []) (rest := []) ⟨hx, hb, hml, hown, hta⟩ (tp_P.pre hK hN hL hU hI hP) (tp_recv hK hP hx_17.1 hf_57 rfl) lk_X11_240 (t_X10_tally l D cy H.size L K Γ f_55 x_17 hx_17) rfl rfl ⟨Nat.le_of_ble_eq_true rfl, Nat.le_of_ble_eq_true rfl⟩ rfl hl.1 rfl (Nat.le_of_ble_eq_true rfl) dX11_taken_180 ⟨Nat.le_of_ble_eq_true rfl, Nat.le_of_ble_eq_true rfl⟩) (fun f_78 H locs hw_76 hP hI hc_79 hS => ?_)
            have hD : va_D A (va_pl L f_78) := tp_D hL hAL
            have hfr := tp_fr2 hfr hc_79 (by decide)
            have hf_80 := (tp_un hc_79 hx_17 (by decide)).trans hf_57
            refine lv_aload_n hx hb dX11_taken_183 rfl (lv_at hl 4 rfl) ?_
            refine tp_get (cy := cy) (ci := 11) (v := .ref x_17) (C := RX11) (T := TX11) (N := 16) hx hb hta inlX11 hown hK hP ho.1 ((tp_un hfr ho (by decide)).trans hf_7) rfl 9 (by decide) (hta _ wk_42) (fun _ h9 => h9) rfl dX11_taken_184 ?_
            refine tq_cv hS (hAf _ hS.1) (tq_rVN hN (As := []) (rest := []) ⟨hx, hb, hml, hown, hta⟩ (tp_P.pre hK hN hL hU hI hP) (tp_recv hK hP hx_17.1 hf_80 rfl) lk_X11_243 (t_X10_lay l D cy H.size L K Γ f_78 x_17 hx_17) rfl rfl ⟨Nat.le_of_ble_eq_true rfl, Nat.le_of_ble_eq_true rfl⟩ rfl hl.1 rfl (Nat.le_of_ble_eq_true rfl) dX11_taken_187 ⟨Nat.le_of_ble_eq_true rfl, Nat.le_of_ble_eq_true rfl⟩) (fun f_83 H locs hw_81 hP hI hc_84 hS => ?_)
            have hD : va_D A (va_pl L f_83) := tp_D hL hAL
            have hfr := tp_fr2 hfr hc_84 (by decide)
            have hw_81 : tv_gap (f_78 x_17) → tv_gap (f_83 x_17) := hw_81
            refine lv_iload hx hb dX11_taken_190 (lv_at hl 1 rfl) ?_
            refine lv_iconst (v := 1) hx hb dX11_taken_192 (by decide) ?_
            refine lv_aload_n hx hb dX11_taken_193 rfl (lv_at hl 4 rfl) ?_
            refine tp_get (cy := cy) (ci := 11) (v := .ref x_17) (C := RX11) (T := TX11) (N := 16) hx hb hta inlX11 hown hK hP ho.1 ((tp_un hfr ho (by decide)).trans hf_7) rfl 9 (by decide) (hta _ wk_42) (fun _ h9 => h9) rfl dX11_taken_194 ?_
            obtain ⟨x_86, x_87, x_88, x_89, x_90, x_91, x_92, x_93, x_94, x_95, x_96, x_97, x_98, x_99, x_100, x_101, x_102, x_103, hf_85, hx_86, hx_87, hx_88, hx_89, hx_90, hx_91, hx_92, hx_93, hx_94, hx_96, hx_99⟩ := (show tp_o_VIEW L K (0) 0 (Γ (27, 0, 0)) (f_83 x_17) from hI.at hx_17)
            refine tp_getN (cy := cy) (ci := 10) (v := .int x_100) (C := RX10) (T := TX10) (N := 18) hx hb hta inlX10 hown hK hP hx_17.1 hf_85 rfl 14 (by decide) (va_Nw.use rfl (hN.1 69 _ nk_69)) (fun _ h9 => h9) rfl dX11_taken_197 ?_
            refine va_mmax hx hb (by rw [hml]; exact hl.1.symm) hown (hta _ wk_1069) (hta _ wk_82) (hta _ wk_83) (hta _ wk_84) (Nat.le_of_ble_eq_true rfl) (Nat.le_of_ble_eq_true rfl) (Nat.le_of_ble_eq_true rfl) (Nat.le_of_ble_eq_true rfl) dX11_taken_200 ?_
            refine lv_topi (fun z_104 ez_104 => ?_)
            have iz_104 : (z_104.toInt = x_100.toInt ∧ (1 : Int) ≤ x_100.toInt) ∨ (z_104.toInt = (1 : Int) ∧ x_100.toInt ≤ (1 : Int)) := by rw [ez_104]; exact tl_maxF
            refine lv_idiv hx hb dX11_taken_203 (tl_ne0 (by omega)) ?_
            refine lv_topi (fun z_105 ez_105 => ?_)
            refine lv_aload_n hx hb dX11_taken_204 rfl (lv_at hl 4 rfl) ?_
            refine tp_get (cy := cy) (ci := 11) (v := .ref x_17) (C := RX11) (T := TX11) (N := 16) hx hb hta inlX11 hown hK hP ho.1 ((tp_un hfr ho (by decide)).trans hf_7) rfl 9 (by decide) (hta _ wk_42) (fun _ h9 => h9) rfl dX11_taken_205 ?_
            refine tl_si (tq_rVN hN (As := []) (rest := [.int z_105]) ⟨hx, hb, hml, hown, hta⟩ (tp_P.pre hK hN hL hU hI hP) (tp_recv hK hP hx_17.1 hf_85 rfl) lk_X11_264 (t_X10_deepness l D cy H.size L K Γ f_83 x_17 hx_17) rfl rfl ⟨Nat.le_of_ble_eq_true rfl, Nat.le_of_ble_eq_true rfl⟩ rfl hl.1 rfl (Nat.le_of_ble_eq_true rfl) dX11_taken_208 ⟨Nat.le_of_ble_eq_true rfl, Nat.le_of_ble_eq_true rfl⟩) (fun r_107 hw_106 => ?_)
            refine lv_iload hx hb dX11_taken_211 (lv_at hl 3 rfl) ?_
            refine lv_isub hx hb dX11_taken_213 ?_
            refine lv_topi (fun z_108 ez_108 => ?_)
            try have iz_108 : z_108.toInt = r_107.toInt - r_52.toInt := by rw [ez_108]; exact tl_subN r_107 r_52 rfl rfl (by omega) (by omega)
            refine lv_isub hx hb dX11_taken_214 ?_
            refine lv_topi (fun z_109 ez_109 => ?_)
            try have iz_109 : z_109.toInt = z_105.toInt - z_108.toInt := by rw [ez_109]; exact tl_subN z_105 z_108 rfl rfl (by omega) (by omega)
            exact W.iret (v := z_109) hx hb hr (fun t ht hW => ⟨⟨_, f_83, rfl, trivial, by rw [ht]; exact hP, hI, hfr⟩, hS.F ht⟩) hS.2.2 dX11_taken_215
          · have c_56 : v8.toInt < (300 : Int) := tl_nle c_56
            refine lv_iload hx hb dX11_taken_90 (lv_at hl 0 rfl) ?_
            refine lv_iload hx hb dX11_taken_92 (lv_at hl 2 rfl) ?_
            refine lv_isub hx hb dX11_taken_94 ?_
            refine lv_topi (fun z_110 ez_110 => ?_)
            try have iz_110 : z_110.toInt = v8.toInt - z_54.toInt := by rw [ez_110]; exact tl_subN v8 z_54 rfl rfl (by omega) (by omega)
            refine va_mabs hx hb (by rw [hml]; exact hl.1.symm) hown (hta _ wk_1019) (hta _ wk_888) (hta _ wk_83) (hta _ wk_889) (Nat.le_of_ble_eq_true rfl) (Nat.le_of_ble_eq_true rfl) (Nat.le_of_ble_eq_true rfl) (Nat.le_of_ble_eq_true rfl) dX11_taken_95 ?_
            refine lv_topi (fun z_111 ez_111 => ?_)
            have iz_111 : (z_111.toInt = z_110.toInt ∧ 0 ≤ z_110.toInt) ∨ (z_110.toInt < 0 ∧ (z_111.toInt = -z_110.toInt ∨ z_110.toInt = -2147483648)) := by rw [ez_111]; exact tl_absF
            refine lv_istore (lv' := [(9, .int z_111), (8, .int v8), (7, .int v7), (6, .int z_54), (5, .int r_52), (0, .ref o), (1, .int p0), (2, .int p1), (3, .int p2), (4, .int p3)]) hx hb dX11_taken_98 hl (by decide) rfl (fun ls hl => ?_)
            refine lv_aload_n hx hb dX11_taken_100 rfl (lv_at hl 5 rfl) ?_
            refine tp_get (cy := cy) (ci := 11) (v := .ref x_17) (C := RX11) (T := TX11) (N := 16) hx hb hta inlX11 hown hK hP ho.1 ((tp_un hfr ho (by decide)).trans hf_7) rfl 9 (by decide) (hta _ wk_42) (fun _ h9 => h9) rfl dX11_taken_101 ?_
            obtain ⟨x_113, x_114, x_115, x_116, x_117, x_118, x_119, x_120, x_121, x_122, x_123, x_124, x_125, x_126, x_127, x_128, x_129, x_130, hf_112, hx_113, hx_114, hx_115, hx_116, hx_117, hx_118, hx_119, hx_120, hx_121, hx_123, hx_126⟩ := (show tp_o_VIEW L K (0) 0 (Γ (27, 0, 0)) (f_55 x_17) from hI.at hx_17)
            refine tp_getN (cy := cy) (ci := 10) (v := .ref x_113) (C := RX10) (T := TX10) (N := 18) hx hb hta inlX10 hown hK hP hx_17.1 hf_112 rfl 0 (by decide) (va_Nw.use rfl (hN.1 60 _ nk_60)) (fun _ h9 => h9) rfl dX11_taken_104 ?_
            refine lv_iload hx hb dX11_taken_107 (lv_at hl 1 rfl) ?_
            obtain ⟨g_132, hf_131⟩ := (show tp_az cy (300) (f_55 x_113) from hI.at hx_113)
            have hn_134 : vp_in v8 (300) := tl_in (by omega) (by omega)
            refine tp_zald (cy := cy) hx hb hK hP hx_113.1 hf_131 hn_134 dX11_taken_109 ?_
            refine lv_topi (fun z_135 ez_135 => ?_)
            refine lv_if_eq (tgt := 170) hx hb dX11_taken_110 (by decide) (fun c_136 => ?_) (fun c_136 => ?_)
            · have c_136 : z_135.toInt = (0 : Int) := tl_eq c_136
              obtain ⟨z_137, ez_137⟩ : ∃ y : Int32, y = v8 + 1 := ⟨_, rfl⟩
              refine lv_iinc (v := z_137) (lv' := [(8, .int z_137), (9, .int z_111), (7, .int v7), (6, .int z_54), (5, .int r_52), (0, .ref o), (1, .int p0), (2, .int p1), (3, .int p2), (4, .int p3)]) hx hb dX11_taken_170 hl (k := 1) rfl (by rw [ez_137]; rfl) (by decide) rfl (fun ls hl => ?_)
              try have iz_137 : z_137.toInt = v8.toInt + 1 := by rw [ez_137]; exact tl_addL v8 1 (by decide) (by omega) (by omega)
              refine lv_goto (tgt := 82) hx hb dX11_taken_173 (by decide) ?_
              exact ih82 (f_55, z_137, v7) H locs ls (by show (300 - z_137.toInt).toNat < (300 - v8.toInt).toNat; omega) ⟨(show 0 ≤ z_137.toInt from (by omega)), (show z_137.toInt ≤ 300 from (by omega)), hP, hI, hfr, hS, lv_sub hl [0, 2, 3, 4, 5, 6, 7, 8, 9] rfl⟩
            · have c_136 : ¬ z_135.toInt = (0 : Int) := tl_neq c_136
              refine lv_iload hx hb dX11_taken_113 (lv_at hl 0 rfl) ?_
              refine lv_iload hx hb dX11_taken_115 (lv_at hl 9 rfl) ?_
              refine lv_icmp_ge (tgt := 170) hx hb dX11_taken_117 (by decide) (fun c_138 => ?_) (fun c_138 => ?_)
              · have c_138 : p3.toInt ≤ z_111.toInt := tl_le c_138
                obtain ⟨z_139, ez_139⟩ : ∃ y : Int32, y = v8 + 1 := ⟨_, rfl⟩
                refine lv_iinc (v := z_139) (lv' := [(8, .int z_139), (9, .int z_111), (7, .int v7), (6, .int z_54), (5, .int r_52), (0, .ref o), (1, .int p0), (2, .int p1), (3, .int p2), (4, .int p3)]) hx hb dX11_taken_170 hl (k := 1) rfl (by rw [ez_139]; rfl) (by decide) rfl (fun ls hl => ?_)
                try have iz_139 : z_139.toInt = v8.toInt + 1 := by rw [ez_139]; exact tl_addL v8 1 (by decide) (by omega) (by omega)
                refine lv_goto (tgt := 82) hx hb dX11_taken_173 (by decide) ?_
                exact ih82 (f_55, z_139, v7) H locs ls (by show (300 - z_139.toInt).toNat < (300 - v8.toInt).toNat; omega) ⟨(show 0 ≤ z_139.toInt from (by omega)), (show z_139.toInt ≤ 300 from (by omega)), hP, hI, hfr, hS, lv_sub hl [0, 2, 3, 4, 5, 6, 7, 8, 9] rfl⟩
              · have c_138 : z_111.toInt < p3.toInt := tl_nle c_138
                refine lv_iload_n hx hb dX11_taken_120 rfl (lv_at hl 8 rfl) ?_
                refine lv_iload hx hb dX11_taken_121 (lv_at hl 9 rfl) ?_
                refine lv_iload hx hb dX11_taken_123 (lv_at hl 0 rfl) ?_
                refine lv_isub hx hb dX11_taken_125 ?_
                refine lv_topi (fun z_140 ez_140 => ?_)
                try have iz_140 : z_140.toInt = p3.toInt - z_111.toInt := by rw [ez_140]; exact tl_subN p3 z_111 rfl rfl (by omega) (by omega)
                refine lv_imul hx hb dX11_taken_126 ?_
                refine lv_topi (fun z_141 ez_141 => ?_)
                try have iz_141 : z_141.toInt = p2.toInt * z_140.toInt := by rw [ez_141]; exact tl_mulN p2 z_140 rfl rfl (by omega) (by omega)
                refine lv_iload hx hb dX11_taken_127 (lv_at hl 9 rfl) ?_
                refine lv_idiv hx hb dX11_taken_129 (tl_ne0 (by omega)) ?_
                refine lv_topi (fun z_142 ez_142 => ?_)
                refine lv_istore (lv' := [(10, .int z_142), (9, .int z_111), (8, .int v8), (7, .int v7), (6, .int z_54), (5, .int r_52), (0, .ref o), (1, .int p0), (2, .int p1), (3, .int p2), (4, .int p3)]) hx hb dX11_taken_130 hl (by decide) rfl (fun ls hl => ?_)
                refine lv_aload_n hx hb dX11_taken_132 rfl (lv_at hl 6 rfl) ?_
                refine tp_get (cy := cy) (ci := 11) (v := .ref x_17) (C := RX11) (T := TX11) (N := 16) hx hb hta inlX11 hown hK hP ho.1 ((tp_un hfr ho (by decide)).trans hf_7) rfl 9 (by decide) (hta _ wk_42) (fun _ h9 => h9) rfl dX11_taken_133 ?_
                refine tp_getN (cy := cy) (ci := 10) (v := .ref x_116) (C := RX10) (T := TX10) (N := 18) hx hb hta inlX10 hown hK hP hx_17.1 hf_112 rfl 3 (by decide) (va_Nw.use rfl (hN.1 63 _ nk_63)) (fun _ h9 => h9) rfl dX11_taken_136 ?_
                refine lv_iload hx hb dX11_taken_139 (lv_at hl 2 rfl) ?_
                refine lv_dup2_11 hx hb dX11_taken_141 rfl rfl ?_
                obtain ⟨g_144, hf_143, hg_145⟩ := (show tp_ai cy 29 (300) (f_55 x_116) from hI.at hx_116)
                have hn_146 : vp_in v8 (300) := tl_in (by omega) (by omega)
                refine tp_iald (cy := cy) hx hb hK hP hx_116.1 hf_143 hn_146 dX11_taken_142 ?_
                refine lv_topi (fun z_147 ez_147 => ?_)
                refine lv_iload hx hb dX11_taken_143 (lv_at hl 0 rfl) ?_
                refine lv_isub hx hb dX11_taken_145 ?_
                refine lv_topi (fun z_148 ez_148 => ?_)
                try have iz_148 : z_148.toInt = z_147.toInt - z_142.toInt := by rw [ez_148]; exact tl_subN z_147 z_142 rfl rfl (by omega) (by omega)
                have hn_149 : vp_in v8 (300) := tl_in (by omega) (by omega)
                have hI9 : tp_I cy L K Γ (va_up f_55 x_116 (.inl (cy 0, 300, .inl (upd g_144 v8.toNatClampNeg z_148)))) := hI.set hx_116 (show tp_ai cy 29 (300) _ from ⟨_, rfl, tp_pi_upd hg_145 trivial⟩)
                have hfr9 : ∀ b, (K b).1 ∉ ([28, 29, 23, 24, 27, 30, 31, 32] : List Nat) → va_up f_55 x_116 (.inl (cy 0, 300, .inl (upd g_144 v8.toNatClampNeg z_148))) b = f b := tp_fr hfr hx_116 (by decide)
                refine tp_iast (cy := cy) hx hb hK hP hD hS hx_116.1 hf_143 hn_149 dX11_taken_146 (fun H locs hP hD hS => ?_)
                have hP : va_P D vwCl (va_pl L (va_up f_55 x_116 (.inl (cy 0, 300, .inl (upd g_144 v8.toNatClampNeg z_148))))) H := hP
                generalize hfe : va_up f_55 x_116 (.inl (cy 0, 300, .inl (upd g_144 v8.toNatClampNeg z_148))) = f_150 at hP hI9 hfr9
                have hD : va_D A (va_pl L f_150) := tp_D hL hAL
                have hf_151 := (show f_150 x_17 = _ from by rw [← hfe, va_up_ne _ _ (tp_ne hx_17 hx_116 (by decide))]).trans hf_112
                have hf_152 := (show f_150 x_113 = _ from by rw [← hfe, va_up_ne _ _ (tp_ne hx_113 hx_116 (by decide))]).trans hf_131
                have hf_153 : f_150 x_116 = .inl (cy 0, 300, .inl (upd g_144 v8.toNatClampNeg z_148)) := by rw [← hfe]; exact va_up_self _ _ _
                clear hfe
                have hI := hI9
                have hfr := hfr9
                clear hI9 hfr9
                refine lv_iload hx hb dX11_taken_147 (lv_at hl 3 rfl) ?_
                refine lv_aload_n hx hb dX11_taken_149 rfl (lv_at hl 6 rfl) ?_
                refine tp_get (cy := cy) (ci := 11) (v := .ref x_17) (C := RX11) (T := TX11) (N := 16) hx hb hta inlX11 hown hK hP ho.1 ((tp_un hfr ho (by decide)).trans hf_7) rfl 9 (by decide) (hta _ wk_42) (fun _ h9 => h9) rfl dX11_taken_150 ?_
                refine lv_iload hx hb dX11_taken_153 (lv_at hl 2 rfl) ?_
                refine tl_si (tq_rVN hN (As := [.int v8]) (rest := [.int v7]) ⟨hx, hb, hml, hown, hta⟩ (tp_P.pre hK hN hL hU hI hP) (tp_recv hK hP hx_17.1 hf_151 rfl) lk_X11_327 (t_X10_isInGap l D cy H.size L K Γ f_150 x_17 v8 hx_17) rfl rfl ⟨Nat.le_of_ble_eq_true rfl, Nat.le_of_ble_eq_true rfl⟩ rfl hl.1 rfl (Nat.le_of_ble_eq_true rfl) dX11_taken_155 ⟨Nat.le_of_ble_eq_true rfl, Nat.le_of_ble_eq_true rfl⟩) (fun r_155 hw_154 => ?_)
                have hw_154 : tl_J r_155 (True) := hw_154
                refine lv_if_eq (tgt := 166) hx hb dX11_taken_158 (by decide) (fun c_156 => ?_) (fun c_156 => ?_)
                · have c_156 := c_156
                  refine lv_iconst (v := 0) hx hb dX11_taken_166 (by decide) ?_
                  refine lv_iadd hx hb dX11_taken_167 ?_
                  refine lv_topi (fun z_157 ez_157 => ?_)
                  try have iz_157 : z_157.toInt = v7.toInt + (0 : Int) := by rw [ez_157]; exact tl_addN v7 0 rfl rfl (by omega) (by omega)
                  refine lv_istore (lv' := [(7, .int z_157), (10, .int z_142), (9, .int z_111), (8, .int v8), (6, .int z_54), (5, .int r_52), (0, .ref o), (1, .int p0), (2, .int p1), (3, .int p2), (4, .int p3)]) hx hb dX11_taken_168 hl (by decide) rfl (fun ls hl => ?_)
                  obtain ⟨z_158, ez_158⟩ : ∃ y : Int32, y = v8 + 1 := ⟨_, rfl⟩
                  refine lv_iinc (v := z_158) (lv' := [(8, .int z_158), (7, .int z_157), (10, .int z_142), (9, .int z_111), (6, .int z_54), (5, .int r_52), (0, .ref o), (1, .int p0), (2, .int p1), (3, .int p2), (4, .int p3)]) hx hb dX11_taken_170 hl (k := 3) rfl (by rw [ez_158]; rfl) (by decide) rfl (fun ls hl => ?_)
                  try have iz_158 : z_158.toInt = v8.toInt + 1 := by rw [ez_158]; exact tl_addL v8 1 (by decide) (by omega) (by omega)
                  refine lv_goto (tgt := 82) hx hb dX11_taken_173 (by decide) ?_
                  exact ih82 (f_150, z_158, z_157) H locs ls (by show (300 - z_158.toInt).toNat < (300 - v8.toInt).toNat; omega) ⟨(show 0 ≤ z_158.toInt from (by omega)), (show z_158.toInt ≤ 300 from (by omega)), hP, hI, hfr, hS, lv_sub hl [0, 1, 4, 5, 6, 7, 8, 9, 10] rfl⟩
                · have c_156 := hw_154.t c_156
                  refine lv_iload hx hb dX11_taken_161 (lv_at hl 0 rfl) ?_
                  refine lv_goto (tgt := 167) hx hb dX11_taken_163 (by decide) ?_
                  refine lv_iadd hx hb dX11_taken_167 ?_
                  refine lv_topi (fun z_159 ez_159 => ?_)
                  try have iz_159 : z_159.toInt = v7.toInt + z_142.toInt := by rw [ez_159]; exact tl_addN v7 z_142 rfl rfl (by omega) (by omega)
                  refine lv_istore (lv' := [(7, .int z_159), (10, .int z_142), (9, .int z_111), (8, .int v8), (6, .int z_54), (5, .int r_52), (0, .ref o), (1, .int p0), (2, .int p1), (3, .int p2), (4, .int p3)]) hx hb dX11_taken_168 hl (by decide) rfl (fun ls hl => ?_)
                  obtain ⟨z_160, ez_160⟩ : ∃ y : Int32, y = v8 + 1 := ⟨_, rfl⟩
                  refine lv_iinc (v := z_160) (lv' := [(8, .int z_160), (7, .int z_159), (10, .int z_142), (9, .int z_111), (6, .int z_54), (5, .int r_52), (0, .ref o), (1, .int p0), (2, .int p1), (3, .int p2), (4, .int p3)]) hx hb dX11_taken_170 hl (k := 3) rfl (by rw [ez_160]; rfl) (by decide) rfl (fun ls hl => ?_)
                  try have iz_160 : z_160.toInt = v8.toInt + 1 := by rw [ez_160]; exact tl_addL v8 1 (by decide) (by omega) (by omega)
                  refine lv_goto (tgt := 82) hx hb dX11_taken_173 (by decide) ?_
                  exact ih82 (f_150, z_160, z_159) H locs ls (by show (300 - z_160.toInt).toNat < (300 - v8.toInt).toNat; omega) ⟨(show 0 ≤ z_160.toInt from (by omega)), (show z_160.toInt ≤ 300 from (by omega)), hP, hI, hfr, hS, lv_sub hl [0, 1, 4, 5, 6, 7, 8, 9, 10] rfl⟩
        · have c_50 := c_50
          refine lv_ldc (v := (-1000000)) hx hb hown (hta _ wk_227) dX11_taken_45 ?_
          exact W.iret (v := (-1000000)) hx hb hr (fun t ht hW => ⟨⟨_, f_26, rfl, trivial, by rw [ht]; exact hP, hI, hfr⟩, hS.F ht⟩) hS.2.2 dX11_taken_47
      · have c_28 := c_28
        refine lv_ldc (v := (-2000000)) hx hb hown (hta _ wk_230) dX11_taken_32 ?_
        exact W.iret (v := (-2000000)) hx hb hr (fun t ht hW => ⟨⟨_, f_26, rfl, trivial, by rw [ht]; exact hP, hI, hfr⟩, hS.F ht⟩) hS.2.2 dX11_taken_34
set_option maxHeartbeats 4000000 in
set_option maxRecDepth 100000 in
theorem t_X11_apart (l : Launch) (D : va_G) (cy : Nat → ClassId) (sz : Nat) (L : List Nat) (K : Nat → tk_K) (Γ : tk_G) (f : Nat → va_E) (o : Nat) (p0 : Int32) (p1 : Int32) (p2 : Int32) (ho : tp_r L K 0 (0) 0 o) : Met l yX11_apart (tl_w yX11_apart cX11_apart 8 (some .int)) ({ frames := 5, cells := 0, slots := 0, locals := 113 }) (va_Pc [.ref o, .int p0, .int p1, .int p2] (tp_P D cy L K Γ f sz)) (va_Qi (fun (r : Int32) (u : Nat → va_E) => True) (tp_B D cy L K Γ f [28, 29, 23, 24, 27, 30, 31, 32]) (tp_A L sz)) 0 0 (tp_A L sz) := by
  refine Met.ofW (cc := cX11_apart) (maxL := 8) (ret := (some .int)) (by decide) rfl ?_
  intro p e s m args below meth c s₁ B hml hv
  obtain ⟨rfl, hsz, hP, hK, hL, hI, hN, hU⟩ := hv
  have hx := B.exec
  have hb := B.bytes
  have hr := B.returns
  have hta := tl_hta (atoms_spec (ws := tl_w yX11_apart cX11_apart 8 (some .int)) B.pre)
  have hown : s.vm.findClass RX11 = some m.cls := findClass_of_methodNamed B.named
  have hlocks := B.notSynchronized
  subst hsz
  have hI0 := hI
  generalize hAe : tp_A L s.heap.size = A
  have hA : ∀ q : Nat, s.heap.size ≤ q → A q := fun q h => by rw [← hAe]; exact Or.inr h
  have hAL : ∀ q ∈ L, A q := fun q h => by rw [← hAe]; exact Or.inl h
  have hAf : ∀ (H : Heap), s.heap.size ≤ H.size → ∀ q, tp_A L H.size q → A q := fun H h q hq => hq.elim (hAL q) (fun h2 => hA q (Nat.le_trans h h2))
  have hS : va_S A s.heap s.heap [] := va_S.rf
  have hD : va_D A (va_pl L f) := tp_D hL hAL
  have hfr : ∀ b, (K b).1 ∉ ([28, 29, 23, 24, 27, 30, 31, 32] : List Nat) → f b = f b := fun _ _ => rfl
  have hl := lv_entry ([.ref o, .int p0, .int p1, .int p2]) (n := 8) (Nat.le_of_ble_eq_true rfl)
  rw [lg_entry_eq]
  generalize (lg_sl ([.ref o, .int p0, .int p1, .int p2]) ++ List.replicate (8 - (lg_sl ([.ref o, .int p0, .int p1, .int p2])).length) Slot.unset).toArray = ls at hl ⊢
  have hl : lv_has ls 8 [(0, .ref o), (1, .int p0), (2, .int p1), (3, .int p2)] := hl
  refine lv_aload_n hx hb dX11_apart_0 rfl (lv_at hl 0 rfl) ?_
  obtain ⟨x_2, x_3, x_4, x_5, x_6, x_7, x_8, x_9, x_10, x_11, x_12, x_13, x_14, x_15, x_16, x_17, hf_1, hx_2, hx_3, hx_4, hx_5, hx_6, hx_7, hx_8, hx_9, hx_10, hx_11, hx_12, hx_13, hx_14, hx_15, hx_16, hx_17⟩ := (show tp_o_X L K (0) 0 (Γ (0, 0, 0)) (f o) from hI0.at ho)
  refine tp_get (cy := cy) (ci := 11) (v := .ref x_5) (C := RX11) (T := TX11) (N := 16) hx hb hta inlX11 hown hK hP ho.1 hf_1 rfl 3 (by decide) (hta _ wk_21) (fun _ h9 => h9) rfl dX11_apart_1 ?_
  refine lv_iload_n hx hb dX11_apart_4 rfl (lv_at hl 1 rfl) ?_
  obtain ⟨x_19, x_20, hf_18, hx_19, hx_20⟩ := (show tp_o_TEXTS L K (8) 0 (Γ (13, 8, 0)) (f x_5) from hI0.at hx_5)
  refine tl_sq (tq_rVN hN (As := [.int p0]) (rest := []) ⟨hx, hb, hml, hown, hta⟩ (tp_P.pre hK hN hL hU hI hP) (tp_recv hK hP hx_5.1 hf_18 rfl) lk_X11_201 (t_X8_at l D cy s.heap.size L K Γ f 8 x_5 p0 hx_5 (by first | omega | (simp only [Int32.toInt_toInt64]; omega) | decide | assumption)) rfl rfl ⟨Nat.le_of_ble_eq_true rfl, Nat.le_of_ble_eq_true rfl⟩ rfl hl.1 rfl (Nat.le_of_ble_eq_true rfl) dX11_apart_5 ⟨Nat.le_of_ble_eq_true rfl, Nat.le_of_ble_eq_true rfl⟩) (fun r_22 hw_21 => ?_)
  rcases r_22 with _ | b_23
  · refine W.eq (g2 := F0 m 8 ls ([.null])) (by rfl) ?_
    refine lv_ifnullN (tgt := 34) hx hb dX11_apart_8 (by decide) ?_
    refine lv_iconst (v := (-1)) hx hb dX11_apart_34 (by decide) ?_
    exact W.iret (v := (-1)) hx hb hr (fun t ht hW => ⟨⟨_, f, rfl, trivial, by rw [ht]; exact hP, hI, hfr⟩, hS.F ht⟩) hS.2.2 dX11_apart_35
  · have hb_23 := hw_21 _ rfl
    have hb_23 : tp_r L K 18 (0) 0 b_23 := hb_23
    refine W.eq (g2 := F0 m 8 ls ([.ref b_23])) (by rfl) ?_
    refine lv_ifnull hx hb dX11_apart_8 ?_
    refine lv_aload_n hx hb dX11_apart_11 rfl (lv_at hl 0 rfl) ?_
    refine tp_get (cy := cy) (ci := 11) (v := .ref x_5) (C := RX11) (T := TX11) (N := 16) hx hb hta inlX11 hown hK hP ho.1 hf_1 rfl 3 (by decide) (hta _ wk_21) (fun _ h9 => h9) rfl dX11_apart_12 ?_
    refine lv_iload_n hx hb dX11_apart_15 rfl (lv_at hl 2 rfl) ?_
    refine tl_sq (tq_rVN hN (As := [.int p1]) (rest := []) ⟨hx, hb, hml, hown, hta⟩ (tp_P.pre hK hN hL hU hI hP) (tp_recv hK hP hx_5.1 hf_18 rfl) lk_X11_201 (t_X8_at l D cy s.heap.size L K Γ f 8 x_5 p1 hx_5 (by first | omega | (simp only [Int32.toInt_toInt64]; omega) | decide | assumption)) rfl rfl ⟨Nat.le_of_ble_eq_true rfl, Nat.le_of_ble_eq_true rfl⟩ rfl hl.1 rfl (Nat.le_of_ble_eq_true rfl) dX11_apart_16 ⟨Nat.le_of_ble_eq_true rfl, Nat.le_of_ble_eq_true rfl⟩) (fun r_25 hw_24 => ?_)
    rcases r_25 with _ | b_26
    · refine W.eq (g2 := F0 m 19 ls ([.null])) (by rfl) ?_
      refine lv_ifnullN (tgt := 34) hx hb dX11_apart_19 (by decide) ?_
      refine lv_iconst (v := (-1)) hx hb dX11_apart_34 (by decide) ?_
      exact W.iret (v := (-1)) hx hb hr (fun t ht hW => ⟨⟨_, f, rfl, trivial, by rw [ht]; exact hP, hI, hfr⟩, hS.F ht⟩) hS.2.2 dX11_apart_35
    · have hb_26 := hw_24 _ rfl
      have hb_26 : tp_r L K 18 (0) 0 b_26 := hb_26
      refine W.eq (g2 := F0 m 19 ls ([.ref b_26])) (by rfl) ?_
      refine lv_ifnull hx hb dX11_apart_19 ?_
      refine lv_iload_n hx hb dX11_apart_22 rfl (lv_at hl 1 rfl) ?_
      refine lv_iload_n hx hb dX11_apart_23 rfl (lv_at hl 2 rfl) ?_
      refine lv_icmp_eq (tgt := 34) hx hb dX11_apart_24 (by decide) (fun c_27 => ?_) (fun c_27 => ?_)
      · have c_27 : p0.toInt = p1.toInt := tl_eq c_27
        refine lv_iconst (v := (-1)) hx hb dX11_apart_34 (by decide) ?_
        exact W.iret (v := (-1)) hx hb hr (fun t ht hW => ⟨⟨_, f, rfl, trivial, by rw [ht]; exact hP, hI, hfr⟩, hS.F ht⟩) hS.2.2 dX11_apart_35
      · have c_27 : ¬ p0.toInt = p1.toInt := tl_neq c_27
        refine lv_iload_n hx hb dX11_apart_27 rfl (lv_at hl 3 rfl) ?_
        refine tl_si (tq_rS (As := [.int p2]) (rest := []) ⟨hx, hb, hml, hown, hta⟩ (tp_P.pre hK hN hL hU hI hP) lk_X11_336 (t_X11_isBar l D cy s.heap.size L K Γ f p2 ) rfl rfl ⟨Nat.le_of_ble_eq_true rfl, Nat.le_of_ble_eq_true rfl⟩ rfl hl.1 rfl (Nat.le_of_ble_eq_true rfl) dX11_apart_28 ⟨Nat.le_of_ble_eq_true rfl, Nat.le_of_ble_eq_true rfl⟩) (fun r_29 hw_28 => ?_)
        have hw_28 : tl_E r_29 (-999999 ≤ p2.toInt ∧ p2.toInt ≤ 999999) 1 0 := hw_28
        refine lv_if_ne (tgt := 36) hx hb dX11_apart_31 (by decide) (fun c_30 => ?_) (fun c_30 => ?_)
        · have c_30 := hw_28.t c_30
          refine lv_iconst (v := 0) hx hb dX11_apart_36 (by decide) ?_
          refine lv_istore (lv' := [(4, .int 0), (0, .ref o), (1, .int p0), (2, .int p1), (3, .int p2)]) hx hb dX11_apart_37 hl (by decide) rfl (fun ls hl => ?_)
          refine lv_iconst (v := 0) hx hb dX11_apart_39 (by decide) ?_
          refine lv_istore (lv' := [(5, .int 0), (4, .int 0), (0, .ref o), (1, .int p0), (2, .int p1), (3, .int p2)]) hx hb dX11_apart_40 hl (by decide) rfl (fun ls hl => ?_)
          refine tq_start hP hS (fun H locs hP hS => ?_)
          refine tl_ind (G := fun H locs ls => W p l e ((headSpec (tl_w yX11_apart cX11_apart 8 (some .int)) ({ frames := 5, cells := 0, slots := 0, locals := 113 })).room) s m #[.ref o, .int p0, .int p1, .int p2] below meth c H locs 0 0 (MQ below (va_Qi (fun (r : Int32) (u : Nat → va_E) => True) (tp_B D cy L K Γ f [28, 29, 23, 24, 27, 30, 31, 32]) A) #[.ref o, .int p0, .int p1, .int p2] s 0 0 A) (F0 m 42 ls [])) (α := (Nat → va_E) × Int32 × Int32) (fun aq => (24 - aq.2.1.toInt).toNat) (fun aq H locs ls => (0 ≤ aq.2.1.toInt) ∧ (aq.2.1.toInt ≤ 24) ∧ va_P D vwCl (va_pl L aq.1) H ∧ tp_I cy L K Γ aq.1 ∧ (∀ b, (K b).1 ∉ ([28, 29, 23, 24, 27, 30, 31, 32] : List Nat) → aq.1 b = f b) ∧ va_S A s.heap H locs ∧ lv_has ls 8 [(5, .int aq.2.1), (4, .int aq.2.2), (0, .ref o), (1, .int p0), (2, .int p1), (3, .int p2)]) ?_ (f, (0 : Int32), (0 : Int32)) H locs ls ⟨(show 0 ≤ (0 : Int) from (by omega)), (show (0 : Int) ≤ 24 from (by omega)), hP, hI, hfr, hS, lv_sub hl [0, 1, 2, 3, 4, 5] rfl⟩
          rintro ⟨f_31, v5, v4⟩ H locs ls ⟨h0, h1, hP, hI, hfr, hS, hl⟩ ih42
          have hP : va_P D vwCl (va_pl L f_31) H := hP
          have hI : tp_I cy L K Γ f_31 := hI
          have hfr : ∀ b, (K b).1 ∉ ([28, 29, 23, 24, 27, 30, 31, 32] : List Nat) → f_31 b = f b := hfr
          have hD : va_D A (va_pl L f_31) := tp_D hL hAL
          have h0 : 0 ≤ v5.toInt := h0
          have h1 : v5.toInt ≤ 24 := h1
          have hl : lv_has ls 8 [(5, .int v5), (4, .int v4), (0, .ref o), (1, .int p0), (2, .int p1), (3, .int p2)] := hl
          refine lv_iload hx hb dX11_apart_42 (lv_at hl 0 rfl) ?_
          refine lv_aload_n hx hb dX11_apart_44 rfl (lv_at hl 2 rfl) ?_
          refine tp_get (cy := cy) (ci := 11) (v := .ref x_2) (C := RX11) (T := TX11) (N := 16) hx hb hta inlX11 hown hK hP ho.1 ((tp_un hfr ho (by decide)).trans hf_1) rfl 0 (by decide) (hta _ wk_15) (fun _ h9 => h9) rfl dX11_apart_45 ?_
          obtain ⟨x_33, x_34, x_35, x_36, x_37, x_38, x_39, x_40, x_41, hf_32, hx_33, hx_34, hx_35, hx_36, hx_37, hx_38, hx_39, hx_40, hx_41⟩ := (show tp_o_BOOK L K (0) 0 (Γ (1, 0, 0)) (f x_2) from hI0.at hx_2)
          refine tp_getN (cy := cy) (ci := 0) (v := .ref x_35) (C := RX0) (T := TX0) (N := 9) hx hb hta inlX0 hown hK hP hx_2.1 ((tp_un hfr hx_2 (by decide)).trans hf_32) rfl 2 (by decide) (va_Nw.use rfl (hN.1 20 _ nk_20)) (fun _ h9 => h9) rfl dX11_apart_48 ?_
          obtain ⟨x_43, x_44, x_45, x_46, x_47, x_48, hf_42, hx_43, hx_45, hx_46, hx_47, hx_48⟩ := (show tp_o_ROWS L K (0) 0 (Γ (3, 0, 0)) (f x_35) from hI0.at hx_35)
          refine tp_getN (cy := cy) (ci := 4) (v := .int x_43) (C := RX4) (T := TX4) (N := 6) hx hb hta inlX4 hown hK hP hx_35.1 ((tp_un hfr hx_35 (by decide)).trans hf_42) rfl 0 (by decide) (va_Nw.use rfl (hN.1 2 _ nk_2)) (fun _ h9 => h9) rfl dX11_apart_51 ?_
          refine lv_icmp_ge (tgt := 140) hx hb dX11_apart_54 (by decide) (fun c_49 => ?_) (fun c_49 => ?_)
          · have c_49 : x_43.toInt ≤ v5.toInt := tl_le c_49
            refine lv_iload hx hb dX11_apart_140 (lv_at hl 1 rfl) ?_
            exact W.iret (v := v4) hx hb hr (fun t ht hW => ⟨⟨_, f_31, rfl, trivial, by rw [ht]; exact hP, hI, hfr⟩, hS.F ht⟩) hS.2.2 dX11_apart_142
          · have c_49 : v5.toInt < x_43.toInt := tl_nle c_49
            refine lv_aload_n hx hb dX11_apart_57 rfl (lv_at hl 2 rfl) ?_
            refine lv_iload_n hx hb dX11_apart_58 rfl (lv_at hl 3 rfl) ?_
            refine lv_iload hx hb dX11_apart_59 (lv_at hl 0 rfl) ?_
            refine lv_iconst (v := (-1)) hx hb dX11_apart_61 (by decide) ?_
            refine tq_ci hS (hAf _ hS.1) (tq_rV (As := [.int p0, .int v5, .int (-1)]) (rest := []) ⟨hx, hb, hml, hown, hta⟩ (tp_P.pre hK hN hL hU hI hP) (tp_recv hK hP ho.1 ((tp_un hfr ho (by decide)).trans hf_1) rfl) lk_X11_246 (t_X11_look l D cy H.size L K Γ f_31 o p0 v5 (-1) ho) rfl rfl ⟨Nat.le_of_ble_eq_true rfl, Nat.le_of_ble_eq_true rfl⟩ rfl hl.1 rfl (Nat.le_of_ble_eq_true rfl) dX11_apart_62 ⟨Nat.le_of_ble_eq_true rfl, Nat.le_of_ble_eq_true rfl⟩) (fun r_51 f_52 H locs hw_50 hP hI hc_53 hS => ?_)
            have hD : va_D A (va_pl L f_52) := tp_D hL hAL
            have hfr := tp_fr2 hfr hc_53 (by decide)
            have hw_50 : tl_J r_51 (tv_gx f_31 f_52 o) := hw_50
            refine lv_if_eq (tgt := 84) hx hb dX11_apart_65 (by decide) (fun c_54 => ?_) (fun c_54 => ?_)
            · have c_54 := c_54
              refine lv_iconst (v := 0) hx hb dX11_apart_84 (by decide) ?_
              refine lv_istore (lv' := [(6, .int 0), (5, .int v5), (4, .int v4), (0, .ref o), (1, .int p0), (2, .int p1), (3, .int p2)]) hx hb dX11_apart_85 hl (by decide) rfl (fun ls hl => ?_)
              refine lv_aload_n hx hb dX11_apart_87 rfl (lv_at hl 3 rfl) ?_
              refine lv_iload_n hx hb dX11_apart_88 rfl (lv_at hl 5 rfl) ?_
              refine lv_iload hx hb dX11_apart_89 (lv_at hl 1 rfl) ?_
              refine lv_iconst (v := (-1)) hx hb dX11_apart_91 (by decide) ?_
              refine tq_ci hS (hAf _ hS.1) (tq_rV (As := [.int p1, .int v5, .int (-1)]) (rest := []) ⟨hx, hb, hml, hown, hta⟩ (tp_P.pre hK hN hL hU hI hP) (tp_recv hK hP ho.1 ((tp_un hfr ho (by decide)).trans hf_1) rfl) lk_X11_246 (t_X11_look l D cy H.size L K Γ f_52 o p1 v5 (-1) ho) rfl rfl ⟨Nat.le_of_ble_eq_true rfl, Nat.le_of_ble_eq_true rfl⟩ rfl hl.1 rfl (Nat.le_of_ble_eq_true rfl) dX11_apart_92 ⟨Nat.le_of_ble_eq_true rfl, Nat.le_of_ble_eq_true rfl⟩) (fun r_56 f_57 H locs hw_55 hP hI hc_58 hS => ?_)
              have hD : va_D A (va_pl L f_57) := tp_D hL hAL
              have hfr := tp_fr2 hfr hc_58 (by decide)
              have hw_55 : tl_J r_56 (tv_gx f_52 f_57 o) := hw_55
              refine lv_if_eq (tgt := 114) hx hb dX11_apart_95 (by decide) (fun c_59 => ?_) (fun c_59 => ?_)
              · have c_59 := c_59
                refine lv_iconst (v := 0) hx hb dX11_apart_114 (by decide) ?_
                refine lv_istore (lv' := [(7, .int 0), (6, .int 0), (5, .int v5), (4, .int v4), (0, .ref o), (1, .int p0), (2, .int p1), (3, .int p2)]) hx hb dX11_apart_115 hl (by decide) rfl (fun ls hl => ?_)
                refine lv_iload hx hb dX11_apart_117 (lv_at hl 3 rfl) ?_
                refine lv_iload hx hb dX11_apart_119 (lv_at hl 1 rfl) ?_
                refine lv_iload hx hb dX11_apart_121 (lv_at hl 0 rfl) ?_
                refine lv_icmp_eq (tgt := 130) hx hb dX11_apart_123 (by decide) (fun _ => ?_) (fun c => absurd c (by decide))
                refine lv_iconst (v := 0) hx hb dX11_apart_130 (by decide) ?_
                refine lv_iadd hx hb dX11_apart_131 ?_
                refine lv_topi (fun z_60 ez_60 => ?_)
                try have iz_60 : z_60.toInt = v4.toInt + (0 : Int) := by rw [ez_60]; exact tl_addN v4 0 rfl rfl (by omega) (by omega)
                refine lv_istore (lv' := [(4, .int z_60), (7, .int 0), (6, .int 0), (5, .int v5), (0, .ref o), (1, .int p0), (2, .int p1), (3, .int p2)]) hx hb dX11_apart_132 hl (by decide) rfl (fun ls hl => ?_)
                obtain ⟨z_61, ez_61⟩ : ∃ y : Int32, y = v5 + 1 := ⟨_, rfl⟩
                refine lv_iinc (v := z_61) (lv' := [(5, .int z_61), (4, .int z_60), (7, .int 0), (6, .int 0), (0, .ref o), (1, .int p0), (2, .int p1), (3, .int p2)]) hx hb dX11_apart_134 hl (k := 3) rfl (by rw [ez_61]; rfl) (by decide) rfl (fun ls hl => ?_)
                try have iz_61 : z_61.toInt = v5.toInt + 1 := by rw [ez_61]; exact tl_addL v5 1 (by decide) (by omega) (by omega)
                refine lv_goto (tgt := 42) hx hb dX11_apart_137 (by decide) ?_
                exact ih42 (f_57, z_61, z_60) H locs ls (by show (24 - z_61.toInt).toNat < (24 - v5.toInt).toNat; omega) ⟨(show 0 ≤ z_61.toInt from (by omega)), (show z_61.toInt ≤ 24 from (by omega)), hP, hI, hfr, hS, lv_sub hl [0, 1, 4, 5, 6, 7] rfl⟩
              · have c_59 := hw_55.t c_59
                refine lv_aload_n hx hb dX11_apart_98 rfl (lv_at hl 3 rfl) ?_
                refine tp_get (cy := cy) (ci := 11) (v := .ref x_11) (C := RX11) (T := TX11) (N := 16) hx hb hta inlX11 hown hK hP ho.1 ((tp_un hfr ho (by decide)).trans hf_1) rfl 9 (by decide) (hta _ wk_42) (fun _ h9 => h9) rfl dX11_apart_99 ?_
                refine lv_iload_n hx hb dX11_apart_102 rfl (lv_at hl 6 rfl) ?_
                refine lv_i2l (v := p2.toInt64) hx hb dX11_apart_103 (by first | rfl | decide) ?_
                obtain ⟨x_63, x_64, x_65, x_66, x_67, x_68, x_69, x_70, x_71, x_72, x_73, x_74, x_75, x_76, x_77, x_78, x_79, x_80, hf_62, hx_63, hx_64, hx_65, hx_66, hx_67, hx_68, hx_69, hx_70, hx_71, hx_73, hx_76⟩ := (show tp_o_VIEW L K (0) 0 (Γ (27, 0, 0)) (f_57 x_11) from hI.at hx_11)
                refine tl_si (tq_rVN hN (As := [.long p2.toInt64]) (rest := []) ⟨hx, hb, hml, hown, hta⟩ (tp_P.pre hK hN hL hU hI hP) (tp_recv hK hP hx_11.1 hf_62 rfl) lk_X11_300 (t_X10_isNotBelow l D cy H.size L K Γ f_57 x_11 p2.toInt64 hx_11) rfl rfl ⟨Nat.le_of_ble_eq_true rfl, Nat.le_of_ble_eq_true rfl⟩ rfl hl.1 rfl (Nat.le_of_ble_eq_true rfl) dX11_apart_104 ⟨Nat.le_of_ble_eq_true rfl, Nat.le_of_ble_eq_true rfl⟩) (fun r_82 hw_81 => ?_)
                have hw_81 : tl_J r_82 (True) := hw_81
                refine lv_if_eq (tgt := 114) hx hb dX11_apart_107 (by decide) (fun c_83 => ?_) (fun c_83 => ?_)
                · have c_83 := c_83
                  refine lv_iconst (v := 0) hx hb dX11_apart_114 (by decide) ?_
                  refine lv_istore (lv' := [(7, .int 0), (6, .int 0), (5, .int v5), (4, .int v4), (0, .ref o), (1, .int p0), (2, .int p1), (3, .int p2)]) hx hb dX11_apart_115 hl (by decide) rfl (fun ls hl => ?_)
                  refine lv_iload hx hb dX11_apart_117 (lv_at hl 3 rfl) ?_
                  refine lv_iload hx hb dX11_apart_119 (lv_at hl 1 rfl) ?_
                  refine lv_iload hx hb dX11_apart_121 (lv_at hl 0 rfl) ?_
                  refine lv_icmp_eq (tgt := 130) hx hb dX11_apart_123 (by decide) (fun _ => ?_) (fun c => absurd c (by decide))
                  refine lv_iconst (v := 0) hx hb dX11_apart_130 (by decide) ?_
                  refine lv_iadd hx hb dX11_apart_131 ?_
                  refine lv_topi (fun z_84 ez_84 => ?_)
                  try have iz_84 : z_84.toInt = v4.toInt + (0 : Int) := by rw [ez_84]; exact tl_addN v4 0 rfl rfl (by omega) (by omega)
                  refine lv_istore (lv' := [(4, .int z_84), (7, .int 0), (6, .int 0), (5, .int v5), (0, .ref o), (1, .int p0), (2, .int p1), (3, .int p2)]) hx hb dX11_apart_132 hl (by decide) rfl (fun ls hl => ?_)
                  obtain ⟨z_85, ez_85⟩ : ∃ y : Int32, y = v5 + 1 := ⟨_, rfl⟩
                  refine lv_iinc (v := z_85) (lv' := [(5, .int z_85), (4, .int z_84), (7, .int 0), (6, .int 0), (0, .ref o), (1, .int p0), (2, .int p1), (3, .int p2)]) hx hb dX11_apart_134 hl (k := 3) rfl (by rw [ez_85]; rfl) (by decide) rfl (fun ls hl => ?_)
                  try have iz_85 : z_85.toInt = v5.toInt + 1 := by rw [ez_85]; exact tl_addL v5 1 (by decide) (by omega) (by omega)
                  refine lv_goto (tgt := 42) hx hb dX11_apart_137 (by decide) ?_
                  exact ih42 (f_57, z_85, z_84) H locs ls (by show (24 - z_85.toInt).toNat < (24 - v5.toInt).toNat; omega) ⟨(show 0 ≤ z_85.toInt from (by omega)), (show z_85.toInt ≤ 24 from (by omega)), hP, hI, hfr, hS, lv_sub hl [0, 1, 4, 5, 6, 7] rfl⟩
                · have c_83 := hw_81.t c_83
                  refine lv_iconst (v := 1) hx hb dX11_apart_110 (by decide) ?_
                  refine lv_goto (tgt := 115) hx hb dX11_apart_111 (by decide) ?_
                  refine lv_istore (lv' := [(7, .int 1), (6, .int 0), (5, .int v5), (4, .int v4), (0, .ref o), (1, .int p0), (2, .int p1), (3, .int p2)]) hx hb dX11_apart_115 hl (by decide) rfl (fun ls hl => ?_)
                  refine lv_iload hx hb dX11_apart_117 (lv_at hl 3 rfl) ?_
                  refine lv_iload hx hb dX11_apart_119 (lv_at hl 1 rfl) ?_
                  refine lv_iload hx hb dX11_apart_121 (lv_at hl 0 rfl) ?_
                  refine lv_icmp_eq (tgt := 130) hx hb dX11_apart_123 (by decide) (fun c => absurd c (by decide)) (fun _ => ?_)
                  refine lv_iconst (v := 1) hx hb dX11_apart_126 (by decide) ?_
                  refine lv_goto (tgt := 131) hx hb dX11_apart_127 (by decide) ?_
                  refine lv_iadd hx hb dX11_apart_131 ?_
                  refine lv_topi (fun z_86 ez_86 => ?_)
                  try have iz_86 : z_86.toInt = v4.toInt + (1 : Int) := by rw [ez_86]; exact tl_addN v4 1 rfl rfl (by omega) (by omega)
                  refine lv_istore (lv' := [(4, .int z_86), (7, .int 1), (6, .int 0), (5, .int v5), (0, .ref o), (1, .int p0), (2, .int p1), (3, .int p2)]) hx hb dX11_apart_132 hl (by decide) rfl (fun ls hl => ?_)
                  obtain ⟨z_87, ez_87⟩ : ∃ y : Int32, y = v5 + 1 := ⟨_, rfl⟩
                  refine lv_iinc (v := z_87) (lv' := [(5, .int z_87), (4, .int z_86), (7, .int 1), (6, .int 0), (0, .ref o), (1, .int p0), (2, .int p1), (3, .int p2)]) hx hb dX11_apart_134 hl (k := 3) rfl (by rw [ez_87]; rfl) (by decide) rfl (fun ls hl => ?_)
                  try have iz_87 : z_87.toInt = v5.toInt + 1 := by rw [ez_87]; exact tl_addL v5 1 (by decide) (by omega) (by omega)
                  refine lv_goto (tgt := 42) hx hb dX11_apart_137 (by decide) ?_
                  exact ih42 (f_57, z_87, z_86) H locs ls (by show (24 - z_87.toInt).toNat < (24 - v5.toInt).toNat; omega) ⟨(show 0 ≤ z_87.toInt from (by omega)), (show z_87.toInt ≤ 24 from (by omega)), hP, hI, hfr, hS, lv_sub hl [0, 1, 4, 5, 6, 7] rfl⟩
            · have c_54 := hw_50.t c_54
              refine lv_aload_n hx hb dX11_apart_68 rfl (lv_at hl 2 rfl) ?_
              refine tp_get (cy := cy) (ci := 11) (v := .ref x_11) (C := RX11) (T := TX11) (N := 16) hx hb hta inlX11 hown hK hP ho.1 ((tp_un hfr ho (by decide)).trans hf_1) rfl 9 (by decide) (hta _ wk_42) (fun _ h9 => h9) rfl dX11_apart_69 ?_
              refine lv_iload_n hx hb dX11_apart_72 rfl (lv_at hl 5 rfl) ?_
              refine lv_i2l (v := p2.toInt64) hx hb dX11_apart_73 (by first | rfl | decide) ?_
              obtain ⟨x_89, x_90, x_91, x_92, x_93, x_94, x_95, x_96, x_97, x_98, x_99, x_100, x_101, x_102, x_103, x_104, x_105, x_106, hf_88, hx_89, hx_90, hx_91, hx_92, hx_93, hx_94, hx_95, hx_96, hx_97, hx_99, hx_102⟩ := (show tp_o_VIEW L K (0) 0 (Γ (27, 0, 0)) (f_52 x_11) from hI.at hx_11)
              refine tl_si (tq_rVN hN (As := [.long p2.toInt64]) (rest := []) ⟨hx, hb, hml, hown, hta⟩ (tp_P.pre hK hN hL hU hI hP) (tp_recv hK hP hx_11.1 hf_88 rfl) lk_X11_300 (t_X10_isNotBelow l D cy H.size L K Γ f_52 x_11 p2.toInt64 hx_11) rfl rfl ⟨Nat.le_of_ble_eq_true rfl, Nat.le_of_ble_eq_true rfl⟩ rfl hl.1 rfl (Nat.le_of_ble_eq_true rfl) dX11_apart_74 ⟨Nat.le_of_ble_eq_true rfl, Nat.le_of_ble_eq_true rfl⟩) (fun r_108 hw_107 => ?_)
              have hw_107 : tl_J r_108 (True) := hw_107
              refine lv_if_eq (tgt := 84) hx hb dX11_apart_77 (by decide) (fun c_109 => ?_) (fun c_109 => ?_)
              · have c_109 := c_109
                refine lv_iconst (v := 0) hx hb dX11_apart_84 (by decide) ?_
                refine lv_istore (lv' := [(6, .int 0), (5, .int v5), (4, .int v4), (0, .ref o), (1, .int p0), (2, .int p1), (3, .int p2)]) hx hb dX11_apart_85 hl (by decide) rfl (fun ls hl => ?_)
                refine lv_aload_n hx hb dX11_apart_87 rfl (lv_at hl 3 rfl) ?_
                refine lv_iload_n hx hb dX11_apart_88 rfl (lv_at hl 5 rfl) ?_
                refine lv_iload hx hb dX11_apart_89 (lv_at hl 1 rfl) ?_
                refine lv_iconst (v := (-1)) hx hb dX11_apart_91 (by decide) ?_
                refine tq_ci hS (hAf _ hS.1) (tq_rV (As := [.int p1, .int v5, .int (-1)]) (rest := []) ⟨hx, hb, hml, hown, hta⟩ (tp_P.pre hK hN hL hU hI hP) (tp_recv hK hP ho.1 ((tp_un hfr ho (by decide)).trans hf_1) rfl) lk_X11_246 (t_X11_look l D cy H.size L K Γ f_52 o p1 v5 (-1) ho) rfl rfl ⟨Nat.le_of_ble_eq_true rfl, Nat.le_of_ble_eq_true rfl⟩ rfl hl.1 rfl (Nat.le_of_ble_eq_true rfl) dX11_apart_92 ⟨Nat.le_of_ble_eq_true rfl, Nat.le_of_ble_eq_true rfl⟩) (fun r_111 f_112 H locs hw_110 hP hI hc_113 hS => ?_)
                have hD : va_D A (va_pl L f_112) := tp_D hL hAL
                have hfr := tp_fr2 hfr hc_113 (by decide)
                have hw_110 : tl_J r_111 (tv_gx f_52 f_112 o) := hw_110
                refine lv_if_eq (tgt := 114) hx hb dX11_apart_95 (by decide) (fun c_114 => ?_) (fun c_114 => ?_)
                · have c_114 := c_114
                  refine lv_iconst (v := 0) hx hb dX11_apart_114 (by decide) ?_
                  refine lv_istore (lv' := [(7, .int 0), (6, .int 0), (5, .int v5), (4, .int v4), (0, .ref o), (1, .int p0), (2, .int p1), (3, .int p2)]) hx hb dX11_apart_115 hl (by decide) rfl (fun ls hl => ?_)
                  refine lv_iload hx hb dX11_apart_117 (lv_at hl 3 rfl) ?_
                  refine lv_iload hx hb dX11_apart_119 (lv_at hl 1 rfl) ?_
                  refine lv_iload hx hb dX11_apart_121 (lv_at hl 0 rfl) ?_
                  refine lv_icmp_eq (tgt := 130) hx hb dX11_apart_123 (by decide) (fun _ => ?_) (fun c => absurd c (by decide))
                  refine lv_iconst (v := 0) hx hb dX11_apart_130 (by decide) ?_
                  refine lv_iadd hx hb dX11_apart_131 ?_
                  refine lv_topi (fun z_115 ez_115 => ?_)
                  try have iz_115 : z_115.toInt = v4.toInt + (0 : Int) := by rw [ez_115]; exact tl_addN v4 0 rfl rfl (by omega) (by omega)
                  refine lv_istore (lv' := [(4, .int z_115), (7, .int 0), (6, .int 0), (5, .int v5), (0, .ref o), (1, .int p0), (2, .int p1), (3, .int p2)]) hx hb dX11_apart_132 hl (by decide) rfl (fun ls hl => ?_)
                  obtain ⟨z_116, ez_116⟩ : ∃ y : Int32, y = v5 + 1 := ⟨_, rfl⟩
                  refine lv_iinc (v := z_116) (lv' := [(5, .int z_116), (4, .int z_115), (7, .int 0), (6, .int 0), (0, .ref o), (1, .int p0), (2, .int p1), (3, .int p2)]) hx hb dX11_apart_134 hl (k := 3) rfl (by rw [ez_116]; rfl) (by decide) rfl (fun ls hl => ?_)
                  try have iz_116 : z_116.toInt = v5.toInt + 1 := by rw [ez_116]; exact tl_addL v5 1 (by decide) (by omega) (by omega)
                  refine lv_goto (tgt := 42) hx hb dX11_apart_137 (by decide) ?_
                  exact ih42 (f_112, z_116, z_115) H locs ls (by show (24 - z_116.toInt).toNat < (24 - v5.toInt).toNat; omega) ⟨(show 0 ≤ z_116.toInt from (by omega)), (show z_116.toInt ≤ 24 from (by omega)), hP, hI, hfr, hS, lv_sub hl [0, 1, 4, 5, 6, 7] rfl⟩
                · have c_114 := hw_110.t c_114
                  refine lv_aload_n hx hb dX11_apart_98 rfl (lv_at hl 3 rfl) ?_
                  refine tp_get (cy := cy) (ci := 11) (v := .ref x_11) (C := RX11) (T := TX11) (N := 16) hx hb hta inlX11 hown hK hP ho.1 ((tp_un hfr ho (by decide)).trans hf_1) rfl 9 (by decide) (hta _ wk_42) (fun _ h9 => h9) rfl dX11_apart_99 ?_
                  refine lv_iload_n hx hb dX11_apart_102 rfl (lv_at hl 6 rfl) ?_
                  refine lv_i2l (v := p2.toInt64) hx hb dX11_apart_103 (by first | rfl | decide) ?_
                  obtain ⟨x_118, x_119, x_120, x_121, x_122, x_123, x_124, x_125, x_126, x_127, x_128, x_129, x_130, x_131, x_132, x_133, x_134, x_135, hf_117, hx_118, hx_119, hx_120, hx_121, hx_122, hx_123, hx_124, hx_125, hx_126, hx_128, hx_131⟩ := (show tp_o_VIEW L K (0) 0 (Γ (27, 0, 0)) (f_112 x_11) from hI.at hx_11)
                  refine tl_si (tq_rVN hN (As := [.long p2.toInt64]) (rest := []) ⟨hx, hb, hml, hown, hta⟩ (tp_P.pre hK hN hL hU hI hP) (tp_recv hK hP hx_11.1 hf_117 rfl) lk_X11_300 (t_X10_isNotBelow l D cy H.size L K Γ f_112 x_11 p2.toInt64 hx_11) rfl rfl ⟨Nat.le_of_ble_eq_true rfl, Nat.le_of_ble_eq_true rfl⟩ rfl hl.1 rfl (Nat.le_of_ble_eq_true rfl) dX11_apart_104 ⟨Nat.le_of_ble_eq_true rfl, Nat.le_of_ble_eq_true rfl⟩) (fun r_137 hw_136 => ?_)
                  have hw_136 : tl_J r_137 (True) := hw_136
                  refine lv_if_eq (tgt := 114) hx hb dX11_apart_107 (by decide) (fun c_138 => ?_) (fun c_138 => ?_)
                  · have c_138 := c_138
                    refine lv_iconst (v := 0) hx hb dX11_apart_114 (by decide) ?_
                    refine lv_istore (lv' := [(7, .int 0), (6, .int 0), (5, .int v5), (4, .int v4), (0, .ref o), (1, .int p0), (2, .int p1), (3, .int p2)]) hx hb dX11_apart_115 hl (by decide) rfl (fun ls hl => ?_)
                    refine lv_iload hx hb dX11_apart_117 (lv_at hl 3 rfl) ?_
                    refine lv_iload hx hb dX11_apart_119 (lv_at hl 1 rfl) ?_
                    refine lv_iload hx hb dX11_apart_121 (lv_at hl 0 rfl) ?_
                    refine lv_icmp_eq (tgt := 130) hx hb dX11_apart_123 (by decide) (fun _ => ?_) (fun c => absurd c (by decide))
                    refine lv_iconst (v := 0) hx hb dX11_apart_130 (by decide) ?_
                    refine lv_iadd hx hb dX11_apart_131 ?_
                    refine lv_topi (fun z_139 ez_139 => ?_)
                    try have iz_139 : z_139.toInt = v4.toInt + (0 : Int) := by rw [ez_139]; exact tl_addN v4 0 rfl rfl (by omega) (by omega)
                    refine lv_istore (lv' := [(4, .int z_139), (7, .int 0), (6, .int 0), (5, .int v5), (0, .ref o), (1, .int p0), (2, .int p1), (3, .int p2)]) hx hb dX11_apart_132 hl (by decide) rfl (fun ls hl => ?_)
                    obtain ⟨z_140, ez_140⟩ : ∃ y : Int32, y = v5 + 1 := ⟨_, rfl⟩
                    refine lv_iinc (v := z_140) (lv' := [(5, .int z_140), (4, .int z_139), (7, .int 0), (6, .int 0), (0, .ref o), (1, .int p0), (2, .int p1), (3, .int p2)]) hx hb dX11_apart_134 hl (k := 3) rfl (by rw [ez_140]; rfl) (by decide) rfl (fun ls hl => ?_)
                    try have iz_140 : z_140.toInt = v5.toInt + 1 := by rw [ez_140]; exact tl_addL v5 1 (by decide) (by omega) (by omega)
                    refine lv_goto (tgt := 42) hx hb dX11_apart_137 (by decide) ?_
                    exact ih42 (f_112, z_140, z_139) H locs ls (by show (24 - z_140.toInt).toNat < (24 - v5.toInt).toNat; omega) ⟨(show 0 ≤ z_140.toInt from (by omega)), (show z_140.toInt ≤ 24 from (by omega)), hP, hI, hfr, hS, lv_sub hl [0, 1, 4, 5, 6, 7] rfl⟩
                  · have c_138 := hw_136.t c_138
                    refine lv_iconst (v := 1) hx hb dX11_apart_110 (by decide) ?_
                    refine lv_goto (tgt := 115) hx hb dX11_apart_111 (by decide) ?_
                    refine lv_istore (lv' := [(7, .int 1), (6, .int 0), (5, .int v5), (4, .int v4), (0, .ref o), (1, .int p0), (2, .int p1), (3, .int p2)]) hx hb dX11_apart_115 hl (by decide) rfl (fun ls hl => ?_)
                    refine lv_iload hx hb dX11_apart_117 (lv_at hl 3 rfl) ?_
                    refine lv_iload hx hb dX11_apart_119 (lv_at hl 1 rfl) ?_
                    refine lv_iload hx hb dX11_apart_121 (lv_at hl 0 rfl) ?_
                    refine lv_icmp_eq (tgt := 130) hx hb dX11_apart_123 (by decide) (fun c => absurd c (by decide)) (fun _ => ?_)
                    refine lv_iconst (v := 1) hx hb dX11_apart_126 (by decide) ?_
                    refine lv_goto (tgt := 131) hx hb dX11_apart_127 (by decide) ?_
                    refine lv_iadd hx hb dX11_apart_131 ?_
                    refine lv_topi (fun z_141 ez_141 => ?_)
                    try have iz_141 : z_141.toInt = v4.toInt + (1 : Int) := by rw [ez_141]; exact tl_addN v4 1 rfl rfl (by omega) (by omega)
                    refine lv_istore (lv' := [(4, .int z_141), (7, .int 1), (6, .int 0), (5, .int v5), (0, .ref o), (1, .int p0), (2, .int p1), (3, .int p2)]) hx hb dX11_apart_132 hl (by decide) rfl (fun ls hl => ?_)
                    obtain ⟨z_142, ez_142⟩ : ∃ y : Int32, y = v5 + 1 := ⟨_, rfl⟩
                    refine lv_iinc (v := z_142) (lv' := [(5, .int z_142), (4, .int z_141), (7, .int 1), (6, .int 0), (0, .ref o), (1, .int p0), (2, .int p1), (3, .int p2)]) hx hb dX11_apart_134 hl (k := 3) rfl (by rw [ez_142]; rfl) (by decide) rfl (fun ls hl => ?_)
                    try have iz_142 : z_142.toInt = v5.toInt + 1 := by rw [ez_142]; exact tl_addL v5 1 (by decide) (by omega) (by omega)
                    refine lv_goto (tgt := 42) hx hb dX11_apart_137 (by decide) ?_
                    exact ih42 (f_112, z_142, z_141) H locs ls (by show (24 - z_142.toInt).toNat < (24 - v5.toInt).toNat; omega) ⟨(show 0 ≤ z_142.toInt from (by omega)), (show z_142.toInt ≤ 24 from (by omega)), hP, hI, hfr, hS, lv_sub hl [0, 1, 4, 5, 6, 7] rfl⟩
              · have c_109 := hw_107.t c_109
                refine lv_iconst (v := 1) hx hb dX11_apart_80 (by decide) ?_
                refine lv_goto (tgt := 85) hx hb dX11_apart_81 (by decide) ?_
                refine lv_istore (lv' := [(6, .int 1), (5, .int v5), (4, .int v4), (0, .ref o), (1, .int p0), (2, .int p1), (3, .int p2)]) hx hb dX11_apart_85 hl (by decide) rfl (fun ls hl => ?_)
                refine lv_aload_n hx hb dX11_apart_87 rfl (lv_at hl 3 rfl) ?_
                refine lv_iload_n hx hb dX11_apart_88 rfl (lv_at hl 5 rfl) ?_
                refine lv_iload hx hb dX11_apart_89 (lv_at hl 1 rfl) ?_
                refine lv_iconst (v := (-1)) hx hb dX11_apart_91 (by decide) ?_
                refine tq_ci hS (hAf _ hS.1) (tq_rV (As := [.int p1, .int v5, .int (-1)]) (rest := []) ⟨hx, hb, hml, hown, hta⟩ (tp_P.pre hK hN hL hU hI hP) (tp_recv hK hP ho.1 ((tp_un hfr ho (by decide)).trans hf_1) rfl) lk_X11_246 (t_X11_look l D cy H.size L K Γ f_52 o p1 v5 (-1) ho) rfl rfl ⟨Nat.le_of_ble_eq_true rfl, Nat.le_of_ble_eq_true rfl⟩ rfl hl.1 rfl (Nat.le_of_ble_eq_true rfl) dX11_apart_92 ⟨Nat.le_of_ble_eq_true rfl, Nat.le_of_ble_eq_true rfl⟩) (fun r_144 f_145 H locs hw_143 hP hI hc_146 hS => ?_)
                have hD : va_D A (va_pl L f_145) := tp_D hL hAL
                have hfr := tp_fr2 hfr hc_146 (by decide)
                have hw_143 : tl_J r_144 (tv_gx f_52 f_145 o) := hw_143
                refine lv_if_eq (tgt := 114) hx hb dX11_apart_95 (by decide) (fun c_147 => ?_) (fun c_147 => ?_)
                · have c_147 := c_147
                  refine lv_iconst (v := 0) hx hb dX11_apart_114 (by decide) ?_
                  refine lv_istore (lv' := [(7, .int 0), (6, .int 1), (5, .int v5), (4, .int v4), (0, .ref o), (1, .int p0), (2, .int p1), (3, .int p2)]) hx hb dX11_apart_115 hl (by decide) rfl (fun ls hl => ?_)
                  refine lv_iload hx hb dX11_apart_117 (lv_at hl 3 rfl) ?_
                  refine lv_iload hx hb dX11_apart_119 (lv_at hl 1 rfl) ?_
                  refine lv_iload hx hb dX11_apart_121 (lv_at hl 0 rfl) ?_
                  refine lv_icmp_eq (tgt := 130) hx hb dX11_apart_123 (by decide) (fun c => absurd c (by decide)) (fun _ => ?_)
                  refine lv_iconst (v := 1) hx hb dX11_apart_126 (by decide) ?_
                  refine lv_goto (tgt := 131) hx hb dX11_apart_127 (by decide) ?_
                  refine lv_iadd hx hb dX11_apart_131 ?_
                  refine lv_topi (fun z_148 ez_148 => ?_)
                  try have iz_148 : z_148.toInt = v4.toInt + (1 : Int) := by rw [ez_148]; exact tl_addN v4 1 rfl rfl (by omega) (by omega)
                  refine lv_istore (lv' := [(4, .int z_148), (7, .int 0), (6, .int 1), (5, .int v5), (0, .ref o), (1, .int p0), (2, .int p1), (3, .int p2)]) hx hb dX11_apart_132 hl (by decide) rfl (fun ls hl => ?_)
                  obtain ⟨z_149, ez_149⟩ : ∃ y : Int32, y = v5 + 1 := ⟨_, rfl⟩
                  refine lv_iinc (v := z_149) (lv' := [(5, .int z_149), (4, .int z_148), (7, .int 0), (6, .int 1), (0, .ref o), (1, .int p0), (2, .int p1), (3, .int p2)]) hx hb dX11_apart_134 hl (k := 3) rfl (by rw [ez_149]; rfl) (by decide) rfl (fun ls hl => ?_)
                  try have iz_149 : z_149.toInt = v5.toInt + 1 := by rw [ez_149]; exact tl_addL v5 1 (by decide) (by omega) (by omega)
                  refine lv_goto (tgt := 42) hx hb dX11_apart_137 (by decide) ?_
                  exact ih42 (f_145, z_149, z_148) H locs ls (by show (24 - z_149.toInt).toNat < (24 - v5.toInt).toNat; omega) ⟨(show 0 ≤ z_149.toInt from (by omega)), (show z_149.toInt ≤ 24 from (by omega)), hP, hI, hfr, hS, lv_sub hl [0, 1, 4, 5, 6, 7] rfl⟩
                · have c_147 := hw_143.t c_147
                  refine lv_aload_n hx hb dX11_apart_98 rfl (lv_at hl 3 rfl) ?_
                  refine tp_get (cy := cy) (ci := 11) (v := .ref x_11) (C := RX11) (T := TX11) (N := 16) hx hb hta inlX11 hown hK hP ho.1 ((tp_un hfr ho (by decide)).trans hf_1) rfl 9 (by decide) (hta _ wk_42) (fun _ h9 => h9) rfl dX11_apart_99 ?_
                  refine lv_iload_n hx hb dX11_apart_102 rfl (lv_at hl 6 rfl) ?_
                  refine lv_i2l (v := p2.toInt64) hx hb dX11_apart_103 (by first | rfl | decide) ?_
                  obtain ⟨x_151, x_152, x_153, x_154, x_155, x_156, x_157, x_158, x_159, x_160, x_161, x_162, x_163, x_164, x_165, x_166, x_167, x_168, hf_150, hx_151, hx_152, hx_153, hx_154, hx_155, hx_156, hx_157, hx_158, hx_159, hx_161, hx_164⟩ := (show tp_o_VIEW L K (0) 0 (Γ (27, 0, 0)) (f_145 x_11) from hI.at hx_11)
                  refine tl_si (tq_rVN hN (As := [.long p2.toInt64]) (rest := []) ⟨hx, hb, hml, hown, hta⟩ (tp_P.pre hK hN hL hU hI hP) (tp_recv hK hP hx_11.1 hf_150 rfl) lk_X11_300 (t_X10_isNotBelow l D cy H.size L K Γ f_145 x_11 p2.toInt64 hx_11) rfl rfl ⟨Nat.le_of_ble_eq_true rfl, Nat.le_of_ble_eq_true rfl⟩ rfl hl.1 rfl (Nat.le_of_ble_eq_true rfl) dX11_apart_104 ⟨Nat.le_of_ble_eq_true rfl, Nat.le_of_ble_eq_true rfl⟩) (fun r_170 hw_169 => ?_)
                  have hw_169 : tl_J r_170 (True) := hw_169
                  refine lv_if_eq (tgt := 114) hx hb dX11_apart_107 (by decide) (fun c_171 => ?_) (fun c_171 => ?_)
                  · have c_171 := c_171
                    refine lv_iconst (v := 0) hx hb dX11_apart_114 (by decide) ?_
                    refine lv_istore (lv' := [(7, .int 0), (6, .int 1), (5, .int v5), (4, .int v4), (0, .ref o), (1, .int p0), (2, .int p1), (3, .int p2)]) hx hb dX11_apart_115 hl (by decide) rfl (fun ls hl => ?_)
                    refine lv_iload hx hb dX11_apart_117 (lv_at hl 3 rfl) ?_
                    refine lv_iload hx hb dX11_apart_119 (lv_at hl 1 rfl) ?_
                    refine lv_iload hx hb dX11_apart_121 (lv_at hl 0 rfl) ?_
                    refine lv_icmp_eq (tgt := 130) hx hb dX11_apart_123 (by decide) (fun c => absurd c (by decide)) (fun _ => ?_)
                    refine lv_iconst (v := 1) hx hb dX11_apart_126 (by decide) ?_
                    refine lv_goto (tgt := 131) hx hb dX11_apart_127 (by decide) ?_
                    refine lv_iadd hx hb dX11_apart_131 ?_
                    refine lv_topi (fun z_172 ez_172 => ?_)
                    try have iz_172 : z_172.toInt = v4.toInt + (1 : Int) := by rw [ez_172]; exact tl_addN v4 1 rfl rfl (by omega) (by omega)
                    refine lv_istore (lv' := [(4, .int z_172), (7, .int 0), (6, .int 1), (5, .int v5), (0, .ref o), (1, .int p0), (2, .int p1), (3, .int p2)]) hx hb dX11_apart_132 hl (by decide) rfl (fun ls hl => ?_)
                    obtain ⟨z_173, ez_173⟩ : ∃ y : Int32, y = v5 + 1 := ⟨_, rfl⟩
                    refine lv_iinc (v := z_173) (lv' := [(5, .int z_173), (4, .int z_172), (7, .int 0), (6, .int 1), (0, .ref o), (1, .int p0), (2, .int p1), (3, .int p2)]) hx hb dX11_apart_134 hl (k := 3) rfl (by rw [ez_173]; rfl) (by decide) rfl (fun ls hl => ?_)
                    try have iz_173 : z_173.toInt = v5.toInt + 1 := by rw [ez_173]; exact tl_addL v5 1 (by decide) (by omega) (by omega)
                    refine lv_goto (tgt := 42) hx hb dX11_apart_137 (by decide) ?_
                    exact ih42 (f_145, z_173, z_172) H locs ls (by show (24 - z_173.toInt).toNat < (24 - v5.toInt).toNat; omega) ⟨(show 0 ≤ z_173.toInt from (by omega)), (show z_173.toInt ≤ 24 from (by omega)), hP, hI, hfr, hS, lv_sub hl [0, 1, 4, 5, 6, 7] rfl⟩
                  · have c_171 := hw_169.t c_171
                    refine lv_iconst (v := 1) hx hb dX11_apart_110 (by decide) ?_
                    refine lv_goto (tgt := 115) hx hb dX11_apart_111 (by decide) ?_
                    refine lv_istore (lv' := [(7, .int 1), (6, .int 1), (5, .int v5), (4, .int v4), (0, .ref o), (1, .int p0), (2, .int p1), (3, .int p2)]) hx hb dX11_apart_115 hl (by decide) rfl (fun ls hl => ?_)
                    refine lv_iload hx hb dX11_apart_117 (lv_at hl 3 rfl) ?_
                    refine lv_iload hx hb dX11_apart_119 (lv_at hl 1 rfl) ?_
                    refine lv_iload hx hb dX11_apart_121 (lv_at hl 0 rfl) ?_
                    refine lv_icmp_eq (tgt := 130) hx hb dX11_apart_123 (by decide) (fun _ => ?_) (fun c => absurd c (by decide))
                    refine lv_iconst (v := 0) hx hb dX11_apart_130 (by decide) ?_
                    refine lv_iadd hx hb dX11_apart_131 ?_
                    refine lv_topi (fun z_174 ez_174 => ?_)
                    try have iz_174 : z_174.toInt = v4.toInt + (0 : Int) := by rw [ez_174]; exact tl_addN v4 0 rfl rfl (by omega) (by omega)
                    refine lv_istore (lv' := [(4, .int z_174), (7, .int 1), (6, .int 1), (5, .int v5), (0, .ref o), (1, .int p0), (2, .int p1), (3, .int p2)]) hx hb dX11_apart_132 hl (by decide) rfl (fun ls hl => ?_)
                    obtain ⟨z_175, ez_175⟩ : ∃ y : Int32, y = v5 + 1 := ⟨_, rfl⟩
                    refine lv_iinc (v := z_175) (lv' := [(5, .int z_175), (4, .int z_174), (7, .int 1), (6, .int 1), (0, .ref o), (1, .int p0), (2, .int p1), (3, .int p2)]) hx hb dX11_apart_134 hl (k := 3) rfl (by rw [ez_175]; rfl) (by decide) rfl (fun ls hl => ?_)
                    try have iz_175 : z_175.toInt = v5.toInt + 1 := by rw [ez_175]; exact tl_addL v5 1 (by decide) (by omega) (by omega)
                    refine lv_goto (tgt := 42) hx hb dX11_apart_137 (by decide) ?_
                    exact ih42 (f_145, z_175, z_174) H locs ls (by show (24 - z_175.toInt).toNat < (24 - v5.toInt).toNat; omega) ⟨(show 0 ≤ z_175.toInt from (by omega)), (show z_175.toInt ≤ 24 from (by omega)), hP, hI, hfr, hS, lv_sub hl [0, 1, 4, 5, 6, 7] rfl⟩
        · have c_30 := hw_28.f c_30
          refine lv_iconst (v := (-1)) hx hb dX11_apart_34 (by decide) ?_
          exact W.iret (v := (-1)) hx hb hr (fun t ht hW => ⟨⟨_, f, rfl, trivial, by rw [ht]; exact hP, hI, hfr⟩, hS.F ht⟩) hS.2.2 dX11_apart_35
