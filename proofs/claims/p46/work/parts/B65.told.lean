theorem dX11_count_0 : decode cX11_count 0 = .ok (.iload_n 1, 1) := by decide +kernel
theorem dX11_count_1 : decode cX11_count 1 = .ok (.tableswitch 165 0 10 #[59, 67, 78, 89, 100, 108, 116, 124, 135, 146, 154], 59) := by decide +kernel
theorem dX11_count_60 : decode cX11_count 60 = .ok (.aload_n 0, 1) := by decide +kernel
theorem dX11_count_61 : decode cX11_count 61 = .ok (.getfield 10, 3) := by decide +kernel
theorem dX11_count_64 : decode cX11_count 64 = .ok (.getfield 98, 3) := by decide +kernel
theorem dX11_count_67 : decode cX11_count 67 = .ok (.ireturn, 1) := by decide +kernel
theorem dX11_count_68 : decode cX11_count 68 = .ok (.aload_n 0, 1) := by decide +kernel
theorem dX11_count_69 : decode cX11_count 69 = .ok (.getfield 10, 3) := by decide +kernel
theorem dX11_count_72 : decode cX11_count 72 = .ok (.getfield 109, 3) := by decide +kernel
theorem dX11_count_75 : decode cX11_count 75 = .ok (.getfield 339, 3) := by decide +kernel
theorem dX11_count_78 : decode cX11_count 78 = .ok (.ireturn, 1) := by decide +kernel
theorem dX11_count_79 : decode cX11_count 79 = .ok (.aload_n 0, 1) := by decide +kernel
theorem dX11_count_80 : decode cX11_count 80 = .ok (.getfield 10, 3) := by decide +kernel
theorem dX11_count_83 : decode cX11_count 83 = .ok (.getfield 147, 3) := by decide +kernel
theorem dX11_count_86 : decode cX11_count 86 = .ok (.getfield 173, 3) := by decide +kernel
theorem dX11_count_89 : decode cX11_count 89 = .ok (.ireturn, 1) := by decide +kernel
theorem dX11_count_90 : decode cX11_count 90 = .ok (.aload_n 0, 1) := by decide +kernel
theorem dX11_count_91 : decode cX11_count 91 = .ok (.getfield 10, 3) := by decide +kernel
theorem dX11_count_94 : decode cX11_count 94 = .ok (.getfield 170, 3) := by decide +kernel
theorem dX11_count_97 : decode cX11_count 97 = .ok (.getfield 173, 3) := by decide +kernel
theorem dX11_count_100 : decode cX11_count 100 = .ok (.ireturn, 1) := by decide +kernel
theorem dX11_count_101 : decode cX11_count 101 = .ok (.aload_n 0, 1) := by decide +kernel
theorem dX11_count_102 : decode cX11_count 102 = .ok (.getfield 25, 3) := by decide +kernel
theorem dX11_count_105 : decode cX11_count 105 = .ok (.getfield 470, 3) := by decide +kernel
theorem dX11_count_108 : decode cX11_count 108 = .ok (.ireturn, 1) := by decide +kernel
theorem dX11_count_109 : decode cX11_count 109 = .ok (.aload_n 0, 1) := by decide +kernel
theorem dX11_count_110 : decode cX11_count 110 = .ok (.getfield 29, 3) := by decide +kernel
theorem dX11_count_113 : decode cX11_count 113 = .ok (.getfield 470, 3) := by decide +kernel
theorem dX11_count_116 : decode cX11_count 116 = .ok (.ireturn, 1) := by decide +kernel
theorem dX11_count_117 : decode cX11_count 117 = .ok (.aload_n 0, 1) := by decide +kernel
theorem dX11_count_118 : decode cX11_count 118 = .ok (.getfield 32, 3) := by decide +kernel
theorem dX11_count_121 : decode cX11_count 121 = .ok (.getfield 470, 3) := by decide +kernel
theorem dX11_count_124 : decode cX11_count 124 = .ok (.ireturn, 1) := by decide +kernel
theorem dX11_count_125 : decode cX11_count 125 = .ok (.aload_n 0, 1) := by decide +kernel
theorem dX11_count_126 : decode cX11_count 126 = .ok (.getfield 10, 3) := by decide +kernel
theorem dX11_count_129 : decode cX11_count 129 = .ok (.getfield 429, 3) := by decide +kernel
theorem dX11_count_132 : decode cX11_count 132 = .ok (.getfield 173, 3) := by decide +kernel
theorem dX11_count_135 : decode cX11_count 135 = .ok (.ireturn, 1) := by decide +kernel
theorem dX11_count_136 : decode cX11_count 136 = .ok (.aload_n 0, 1) := by decide +kernel
theorem dX11_count_137 : decode cX11_count 137 = .ok (.getfield 10, 3) := by decide +kernel
theorem dX11_count_140 : decode cX11_count 140 = .ok (.getfield 109, 3) := by decide +kernel
theorem dX11_count_143 : decode cX11_count 143 = .ok (.getfield 488, 3) := by decide +kernel
theorem dX11_count_146 : decode cX11_count 146 = .ok (.ireturn, 1) := by decide +kernel
theorem dX11_count_147 : decode cX11_count 147 = .ok (.aload_n 0, 1) := by decide +kernel
theorem dX11_count_148 : decode cX11_count 148 = .ok (.getfield 10, 3) := by decide +kernel
theorem dX11_count_151 : decode cX11_count 151 = .ok (.getfield 176, 3) := by decide +kernel
theorem dX11_count_154 : decode cX11_count 154 = .ok (.ireturn, 1) := by decide +kernel
theorem dX11_count_155 : decode cX11_count 155 = .ok (.aload_n 0, 1) := by decide +kernel
theorem dX11_count_156 : decode cX11_count 156 = .ok (.getfield 10, 3) := by decide +kernel
theorem dX11_count_159 : decode cX11_count 159 = .ok (.getfield 420, 3) := by decide +kernel
theorem dX11_count_162 : decode cX11_count 162 = .ok (.getfield 173, 3) := by decide +kernel
theorem dX11_count_165 : decode cX11_count 165 = .ok (.ireturn, 1) := by decide +kernel
theorem dX11_count_166 : decode cX11_count 166 = .ok (.iconst (-1), 1) := by decide +kernel
theorem dX11_count_167 : decode cX11_count 167 = .ok (.ireturn, 1) := by decide +kernel
theorem nk_3 : tl_N[3]? = some (Cond.fieldLinkNest "ThinLine" 488 "ThinLine$Rows" "numbers" "I" "ThinLine") := by decide +kernel
theorem nk_16 : tl_N[16]? = some (Cond.fieldLinkNest "ThinLine" 98 "ThinLine$Book" "now" "I" "ThinLine") := by decide +kernel
theorem nk_26 : tl_N[26]? = some (Cond.fieldLinkNest "ThinLine" 176 "ThinLine$Book" "taped" "I" "ThinLine") := by decide +kernel
theorem dX11_raw_0 : decode cX11_raw 0 = .ok (.iload_n 3, 1) := by decide +kernel
theorem dX11_raw_1 : decode cX11_raw 1 = .ok (.ldc 119, 2) := by decide +kernel
theorem dX11_raw_3 : decode cX11_raw 3 = .ok (.if_icmp .eq 14, 3) := by decide +kernel
theorem dX11_raw_6 : decode cX11_raw 6 = .ok (.iload_n 3, 1) := by decide +kernel
theorem dX11_raw_7 : decode cX11_raw 7 = .ok (.ldc 120, 2) := by decide +kernel
theorem dX11_raw_9 : decode cX11_raw 9 = .ok (.ldc 121, 2) := by decide +kernel
theorem dX11_raw_11 : decode cX11_raw 11 = .ok (.invokestatic 105, 3) := by decide +kernel
theorem dX11_raw_14 : decode cX11_raw 14 = .ok (.ifCond .eq 7, 3) := by decide +kernel
theorem dX11_raw_17 : decode cX11_raw 17 = .ok (.iconst 1, 1) := by decide +kernel
theorem dX11_raw_18 : decode cX11_raw 18 = .ok (.goto 4, 3) := by decide +kernel
theorem dX11_raw_21 : decode cX11_raw 21 = .ok (.iconst 0, 1) := by decide +kernel
theorem dX11_raw_22 : decode cX11_raw 22 = .ok (.istore 4, 2) := by decide +kernel
theorem dX11_raw_24 : decode cX11_raw 24 = .ok (.aload_n 0, 1) := by decide +kernel
theorem dX11_raw_25 : decode cX11_raw 25 = .ok (.getfield 10, 3) := by decide +kernel
theorem dX11_raw_28 : decode cX11_raw 28 = .ok (.getfield 109, 3) := by decide +kernel
theorem dX11_raw_31 : decode cX11_raw 31 = .ok (.iload_n 1, 1) := by decide +kernel
theorem dX11_raw_32 : decode cX11_raw 32 = .ok (.invokevirtual 122, 3) := by decide +kernel
theorem dX11_raw_35 : decode cX11_raw 35 = .ok (.ifCond .eq 15, 3) := by decide +kernel
theorem dX11_raw_38 : decode cX11_raw 38 = .ok (.iload_n 2, 1) := by decide +kernel
theorem dX11_raw_39 : decode cX11_raw 39 = .ok (.invokestatic 125, 3) := by decide +kernel
theorem dX11_raw_42 : decode cX11_raw 42 = .ok (.ifCond .eq 8, 3) := by decide +kernel
theorem dX11_raw_45 : decode cX11_raw 45 = .ok (.iload 4, 2) := by decide +kernel
theorem dX11_raw_47 : decode cX11_raw 47 = .ok (.ifCond .ne 6, 3) := by decide +kernel
theorem dX11_raw_50 : decode cX11_raw 50 = .ok (.ldc 128, 2) := by decide +kernel
theorem dX11_raw_52 : decode cX11_raw 52 = .ok (.ireturn, 1) := by decide +kernel
theorem dX11_raw_53 : decode cX11_raw 53 = .ok (.aload_n 0, 1) := by decide +kernel
theorem dX11_raw_54 : decode cX11_raw 54 = .ok (.getfield 10, 3) := by decide +kernel
theorem dX11_raw_57 : decode cX11_raw 57 = .ok (.getfield 109, 3) := by decide +kernel
theorem dX11_raw_60 : decode cX11_raw 60 = .ok (.iload_n 1, 1) := by decide +kernel
theorem dX11_raw_61 : decode cX11_raw 61 = .ok (.iload_n 2, 1) := by decide +kernel
theorem dX11_raw_62 : decode cX11_raw 62 = .ok (.iload_n 3, 1) := by decide +kernel
theorem dX11_raw_63 : decode cX11_raw 63 = .ok (.invokevirtual 129, 3) := by decide +kernel
theorem dX11_raw_66 : decode cX11_raw 66 = .ok (.ireturn, 1) := by decide +kernel
theorem wk_228 : Cond.constant RX11 120 (-100000) ∈ tl_L := List.mem_filter.mpr ⟨lw_m2 (i := 218) rfl, rfl⟩
theorem wk_229 : Cond.constant RX11 121 (100000) ∈ tl_L := List.mem_filter.mpr ⟨lw_m2 (i := 219) rfl, rfl⟩
theorem wk_237 : Cond.instanceMethod yX4_put ∈ tl_L := List.mem_filter.mpr ⟨lw_m2 (i := 230) rfl, rfl⟩
theorem wk_238 : Cond.selects RX4 yX4_put yX4_put ∈ tl_L := List.mem_filter.mpr ⟨lw_s1 (i := 2) (q := (yX4_put, 6)) rfl, rfl⟩
theorem wk_239 : Cond.code yX4_put cX4_put 5 (some .int) ∈ tl_L := List.mem_filter.mpr ⟨lw_m2 (i := 231) rfl, rfl⟩
theorem lk_X11_129 : tl_kVN RX11 129 RX4 yX4_put "ThinLine" cX4_put 5 (some .int) 3 74 := ⟨wk_239, by decide +kernel, wk_237, wk_238, wk_60, ⟨by decide +kernel, by decide +kernel, by decide +kernel⟩⟩
theorem dX11_read_0 : decode cX11_read 0 = .ok (.aload_n 0, 1) := by decide +kernel
theorem dX11_read_1 : decode cX11_read 1 = .ok (.getfield 10, 3) := by decide +kernel
theorem dX11_read_4 : decode cX11_read 4 = .ok (.getfield 109, 3) := by decide +kernel
theorem dX11_read_7 : decode cX11_read 7 = .ok (.iload_n 1, 1) := by decide +kernel
theorem dX11_read_8 : decode cX11_read 8 = .ok (.invokevirtual 122, 3) := by decide +kernel
theorem dX11_read_11 : decode cX11_read 11 = .ok (.ifCond .eq 10, 3) := by decide +kernel
theorem dX11_read_14 : decode cX11_read 14 = .ok (.iload_n 2, 1) := by decide +kernel
theorem dX11_read_15 : decode cX11_read 15 = .ok (.invokestatic 125, 3) := by decide +kernel
theorem dX11_read_18 : decode cX11_read 18 = .ok (.ifCond .ne 6, 3) := by decide +kernel
theorem dX11_read_21 : decode cX11_read 21 = .ok (.ldc 128, 2) := by decide +kernel
theorem dX11_read_23 : decode cX11_read 23 = .ok (.ireturn, 1) := by decide +kernel
theorem dX11_read_24 : decode cX11_read 24 = .ok (.aload_n 0, 1) := by decide +kernel
theorem dX11_read_25 : decode cX11_read 25 = .ok (.getfield 10, 3) := by decide +kernel
theorem dX11_read_28 : decode cX11_read 28 = .ok (.getfield 109, 3) := by decide +kernel
theorem dX11_read_31 : decode cX11_read 31 = .ok (.getfield 132, 3) := by decide +kernel
theorem dX11_read_34 : decode cX11_read 34 = .ok (.iload_n 1, 1) := by decide +kernel
theorem dX11_read_35 : decode cX11_read 35 = .ok (.aaload, 1) := by decide +kernel
theorem dX11_read_36 : decode cX11_read 36 = .ok (.iload_n 2, 1) := by decide +kernel
theorem dX11_read_37 : decode cX11_read 37 = .ok (.iaload, 1) := by decide +kernel
theorem dX11_read_38 : decode cX11_read 38 = .ok (.istore_n 3, 1) := by decide +kernel
theorem dX11_read_39 : decode cX11_read 39 = .ok (.iload_n 3, 1) := by decide +kernel
theorem dX11_read_40 : decode cX11_read 40 = .ok (.ldc 119, 2) := by decide +kernel
theorem dX11_read_42 : decode cX11_read 42 = .ok (.if_icmp .ne 8, 3) := by decide +kernel
theorem dX11_read_45 : decode cX11_read 45 = .ok (.ldc 119, 2) := by decide +kernel
theorem dX11_read_47 : decode cX11_read 47 = .ok (.goto 25, 3) := by decide +kernel
theorem dX11_read_50 : decode cX11_read 50 = .ok (.iload_n 3, 1) := by decide +kernel
theorem dX11_read_51 : decode cX11_read 51 = .ok (.aload_n 0, 1) := by decide +kernel
theorem dX11_read_52 : decode cX11_read 52 = .ok (.getfield 10, 3) := by decide +kernel
theorem dX11_read_55 : decode cX11_read 55 = .ok (.aload_n 0, 1) := by decide +kernel
theorem dX11_read_56 : decode cX11_read 56 = .ok (.getfield 10, 3) := by decide +kernel
theorem dX11_read_59 : decode cX11_read 59 = .ok (.getfield 109, 3) := by decide +kernel
theorem dX11_read_62 : decode cX11_read 62 = .ok (.getfield 136, 3) := by decide +kernel
theorem dX11_read_65 : decode cX11_read 65 = .ok (.iload_n 1, 1) := by decide +kernel
theorem dX11_read_66 : decode cX11_read 66 = .ok (.iaload, 1) := by decide +kernel
theorem dX11_read_67 : decode cX11_read 67 = .ok (.iload_n 2, 1) := by decide +kernel
theorem dX11_read_68 : decode cX11_read 68 = .ok (.invokevirtual 139, 3) := by decide +kernel
theorem dX11_read_71 : decode cX11_read 71 = .ok (.isub, 1) := by decide +kernel
theorem dX11_read_72 : decode cX11_read 72 = .ok (.ireturn, 1) := by decide +kernel
theorem wk_260 : Cond.instanceMethod yX0_slipped ∈ tl_L := List.mem_filter.mpr ⟨lw_m3 (i := 0) rfl, rfl⟩
theorem wk_261 : Cond.selects RX0 yX0_slipped yX0_slipped ∈ tl_L := List.mem_filter.mpr ⟨lw_s1 (i := 3) (q := (yX0_slipped, 9)) rfl, rfl⟩
theorem wk_262 : Cond.code yX0_slipped cX0_slipped 6 (some .int) ∈ tl_L := List.mem_filter.mpr ⟨lw_m3 (i := 1) rfl, rfl⟩
theorem nk_10 : tl_N[10]? = some (Cond.fieldLinkNest "ThinLine" 132 "ThinLine$Rows" "raw" "[[I" "ThinLine") := by decide +kernel
theorem lk_X11_139 : tl_kVN RX11 139 RX0 yX0_slipped "ThinLine" cX0_slipped 6 (some .int) 2 76 := ⟨wk_262, by decide +kernel, wk_260, wk_261, wk_14, ⟨by decide +kernel, by decide +kernel, by decide +kernel⟩⟩
theorem dX11_feed_0 : decode cX11_feed 0 = .ok (.aload_n 0, 1) := by decide +kernel
theorem dX11_feed_1 : decode cX11_feed 1 = .ok (.getfield 10, 3) := by decide +kernel
theorem dX11_feed_4 : decode cX11_feed 4 = .ok (.getfield 176, 3) := by decide +kernel
theorem dX11_feed_7 : decode cX11_feed 7 = .ok (.sipush 380, 3) := by decide +kernel
theorem dX11_feed_10 : decode cX11_feed 10 = .ok (.if_icmp .le 5, 3) := by decide +kernel
theorem dX11_feed_13 : decode cX11_feed 13 = .ok (.iconst (-1), 1) := by decide +kernel
theorem dX11_feed_14 : decode cX11_feed 14 = .ok (.ireturn, 1) := by decide +kernel
theorem dX11_feed_15 : decode cX11_feed 15 = .ok (.aload_n 0, 1) := by decide +kernel
theorem dX11_feed_16 : decode cX11_feed 16 = .ok (.getfield 10, 3) := by decide +kernel
theorem dX11_feed_19 : decode cX11_feed 19 = .ok (.iload_n 1, 1) := by decide +kernel
theorem dX11_feed_20 : decode cX11_feed 20 = .ok (.invokevirtual 179, 3) := by decide +kernel
theorem dX11_feed_23 : decode cX11_feed 23 = .ok (.aload_n 0, 1) := by decide +kernel
theorem dX11_feed_24 : decode cX11_feed 24 = .ok (.getfield 10, 3) := by decide +kernel
theorem dX11_feed_27 : decode cX11_feed 27 = .ok (.iload_n 2, 1) := by decide +kernel
theorem dX11_feed_28 : decode cX11_feed 28 = .ok (.invokevirtual 179, 3) := by decide +kernel
theorem dX11_feed_31 : decode cX11_feed 31 = .ok (.aload_n 0, 1) := by decide +kernel
theorem dX11_feed_32 : decode cX11_feed 32 = .ok (.getfield 10, 3) := by decide +kernel
theorem dX11_feed_35 : decode cX11_feed 35 = .ok (.iload_n 3, 1) := by decide +kernel
theorem dX11_feed_36 : decode cX11_feed 36 = .ok (.invokevirtual 179, 3) := by decide +kernel
theorem dX11_feed_39 : decode cX11_feed 39 = .ok (.aload_n 0, 1) := by decide +kernel
theorem dX11_feed_40 : decode cX11_feed 40 = .ok (.getfield 10, 3) := by decide +kernel
theorem dX11_feed_43 : decode cX11_feed 43 = .ok (.iload 4, 2) := by decide +kernel
theorem dX11_feed_45 : decode cX11_feed 45 = .ok (.invokevirtual 179, 3) := by decide +kernel
theorem dX11_feed_48 : decode cX11_feed 48 = .ok (.aload_n 0, 1) := by decide +kernel
theorem dX11_feed_49 : decode cX11_feed 49 = .ok (.getfield 10, 3) := by decide +kernel
theorem dX11_feed_52 : decode cX11_feed 52 = .ok (.iload 5, 2) := by decide +kernel
theorem dX11_feed_54 : decode cX11_feed 54 = .ok (.invokevirtual 179, 3) := by decide +kernel
theorem dX11_feed_57 : decode cX11_feed 57 = .ok (.aload_n 0, 1) := by decide +kernel
theorem dX11_feed_58 : decode cX11_feed 58 = .ok (.getfield 10, 3) := by decide +kernel
theorem dX11_feed_61 : decode cX11_feed 61 = .ok (.getfield 176, 3) := by decide +kernel
theorem dX11_feed_64 : decode cX11_feed 64 = .ok (.ireturn, 1) := by decide +kernel
theorem wk_339 : Cond.instanceMethod yX0_append ∈ tl_L := List.mem_filter.mpr ⟨lw_m3 (i := 49) rfl, rfl⟩
theorem wk_340 : Cond.selects RX0 yX0_append yX0_append ∈ tl_L := List.mem_filter.mpr ⟨lw_s1 (i := 9) (q := (yX0_append, 9)) rfl, rfl⟩
theorem wk_341 : Cond.code yX0_append cX0_append 3 none ∈ tl_L := List.mem_filter.mpr ⟨lw_m3 (i := 50) rfl, rfl⟩
theorem lk_X11_179 : tl_kVN RX11 179 RX0 yX0_append "ThinLine" cX0_append 3 none 1 83 := ⟨wk_341, by decide +kernel, wk_339, wk_340, wk_14, ⟨by decide +kernel, by decide +kernel, by decide +kernel⟩⟩
theorem dX11_end_0 : decode cX11_end 0 = .ok (.iload_n 1, 1) := by decide +kernel
theorem dX11_end_1 : decode cX11_end 1 = .ok (.iconst 0, 1) := by decide +kernel
theorem dX11_end_2 : decode cX11_end 2 = .ok (.aload_n 0, 1) := by decide +kernel
theorem dX11_end_3 : decode cX11_end 3 = .ok (.getfield 10, 3) := by decide +kernel
theorem dX11_end_6 : decode cX11_end 6 = .ok (.getfield 176, 3) := by decide +kernel
theorem dX11_end_9 : decode cX11_end 9 = .ok (.invokestatic 105, 3) := by decide +kernel
theorem dX11_end_12 : decode cX11_end 12 = .ok (.ifCond .ne 5, 3) := by decide +kernel
theorem dX11_end_15 : decode cX11_end 15 = .ok (.iconst (-1), 1) := by decide +kernel
theorem dX11_end_16 : decode cX11_end 16 = .ok (.ireturn, 1) := by decide +kernel
theorem dX11_end_17 : decode cX11_end 17 = .ok (.aload_n 0, 1) := by decide +kernel
theorem dX11_end_18 : decode cX11_end 18 = .ok (.getfield 10, 3) := by decide +kernel
theorem dX11_end_21 : decode cX11_end 21 = .ok (.iload_n 1, 1) := by decide +kernel
theorem dX11_end_22 : decode cX11_end 22 = .ok (.putfield 176, 3) := by decide +kernel
theorem dX11_end_25 : decode cX11_end 25 = .ok (.iload_n 1, 1) := by decide +kernel
theorem dX11_end_26 : decode cX11_end 26 = .ok (.ireturn, 1) := by decide +kernel
theorem dX11_make_0 : decode cX11_make 0 = .ok (.aload_n 0, 1) := by decide +kernel
theorem dX11_make_1 : decode cX11_make 1 = .ok (.getfield 25, 3) := by decide +kernel
theorem dX11_make_4 : decode cX11_make 4 = .ok (.iload_n 1, 1) := by decide +kernel
theorem dX11_make_5 : decode cX11_make 5 = .ok (.invokevirtual 201, 3) := by decide +kernel
theorem dX11_make_8 : decode cX11_make 8 = .ok (.astore 6, 2) := by decide +kernel
theorem dX11_make_10 : decode cX11_make 10 = .ok (.aload 6, 2) := by decide +kernel
theorem dX11_make_12 : decode cX11_make 12 = .ok (.ifnull 31, 3) := by decide +kernel
theorem dX11_make_15 : decode cX11_make 15 = .ok (.aload_n 0, 1) := by decide +kernel
theorem dX11_make_16 : decode cX11_make 16 = .ok (.getfield 10, 3) := by decide +kernel
theorem dX11_make_19 : decode cX11_make 19 = .ok (.getfield 109, 3) := by decide +kernel
theorem dX11_make_22 : decode cX11_make 22 = .ok (.iload_n 2, 1) := by decide +kernel
theorem dX11_make_23 : decode cX11_make 23 = .ok (.invokevirtual 122, 3) := by decide +kernel
theorem dX11_make_26 : decode cX11_make 26 = .ok (.ifCond .eq 17, 3) := by decide +kernel
theorem dX11_make_29 : decode cX11_make 29 = .ok (.iload_n 3, 1) := by decide +kernel
theorem dX11_make_30 : decode cX11_make 30 = .ok (.ifCond .lt 13, 3) := by decide +kernel
theorem dX11_make_33 : decode cX11_make 33 = .ok (.iload 4, 2) := by decide +kernel
theorem dX11_make_35 : decode cX11_make 35 = .ok (.iload 5, 2) := by decide +kernel
theorem dX11_make_37 : decode cX11_make 37 = .ok (.invokestatic 143, 3) := by decide +kernel
theorem dX11_make_40 : decode cX11_make 40 = .ok (.ifCond .ne 5, 3) := by decide +kernel
theorem dX11_make_43 : decode cX11_make 43 = .ok (.iconst (-1), 1) := by decide +kernel
theorem dX11_make_44 : decode cX11_make 44 = .ok (.ireturn, 1) := by decide +kernel
theorem dX11_make_45 : decode cX11_make 45 = .ok (.aload_n 0, 1) := by decide +kernel
theorem dX11_make_46 : decode cX11_make 46 = .ok (.getfield 52, 3) := by decide +kernel
theorem dX11_make_49 : decode cX11_make 49 = .ok (.aload_n 0, 1) := by decide +kernel
theorem dX11_make_50 : decode cX11_make 50 = .ok (.getfield 10, 3) := by decide +kernel
theorem dX11_make_53 : decode cX11_make 53 = .ok (.getfield 109, 3) := by decide +kernel
theorem dX11_make_56 : decode cX11_make 56 = .ok (.iload_n 2, 1) := by decide +kernel
theorem dX11_make_57 : decode cX11_make 57 = .ok (.invokevirtual 205, 3) := by decide +kernel
theorem dX11_make_60 : decode cX11_make 60 = .ok (.aload_n 0, 1) := by decide +kernel
theorem dX11_make_61 : decode cX11_make 61 = .ok (.getfield 59, 3) := by decide +kernel
theorem dX11_make_64 : decode cX11_make 64 = .ok (.aload 6, 2) := by decide +kernel
theorem dX11_make_66 : decode cX11_make 66 = .ok (.iload_n 3, 1) := by decide +kernel
theorem dX11_make_67 : decode cX11_make 67 = .ok (.invokevirtual 209, 3) := by decide +kernel
theorem dX11_make_70 : decode cX11_make 70 = .ok (.aload_n 0, 1) := by decide +kernel
theorem dX11_make_71 : decode cX11_make 71 = .ok (.getfield 59, 3) := by decide +kernel
theorem dX11_make_74 : decode cX11_make 74 = .ok (.aload 6, 2) := by decide +kernel
theorem dX11_make_76 : decode cX11_make 76 = .ok (.aload_n 0, 1) := by decide +kernel
theorem dX11_make_77 : decode cX11_make 77 = .ok (.getfield 10, 3) := by decide +kernel
theorem dX11_make_80 : decode cX11_make 80 = .ok (.getfield 170, 3) := by decide +kernel
theorem dX11_make_83 : decode cX11_make 83 = .ok (.invokevirtual 213, 3) := by decide +kernel
theorem dX11_make_86 : decode cX11_make 86 = .ok (.iload 4, 2) := by decide +kernel
theorem dX11_make_88 : decode cX11_make 88 = .ok (.istore 7, 2) := by decide +kernel
theorem dX11_make_90 : decode cX11_make 90 = .ok (.iload 7, 2) := by decide +kernel
theorem dX11_make_92 : decode cX11_make 92 = .ok (.iload 5, 2) := by decide +kernel
theorem dX11_make_94 : decode cX11_make 94 = .ok (.if_icmp .gt 38, 3) := by decide +kernel
theorem dX11_make_97 : decode cX11_make 97 = .ok (.aload_n 0, 1) := by decide +kernel
theorem dX11_make_98 : decode cX11_make 98 = .ok (.getfield 10, 3) := by decide +kernel
theorem dX11_make_101 : decode cX11_make 101 = .ok (.getfield 109, 3) := by decide +kernel
theorem dX11_make_104 : decode cX11_make 104 = .ok (.iload_n 2, 1) := by decide +kernel
theorem dX11_make_105 : decode cX11_make 105 = .ok (.iload 7, 2) := by decide +kernel
theorem dX11_make_107 : decode cX11_make 107 = .ok (.aload_n 0, 1) := by decide +kernel
theorem dX11_make_108 : decode cX11_make 108 = .ok (.getfield 59, 3) := by decide +kernel
theorem dX11_make_111 : decode cX11_make 111 = .ok (.aload 6, 2) := by decide +kernel
theorem dX11_make_113 : decode cX11_make 113 = .ok (.aload_n 0, 1) := by decide +kernel
theorem dX11_make_114 : decode cX11_make 114 = .ok (.getfield 52, 3) := by decide +kernel
theorem dX11_make_117 : decode cX11_make 117 = .ok (.iload 7, 2) := by decide +kernel
theorem dX11_make_119 : decode cX11_make 119 = .ok (.invokevirtual 217, 3) := by decide +kernel
theorem dX11_make_122 : decode cX11_make 122 = .ok (.invokevirtual 129, 3) := by decide +kernel
theorem dX11_make_125 : decode cX11_make 125 = .ok (.pop, 1) := by decide +kernel
theorem dX11_make_126 : decode cX11_make 126 = .ok (.iinc 7 1, 3) := by decide +kernel
theorem dX11_make_129 : decode cX11_make 129 = .ok (.goto (-39), 3) := by decide +kernel
theorem dX11_make_132 : decode cX11_make 132 = .ok (.iload 5, 2) := by decide +kernel
theorem dX11_make_134 : decode cX11_make 134 = .ok (.iload 4, 2) := by decide +kernel
theorem dX11_make_136 : decode cX11_make 136 = .ok (.isub, 1) := by decide +kernel
theorem dX11_make_137 : decode cX11_make 137 = .ok (.iconst 1, 1) := by decide +kernel
theorem dX11_make_138 : decode cX11_make 138 = .ok (.iadd, 1) := by decide +kernel
theorem dX11_make_139 : decode cX11_make 139 = .ok (.ireturn, 1) := by decide +kernel
theorem wk_283 : Cond.methodLink RX11 143 yX11_isSpan ∈ tl_L := List.mem_filter.mpr ⟨lw_m3 (i := 10) rfl, rfl⟩
theorem wk_284 : Cond.static yX11_isSpan ∈ tl_L := List.mem_filter.mpr ⟨lw_m3 (i := 11) rfl, rfl⟩
theorem wk_285 : Cond.code yX11_isSpan cX11_isSpan 2 (some .boolean) ∈ tl_L := List.mem_filter.mpr ⟨lw_m3 (i := 12) rfl, rfl⟩
theorem wk_713 : Cond.instanceMethod yX1_eat ∈ tl_L := List.mem_filter.mpr ⟨lw_m4 (i := 39) rfl, rfl⟩
theorem wk_714 : Cond.selects RX1 yX1_eat yX1_eat ∈ tl_L := List.mem_filter.mpr ⟨lw_s3 (i := 8) (q := (yX1_eat, 5)) rfl, rfl⟩
theorem wk_715 : Cond.code yX1_eat cX1_eat 6 none ∈ tl_L := List.mem_filter.mpr ⟨lw_m4 (i := 40) rfl, rfl⟩
theorem lk_X11_143 : tl_kS RX11 143 yX11_isSpan cX11_isSpan 2 (some .boolean) 2 := ⟨wk_285, wk_283, wk_284, wk_2, ⟨by decide +kernel, by decide +kernel, by decide +kernel⟩⟩
theorem lk_X11_213 : tl_kVN RX11 213 RX1 yX1_eat "ThinLine" cX1_eat 6 none 2 99 := ⟨wk_715, by decide +kernel, wk_713, wk_714, wk_37, ⟨by decide +kernel, by decide +kernel, by decide +kernel⟩⟩
set_option maxHeartbeats 4000000 in
set_option maxRecDepth 100000 in
theorem t_X11_count (l : Launch) (D : va_G) (cy : Nat → ClassId) (sz : Nat) (L : List Nat) (K : Nat → tk_K) (Γ : tk_G) (f : Nat → va_E) (o : Nat) (p0 : Int32) (ho : tp_r L K 0 (0) 0 o) : Met l yX11_count (tl_w yX11_count cX11_count 2 (some .int)) ({ frames := 0, cells := 0, slots := 0, locals := 0 }) (va_Pc [.ref o, .int p0] (tp_P D cy L K Γ f sz)) (vp_Si (fun r : Int32 => True)) 0 0 (fun _ => False) := by
  refine Met.ofW (cc := cX11_count) (maxL := 2) (ret := (some .int)) (by decide) rfl ?_
  intro p e s m args below meth c s₁ B hml hv
  obtain ⟨rfl, hsz, hP, hK, hL, hI, hN, hU⟩ := hv
  have hx := B.exec
  have hb := B.bytes
  have hr := B.returns
  have hta := tl_hta (atoms_spec (ws := tl_w yX11_count cX11_count 2 (some .int)) B.pre)
  have hown : s.vm.findClass RX11 = some m.cls := findClass_of_methodNamed B.named
  have hlocks := B.notSynchronized
  subst hsz
  have hI0 := hI
  have hl := lv_entry ([.ref o, .int p0]) (n := 2) (Nat.le_of_ble_eq_true rfl)
  rw [lg_entry_eq]
  generalize (lg_sl ([.ref o, .int p0]) ++ List.replicate (2 - (lg_sl ([.ref o, .int p0])).length) Slot.unset).toArray = ls at hl ⊢
  have hl : lv_has ls 2 [(0, .ref o), (1, .int p0)] := hl
  refine lv_iload_n hx hb dX11_count_0 rfl (lv_at hl 1 rfl) ?_
  rcases (show p0.toInt = 0 ∨ p0.toInt = 1 ∨ p0.toInt = 2 ∨ p0.toInt = 3 ∨ p0.toInt = 4 ∨ p0.toInt = 5 ∨ p0.toInt = 6 ∨ p0.toInt = 7 ∨ p0.toInt = 8 ∨ p0.toInt = 9 ∨ p0.toInt = 10 ∨ (p0.toInt < 0 ∨ 10 < p0.toInt) by omega) with c_1 | c_1 | c_1 | c_1 | c_1 | c_1 | c_1 | c_1 | c_1 | c_1 | c_1 | c_1
  · refine lv_tableIn (tgt := 60) hx hb dX11_count_1 (by omega) (by omega) (by rw [c_1]; rfl) (by decide) ?_
    refine lv_aload_n hx hb dX11_count_60 rfl (lv_at hl 0 rfl) ?_
    obtain ⟨x_3, x_4, x_5, x_6, x_7, x_8, x_9, x_10, x_11, x_12, x_13, x_14, x_15, x_16, x_17, x_18, hf_2, hx_3, hx_4, hx_5, hx_6, hx_7, hx_8, hx_9, hx_10, hx_11, hx_12, hx_13, hx_14, hx_15, hx_16, hx_17, hx_18⟩ := (show tp_o_X L K (0) 0 (Γ (0, 0, 0)) (f o) from hI0.at ho)
    refine tp_get (cy := cy) (ci := 11) (v := .ref x_3) (C := RX11) (T := TX11) (N := 16) hx hb hta inlX11 hown hK hP ho.1 hf_2 rfl 0 (by decide) (hta _ wk_15) (fun _ h9 => h9) rfl dX11_count_61 ?_
    obtain ⟨x_20, x_21, x_22, x_23, x_24, x_25, x_26, x_27, x_28, hf_19, hx_20, hx_21, hx_22, hx_23, hx_24, hx_25, hx_26, hx_27, hx_28⟩ := (show tp_o_BOOK L K (0) 0 (Γ (1, 0, 0)) (f x_3) from hI0.at hx_3)
    refine tp_getN (cy := cy) (ci := 0) (v := .int x_20) (C := RX0) (T := TX0) (N := 9) hx hb hta inlX0 hown hK hP hx_3.1 hf_19 rfl 0 (by decide) (va_Nw.use rfl (hN.1 16 _ nk_16)) (fun _ h9 => h9) rfl dX11_count_64 ?_
    exact W.iret (v := x_20) hx hb hr (fun t ht hW => ⟨_, rfl, trivial, ht⟩) (fun q h => by cases h) dX11_count_67
  · refine lv_tableIn (tgt := 68) hx hb dX11_count_1 (by omega) (by omega) (by rw [c_1]; rfl) (by decide) ?_
    refine lv_aload_n hx hb dX11_count_68 rfl (lv_at hl 0 rfl) ?_
    obtain ⟨x_30, x_31, x_32, x_33, x_34, x_35, x_36, x_37, x_38, x_39, x_40, x_41, x_42, x_43, x_44, x_45, hf_29, hx_30, hx_31, hx_32, hx_33, hx_34, hx_35, hx_36, hx_37, hx_38, hx_39, hx_40, hx_41, hx_42, hx_43, hx_44, hx_45⟩ := (show tp_o_X L K (0) 0 (Γ (0, 0, 0)) (f o) from hI0.at ho)
    refine tp_get (cy := cy) (ci := 11) (v := .ref x_30) (C := RX11) (T := TX11) (N := 16) hx hb hta inlX11 hown hK hP ho.1 hf_29 rfl 0 (by decide) (hta _ wk_15) (fun _ h9 => h9) rfl dX11_count_69 ?_
    obtain ⟨x_47, x_48, x_49, x_50, x_51, x_52, x_53, x_54, x_55, hf_46, hx_47, hx_48, hx_49, hx_50, hx_51, hx_52, hx_53, hx_54, hx_55⟩ := (show tp_o_BOOK L K (0) 0 (Γ (1, 0, 0)) (f x_30) from hI0.at hx_30)
    refine tp_getN (cy := cy) (ci := 0) (v := .ref x_49) (C := RX0) (T := TX0) (N := 9) hx hb hta inlX0 hown hK hP hx_30.1 hf_46 rfl 2 (by decide) (va_Nw.use rfl (hN.1 20 _ nk_20)) (fun _ h9 => h9) rfl dX11_count_72 ?_
    obtain ⟨x_57, x_58, x_59, x_60, x_61, x_62, hf_56, hx_57, hx_59, hx_60, hx_61, hx_62⟩ := (show tp_o_ROWS L K (0) 0 (Γ (3, 0, 0)) (f x_49) from hI0.at hx_49)
    refine tp_getN (cy := cy) (ci := 4) (v := .int x_57) (C := RX4) (T := TX4) (N := 6) hx hb hta inlX4 hown hK hP hx_49.1 hf_56 rfl 0 (by decide) (va_Nw.use rfl (hN.1 2 _ nk_2)) (fun _ h9 => h9) rfl dX11_count_75 ?_
    exact W.iret (v := x_57) hx hb hr (fun t ht hW => ⟨_, rfl, trivial, ht⟩) (fun q h => by cases h) dX11_count_78
  · refine lv_tableIn (tgt := 79) hx hb dX11_count_1 (by omega) (by omega) (by rw [c_1]; rfl) (by decide) ?_
    refine lv_aload_n hx hb dX11_count_79 rfl (lv_at hl 0 rfl) ?_
    obtain ⟨x_64, x_65, x_66, x_67, x_68, x_69, x_70, x_71, x_72, x_73, x_74, x_75, x_76, x_77, x_78, x_79, hf_63, hx_64, hx_65, hx_66, hx_67, hx_68, hx_69, hx_70, hx_71, hx_72, hx_73, hx_74, hx_75, hx_76, hx_77, hx_78, hx_79⟩ := (show tp_o_X L K (0) 0 (Γ (0, 0, 0)) (f o) from hI0.at ho)
    refine tp_get (cy := cy) (ci := 11) (v := .ref x_64) (C := RX11) (T := TX11) (N := 16) hx hb hta inlX11 hown hK hP ho.1 hf_63 rfl 0 (by decide) (hta _ wk_15) (fun _ h9 => h9) rfl dX11_count_80 ?_
    obtain ⟨x_81, x_82, x_83, x_84, x_85, x_86, x_87, x_88, x_89, hf_80, hx_81, hx_82, hx_83, hx_84, hx_85, hx_86, hx_87, hx_88, hx_89⟩ := (show tp_o_BOOK L K (0) 0 (Γ (1, 0, 0)) (f x_64) from hI0.at hx_64)
    refine tp_getN (cy := cy) (ci := 0) (v := .ref x_84) (C := RX0) (T := TX0) (N := 9) hx hb hta inlX0 hown hK hP hx_64.1 hf_80 rfl 3 (by decide) (va_Nw.use rfl (hN.1 21 _ nk_21)) (fun _ h9 => h9) rfl dX11_count_83 ?_
    obtain ⟨x_91, x_92, x_93, hf_90, hx_91, hx_92, hx_93⟩ := (show tp_o_TABLE L K (40) 0 (Γ (7, 40, 0)) (f x_84) from hI0.at hx_84)
    refine tp_getN (cy := cy) (ci := 6) (v := .int x_93) (C := RX6) (T := TX6) (N := 3) hx hb hta inlX6 hown hK hP hx_84.1 hf_90 rfl 2 (by decide) (va_Nw.use rfl (hN.1 15 _ nk_15)) (fun _ h9 => h9) rfl dX11_count_86 ?_
    exact W.iret (v := x_93) hx hb hr (fun t ht hW => ⟨_, rfl, trivial, ht⟩) (fun q h => by cases h) dX11_count_89
  · refine lv_tableIn (tgt := 90) hx hb dX11_count_1 (by omega) (by omega) (by rw [c_1]; rfl) (by decide) ?_
    refine lv_aload_n hx hb dX11_count_90 rfl (lv_at hl 0 rfl) ?_
    obtain ⟨x_95, x_96, x_97, x_98, x_99, x_100, x_101, x_102, x_103, x_104, x_105, x_106, x_107, x_108, x_109, x_110, hf_94, hx_95, hx_96, hx_97, hx_98, hx_99, hx_100, hx_101, hx_102, hx_103, hx_104, hx_105, hx_106, hx_107, hx_108, hx_109, hx_110⟩ := (show tp_o_X L K (0) 0 (Γ (0, 0, 0)) (f o) from hI0.at ho)
    refine tp_get (cy := cy) (ci := 11) (v := .ref x_95) (C := RX11) (T := TX11) (N := 16) hx hb hta inlX11 hown hK hP ho.1 hf_94 rfl 0 (by decide) (hta _ wk_15) (fun _ h9 => h9) rfl dX11_count_91 ?_
    obtain ⟨x_112, x_113, x_114, x_115, x_116, x_117, x_118, x_119, x_120, hf_111, hx_112, hx_113, hx_114, hx_115, hx_116, hx_117, hx_118, hx_119, hx_120⟩ := (show tp_o_BOOK L K (0) 0 (Γ (1, 0, 0)) (f x_95) from hI0.at hx_95)
    refine tp_getN (cy := cy) (ci := 0) (v := .ref x_116) (C := RX0) (T := TX0) (N := 9) hx hb hta inlX0 hown hK hP hx_95.1 hf_111 rfl 4 (by decide) (va_Nw.use rfl (hN.1 22 _ nk_22)) (fun _ h9 => h9) rfl dX11_count_94 ?_
    obtain ⟨x_122, x_123, x_124, hf_121, hx_122, hx_123, hx_124⟩ := (show tp_o_TABLE L K (60) 0 (Γ (7, 60, 0)) (f x_116) from hI0.at hx_116)
    refine tp_getN (cy := cy) (ci := 6) (v := .int x_124) (C := RX6) (T := TX6) (N := 3) hx hb hta inlX6 hown hK hP hx_116.1 hf_121 rfl 2 (by decide) (va_Nw.use rfl (hN.1 15 _ nk_15)) (fun _ h9 => h9) rfl dX11_count_97 ?_
    exact W.iret (v := x_124) hx hb hr (fun t ht hW => ⟨_, rfl, trivial, ht⟩) (fun q h => by cases h) dX11_count_100
  · refine lv_tableIn (tgt := 101) hx hb dX11_count_1 (by omega) (by omega) (by rw [c_1]; rfl) (by decide) ?_
    refine lv_aload_n hx hb dX11_count_101 rfl (lv_at hl 0 rfl) ?_
    obtain ⟨x_126, x_127, x_128, x_129, x_130, x_131, x_132, x_133, x_134, x_135, x_136, x_137, x_138, x_139, x_140, x_141, hf_125, hx_126, hx_127, hx_128, hx_129, hx_130, hx_131, hx_132, hx_133, hx_134, hx_135, hx_136, hx_137, hx_138, hx_139, hx_140, hx_141⟩ := (show tp_o_X L K (0) 0 (Γ (0, 0, 0)) (f o) from hI0.at ho)
    refine tp_get (cy := cy) (ci := 11) (v := .ref x_128) (C := RX11) (T := TX11) (N := 16) hx hb hta inlX11 hown hK hP ho.1 hf_125 rfl 2 (by decide) (hta _ wk_20) (fun _ h9 => h9) rfl dX11_count_102 ?_
    obtain ⟨x_143, x_144, hf_142, hx_143, hx_144⟩ := (show tp_o_TEXTS L K (6) 0 (Γ (13, 6, 0)) (f x_128) from hI0.at hx_128)
    refine tp_getN (cy := cy) (ci := 8) (v := .int x_144) (C := RX8) (T := TX8) (N := 2) hx hb hta inlX8 hown hK hP hx_128.1 hf_142 rfl 1 (by decide) (va_Nw.use rfl (hN.1 28 _ nk_28)) (fun _ h9 => h9) rfl dX11_count_105 ?_
    exact W.iret (v := x_144) hx hb hr (fun t ht hW => ⟨_, rfl, trivial, ht⟩) (fun q h => by cases h) dX11_count_108
  · refine lv_tableIn (tgt := 109) hx hb dX11_count_1 (by omega) (by omega) (by rw [c_1]; rfl) (by decide) ?_
    refine lv_aload_n hx hb dX11_count_109 rfl (lv_at hl 0 rfl) ?_
    obtain ⟨x_146, x_147, x_148, x_149, x_150, x_151, x_152, x_153, x_154, x_155, x_156, x_157, x_158, x_159, x_160, x_161, hf_145, hx_146, hx_147, hx_148, hx_149, hx_150, hx_151, hx_152, hx_153, hx_154, hx_155, hx_156, hx_157, hx_158, hx_159, hx_160, hx_161⟩ := (show tp_o_X L K (0) 0 (Γ (0, 0, 0)) (f o) from hI0.at ho)
    refine tp_get (cy := cy) (ci := 11) (v := .ref x_149) (C := RX11) (T := TX11) (N := 16) hx hb hta inlX11 hown hK hP ho.1 hf_145 rfl 3 (by decide) (hta _ wk_21) (fun _ h9 => h9) rfl dX11_count_110 ?_
    obtain ⟨x_163, x_164, hf_162, hx_163, hx_164⟩ := (show tp_o_TEXTS L K (8) 0 (Γ (13, 8, 0)) (f x_149) from hI0.at hx_149)
    refine tp_getN (cy := cy) (ci := 8) (v := .int x_164) (C := RX8) (T := TX8) (N := 2) hx hb hta inlX8 hown hK hP hx_149.1 hf_162 rfl 1 (by decide) (va_Nw.use rfl (hN.1 28 _ nk_28)) (fun _ h9 => h9) rfl dX11_count_113 ?_
    exact W.iret (v := x_164) hx hb hr (fun t ht hW => ⟨_, rfl, trivial, ht⟩) (fun q h => by cases h) dX11_count_116
  · refine lv_tableIn (tgt := 117) hx hb dX11_count_1 (by omega) (by omega) (by rw [c_1]; rfl) (by decide) ?_
    refine lv_aload_n hx hb dX11_count_117 rfl (lv_at hl 0 rfl) ?_
    obtain ⟨x_166, x_167, x_168, x_169, x_170, x_171, x_172, x_173, x_174, x_175, x_176, x_177, x_178, x_179, x_180, x_181, hf_165, hx_166, hx_167, hx_168, hx_169, hx_170, hx_171, hx_172, hx_173, hx_174, hx_175, hx_176, hx_177, hx_178, hx_179, hx_180, hx_181⟩ := (show tp_o_X L K (0) 0 (Γ (0, 0, 0)) (f o) from hI0.at ho)
    refine tp_get (cy := cy) (ci := 11) (v := .ref x_170) (C := RX11) (T := TX11) (N := 16) hx hb hta inlX11 hown hK hP ho.1 hf_165 rfl 4 (by decide) (hta _ wk_22) (fun _ h9 => h9) rfl dX11_count_118 ?_
    obtain ⟨x_183, x_184, hf_182, hx_183, hx_184⟩ := (show tp_o_TEXTS L K (8) 0 (Γ (13, 8, 0)) (f x_170) from hI0.at hx_170)
    refine tp_getN (cy := cy) (ci := 8) (v := .int x_184) (C := RX8) (T := TX8) (N := 2) hx hb hta inlX8 hown hK hP hx_170.1 hf_182 rfl 1 (by decide) (va_Nw.use rfl (hN.1 28 _ nk_28)) (fun _ h9 => h9) rfl dX11_count_121 ?_
    exact W.iret (v := x_184) hx hb hr (fun t ht hW => ⟨_, rfl, trivial, ht⟩) (fun q h => by cases h) dX11_count_124
  · refine lv_tableIn (tgt := 125) hx hb dX11_count_1 (by omega) (by omega) (by rw [c_1]; rfl) (by decide) ?_
    refine lv_aload_n hx hb dX11_count_125 rfl (lv_at hl 0 rfl) ?_
    obtain ⟨x_186, x_187, x_188, x_189, x_190, x_191, x_192, x_193, x_194, x_195, x_196, x_197, x_198, x_199, x_200, x_201, hf_185, hx_186, hx_187, hx_188, hx_189, hx_190, hx_191, hx_192, hx_193, hx_194, hx_195, hx_196, hx_197, hx_198, hx_199, hx_200, hx_201⟩ := (show tp_o_X L K (0) 0 (Γ (0, 0, 0)) (f o) from hI0.at ho)
    refine tp_get (cy := cy) (ci := 11) (v := .ref x_186) (C := RX11) (T := TX11) (N := 16) hx hb hta inlX11 hown hK hP ho.1 hf_185 rfl 0 (by decide) (hta _ wk_15) (fun _ h9 => h9) rfl dX11_count_126 ?_
    obtain ⟨x_203, x_204, x_205, x_206, x_207, x_208, x_209, x_210, x_211, hf_202, hx_203, hx_204, hx_205, hx_206, hx_207, hx_208, hx_209, hx_210, hx_211⟩ := (show tp_o_BOOK L K (0) 0 (Γ (1, 0, 0)) (f x_186) from hI0.at hx_186)
    refine tp_getN (cy := cy) (ci := 0) (v := .ref x_208) (C := RX0) (T := TX0) (N := 9) hx hb hta inlX0 hown hK hP hx_186.1 hf_202 rfl 5 (by decide) (va_Nw.use rfl (hN.1 23 _ nk_23)) (fun _ h9 => h9) rfl dX11_count_129 ?_
    obtain ⟨x_213, x_214, x_215, hf_212, hx_213, hx_214, hx_215⟩ := (show tp_o_TABLE L K (10) 0 (Γ (7, 10, 0)) (f x_208) from hI0.at hx_208)
    refine tp_getN (cy := cy) (ci := 6) (v := .int x_215) (C := RX6) (T := TX6) (N := 3) hx hb hta inlX6 hown hK hP hx_208.1 hf_212 rfl 2 (by decide) (va_Nw.use rfl (hN.1 15 _ nk_15)) (fun _ h9 => h9) rfl dX11_count_132 ?_
    exact W.iret (v := x_215) hx hb hr (fun t ht hW => ⟨_, rfl, trivial, ht⟩) (fun q h => by cases h) dX11_count_135
  · refine lv_tableIn (tgt := 136) hx hb dX11_count_1 (by omega) (by omega) (by rw [c_1]; rfl) (by decide) ?_
    refine lv_aload_n hx hb dX11_count_136 rfl (lv_at hl 0 rfl) ?_
    obtain ⟨x_217, x_218, x_219, x_220, x_221, x_222, x_223, x_224, x_225, x_226, x_227, x_228, x_229, x_230, x_231, x_232, hf_216, hx_217, hx_218, hx_219, hx_220, hx_221, hx_222, hx_223, hx_224, hx_225, hx_226, hx_227, hx_228, hx_229, hx_230, hx_231, hx_232⟩ := (show tp_o_X L K (0) 0 (Γ (0, 0, 0)) (f o) from hI0.at ho)
    refine tp_get (cy := cy) (ci := 11) (v := .ref x_217) (C := RX11) (T := TX11) (N := 16) hx hb hta inlX11 hown hK hP ho.1 hf_216 rfl 0 (by decide) (hta _ wk_15) (fun _ h9 => h9) rfl dX11_count_137 ?_
    obtain ⟨x_234, x_235, x_236, x_237, x_238, x_239, x_240, x_241, x_242, hf_233, hx_234, hx_235, hx_236, hx_237, hx_238, hx_239, hx_240, hx_241, hx_242⟩ := (show tp_o_BOOK L K (0) 0 (Γ (1, 0, 0)) (f x_217) from hI0.at hx_217)
    refine tp_getN (cy := cy) (ci := 0) (v := .ref x_236) (C := RX0) (T := TX0) (N := 9) hx hb hta inlX0 hown hK hP hx_217.1 hf_233 rfl 2 (by decide) (va_Nw.use rfl (hN.1 20 _ nk_20)) (fun _ h9 => h9) rfl dX11_count_140 ?_
    obtain ⟨x_244, x_245, x_246, x_247, x_248, x_249, hf_243, hx_244, hx_246, hx_247, hx_248, hx_249⟩ := (show tp_o_ROWS L K (0) 0 (Γ (3, 0, 0)) (f x_236) from hI0.at hx_236)
    refine tp_getN (cy := cy) (ci := 4) (v := .int x_245) (C := RX4) (T := TX4) (N := 6) hx hb hta inlX4 hown hK hP hx_236.1 hf_243 rfl 1 (by decide) (va_Nw.use rfl (hN.1 3 _ nk_3)) (fun _ h9 => h9) rfl dX11_count_143 ?_
    exact W.iret (v := x_245) hx hb hr (fun t ht hW => ⟨_, rfl, trivial, ht⟩) (fun q h => by cases h) dX11_count_146
  · refine lv_tableIn (tgt := 147) hx hb dX11_count_1 (by omega) (by omega) (by rw [c_1]; rfl) (by decide) ?_
    refine lv_aload_n hx hb dX11_count_147 rfl (lv_at hl 0 rfl) ?_
    obtain ⟨x_251, x_252, x_253, x_254, x_255, x_256, x_257, x_258, x_259, x_260, x_261, x_262, x_263, x_264, x_265, x_266, hf_250, hx_251, hx_252, hx_253, hx_254, hx_255, hx_256, hx_257, hx_258, hx_259, hx_260, hx_261, hx_262, hx_263, hx_264, hx_265, hx_266⟩ := (show tp_o_X L K (0) 0 (Γ (0, 0, 0)) (f o) from hI0.at ho)
    refine tp_get (cy := cy) (ci := 11) (v := .ref x_251) (C := RX11) (T := TX11) (N := 16) hx hb hta inlX11 hown hK hP ho.1 hf_250 rfl 0 (by decide) (hta _ wk_15) (fun _ h9 => h9) rfl dX11_count_148 ?_
    obtain ⟨x_268, x_269, x_270, x_271, x_272, x_273, x_274, x_275, x_276, hf_267, hx_268, hx_269, hx_270, hx_271, hx_272, hx_273, hx_274, hx_275, hx_276⟩ := (show tp_o_BOOK L K (0) 0 (Γ (1, 0, 0)) (f x_251) from hI0.at hx_251)
    refine tp_getN (cy := cy) (ci := 0) (v := .int x_276) (C := RX0) (T := TX0) (N := 9) hx hb hta inlX0 hown hK hP hx_251.1 hf_267 rfl 8 (by decide) (va_Nw.use rfl (hN.1 26 _ nk_26)) (fun _ h9 => h9) rfl dX11_count_151 ?_
    exact W.iret (v := x_276) hx hb hr (fun t ht hW => ⟨_, rfl, trivial, ht⟩) (fun q h => by cases h) dX11_count_154
  · refine lv_tableIn (tgt := 155) hx hb dX11_count_1 (by omega) (by omega) (by rw [c_1]; rfl) (by decide) ?_
    refine lv_aload_n hx hb dX11_count_155 rfl (lv_at hl 0 rfl) ?_
    obtain ⟨x_278, x_279, x_280, x_281, x_282, x_283, x_284, x_285, x_286, x_287, x_288, x_289, x_290, x_291, x_292, x_293, hf_277, hx_278, hx_279, hx_280, hx_281, hx_282, hx_283, hx_284, hx_285, hx_286, hx_287, hx_288, hx_289, hx_290, hx_291, hx_292, hx_293⟩ := (show tp_o_X L K (0) 0 (Γ (0, 0, 0)) (f o) from hI0.at ho)
    refine tp_get (cy := cy) (ci := 11) (v := .ref x_278) (C := RX11) (T := TX11) (N := 16) hx hb hta inlX11 hown hK hP ho.1 hf_277 rfl 0 (by decide) (hta _ wk_15) (fun _ h9 => h9) rfl dX11_count_156 ?_
    obtain ⟨x_295, x_296, x_297, x_298, x_299, x_300, x_301, x_302, x_303, hf_294, hx_295, hx_296, hx_297, hx_298, hx_299, hx_300, hx_301, hx_302, hx_303⟩ := (show tp_o_BOOK L K (0) 0 (Γ (1, 0, 0)) (f x_278) from hI0.at hx_278)
    refine tp_getN (cy := cy) (ci := 0) (v := .ref x_301) (C := RX0) (T := TX0) (N := 9) hx hb hta inlX0 hown hK hP hx_278.1 hf_294 rfl 6 (by decide) (va_Nw.use rfl (hN.1 24 _ nk_24)) (fun _ h9 => h9) rfl dX11_count_159 ?_
    obtain ⟨x_305, x_306, x_307, hf_304, hx_305, hx_306, hx_307⟩ := (show tp_o_HTABLE L K (8) 0 (Γ (9, 8, 0)) (f x_301) from hI0.at hx_301)
    refine tp_getN (cy := cy) (ci := 6) (v := .int x_307) (C := RX6) (T := TX6) (N := 3) hx hb hta inlX6 hown hK hP hx_301.1 hf_304 rfl 2 (by decide) (va_Nw.use rfl (hN.1 15 _ nk_15)) (fun _ h9 => h9) rfl dX11_count_162 ?_
    exact W.iret (v := x_307) hx hb hr (fun t ht hW => ⟨_, rfl, trivial, ht⟩) (fun q h => by cases h) dX11_count_165
  · refine lv_tableOut (tgt := 166) hx hb dX11_count_1 (by omega) (by decide) ?_
    refine lv_iconst (v := (-1)) hx hb dX11_count_166 (by decide) ?_
    exact W.iret (v := (-1)) hx hb hr (fun t ht hW => ⟨_, rfl, trivial, ht⟩) (fun q h => by cases h) dX11_count_167
set_option maxHeartbeats 4000000 in
set_option maxRecDepth 100000 in
theorem t_X11_raw (l : Launch) (D : va_G) (cy : Nat → ClassId) (sz : Nat) (L : List Nat) (K : Nat → tk_K) (Γ : tk_G) (f : Nat → va_E) (o : Nat) (p0 : Int32) (p1 : Int32) (p2 : Int32) (ho : tp_r L K 0 (0) 0 o) : Met l yX11_raw (tl_w yX11_raw cX11_raw 5 (some .int)) ({ frames := 3, cells := 0, slots := 0, locals := 66 }) (va_Pc [.ref o, .int p0, .int p1, .int p2] (tp_P D cy L K Γ f sz)) (va_Qi (fun (r : Int32) (u : Nat → va_E) => True) (tp_B D cy L K Γ f [3, 6]) (tp_A L sz)) 0 0 (tp_A L sz) := by
  refine Met.ofW (cc := cX11_raw) (maxL := 5) (ret := (some .int)) (by decide) rfl ?_
  intro p e s m args below meth c s₁ B hml hv
  obtain ⟨rfl, hsz, hP, hK, hL, hI, hN, hU⟩ := hv
  have hx := B.exec
  have hb := B.bytes
  have hr := B.returns
  have hta := tl_hta (atoms_spec (ws := tl_w yX11_raw cX11_raw 5 (some .int)) B.pre)
  have hown : s.vm.findClass RX11 = some m.cls := findClass_of_methodNamed B.named
  have hlocks := B.notSynchronized
  subst hsz
  have hI0 := hI
  generalize hAe : tp_A L s.heap.size = A
  have hA : ∀ q : Nat, s.heap.size ≤ q → A q := fun q h => by rw [← hAe]; exact Or.inr h
  have hAL : ∀ q ∈ L, A q := fun q h => by rw [← hAe]; exact Or.inl h
  have hAf : ∀ (H : Heap), s.heap.size ≤ H.size → ∀ q, tp_A L H.size q → A q := fun H h q hq => hq.elim (hAL q) (fun h2 => hA q (Nat.le_trans h h2))
  have hS : va_S A s.heap s.heap [] := va_S.rf
  have hD : va_D A (va_pl L f) := tp_D hL hAL
  have hfr : ∀ b, (K b).1 ∉ ([3, 6] : List Nat) → f b = f b := fun _ _ => rfl
  have hl := lv_entry ([.ref o, .int p0, .int p1, .int p2]) (n := 5) (Nat.le_of_ble_eq_true rfl)
  rw [lg_entry_eq]
  generalize (lg_sl ([.ref o, .int p0, .int p1, .int p2]) ++ List.replicate (5 - (lg_sl ([.ref o, .int p0, .int p1, .int p2])).length) Slot.unset).toArray = ls at hl ⊢
  have hl : lv_has ls 5 [(0, .ref o), (1, .int p0), (2, .int p1), (3, .int p2)] := hl
  refine lv_iload_n hx hb dX11_raw_0 rfl (lv_at hl 3 rfl) ?_
  refine lv_ldc (v := (-1000000)) hx hb hown (hta _ wk_227) dX11_raw_1 ?_
  refine lv_icmp_eq (tgt := 17) hx hb dX11_raw_3 (by decide) (fun c_1 => ?_) (fun c_1 => ?_)
  · have c_1 : p2.toInt = (-1000000 : Int) := tl_eq c_1
    refine lv_iconst (v := 1) hx hb dX11_raw_17 (by decide) ?_
    refine lv_goto (tgt := 22) hx hb dX11_raw_18 (by decide) ?_
    refine lv_istore (lv' := [(4, .int 1), (0, .ref o), (1, .int p0), (2, .int p1), (3, .int p2)]) hx hb dX11_raw_22 hl (by decide) rfl (fun ls hl => ?_)
    refine lv_aload_n hx hb dX11_raw_24 rfl (lv_at hl 1 rfl) ?_
    obtain ⟨x_3, x_4, x_5, x_6, x_7, x_8, x_9, x_10, x_11, x_12, x_13, x_14, x_15, x_16, x_17, x_18, hf_2, hx_3, hx_4, hx_5, hx_6, hx_7, hx_8, hx_9, hx_10, hx_11, hx_12, hx_13, hx_14, hx_15, hx_16, hx_17, hx_18⟩ := (show tp_o_X L K (0) 0 (Γ (0, 0, 0)) (f o) from hI0.at ho)
    refine tp_get (cy := cy) (ci := 11) (v := .ref x_3) (C := RX11) (T := TX11) (N := 16) hx hb hta inlX11 hown hK hP ho.1 hf_2 rfl 0 (by decide) (hta _ wk_15) (fun _ h9 => h9) rfl dX11_raw_25 ?_
    obtain ⟨x_20, x_21, x_22, x_23, x_24, x_25, x_26, x_27, x_28, hf_19, hx_20, hx_21, hx_22, hx_23, hx_24, hx_25, hx_26, hx_27, hx_28⟩ := (show tp_o_BOOK L K (0) 0 (Γ (1, 0, 0)) (f x_3) from hI0.at hx_3)
    refine tp_getN (cy := cy) (ci := 0) (v := .ref x_22) (C := RX0) (T := TX0) (N := 9) hx hb hta inlX0 hown hK hP hx_3.1 hf_19 rfl 2 (by decide) (va_Nw.use rfl (hN.1 20 _ nk_20)) (fun _ h9 => h9) rfl dX11_raw_28 ?_
    refine lv_iload_n hx hb dX11_raw_31 rfl (lv_at hl 2 rfl) ?_
    obtain ⟨x_30, x_31, x_32, x_33, x_34, x_35, hf_29, hx_30, hx_32, hx_33, hx_34, hx_35⟩ := (show tp_o_ROWS L K (0) 0 (Γ (3, 0, 0)) (f x_22) from hI.at hx_22)
    refine tl_si (tq_rVN hN (As := [.int p0]) (rest := []) ⟨hx, hb, hml, hown, hta⟩ (tp_P.pre hK hN hL hU hI hP) (tp_recv hK hP hx_22.1 hf_29 rfl) lk_X11_122 (t_X4_has l D cy s.heap.size L K Γ f 0 x_22 p0 hx_22) rfl rfl ⟨Nat.le_of_ble_eq_true rfl, Nat.le_of_ble_eq_true rfl⟩ rfl hl.1 rfl (Nat.le_of_ble_eq_true rfl) dX11_raw_32 ⟨Nat.le_of_ble_eq_true rfl, Nat.le_of_ble_eq_true rfl⟩) (fun r_37 hw_36 => ?_)
    have hw_36 : tl_E r_37 (0 ≤ p0.toInt ∧ p0.toInt < Γ (3, 0, 0) 0) 1 0 := hw_36
    refine lv_if_eq (tgt := 50) hx hb dX11_raw_35 (by decide) (fun c_38 => ?_) (fun c_38 => ?_)
    · have c_38 := hw_36.f c_38
      refine lv_ldc (v := (-2000000)) hx hb hown (hta _ wk_230) dX11_raw_50 ?_
      exact W.iret (v := (-2000000)) hx hb hr (fun t ht hW => ⟨⟨_, f, rfl, trivial, by rw [ht]; exact hP, hI, hfr⟩, hS.F ht⟩) hS.2.2 dX11_raw_52
    · have c_38 := hw_36.t c_38
      refine lv_iload_n hx hb dX11_raw_38 rfl (lv_at hl 3 rfl) ?_
      refine tl_si (tq_rS (As := [.int p1]) (rest := []) ⟨hx, hb, hml, hown, hta⟩ (tp_P.pre hK hN hL hU hI hP) lk_X11_125 (t_X11_isColour l D cy s.heap.size L K Γ f p1 ) rfl rfl ⟨Nat.le_of_ble_eq_true rfl, Nat.le_of_ble_eq_true rfl⟩ rfl hl.1 rfl (Nat.le_of_ble_eq_true rfl) dX11_raw_39 ⟨Nat.le_of_ble_eq_true rfl, Nat.le_of_ble_eq_true rfl⟩) (fun r_40 hw_39 => ?_)
      have hw_39 : tl_E r_40 (0 ≤ p1.toInt ∧ p1.toInt ≤ 299) 1 0 := hw_39
      refine lv_if_eq (tgt := 50) hx hb dX11_raw_42 (by decide) (fun c_41 => ?_) (fun c_41 => ?_)
      · have c_41 := hw_39.f c_41
        refine lv_ldc (v := (-2000000)) hx hb hown (hta _ wk_230) dX11_raw_50 ?_
        exact W.iret (v := (-2000000)) hx hb hr (fun t ht hW => ⟨⟨_, f, rfl, trivial, by rw [ht]; exact hP, hI, hfr⟩, hS.F ht⟩) hS.2.2 dX11_raw_52
      · have c_41 := hw_39.t c_41
        refine lv_iload hx hb dX11_raw_45 (lv_at hl 0 rfl) ?_
        refine lv_if_ne (tgt := 53) hx hb dX11_raw_47 (by decide) (fun _ => ?_) (fun c => absurd c (by decide))
        refine lv_aload_n hx hb dX11_raw_53 rfl (lv_at hl 1 rfl) ?_
        refine tp_get (cy := cy) (ci := 11) (v := .ref x_3) (C := RX11) (T := TX11) (N := 16) hx hb hta inlX11 hown hK hP ho.1 hf_2 rfl 0 (by decide) (hta _ wk_15) (fun _ h9 => h9) rfl dX11_raw_54 ?_
        refine tp_getN (cy := cy) (ci := 0) (v := .ref x_22) (C := RX0) (T := TX0) (N := 9) hx hb hta inlX0 hown hK hP hx_3.1 hf_19 rfl 2 (by decide) (va_Nw.use rfl (hN.1 20 _ nk_20)) (fun _ h9 => h9) rfl dX11_raw_57 ?_
        refine lv_iload_n hx hb dX11_raw_60 rfl (lv_at hl 2 rfl) ?_
        refine lv_iload_n hx hb dX11_raw_61 rfl (lv_at hl 3 rfl) ?_
        refine lv_iload_n hx hb dX11_raw_62 rfl (lv_at hl 4 rfl) ?_
        refine tq_ci hS (hAf _ hS.1) (tq_rVN hN (As := [.int p0, .int p1, .int p2]) (rest := []) ⟨hx, hb, hml, hown, hta⟩ (tp_P.pre hK hN hL hU hI hP) (tp_recv hK hP hx_22.1 hf_29 rfl) lk_X11_129 (t_X4_put l D cy s.heap.size L K Γ f 0 x_22 p0 p1 p2 hx_22) rfl rfl ⟨Nat.le_of_ble_eq_true rfl, Nat.le_of_ble_eq_true rfl⟩ rfl hl.1 rfl (Nat.le_of_ble_eq_true rfl) dX11_raw_63 ⟨Nat.le_of_ble_eq_true rfl, Nat.le_of_ble_eq_true rfl⟩) (fun r_43 f_44 H locs hw_42 hP hI hc_45 hS => ?_)
        have hD : va_D A (va_pl L f_44) := tp_D hL hAL
        have hfr := tp_fr2 hfr hc_45 (by decide)
        exact W.iret (v := r_43) hx hb hr (fun t ht hW => ⟨⟨_, f_44, rfl, trivial, by rw [ht]; exact hP, hI, hfr⟩, hS.F ht⟩) hS.2.2 dX11_raw_66
  · have c_1 : ¬ p2.toInt = (-1000000 : Int) := tl_neq c_1
    refine lv_iload_n hx hb dX11_raw_6 rfl (lv_at hl 3 rfl) ?_
    refine lv_ldc (v := (-100000)) hx hb hown (hta _ wk_228) dX11_raw_7 ?_
    refine lv_ldc (v := 100000) hx hb hown (hta _ wk_229) dX11_raw_9 ?_
    refine tl_si (tq_rS (As := [.int p2, .int (-100000), .int 100000]) (rest := []) ⟨hx, hb, hml, hown, hta⟩ (tp_P.pre hK hN hL hU hI hP) lk_X11_105 (t_X11_isIn l D cy s.heap.size L K Γ f p2 (-100000) 100000 ) rfl rfl ⟨Nat.le_of_ble_eq_true rfl, Nat.le_of_ble_eq_true rfl⟩ rfl hl.1 rfl (Nat.le_of_ble_eq_true rfl) dX11_raw_11 ⟨Nat.le_of_ble_eq_true rfl, Nat.le_of_ble_eq_true rfl⟩) (fun r_47 hw_46 => ?_)
    have hw_46 : tl_E r_47 ((-100000 : Int) ≤ p2.toInt ∧ p2.toInt ≤ (100000 : Int)) 1 0 := hw_46
    refine lv_if_eq (tgt := 21) hx hb dX11_raw_14 (by decide) (fun c_48 => ?_) (fun c_48 => ?_)
    · have c_48 := hw_46.f c_48
      refine lv_iconst (v := 0) hx hb dX11_raw_21 (by decide) ?_
      refine lv_istore (lv' := [(4, .int 0), (0, .ref o), (1, .int p0), (2, .int p1), (3, .int p2)]) hx hb dX11_raw_22 hl (by decide) rfl (fun ls hl => ?_)
      refine lv_aload_n hx hb dX11_raw_24 rfl (lv_at hl 1 rfl) ?_
      obtain ⟨x_50, x_51, x_52, x_53, x_54, x_55, x_56, x_57, x_58, x_59, x_60, x_61, x_62, x_63, x_64, x_65, hf_49, hx_50, hx_51, hx_52, hx_53, hx_54, hx_55, hx_56, hx_57, hx_58, hx_59, hx_60, hx_61, hx_62, hx_63, hx_64, hx_65⟩ := (show tp_o_X L K (0) 0 (Γ (0, 0, 0)) (f o) from hI0.at ho)
      refine tp_get (cy := cy) (ci := 11) (v := .ref x_50) (C := RX11) (T := TX11) (N := 16) hx hb hta inlX11 hown hK hP ho.1 hf_49 rfl 0 (by decide) (hta _ wk_15) (fun _ h9 => h9) rfl dX11_raw_25 ?_
      obtain ⟨x_67, x_68, x_69, x_70, x_71, x_72, x_73, x_74, x_75, hf_66, hx_67, hx_68, hx_69, hx_70, hx_71, hx_72, hx_73, hx_74, hx_75⟩ := (show tp_o_BOOK L K (0) 0 (Γ (1, 0, 0)) (f x_50) from hI0.at hx_50)
      refine tp_getN (cy := cy) (ci := 0) (v := .ref x_69) (C := RX0) (T := TX0) (N := 9) hx hb hta inlX0 hown hK hP hx_50.1 hf_66 rfl 2 (by decide) (va_Nw.use rfl (hN.1 20 _ nk_20)) (fun _ h9 => h9) rfl dX11_raw_28 ?_
      refine lv_iload_n hx hb dX11_raw_31 rfl (lv_at hl 2 rfl) ?_
      obtain ⟨x_77, x_78, x_79, x_80, x_81, x_82, hf_76, hx_77, hx_79, hx_80, hx_81, hx_82⟩ := (show tp_o_ROWS L K (0) 0 (Γ (3, 0, 0)) (f x_69) from hI.at hx_69)
      refine tl_si (tq_rVN hN (As := [.int p0]) (rest := []) ⟨hx, hb, hml, hown, hta⟩ (tp_P.pre hK hN hL hU hI hP) (tp_recv hK hP hx_69.1 hf_76 rfl) lk_X11_122 (t_X4_has l D cy s.heap.size L K Γ f 0 x_69 p0 hx_69) rfl rfl ⟨Nat.le_of_ble_eq_true rfl, Nat.le_of_ble_eq_true rfl⟩ rfl hl.1 rfl (Nat.le_of_ble_eq_true rfl) dX11_raw_32 ⟨Nat.le_of_ble_eq_true rfl, Nat.le_of_ble_eq_true rfl⟩) (fun r_84 hw_83 => ?_)
      have hw_83 : tl_E r_84 (0 ≤ p0.toInt ∧ p0.toInt < Γ (3, 0, 0) 0) 1 0 := hw_83
      refine lv_if_eq (tgt := 50) hx hb dX11_raw_35 (by decide) (fun c_85 => ?_) (fun c_85 => ?_)
      · have c_85 := hw_83.f c_85
        refine lv_ldc (v := (-2000000)) hx hb hown (hta _ wk_230) dX11_raw_50 ?_
        exact W.iret (v := (-2000000)) hx hb hr (fun t ht hW => ⟨⟨_, f, rfl, trivial, by rw [ht]; exact hP, hI, hfr⟩, hS.F ht⟩) hS.2.2 dX11_raw_52
      · have c_85 := hw_83.t c_85
        refine lv_iload_n hx hb dX11_raw_38 rfl (lv_at hl 3 rfl) ?_
        refine tl_si (tq_rS (As := [.int p1]) (rest := []) ⟨hx, hb, hml, hown, hta⟩ (tp_P.pre hK hN hL hU hI hP) lk_X11_125 (t_X11_isColour l D cy s.heap.size L K Γ f p1 ) rfl rfl ⟨Nat.le_of_ble_eq_true rfl, Nat.le_of_ble_eq_true rfl⟩ rfl hl.1 rfl (Nat.le_of_ble_eq_true rfl) dX11_raw_39 ⟨Nat.le_of_ble_eq_true rfl, Nat.le_of_ble_eq_true rfl⟩) (fun r_87 hw_86 => ?_)
        have hw_86 : tl_E r_87 (0 ≤ p1.toInt ∧ p1.toInt ≤ 299) 1 0 := hw_86
        refine lv_if_eq (tgt := 50) hx hb dX11_raw_42 (by decide) (fun c_88 => ?_) (fun c_88 => ?_)
        · have c_88 := hw_86.f c_88
          refine lv_ldc (v := (-2000000)) hx hb hown (hta _ wk_230) dX11_raw_50 ?_
          exact W.iret (v := (-2000000)) hx hb hr (fun t ht hW => ⟨⟨_, f, rfl, trivial, by rw [ht]; exact hP, hI, hfr⟩, hS.F ht⟩) hS.2.2 dX11_raw_52
        · have c_88 := hw_86.t c_88
          refine lv_iload hx hb dX11_raw_45 (lv_at hl 0 rfl) ?_
          refine lv_if_ne (tgt := 53) hx hb dX11_raw_47 (by decide) (fun c => absurd c (by decide)) (fun _ => ?_)
          refine lv_ldc (v := (-2000000)) hx hb hown (hta _ wk_230) dX11_raw_50 ?_
          exact W.iret (v := (-2000000)) hx hb hr (fun t ht hW => ⟨⟨_, f, rfl, trivial, by rw [ht]; exact hP, hI, hfr⟩, hS.F ht⟩) hS.2.2 dX11_raw_52
    · have c_48 := hw_46.t c_48
      refine lv_iconst (v := 1) hx hb dX11_raw_17 (by decide) ?_
      refine lv_goto (tgt := 22) hx hb dX11_raw_18 (by decide) ?_
      refine lv_istore (lv' := [(4, .int 1), (0, .ref o), (1, .int p0), (2, .int p1), (3, .int p2)]) hx hb dX11_raw_22 hl (by decide) rfl (fun ls hl => ?_)
      refine lv_aload_n hx hb dX11_raw_24 rfl (lv_at hl 1 rfl) ?_
      obtain ⟨x_90, x_91, x_92, x_93, x_94, x_95, x_96, x_97, x_98, x_99, x_100, x_101, x_102, x_103, x_104, x_105, hf_89, hx_90, hx_91, hx_92, hx_93, hx_94, hx_95, hx_96, hx_97, hx_98, hx_99, hx_100, hx_101, hx_102, hx_103, hx_104, hx_105⟩ := (show tp_o_X L K (0) 0 (Γ (0, 0, 0)) (f o) from hI0.at ho)
      refine tp_get (cy := cy) (ci := 11) (v := .ref x_90) (C := RX11) (T := TX11) (N := 16) hx hb hta inlX11 hown hK hP ho.1 hf_89 rfl 0 (by decide) (hta _ wk_15) (fun _ h9 => h9) rfl dX11_raw_25 ?_
      obtain ⟨x_107, x_108, x_109, x_110, x_111, x_112, x_113, x_114, x_115, hf_106, hx_107, hx_108, hx_109, hx_110, hx_111, hx_112, hx_113, hx_114, hx_115⟩ := (show tp_o_BOOK L K (0) 0 (Γ (1, 0, 0)) (f x_90) from hI0.at hx_90)
      refine tp_getN (cy := cy) (ci := 0) (v := .ref x_109) (C := RX0) (T := TX0) (N := 9) hx hb hta inlX0 hown hK hP hx_90.1 hf_106 rfl 2 (by decide) (va_Nw.use rfl (hN.1 20 _ nk_20)) (fun _ h9 => h9) rfl dX11_raw_28 ?_
      refine lv_iload_n hx hb dX11_raw_31 rfl (lv_at hl 2 rfl) ?_
      obtain ⟨x_117, x_118, x_119, x_120, x_121, x_122, hf_116, hx_117, hx_119, hx_120, hx_121, hx_122⟩ := (show tp_o_ROWS L K (0) 0 (Γ (3, 0, 0)) (f x_109) from hI.at hx_109)
      refine tl_si (tq_rVN hN (As := [.int p0]) (rest := []) ⟨hx, hb, hml, hown, hta⟩ (tp_P.pre hK hN hL hU hI hP) (tp_recv hK hP hx_109.1 hf_116 rfl) lk_X11_122 (t_X4_has l D cy s.heap.size L K Γ f 0 x_109 p0 hx_109) rfl rfl ⟨Nat.le_of_ble_eq_true rfl, Nat.le_of_ble_eq_true rfl⟩ rfl hl.1 rfl (Nat.le_of_ble_eq_true rfl) dX11_raw_32 ⟨Nat.le_of_ble_eq_true rfl, Nat.le_of_ble_eq_true rfl⟩) (fun r_124 hw_123 => ?_)
      have hw_123 : tl_E r_124 (0 ≤ p0.toInt ∧ p0.toInt < Γ (3, 0, 0) 0) 1 0 := hw_123
      refine lv_if_eq (tgt := 50) hx hb dX11_raw_35 (by decide) (fun c_125 => ?_) (fun c_125 => ?_)
      · have c_125 := hw_123.f c_125
        refine lv_ldc (v := (-2000000)) hx hb hown (hta _ wk_230) dX11_raw_50 ?_
        exact W.iret (v := (-2000000)) hx hb hr (fun t ht hW => ⟨⟨_, f, rfl, trivial, by rw [ht]; exact hP, hI, hfr⟩, hS.F ht⟩) hS.2.2 dX11_raw_52
      · have c_125 := hw_123.t c_125
        refine lv_iload_n hx hb dX11_raw_38 rfl (lv_at hl 3 rfl) ?_
        refine tl_si (tq_rS (As := [.int p1]) (rest := []) ⟨hx, hb, hml, hown, hta⟩ (tp_P.pre hK hN hL hU hI hP) lk_X11_125 (t_X11_isColour l D cy s.heap.size L K Γ f p1 ) rfl rfl ⟨Nat.le_of_ble_eq_true rfl, Nat.le_of_ble_eq_true rfl⟩ rfl hl.1 rfl (Nat.le_of_ble_eq_true rfl) dX11_raw_39 ⟨Nat.le_of_ble_eq_true rfl, Nat.le_of_ble_eq_true rfl⟩) (fun r_127 hw_126 => ?_)
        have hw_126 : tl_E r_127 (0 ≤ p1.toInt ∧ p1.toInt ≤ 299) 1 0 := hw_126
        refine lv_if_eq (tgt := 50) hx hb dX11_raw_42 (by decide) (fun c_128 => ?_) (fun c_128 => ?_)
        · have c_128 := hw_126.f c_128
          refine lv_ldc (v := (-2000000)) hx hb hown (hta _ wk_230) dX11_raw_50 ?_
          exact W.iret (v := (-2000000)) hx hb hr (fun t ht hW => ⟨⟨_, f, rfl, trivial, by rw [ht]; exact hP, hI, hfr⟩, hS.F ht⟩) hS.2.2 dX11_raw_52
        · have c_128 := hw_126.t c_128
          refine lv_iload hx hb dX11_raw_45 (lv_at hl 0 rfl) ?_
          refine lv_if_ne (tgt := 53) hx hb dX11_raw_47 (by decide) (fun _ => ?_) (fun c => absurd c (by decide))
          refine lv_aload_n hx hb dX11_raw_53 rfl (lv_at hl 1 rfl) ?_
          refine tp_get (cy := cy) (ci := 11) (v := .ref x_90) (C := RX11) (T := TX11) (N := 16) hx hb hta inlX11 hown hK hP ho.1 hf_89 rfl 0 (by decide) (hta _ wk_15) (fun _ h9 => h9) rfl dX11_raw_54 ?_
          refine tp_getN (cy := cy) (ci := 0) (v := .ref x_109) (C := RX0) (T := TX0) (N := 9) hx hb hta inlX0 hown hK hP hx_90.1 hf_106 rfl 2 (by decide) (va_Nw.use rfl (hN.1 20 _ nk_20)) (fun _ h9 => h9) rfl dX11_raw_57 ?_
          refine lv_iload_n hx hb dX11_raw_60 rfl (lv_at hl 2 rfl) ?_
          refine lv_iload_n hx hb dX11_raw_61 rfl (lv_at hl 3 rfl) ?_
          refine lv_iload_n hx hb dX11_raw_62 rfl (lv_at hl 4 rfl) ?_
          refine tq_ci hS (hAf _ hS.1) (tq_rVN hN (As := [.int p0, .int p1, .int p2]) (rest := []) ⟨hx, hb, hml, hown, hta⟩ (tp_P.pre hK hN hL hU hI hP) (tp_recv hK hP hx_109.1 hf_116 rfl) lk_X11_129 (t_X4_put l D cy s.heap.size L K Γ f 0 x_109 p0 p1 p2 hx_109) rfl rfl ⟨Nat.le_of_ble_eq_true rfl, Nat.le_of_ble_eq_true rfl⟩ rfl hl.1 rfl (Nat.le_of_ble_eq_true rfl) dX11_raw_63 ⟨Nat.le_of_ble_eq_true rfl, Nat.le_of_ble_eq_true rfl⟩) (fun r_130 f_131 H locs hw_129 hP hI hc_132 hS => ?_)
          have hD : va_D A (va_pl L f_131) := tp_D hL hAL
          have hfr := tp_fr2 hfr hc_132 (by decide)
          exact W.iret (v := r_130) hx hb hr (fun t ht hW => ⟨⟨_, f_131, rfl, trivial, by rw [ht]; exact hP, hI, hfr⟩, hS.F ht⟩) hS.2.2 dX11_raw_66
set_option maxHeartbeats 4000000 in
set_option maxRecDepth 100000 in
theorem t_X11_read (l : Launch) (D : va_G) (cy : Nat → ClassId) (sz : Nat) (L : List Nat) (K : Nat → tk_K) (Γ : tk_G) (f : Nat → va_E) (o : Nat) (p0 : Int32) (p1 : Int32) (ho : tp_r L K 0 (0) 0 o) : Met l yX11_read (tl_w yX11_read cX11_read 4 (some .int)) ({ frames := 2, cells := 0, slots := 0, locals := 48 }) (va_Pc [.ref o, .int p0, .int p1] (tp_P D cy L K Γ f sz)) (vp_Si (fun r : Int32 => True)) 0 0 (fun _ => False) := by
  refine Met.ofW (cc := cX11_read) (maxL := 4) (ret := (some .int)) (by decide) rfl ?_
  intro p e s m args below meth c s₁ B hml hv
  obtain ⟨rfl, hsz, hP, hK, hL, hI, hN, hU⟩ := hv
  have hx := B.exec
  have hb := B.bytes
  have hr := B.returns
  have hta := tl_hta (atoms_spec (ws := tl_w yX11_read cX11_read 4 (some .int)) B.pre)
  have hown : s.vm.findClass RX11 = some m.cls := findClass_of_methodNamed B.named
  have hlocks := B.notSynchronized
  subst hsz
  have hI0 := hI
  have hl := lv_entry ([.ref o, .int p0, .int p1]) (n := 4) (Nat.le_of_ble_eq_true rfl)
  rw [lg_entry_eq]
  generalize (lg_sl ([.ref o, .int p0, .int p1]) ++ List.replicate (4 - (lg_sl ([.ref o, .int p0, .int p1])).length) Slot.unset).toArray = ls at hl ⊢
  have hl : lv_has ls 4 [(0, .ref o), (1, .int p0), (2, .int p1)] := hl
  refine lv_aload_n hx hb dX11_read_0 rfl (lv_at hl 0 rfl) ?_
  obtain ⟨x_2, x_3, x_4, x_5, x_6, x_7, x_8, x_9, x_10, x_11, x_12, x_13, x_14, x_15, x_16, x_17, hf_1, hx_2, hx_3, hx_4, hx_5, hx_6, hx_7, hx_8, hx_9, hx_10, hx_11, hx_12, hx_13, hx_14, hx_15, hx_16, hx_17⟩ := (show tp_o_X L K (0) 0 (Γ (0, 0, 0)) (f o) from hI0.at ho)
  refine tp_get (cy := cy) (ci := 11) (v := .ref x_2) (C := RX11) (T := TX11) (N := 16) hx hb hta inlX11 hown hK hP ho.1 hf_1 rfl 0 (by decide) (hta _ wk_15) (fun _ h9 => h9) rfl dX11_read_1 ?_
  obtain ⟨x_19, x_20, x_21, x_22, x_23, x_24, x_25, x_26, x_27, hf_18, hx_19, hx_20, hx_21, hx_22, hx_23, hx_24, hx_25, hx_26, hx_27⟩ := (show tp_o_BOOK L K (0) 0 (Γ (1, 0, 0)) (f x_2) from hI0.at hx_2)
  refine tp_getN (cy := cy) (ci := 0) (v := .ref x_21) (C := RX0) (T := TX0) (N := 9) hx hb hta inlX0 hown hK hP hx_2.1 hf_18 rfl 2 (by decide) (va_Nw.use rfl (hN.1 20 _ nk_20)) (fun _ h9 => h9) rfl dX11_read_4 ?_
  refine lv_iload_n hx hb dX11_read_7 rfl (lv_at hl 1 rfl) ?_
  obtain ⟨x_29, x_30, x_31, x_32, x_33, x_34, hf_28, hx_29, hx_31, hx_32, hx_33, hx_34⟩ := (show tp_o_ROWS L K (0) 0 (Γ (3, 0, 0)) (f x_21) from hI0.at hx_21)
  refine tl_si (tq_rVN hN (As := [.int p0]) (rest := []) ⟨hx, hb, hml, hown, hta⟩ (tp_P.pre hK hN hL hU hI hP) (tp_recv hK hP hx_21.1 hf_28 rfl) lk_X11_122 (t_X4_has l D cy s.heap.size L K Γ f 0 x_21 p0 hx_21) rfl rfl ⟨Nat.le_of_ble_eq_true rfl, Nat.le_of_ble_eq_true rfl⟩ rfl hl.1 rfl (Nat.le_of_ble_eq_true rfl) dX11_read_8 ⟨Nat.le_of_ble_eq_true rfl, Nat.le_of_ble_eq_true rfl⟩) (fun r_36 hw_35 => ?_)
  have hw_35 : tl_E r_36 (0 ≤ p0.toInt ∧ p0.toInt < Γ (3, 0, 0) 0) 1 0 := hw_35
  refine lv_if_eq (tgt := 21) hx hb dX11_read_11 (by decide) (fun c_37 => ?_) (fun c_37 => ?_)
  · have c_37 := hw_35.f c_37
    refine lv_ldc (v := (-2000000)) hx hb hown (hta _ wk_230) dX11_read_21 ?_
    exact W.iret (v := (-2000000)) hx hb hr (fun t ht hW => ⟨_, rfl, trivial, ht⟩) (fun q h => by cases h) dX11_read_23
  · have c_37 := hw_35.t c_37
    refine lv_iload_n hx hb dX11_read_14 rfl (lv_at hl 2 rfl) ?_
    refine tl_si (tq_rS (As := [.int p1]) (rest := []) ⟨hx, hb, hml, hown, hta⟩ (tp_P.pre hK hN hL hU hI hP) lk_X11_125 (t_X11_isColour l D cy s.heap.size L K Γ f p1 ) rfl rfl ⟨Nat.le_of_ble_eq_true rfl, Nat.le_of_ble_eq_true rfl⟩ rfl hl.1 rfl (Nat.le_of_ble_eq_true rfl) dX11_read_15 ⟨Nat.le_of_ble_eq_true rfl, Nat.le_of_ble_eq_true rfl⟩) (fun r_39 hw_38 => ?_)
    have hw_38 : tl_E r_39 (0 ≤ p1.toInt ∧ p1.toInt ≤ 299) 1 0 := hw_38
    refine lv_if_ne (tgt := 24) hx hb dX11_read_18 (by decide) (fun c_40 => ?_) (fun c_40 => ?_)
    · have c_40 := hw_38.t c_40
      refine lv_aload_n hx hb dX11_read_24 rfl (lv_at hl 0 rfl) ?_
      refine tp_get (cy := cy) (ci := 11) (v := .ref x_2) (C := RX11) (T := TX11) (N := 16) hx hb hta inlX11 hown hK hP ho.1 hf_1 rfl 0 (by decide) (hta _ wk_15) (fun _ h9 => h9) rfl dX11_read_25 ?_
      refine tp_getN (cy := cy) (ci := 0) (v := .ref x_21) (C := RX0) (T := TX0) (N := 9) hx hb hta inlX0 hown hK hP hx_2.1 hf_18 rfl 2 (by decide) (va_Nw.use rfl (hN.1 20 _ nk_20)) (fun _ h9 => h9) rfl dX11_read_28 ?_
      refine tp_getN (cy := cy) (ci := 4) (v := .ref x_34) (C := RX4) (T := TX4) (N := 6) hx hb hta inlX4 hown hK hP hx_21.1 hf_28 rfl 5 (by decide) (va_Nw.use rfl (hN.1 10 _ nk_10)) (fun _ h9 => h9) rfl dX11_read_31 ?_
      refine lv_iload_n hx hb dX11_read_34 rfl (lv_at hl 1 rfl) ?_
      obtain ⟨g_42, hf_41, hg_43⟩ := (show tp_aa cy L K (24) 0 (f x_34) from hI0.at hx_34)
      have hn_44 : vp_in p0 (24) := tl_in (by omega) (by omega)
      obtain ⟨b_45, eb_45, hb_45⟩ := hg_43 _ (tp_pin hn_44)
      refine tp_aldA (cy := cy) hx hb hK hP hx_34.1 hf_41 hn_44 dX11_read_35 ?_
      refine W.eq (g2 := F0 m 36 ls ([.ref b_45])) (by rw [eb_45]; rfl) ?_
      refine lv_iload_n hx hb dX11_read_36 rfl (lv_at hl 2 rfl) ?_
      obtain ⟨g_47, hf_46, hg_48⟩ := (show tp_ai cy 6 (300) (f b_45) from hI0.at hb_45)
      have hn_49 : vp_in p1 (300) := tl_in (by omega) (by omega)
      refine tp_iald (cy := cy) hx hb hK hP hb_45.1 hf_46 hn_49 dX11_read_37 ?_
      refine lv_topi (fun z_50 ez_50 => ?_)
      refine lv_istore_n (lv' := [(3, .int z_50), (0, .ref o), (1, .int p0), (2, .int p1)]) hx hb dX11_read_38 rfl hl (by decide) rfl (fun ls hl => ?_)
      refine lv_iload_n hx hb dX11_read_39 rfl (lv_at hl 0 rfl) ?_
      refine lv_ldc (v := (-1000000)) hx hb hown (hta _ wk_227) dX11_read_40 ?_
      refine lv_icmp_ne (tgt := 50) hx hb dX11_read_42 (by decide) (fun c_51 => ?_) (fun c_51 => ?_)
      · have c_51 : ¬ z_50.toInt = (-1000000 : Int) := tl_neq c_51
        refine lv_iload_n hx hb dX11_read_50 rfl (lv_at hl 0 rfl) ?_
        refine lv_aload_n hx hb dX11_read_51 rfl (lv_at hl 1 rfl) ?_
        refine tp_get (cy := cy) (ci := 11) (v := .ref x_2) (C := RX11) (T := TX11) (N := 16) hx hb hta inlX11 hown hK hP ho.1 hf_1 rfl 0 (by decide) (hta _ wk_15) (fun _ h9 => h9) rfl dX11_read_52 ?_
        refine lv_aload_n hx hb dX11_read_55 rfl (lv_at hl 1 rfl) ?_
        refine tp_get (cy := cy) (ci := 11) (v := .ref x_2) (C := RX11) (T := TX11) (N := 16) hx hb hta inlX11 hown hK hP ho.1 hf_1 rfl 0 (by decide) (hta _ wk_15) (fun _ h9 => h9) rfl dX11_read_56 ?_
        refine tp_getN (cy := cy) (ci := 0) (v := .ref x_21) (C := RX0) (T := TX0) (N := 9) hx hb hta inlX0 hown hK hP hx_2.1 hf_18 rfl 2 (by decide) (va_Nw.use rfl (hN.1 20 _ nk_20)) (fun _ h9 => h9) rfl dX11_read_59 ?_
        refine tp_getN (cy := cy) (ci := 4) (v := .ref x_31) (C := RX4) (T := TX4) (N := 6) hx hb hta inlX4 hown hK hP hx_21.1 hf_28 rfl 2 (by decide) (va_Nw.use rfl (hN.1 5 _ nk_5)) (fun _ h9 => h9) rfl dX11_read_62 ?_
        refine lv_iload_n hx hb dX11_read_65 rfl (lv_at hl 2 rfl) ?_
        obtain ⟨g_53, hf_52, hg_54⟩ := (show tp_ai cy 4 (24) (f x_31) from hI0.at hx_31)
        have hn_55 : vp_in p0 (24) := tl_in (by omega) (by omega)
        refine tp_iald (cy := cy) hx hb hK hP hx_31.1 hf_52 hn_55 dX11_read_66 ?_
        refine lv_topi (fun z_56 ez_56 => ?_)
        refine lv_iload_n hx hb dX11_read_67 rfl (lv_at hl 3 rfl) ?_
        refine tl_si (tq_rVN hN (As := [.int z_56, .int p1]) (rest := [.int z_50]) ⟨hx, hb, hml, hown, hta⟩ (tp_P.pre hK hN hL hU hI hP) (tp_recv hK hP hx_2.1 hf_18 rfl) lk_X11_139 (t_X0_slipped l D cy s.heap.size L K Γ f 0 x_2 z_56 p1 hx_2) rfl rfl ⟨Nat.le_of_ble_eq_true rfl, Nat.le_of_ble_eq_true rfl⟩ rfl hl.1 rfl (Nat.le_of_ble_eq_true rfl) dX11_read_68 ⟨Nat.le_of_ble_eq_true rfl, Nat.le_of_ble_eq_true rfl⟩) (fun r_58 hw_57 => ?_)
        refine lv_isub hx hb dX11_read_71 ?_
        refine lv_topi (fun z_59 ez_59 => ?_)
        try have iz_59 : z_59.toInt = z_50.toInt - r_58.toInt := by rw [ez_59]; exact tl_subN z_50 r_58 rfl rfl (by omega) (by omega)
        exact W.iret (v := z_59) hx hb hr (fun t ht hW => ⟨_, rfl, trivial, ht⟩) (fun q h => by cases h) dX11_read_72
      · have c_51 : z_50.toInt = (-1000000 : Int) := tl_eq c_51
        refine lv_ldc (v := (-1000000)) hx hb hown (hta _ wk_227) dX11_read_45 ?_
        refine lv_goto (tgt := 72) hx hb dX11_read_47 (by decide) ?_
        exact W.iret (v := (-1000000)) hx hb hr (fun t ht hW => ⟨_, rfl, trivial, ht⟩) (fun q h => by cases h) dX11_read_72
    · have c_40 := hw_38.f c_40
      refine lv_ldc (v := (-2000000)) hx hb hown (hta _ wk_230) dX11_read_21 ?_
      exact W.iret (v := (-2000000)) hx hb hr (fun t ht hW => ⟨_, rfl, trivial, ht⟩) (fun q h => by cases h) dX11_read_23
set_option maxHeartbeats 4000000 in
set_option maxRecDepth 100000 in
theorem t_X11_feed (l : Launch) (D : va_G) (cy : Nat → ClassId) (sz : Nat) (L : List Nat) (K : Nat → tk_K) (Γ : tk_G) (f : Nat → va_E) (o : Nat) (p0 : Int32) (p1 : Int32) (p2 : Int32) (p3 : Int32) (p4 : Int32) (ho : tp_r L K 0 (0) 0 o) : Met l yX11_feed (tl_w yX11_feed cX11_feed 6 (some .int)) ({ frames := 1, cells := 0, slots := 0, locals := 22 }) (va_Pc [.ref o, .int p0, .int p1, .int p2, .int p3, .int p4] (tp_P D cy L K Γ f sz)) (va_Qi (fun (r : Int32) (u : Nat → va_E) => True) (tp_B D cy L K Γ f [1, 11]) (tp_A L sz)) 0 0 (tp_A L sz) := by
  refine Met.ofW (cc := cX11_feed) (maxL := 6) (ret := (some .int)) (by decide) rfl ?_
  intro p e s m args below meth c s₁ B hml hv
  obtain ⟨rfl, hsz, hP, hK, hL, hI, hN, hU⟩ := hv
  have hx := B.exec
  have hb := B.bytes
  have hr := B.returns
  have hta := tl_hta (atoms_spec (ws := tl_w yX11_feed cX11_feed 6 (some .int)) B.pre)
  have hown : s.vm.findClass RX11 = some m.cls := findClass_of_methodNamed B.named
  have hlocks := B.notSynchronized
  subst hsz
  have hI0 := hI
  generalize hAe : tp_A L s.heap.size = A
  have hA : ∀ q : Nat, s.heap.size ≤ q → A q := fun q h => by rw [← hAe]; exact Or.inr h
  have hAL : ∀ q ∈ L, A q := fun q h => by rw [← hAe]; exact Or.inl h
  have hAf : ∀ (H : Heap), s.heap.size ≤ H.size → ∀ q, tp_A L H.size q → A q := fun H h q hq => hq.elim (hAL q) (fun h2 => hA q (Nat.le_trans h h2))
  have hS : va_S A s.heap s.heap [] := va_S.rf
  have hD : va_D A (va_pl L f) := tp_D hL hAL
  have hfr : ∀ b, (K b).1 ∉ ([1, 11] : List Nat) → f b = f b := fun _ _ => rfl
  have hl := lv_entry ([.ref o, .int p0, .int p1, .int p2, .int p3, .int p4]) (n := 6) (Nat.le_of_ble_eq_true rfl)
  rw [lg_entry_eq]
  generalize (lg_sl ([.ref o, .int p0, .int p1, .int p2, .int p3, .int p4]) ++ List.replicate (6 - (lg_sl ([.ref o, .int p0, .int p1, .int p2, .int p3, .int p4])).length) Slot.unset).toArray = ls at hl ⊢
  have hl : lv_has ls 6 [(0, .ref o), (1, .int p0), (2, .int p1), (3, .int p2), (4, .int p3), (5, .int p4)] := hl
  refine lv_aload_n hx hb dX11_feed_0 rfl (lv_at hl 0 rfl) ?_
  obtain ⟨x_2, x_3, x_4, x_5, x_6, x_7, x_8, x_9, x_10, x_11, x_12, x_13, x_14, x_15, x_16, x_17, hf_1, hx_2, hx_3, hx_4, hx_5, hx_6, hx_7, hx_8, hx_9, hx_10, hx_11, hx_12, hx_13, hx_14, hx_15, hx_16, hx_17⟩ := (show tp_o_X L K (0) 0 (Γ (0, 0, 0)) (f o) from hI0.at ho)
  refine tp_get (cy := cy) (ci := 11) (v := .ref x_2) (C := RX11) (T := TX11) (N := 16) hx hb hta inlX11 hown hK hP ho.1 hf_1 rfl 0 (by decide) (hta _ wk_15) (fun _ h9 => h9) rfl dX11_feed_1 ?_
  obtain ⟨x_19, x_20, x_21, x_22, x_23, x_24, x_25, x_26, x_27, hf_18, hx_19, hx_20, hx_21, hx_22, hx_23, hx_24, hx_25, hx_26, hx_27⟩ := (show tp_o_BOOK L K (0) 0 (Γ (1, 0, 0)) (f x_2) from hI.at hx_2)
  refine tp_getN (cy := cy) (ci := 0) (v := .int x_27) (C := RX0) (T := TX0) (N := 9) hx hb hta inlX0 hown hK hP hx_2.1 hf_18 rfl 8 (by decide) (va_Nw.use rfl (hN.1 26 _ nk_26)) (fun _ h9 => h9) rfl dX11_feed_4 ?_
  refine lv_sipush (v := 380) hx hb dX11_feed_7 (by decide) ?_
  refine lv_icmp_le (tgt := 15) hx hb dX11_feed_10 (by decide) (fun c_28 => ?_) (fun c_28 => ?_)
  · have c_28 : x_27.toInt ≤ (380 : Int) := tl_le c_28
    refine lv_aload_n hx hb dX11_feed_15 rfl (lv_at hl 0 rfl) ?_
    refine tp_get (cy := cy) (ci := 11) (v := .ref x_2) (C := RX11) (T := TX11) (N := 16) hx hb hta inlX11 hown hK hP ho.1 hf_1 rfl 0 (by decide) (hta _ wk_15) (fun _ h9 => h9) rfl dX11_feed_16 ?_
    refine lv_iload_n hx hb dX11_feed_19 rfl (lv_at hl 1 rfl) ?_
    refine tq_cv hS (hAf _ hS.1) (tq_rVN hN (As := [.int p0]) (rest := []) ⟨hx, hb, hml, hown, hta⟩ (tp_P.pre hK hN hL hU hI hP) (tp_recv hK hP hx_2.1 hf_18 rfl) lk_X11_179 (t_X0_append l D cy s.heap.size L K Γ f 0 x_2 p0 hx_2) rfl rfl ⟨Nat.le_of_ble_eq_true rfl, Nat.le_of_ble_eq_true rfl⟩ rfl hl.1 rfl (Nat.le_of_ble_eq_true rfl) dX11_feed_20 ⟨Nat.le_of_ble_eq_true rfl, Nat.le_of_ble_eq_true rfl⟩) (fun f_31 H locs hw_29 hP hI hc_32 hS => ?_)
    have hD : va_D A (va_pl L f_31) := tp_D hL hAL
    have hfr := tp_fr2 hfr hc_32 (by decide)
    refine lv_aload_n hx hb dX11_feed_23 rfl (lv_at hl 0 rfl) ?_
    refine tp_get (cy := cy) (ci := 11) (v := .ref x_2) (C := RX11) (T := TX11) (N := 16) hx hb hta inlX11 hown hK hP ho.1 ((tp_un hfr ho (by decide)).trans hf_1) rfl 0 (by decide) (hta _ wk_15) (fun _ h9 => h9) rfl dX11_feed_24 ?_
    refine lv_iload_n hx hb dX11_feed_27 rfl (lv_at hl 2 rfl) ?_
    obtain ⟨x_34, x_35, x_36, x_37, x_38, x_39, x_40, x_41, x_42, hf_33, hx_34, hx_35, hx_36, hx_37, hx_38, hx_39, hx_40, hx_41, hx_42⟩ := (show tp_o_BOOK L K (0) 0 (Γ (1, 0, 0)) (f_31 x_2) from hI.at hx_2)
    refine tq_cv hS (hAf _ hS.1) (tq_rVN hN (As := [.int p1]) (rest := []) ⟨hx, hb, hml, hown, hta⟩ (tp_P.pre hK hN hL hU hI hP) (tp_recv hK hP hx_2.1 hf_33 rfl) lk_X11_179 (t_X0_append l D cy H.size L K Γ f_31 0 x_2 p1 hx_2) rfl rfl ⟨Nat.le_of_ble_eq_true rfl, Nat.le_of_ble_eq_true rfl⟩ rfl hl.1 rfl (Nat.le_of_ble_eq_true rfl) dX11_feed_28 ⟨Nat.le_of_ble_eq_true rfl, Nat.le_of_ble_eq_true rfl⟩) (fun f_45 H locs hw_43 hP hI hc_46 hS => ?_)
    have hD : va_D A (va_pl L f_45) := tp_D hL hAL
    have hfr := tp_fr2 hfr hc_46 (by decide)
    refine lv_aload_n hx hb dX11_feed_31 rfl (lv_at hl 0 rfl) ?_
    refine tp_get (cy := cy) (ci := 11) (v := .ref x_2) (C := RX11) (T := TX11) (N := 16) hx hb hta inlX11 hown hK hP ho.1 ((tp_un hfr ho (by decide)).trans hf_1) rfl 0 (by decide) (hta _ wk_15) (fun _ h9 => h9) rfl dX11_feed_32 ?_
    refine lv_iload_n hx hb dX11_feed_35 rfl (lv_at hl 3 rfl) ?_
    obtain ⟨x_48, x_49, x_50, x_51, x_52, x_53, x_54, x_55, x_56, hf_47, hx_48, hx_49, hx_50, hx_51, hx_52, hx_53, hx_54, hx_55, hx_56⟩ := (show tp_o_BOOK L K (0) 0 (Γ (1, 0, 0)) (f_45 x_2) from hI.at hx_2)
    refine tq_cv hS (hAf _ hS.1) (tq_rVN hN (As := [.int p2]) (rest := []) ⟨hx, hb, hml, hown, hta⟩ (tp_P.pre hK hN hL hU hI hP) (tp_recv hK hP hx_2.1 hf_47 rfl) lk_X11_179 (t_X0_append l D cy H.size L K Γ f_45 0 x_2 p2 hx_2) rfl rfl ⟨Nat.le_of_ble_eq_true rfl, Nat.le_of_ble_eq_true rfl⟩ rfl hl.1 rfl (Nat.le_of_ble_eq_true rfl) dX11_feed_36 ⟨Nat.le_of_ble_eq_true rfl, Nat.le_of_ble_eq_true rfl⟩) (fun f_59 H locs hw_57 hP hI hc_60 hS => ?_)
    have hD : va_D A (va_pl L f_59) := tp_D hL hAL
    have hfr := tp_fr2 hfr hc_60 (by decide)
    refine lv_aload_n hx hb dX11_feed_39 rfl (lv_at hl 0 rfl) ?_
    refine tp_get (cy := cy) (ci := 11) (v := .ref x_2) (C := RX11) (T := TX11) (N := 16) hx hb hta inlX11 hown hK hP ho.1 ((tp_un hfr ho (by decide)).trans hf_1) rfl 0 (by decide) (hta _ wk_15) (fun _ h9 => h9) rfl dX11_feed_40 ?_
    refine lv_iload hx hb dX11_feed_43 (lv_at hl 4 rfl) ?_
    obtain ⟨x_62, x_63, x_64, x_65, x_66, x_67, x_68, x_69, x_70, hf_61, hx_62, hx_63, hx_64, hx_65, hx_66, hx_67, hx_68, hx_69, hx_70⟩ := (show tp_o_BOOK L K (0) 0 (Γ (1, 0, 0)) (f_59 x_2) from hI.at hx_2)
    refine tq_cv hS (hAf _ hS.1) (tq_rVN hN (As := [.int p3]) (rest := []) ⟨hx, hb, hml, hown, hta⟩ (tp_P.pre hK hN hL hU hI hP) (tp_recv hK hP hx_2.1 hf_61 rfl) lk_X11_179 (t_X0_append l D cy H.size L K Γ f_59 0 x_2 p3 hx_2) rfl rfl ⟨Nat.le_of_ble_eq_true rfl, Nat.le_of_ble_eq_true rfl⟩ rfl hl.1 rfl (Nat.le_of_ble_eq_true rfl) dX11_feed_45 ⟨Nat.le_of_ble_eq_true rfl, Nat.le_of_ble_eq_true rfl⟩) (fun f_73 H locs hw_71 hP hI hc_74 hS => ?_)
    have hD : va_D A (va_pl L f_73) := tp_D hL hAL
    have hfr := tp_fr2 hfr hc_74 (by decide)
    refine lv_aload_n hx hb dX11_feed_48 rfl (lv_at hl 0 rfl) ?_
    refine tp_get (cy := cy) (ci := 11) (v := .ref x_2) (C := RX11) (T := TX11) (N := 16) hx hb hta inlX11 hown hK hP ho.1 ((tp_un hfr ho (by decide)).trans hf_1) rfl 0 (by decide) (hta _ wk_15) (fun _ h9 => h9) rfl dX11_feed_49 ?_
    refine lv_iload hx hb dX11_feed_52 (lv_at hl 5 rfl) ?_
    obtain ⟨x_76, x_77, x_78, x_79, x_80, x_81, x_82, x_83, x_84, hf_75, hx_76, hx_77, hx_78, hx_79, hx_80, hx_81, hx_82, hx_83, hx_84⟩ := (show tp_o_BOOK L K (0) 0 (Γ (1, 0, 0)) (f_73 x_2) from hI.at hx_2)
    refine tq_cv hS (hAf _ hS.1) (tq_rVN hN (As := [.int p4]) (rest := []) ⟨hx, hb, hml, hown, hta⟩ (tp_P.pre hK hN hL hU hI hP) (tp_recv hK hP hx_2.1 hf_75 rfl) lk_X11_179 (t_X0_append l D cy H.size L K Γ f_73 0 x_2 p4 hx_2) rfl rfl ⟨Nat.le_of_ble_eq_true rfl, Nat.le_of_ble_eq_true rfl⟩ rfl hl.1 rfl (Nat.le_of_ble_eq_true rfl) dX11_feed_54 ⟨Nat.le_of_ble_eq_true rfl, Nat.le_of_ble_eq_true rfl⟩) (fun f_87 H locs hw_85 hP hI hc_88 hS => ?_)
    have hD : va_D A (va_pl L f_87) := tp_D hL hAL
    have hfr := tp_fr2 hfr hc_88 (by decide)
    refine lv_aload_n hx hb dX11_feed_57 rfl (lv_at hl 0 rfl) ?_
    refine tp_get (cy := cy) (ci := 11) (v := .ref x_2) (C := RX11) (T := TX11) (N := 16) hx hb hta inlX11 hown hK hP ho.1 ((tp_un hfr ho (by decide)).trans hf_1) rfl 0 (by decide) (hta _ wk_15) (fun _ h9 => h9) rfl dX11_feed_58 ?_
    obtain ⟨x_90, x_91, x_92, x_93, x_94, x_95, x_96, x_97, x_98, hf_89, hx_90, hx_91, hx_92, hx_93, hx_94, hx_95, hx_96, hx_97, hx_98⟩ := (show tp_o_BOOK L K (0) 0 (Γ (1, 0, 0)) (f_87 x_2) from hI.at hx_2)
    refine tp_getN (cy := cy) (ci := 0) (v := .int x_98) (C := RX0) (T := TX0) (N := 9) hx hb hta inlX0 hown hK hP hx_2.1 hf_89 rfl 8 (by decide) (va_Nw.use rfl (hN.1 26 _ nk_26)) (fun _ h9 => h9) rfl dX11_feed_61 ?_
    exact W.iret (v := x_98) hx hb hr (fun t ht hW => ⟨⟨_, f_87, rfl, trivial, by rw [ht]; exact hP, hI, hfr⟩, hS.F ht⟩) hS.2.2 dX11_feed_64
  · have c_28 : (380 : Int) < x_27.toInt := tl_nle c_28
    refine lv_iconst (v := (-1)) hx hb dX11_feed_13 (by decide) ?_
    exact W.iret (v := (-1)) hx hb hr (fun t ht hW => ⟨⟨_, f, rfl, trivial, by rw [ht]; exact hP, hI, hfr⟩, hS.F ht⟩) hS.2.2 dX11_feed_14
set_option maxHeartbeats 4000000 in
set_option maxRecDepth 100000 in
theorem t_X11_end (l : Launch) (D : va_G) (cy : Nat → ClassId) (sz : Nat) (L : List Nat) (K : Nat → tk_K) (Γ : tk_G) (f : Nat → va_E) (o : Nat) (p0 : Int32) (ho : tp_r L K 0 (0) 0 o) : Met l yX11_end (tl_w yX11_end cX11_end 2 (some .int)) ({ frames := 1, cells := 0, slots := 0, locals := 22 }) (va_Pc [.ref o, .int p0] (tp_P D cy L K Γ f sz)) (va_Qi (fun (r : Int32) (u : Nat → va_E) => True) (tp_B D cy L K Γ f [1]) (tp_A L sz)) 0 0 (tp_A L sz) := by
  refine Met.ofW (cc := cX11_end) (maxL := 2) (ret := (some .int)) (by decide) rfl ?_
  intro p e s m args below meth c s₁ B hml hv
  obtain ⟨rfl, hsz, hP, hK, hL, hI, hN, hU⟩ := hv
  have hx := B.exec
  have hb := B.bytes
  have hr := B.returns
  have hta := tl_hta (atoms_spec (ws := tl_w yX11_end cX11_end 2 (some .int)) B.pre)
  have hown : s.vm.findClass RX11 = some m.cls := findClass_of_methodNamed B.named
  have hlocks := B.notSynchronized
  subst hsz
  have hI0 := hI
  generalize hAe : tp_A L s.heap.size = A
  have hA : ∀ q : Nat, s.heap.size ≤ q → A q := fun q h => by rw [← hAe]; exact Or.inr h
  have hAL : ∀ q ∈ L, A q := fun q h => by rw [← hAe]; exact Or.inl h
  have hAf : ∀ (H : Heap), s.heap.size ≤ H.size → ∀ q, tp_A L H.size q → A q := fun H h q hq => hq.elim (hAL q) (fun h2 => hA q (Nat.le_trans h h2))
  have hS : va_S A s.heap s.heap [] := va_S.rf
  have hD : va_D A (va_pl L f) := tp_D hL hAL
  have hfr : ∀ b, (K b).1 ∉ ([1] : List Nat) → f b = f b := fun _ _ => rfl
  have hl := lv_entry ([.ref o, .int p0]) (n := 2) (Nat.le_of_ble_eq_true rfl)
  rw [lg_entry_eq]
  generalize (lg_sl ([.ref o, .int p0]) ++ List.replicate (2 - (lg_sl ([.ref o, .int p0])).length) Slot.unset).toArray = ls at hl ⊢
  have hl : lv_has ls 2 [(0, .ref o), (1, .int p0)] := hl
  refine lv_iload_n hx hb dX11_end_0 rfl (lv_at hl 1 rfl) ?_
  refine lv_iconst (v := 0) hx hb dX11_end_1 (by decide) ?_
  refine lv_aload_n hx hb dX11_end_2 rfl (lv_at hl 0 rfl) ?_
  obtain ⟨x_2, x_3, x_4, x_5, x_6, x_7, x_8, x_9, x_10, x_11, x_12, x_13, x_14, x_15, x_16, x_17, hf_1, hx_2, hx_3, hx_4, hx_5, hx_6, hx_7, hx_8, hx_9, hx_10, hx_11, hx_12, hx_13, hx_14, hx_15, hx_16, hx_17⟩ := (show tp_o_X L K (0) 0 (Γ (0, 0, 0)) (f o) from hI0.at ho)
  refine tp_get (cy := cy) (ci := 11) (v := .ref x_2) (C := RX11) (T := TX11) (N := 16) hx hb hta inlX11 hown hK hP ho.1 hf_1 rfl 0 (by decide) (hta _ wk_15) (fun _ h9 => h9) rfl dX11_end_3 ?_
  obtain ⟨x_19, x_20, x_21, x_22, x_23, x_24, x_25, x_26, x_27, hf_18, hx_19, hx_20, hx_21, hx_22, hx_23, hx_24, hx_25, hx_26, hx_27⟩ := (show tp_o_BOOK L K (0) 0 (Γ (1, 0, 0)) (f x_2) from hI.at hx_2)
  refine tp_getN (cy := cy) (ci := 0) (v := .int x_27) (C := RX0) (T := TX0) (N := 9) hx hb hta inlX0 hown hK hP hx_2.1 hf_18 rfl 8 (by decide) (va_Nw.use rfl (hN.1 26 _ nk_26)) (fun _ h9 => h9) rfl dX11_end_6 ?_
  refine tl_si (tq_rS (As := [.int p0, .int 0, .int x_27]) (rest := []) ⟨hx, hb, hml, hown, hta⟩ (tp_P.pre hK hN hL hU hI hP) lk_X11_105 (t_X11_isIn l D cy s.heap.size L K Γ f p0 0 x_27 ) rfl rfl ⟨Nat.le_of_ble_eq_true rfl, Nat.le_of_ble_eq_true rfl⟩ rfl hl.1 rfl (Nat.le_of_ble_eq_true rfl) dX11_end_9 ⟨Nat.le_of_ble_eq_true rfl, Nat.le_of_ble_eq_true rfl⟩) (fun r_29 hw_28 => ?_)
  have hw_28 : tl_E r_29 ((0 : Int) ≤ p0.toInt ∧ p0.toInt ≤ x_27.toInt) 1 0 := hw_28
  refine lv_if_ne (tgt := 17) hx hb dX11_end_12 (by decide) (fun c_30 => ?_) (fun c_30 => ?_)
  · have c_30 := hw_28.t c_30
    refine lv_aload_n hx hb dX11_end_17 rfl (lv_at hl 0 rfl) ?_
    refine tp_get (cy := cy) (ci := 11) (v := .ref x_2) (C := RX11) (T := TX11) (N := 16) hx hb hta inlX11 hown hK hP ho.1 hf_1 rfl 0 (by decide) (hta _ wk_15) (fun _ h9 => h9) rfl dX11_end_18 ?_
    refine lv_iload_n hx hb dX11_end_21 rfl (lv_at hl 1 rfl) ?_
    have hI9 : tp_I cy L K Γ (va_up f x_2 (.inr (0, [.int x_19, .ref x_20, .ref x_21, .ref x_22, .ref x_23, .ref x_24, .ref x_25, .ref x_26, .int p0]))) := hI.set hx_2 (show tp_o_BOOK L K (0) 0 (Γ (1, 0, 0)) _ from ⟨x_19, x_20, x_21, x_22, x_23, x_24, x_25, x_26, p0, rfl, (show x_19.toInt = (Γ (1, 0, 0)) 0 from by omega), hx_20, hx_21, hx_22, hx_23, hx_24, hx_25, hx_26, (show 0 ≤ p0.toInt ∧ p0.toInt ≤ 400 from by omega)⟩)
    have hfr9 : ∀ b, (K b).1 ∉ ([1] : List Nat) → va_up f x_2 (.inr (0, [.int x_19, .ref x_20, .ref x_21, .ref x_22, .ref x_23, .ref x_24, .ref x_25, .ref x_26, .int p0])) b = f b := tp_fr hfr hx_2 (by decide)
    refine tp_putN (cy := cy) (ci := 0) (v := .int p0) (ty := tyX0 8) (C := RX0) (T := TX0) (N := 9) hx hb hta inlX0 tyX0 tyX0_ok nmX0 hown hK hP hD hS hx_2.1 hf_18 rfl 8 (by decide) (va_Nw.use rfl (hN.1 26 _ nk_26)) (fun _ h9 => h9) rfl (tyX0_ok 8 (by decide)) rfl rfl (Nat.le_of_ble_eq_true rfl) dX11_end_22 (fun H locs hP hD hS => ?_)
    have hP : va_P D vwCl (va_pl L (va_up f x_2 (.inr (0, [.int x_19, .ref x_20, .ref x_21, .ref x_22, .ref x_23, .ref x_24, .ref x_25, .ref x_26, .int p0])))) H := hP
    generalize hfe : va_up f x_2 (.inr (0, [.int x_19, .ref x_20, .ref x_21, .ref x_22, .ref x_23, .ref x_24, .ref x_25, .ref x_26, .int p0])) = f_31 at hP hI9 hfr9
    have hD : va_D A (va_pl L f_31) := tp_D hL hAL
    have hf_32 : f_31 x_2 = .inr (0, [.int x_19, .ref x_20, .ref x_21, .ref x_22, .ref x_23, .ref x_24, .ref x_25, .ref x_26, .int p0]) := by rw [← hfe]; exact va_up_self _ _ _
    clear hfe
    have hI := hI9
    have hfr := hfr9
    clear hI9 hfr9
    refine lv_iload_n hx hb dX11_end_25 rfl (lv_at hl 1 rfl) ?_
    exact W.iret (v := p0) hx hb hr (fun t ht hW => ⟨⟨_, f_31, rfl, trivial, by rw [ht]; exact hP, hI, hfr⟩, hS.F ht⟩) hS.2.2 dX11_end_26
  · have c_30 := hw_28.f c_30
    refine lv_iconst (v := (-1)) hx hb dX11_end_15 (by decide) ?_
    exact W.iret (v := (-1)) hx hb hr (fun t ht hW => ⟨⟨_, f, rfl, trivial, by rw [ht]; exact hP, hI, hfr⟩, hS.F ht⟩) hS.2.2 dX11_end_16
set_option maxHeartbeats 4000000 in
set_option maxRecDepth 100000 in
theorem t_X11_make (l : Launch) (D : va_G) (cy : Nat → ClassId) (sz : Nat) (L : List Nat) (K : Nat → tk_K) (Γ : tk_G) (f : Nat → va_E) (o : Nat) (p0 : Int32) (p1 : Int32) (p2 : Int32) (p3 : Int32) (p4 : Int32) (ho : tp_r L K 0 (0) 0 o) : Met l yX11_make (tl_w yX11_make cX11_make 8 (some .int)) ({ frames := 5, cells := 0, slots := 0, locals := 122 }) (va_Pc [.ref o, .int p0, .int p1, .int p2, .int p3, .int p4] (tp_P D cy L K Γ f sz)) (va_Qi (fun (r : Int32) (u : Nat → va_E) => True) (tp_B D cy L K Γ f [23, 24, 25, 26, 3, 6]) (tp_A L sz)) 0 0 (tp_A L sz) := by
  refine Met.ofW (cc := cX11_make) (maxL := 8) (ret := (some .int)) (by decide) rfl ?_
  intro p e s m args below meth c s₁ B hml hv
  obtain ⟨rfl, hsz, hP, hK, hL, hI, hN, hU⟩ := hv
  have hx := B.exec
  have hb := B.bytes
  have hr := B.returns
  have hta := tl_hta (atoms_spec (ws := tl_w yX11_make cX11_make 8 (some .int)) B.pre)
  have hown : s.vm.findClass RX11 = some m.cls := findClass_of_methodNamed B.named
  have hlocks := B.notSynchronized
  subst hsz
  have hI0 := hI
  generalize hAe : tp_A L s.heap.size = A
  have hA : ∀ q : Nat, s.heap.size ≤ q → A q := fun q h => by rw [← hAe]; exact Or.inr h
  have hAL : ∀ q ∈ L, A q := fun q h => by rw [← hAe]; exact Or.inl h
  have hAf : ∀ (H : Heap), s.heap.size ≤ H.size → ∀ q, tp_A L H.size q → A q := fun H h q hq => hq.elim (hAL q) (fun h2 => hA q (Nat.le_trans h h2))
  have hS : va_S A s.heap s.heap [] := va_S.rf
  have hD : va_D A (va_pl L f) := tp_D hL hAL
  have hfr : ∀ b, (K b).1 ∉ ([23, 24, 25, 26, 3, 6] : List Nat) → f b = f b := fun _ _ => rfl
  have hl := lv_entry ([.ref o, .int p0, .int p1, .int p2, .int p3, .int p4]) (n := 8) (Nat.le_of_ble_eq_true rfl)
  rw [lg_entry_eq]
  generalize (lg_sl ([.ref o, .int p0, .int p1, .int p2, .int p3, .int p4]) ++ List.replicate (8 - (lg_sl ([.ref o, .int p0, .int p1, .int p2, .int p3, .int p4])).length) Slot.unset).toArray = ls at hl ⊢
  have hl : lv_has ls 8 [(0, .ref o), (1, .int p0), (2, .int p1), (3, .int p2), (4, .int p3), (5, .int p4)] := hl
  refine lv_aload_n hx hb dX11_make_0 rfl (lv_at hl 0 rfl) ?_
  obtain ⟨x_2, x_3, x_4, x_5, x_6, x_7, x_8, x_9, x_10, x_11, x_12, x_13, x_14, x_15, x_16, x_17, hf_1, hx_2, hx_3, hx_4, hx_5, hx_6, hx_7, hx_8, hx_9, hx_10, hx_11, hx_12, hx_13, hx_14, hx_15, hx_16, hx_17⟩ := (show tp_o_X L K (0) 0 (Γ (0, 0, 0)) (f o) from hI0.at ho)
  refine tp_get (cy := cy) (ci := 11) (v := .ref x_4) (C := RX11) (T := TX11) (N := 16) hx hb hta inlX11 hown hK hP ho.1 hf_1 rfl 2 (by decide) (hta _ wk_20) (fun _ h9 => h9) rfl dX11_make_1 ?_
  refine lv_iload_n hx hb dX11_make_4 rfl (lv_at hl 1 rfl) ?_
  obtain ⟨x_19, x_20, hf_18, hx_19, hx_20⟩ := (show tp_o_TEXTS L K (6) 0 (Γ (13, 6, 0)) (f x_4) from hI0.at hx_4)
  refine tl_sq (tq_rVN hN (As := [.int p0]) (rest := []) ⟨hx, hb, hml, hown, hta⟩ (tp_P.pre hK hN hL hU hI hP) (tp_recv hK hP hx_4.1 hf_18 rfl) lk_X11_201 (t_X8_at l D cy s.heap.size L K Γ f 6 x_4 p0 hx_4 (by first | omega | (simp only [Int32.toInt_toInt64]; omega) | decide | assumption)) rfl rfl ⟨Nat.le_of_ble_eq_true rfl, Nat.le_of_ble_eq_true rfl⟩ rfl hl.1 rfl (Nat.le_of_ble_eq_true rfl) dX11_make_5 ⟨Nat.le_of_ble_eq_true rfl, Nat.le_of_ble_eq_true rfl⟩) (fun r_22 hw_21 => ?_)
  rcases r_22 with _ | b_23
  · refine W.eq (g2 := F0 m 8 ls ([.null])) (by rfl) ?_
    refine lv_astoreN (lv' := [(6, .null), (0, .ref o), (1, .int p0), (2, .int p1), (3, .int p2), (4, .int p3), (5, .int p4)]) hx hb dX11_make_8 hl (by decide) rfl (fun ls hl => ?_)
    refine lv_aloadN hx hb dX11_make_10 (lv_at hl 0 rfl) ?_
    refine lv_ifnullN (tgt := 43) hx hb dX11_make_12 (by decide) ?_
    refine lv_iconst (v := (-1)) hx hb dX11_make_43 (by decide) ?_
    exact W.iret (v := (-1)) hx hb hr (fun t ht hW => ⟨⟨_, f, rfl, trivial, by rw [ht]; exact hP, hI, hfr⟩, hS.F ht⟩) hS.2.2 dX11_make_44
  · have hb_23 := hw_21 _ rfl
    have hb_23 : tp_r L K 18 (0) 0 b_23 := hb_23
    refine W.eq (g2 := F0 m 8 ls ([.ref b_23])) (by rfl) ?_
    refine lv_astore (lv' := [(6, .ref b_23), (0, .ref o), (1, .int p0), (2, .int p1), (3, .int p2), (4, .int p3), (5, .int p4)]) hx hb dX11_make_8 hl (by decide) rfl (fun ls hl => ?_)
    refine lv_aload hx hb dX11_make_10 (lv_at hl 0 rfl) ?_
    refine lv_ifnull hx hb dX11_make_12 ?_
    refine lv_aload_n hx hb dX11_make_15 rfl (lv_at hl 1 rfl) ?_
    refine tp_get (cy := cy) (ci := 11) (v := .ref x_2) (C := RX11) (T := TX11) (N := 16) hx hb hta inlX11 hown hK hP ho.1 hf_1 rfl 0 (by decide) (hta _ wk_15) (fun _ h9 => h9) rfl dX11_make_16 ?_
    obtain ⟨x_25, x_26, x_27, x_28, x_29, x_30, x_31, x_32, x_33, hf_24, hx_25, hx_26, hx_27, hx_28, hx_29, hx_30, hx_31, hx_32, hx_33⟩ := (show tp_o_BOOK L K (0) 0 (Γ (1, 0, 0)) (f x_2) from hI0.at hx_2)
    refine tp_getN (cy := cy) (ci := 0) (v := .ref x_27) (C := RX0) (T := TX0) (N := 9) hx hb hta inlX0 hown hK hP hx_2.1 hf_24 rfl 2 (by decide) (va_Nw.use rfl (hN.1 20 _ nk_20)) (fun _ h9 => h9) rfl dX11_make_19 ?_
    refine lv_iload_n hx hb dX11_make_22 rfl (lv_at hl 3 rfl) ?_
    obtain ⟨x_35, x_36, x_37, x_38, x_39, x_40, hf_34, hx_35, hx_37, hx_38, hx_39, hx_40⟩ := (show tp_o_ROWS L K (0) 0 (Γ (3, 0, 0)) (f x_27) from hI.at hx_27)
    refine tl_si (tq_rVN hN (As := [.int p1]) (rest := []) ⟨hx, hb, hml, hown, hta⟩ (tp_P.pre hK hN hL hU hI hP) (tp_recv hK hP hx_27.1 hf_34 rfl) lk_X11_122 (t_X4_has l D cy s.heap.size L K Γ f 0 x_27 p1 hx_27) rfl rfl ⟨Nat.le_of_ble_eq_true rfl, Nat.le_of_ble_eq_true rfl⟩ rfl hl.1 rfl (Nat.le_of_ble_eq_true rfl) dX11_make_23 ⟨Nat.le_of_ble_eq_true rfl, Nat.le_of_ble_eq_true rfl⟩) (fun r_42 hw_41 => ?_)
    have hw_41 : tl_E r_42 (0 ≤ p1.toInt ∧ p1.toInt < Γ (3, 0, 0) 0) 1 0 := hw_41
    refine lv_if_eq (tgt := 43) hx hb dX11_make_26 (by decide) (fun c_43 => ?_) (fun c_43 => ?_)
    · have c_43 := hw_41.f c_43
      refine lv_iconst (v := (-1)) hx hb dX11_make_43 (by decide) ?_
      exact W.iret (v := (-1)) hx hb hr (fun t ht hW => ⟨⟨_, f, rfl, trivial, by rw [ht]; exact hP, hI, hfr⟩, hS.F ht⟩) hS.2.2 dX11_make_44
    · have c_43 := hw_41.t c_43
      refine lv_iload_n hx hb dX11_make_29 rfl (lv_at hl 4 rfl) ?_
      refine lv_if_lt (tgt := 43) hx hb dX11_make_30 (by decide) (fun c_44 => ?_) (fun c_44 => ?_)
      · have c_44 : p2.toInt < (0 : Int) := tl_lt c_44
        refine lv_iconst (v := (-1)) hx hb dX11_make_43 (by decide) ?_
        exact W.iret (v := (-1)) hx hb hr (fun t ht hW => ⟨⟨_, f, rfl, trivial, by rw [ht]; exact hP, hI, hfr⟩, hS.F ht⟩) hS.2.2 dX11_make_44
      · have c_44 : (0 : Int) ≤ p2.toInt := tl_nlt c_44
        refine lv_iload hx hb dX11_make_33 (lv_at hl 5 rfl) ?_
        refine lv_iload hx hb dX11_make_35 (lv_at hl 6 rfl) ?_
        refine tl_si (tq_rS (As := [.int p3, .int p4]) (rest := []) ⟨hx, hb, hml, hown, hta⟩ (tp_P.pre hK hN hL hU hI hP) lk_X11_143 (t_X11_isSpan l D cy s.heap.size L K Γ f p3 p4 ) rfl rfl ⟨Nat.le_of_ble_eq_true rfl, Nat.le_of_ble_eq_true rfl⟩ rfl hl.1 rfl (Nat.le_of_ble_eq_true rfl) dX11_make_37 ⟨Nat.le_of_ble_eq_true rfl, Nat.le_of_ble_eq_true rfl⟩) (fun r_46 hw_45 => ?_)
        have hw_45 : tl_E r_46 (0 ≤ p3.toInt ∧ p3.toInt ≤ 299 ∧ 0 ≤ p4.toInt ∧ p4.toInt ≤ 299 ∧ p3.toInt ≤ p4.toInt) 1 0 := hw_45
        refine lv_if_ne (tgt := 45) hx hb dX11_make_40 (by decide) (fun c_47 => ?_) (fun c_47 => ?_)
        · have c_47 := hw_45.t c_47
          refine lv_aload_n hx hb dX11_make_45 rfl (lv_at hl 1 rfl) ?_
          refine tp_get (cy := cy) (ci := 11) (v := .ref x_9) (C := RX11) (T := TX11) (N := 16) hx hb hta inlX11 hown hK hP ho.1 hf_1 rfl 7 (by decide) (hta _ wk_34) (fun _ h9 => h9) rfl dX11_make_46 ?_
          refine lv_aload_n hx hb dX11_make_49 rfl (lv_at hl 1 rfl) ?_
          refine tp_get (cy := cy) (ci := 11) (v := .ref x_2) (C := RX11) (T := TX11) (N := 16) hx hb hta inlX11 hown hK hP ho.1 hf_1 rfl 0 (by decide) (hta _ wk_15) (fun _ h9 => h9) rfl dX11_make_50 ?_
          refine tp_getN (cy := cy) (ci := 0) (v := .ref x_27) (C := RX0) (T := TX0) (N := 9) hx hb hta inlX0 hown hK hP hx_2.1 hf_24 rfl 2 (by decide) (va_Nw.use rfl (hN.1 20 _ nk_20)) (fun _ h9 => h9) rfl dX11_make_53 ?_
          refine lv_iload_n hx hb dX11_make_56 rfl (lv_at hl 3 rfl) ?_
          obtain ⟨x_49, x_50, hf_48, hx_49, hx_50⟩ := (show tp_o_SUMS L K (0) 0 (Γ (22, 0, 0)) (f x_9) from hI0.at hx_9)
          refine tq_cv hS (hAf _ hS.1) (tq_rVN hN (As := [.ref x_27, .int p1]) (rest := []) ⟨hx, hb, hml, hown, hta⟩ (tp_P.pre hK hN hL hU hI hP) (tp_recv hK hP hx_9.1 hf_48 rfl) lk_X11_205 (t_X5_setRow l D cy s.heap.size L K Γ f x_9 0 x_27 p1 hx_9 hx_27) rfl rfl ⟨Nat.le_of_ble_eq_true rfl, Nat.le_of_ble_eq_true rfl⟩ rfl hl.1 rfl (Nat.le_of_ble_eq_true rfl) dX11_make_57 ⟨Nat.le_of_ble_eq_true rfl, Nat.le_of_ble_eq_true rfl⟩) (fun f_53 H locs hw_51 hP hI hc_54 hS => ?_)
          have hD : va_D A (va_pl L f_53) := tp_D hL hAL
          have hfr := tp_fr2 hfr hc_54 (by decide)
          have hf_55 := (tp_un hc_54 hx_27 (by decide)).trans hf_34
          refine lv_aload_n hx hb dX11_make_60 rfl (lv_at hl 1 rfl) ?_
          refine tp_get (cy := cy) (ci := 11) (v := .ref x_10) (C := RX11) (T := TX11) (N := 16) hx hb hta inlX11 hown hK hP ho.1 ((tp_un hfr ho (by decide)).trans hf_1) rfl 8 (by decide) (hta _ wk_38) (fun _ h9 => h9) rfl dX11_make_61 ?_
          refine lv_aload hx hb dX11_make_64 (lv_at hl 0 rfl) ?_
          refine lv_iload_n hx hb dX11_make_66 rfl (lv_at hl 4 rfl) ?_
          obtain ⟨x_57, x_58, x_59, x_60, x_61, hf_56, hx_57⟩ := (show tp_o_MAKER L K (0) 0 (Γ (25, 0, 0)) (f_53 x_10) from hI.at hx_10)
          refine tq_cv hS (hAf _ hS.1) (tq_rVN hN (As := [.ref b_23, .int p2]) (rest := []) ⟨hx, hb, hml, hown, hta⟩ (tp_P.pre hK hN hL hU hI hP) (tp_recv hK hP hx_10.1 hf_56 rfl) lk_X11_209 (t_X1_begin l D cy H.size L K Γ f_53 x_10 b_23 p2 hx_10 hb_23) rfl rfl ⟨Nat.le_of_ble_eq_true rfl, Nat.le_of_ble_eq_true rfl⟩ rfl hl.1 rfl (Nat.le_of_ble_eq_true rfl) dX11_make_67 ⟨Nat.le_of_ble_eq_true rfl, Nat.le_of_ble_eq_true rfl⟩) (fun f_64 H locs hw_62 hP hI hc_65 hS => ?_)
          have hD : va_D A (va_pl L f_64) := tp_D hL hAL
          have hfr := tp_fr2 hfr hc_65 (by decide)
          have hf_66 := (tp_un hc_65 hx_27 (by decide)).trans hf_55
          refine lv_aload_n hx hb dX11_make_70 rfl (lv_at hl 1 rfl) ?_
          refine tp_get (cy := cy) (ci := 11) (v := .ref x_10) (C := RX11) (T := TX11) (N := 16) hx hb hta inlX11 hown hK hP ho.1 ((tp_un hfr ho (by decide)).trans hf_1) rfl 8 (by decide) (hta _ wk_38) (fun _ h9 => h9) rfl dX11_make_71 ?_
          refine lv_aload hx hb dX11_make_74 (lv_at hl 0 rfl) ?_
          refine lv_aload_n hx hb dX11_make_76 rfl (lv_at hl 1 rfl) ?_
          refine tp_get (cy := cy) (ci := 11) (v := .ref x_2) (C := RX11) (T := TX11) (N := 16) hx hb hta inlX11 hown hK hP ho.1 ((tp_un hfr ho (by decide)).trans hf_1) rfl 0 (by decide) (hta _ wk_15) (fun _ h9 => h9) rfl dX11_make_77 ?_
          refine tp_getN (cy := cy) (ci := 0) (v := .ref x_29) (C := RX0) (T := TX0) (N := 9) hx hb hta inlX0 hown hK hP hx_2.1 ((tp_un hfr hx_2 (by decide)).trans hf_24) rfl 4 (by decide) (va_Nw.use rfl (hN.1 22 _ nk_22)) (fun _ h9 => h9) rfl dX11_make_80 ?_
          obtain ⟨x_68, x_69, x_70, x_71, x_72, hf_67, hx_68⟩ := (show tp_o_MAKER L K (0) 0 (Γ (25, 0, 0)) (f_64 x_10) from hI.at hx_10)
          refine tq_cv hS (hAf _ hS.1) (tq_rVN hN (As := [.ref b_23, .ref x_29]) (rest := []) ⟨hx, hb, hml, hown, hta⟩ (tp_P.pre hK hN hL hU hI hP) (tp_recv hK hP hx_10.1 hf_67 rfl) lk_X11_213 (t_X1_eat l D cy H.size L K Γ f_64 x_10 b_23 0 x_29 hx_10 hb_23 hx_29) rfl rfl ⟨Nat.le_of_ble_eq_true rfl, Nat.le_of_ble_eq_true rfl⟩ rfl hl.1 rfl (Nat.le_of_ble_eq_true rfl) dX11_make_83 ⟨Nat.le_of_ble_eq_true rfl, Nat.le_of_ble_eq_true rfl⟩) (fun f_75 H locs hw_73 hP hI hc_76 hS => ?_)
          have hD : va_D A (va_pl L f_75) := tp_D hL hAL
          have hfr := tp_fr2 hfr hc_76 (by decide)
          have hf_77 := (tp_un hc_76 hx_27 (by decide)).trans hf_66
          have hf_78 := (tp_un hc_76 hx_10 (by decide)).trans hf_67
          refine lv_iload hx hb dX11_make_86 (lv_at hl 5 rfl) ?_
          refine lv_istore (lv' := [(7, .int p3), (6, .ref b_23), (0, .ref o), (1, .int p0), (2, .int p1), (3, .int p2), (4, .int p3), (5, .int p4)]) hx hb dX11_make_88 hl (by decide) rfl (fun ls hl => ?_)
          refine tl_ind (G := fun H locs ls => W p l e ((headSpec (tl_w yX11_make cX11_make 8 (some .int)) ({ frames := 5, cells := 0, slots := 0, locals := 122 })).room) s m #[.ref o, .int p0, .int p1, .int p2, .int p3, .int p4] below meth c H locs 0 0 (MQ below (va_Qi (fun (r : Int32) (u : Nat → va_E) => True) (tp_B D cy L K Γ f [23, 24, 25, 26, 3, 6]) A) #[.ref o, .int p0, .int p1, .int p2, .int p3, .int p4] s 0 0 A) (F0 m 90 ls [])) (α := (Nat → va_E) × Int32) (fun aq => (300 - aq.2.toInt).toNat) (fun aq H locs ls => (0 ≤ aq.2.toInt) ∧ (aq.2.toInt ≤ 300) ∧ va_P D vwCl (va_pl L aq.1) H ∧ tp_I cy L K Γ aq.1 ∧ (∀ b, (K b).1 ∉ ([23, 24, 25, 26, 3, 6] : List Nat) → aq.1 b = f b) ∧ va_S A s.heap H locs ∧ lv_has ls 8 [(7, .int aq.2), (6, .ref b_23), (0, .ref o), (1, .int p0), (2, .int p1), (3, .int p2), (4, .int p3), (5, .int p4)]) ?_ (f_75, p3) H locs ls ⟨(show 0 ≤ p3.toInt from (by omega)), (show p3.toInt ≤ 300 from (by omega)), hP, hI, hfr, hS, lv_sub hl [0, 1, 2, 3, 4, 5, 6, 7] rfl⟩
          rintro ⟨f_79, v7⟩ H locs ls ⟨h0, h1, hP, hI, hfr, hS, hl⟩ ih90
          have hP : va_P D vwCl (va_pl L f_79) H := hP
          have hI : tp_I cy L K Γ f_79 := hI
          have hfr : ∀ b, (K b).1 ∉ ([23, 24, 25, 26, 3, 6] : List Nat) → f_79 b = f b := hfr
          have hD : va_D A (va_pl L f_79) := tp_D hL hAL
          have h0 : 0 ≤ v7.toInt := h0
          have h1 : v7.toInt ≤ 300 := h1
          have hl : lv_has ls 8 [(7, .int v7), (6, .ref b_23), (0, .ref o), (1, .int p0), (2, .int p1), (3, .int p2), (4, .int p3), (5, .int p4)] := hl
          refine lv_iload hx hb dX11_make_90 (lv_at hl 0 rfl) ?_
          refine lv_iload hx hb dX11_make_92 (lv_at hl 7 rfl) ?_
          refine lv_icmp_gt (tgt := 132) hx hb dX11_make_94 (by decide) (fun c_80 => ?_) (fun c_80 => ?_)
          · have c_80 : p4.toInt < v7.toInt := tl_lt c_80
            refine lv_iload hx hb dX11_make_132 (lv_at hl 7 rfl) ?_
            refine lv_iload hx hb dX11_make_134 (lv_at hl 6 rfl) ?_
            refine lv_isub hx hb dX11_make_136 ?_
            refine lv_topi (fun z_81 ez_81 => ?_)
            try have iz_81 : z_81.toInt = p4.toInt - p3.toInt := by rw [ez_81]; exact tl_subN p4 p3 rfl rfl (by omega) (by omega)
            refine lv_iconst (v := 1) hx hb dX11_make_137 (by decide) ?_
            refine lv_iadd hx hb dX11_make_138 ?_
            refine lv_topi (fun z_82 ez_82 => ?_)
            try have iz_82 : z_82.toInt = z_81.toInt + (1 : Int) := by rw [ez_82]; exact tl_addN z_81 1 rfl rfl (by omega) (by omega)
            exact W.iret (v := z_82) hx hb hr (fun t ht hW => ⟨⟨_, f_79, rfl, trivial, by rw [ht]; exact hP, hI, hfr⟩, hS.F ht⟩) hS.2.2 dX11_make_139
          · have c_80 : v7.toInt ≤ p4.toInt := tl_nlt c_80
            refine lv_aload_n hx hb dX11_make_97 rfl (lv_at hl 2 rfl) ?_
            refine tp_get (cy := cy) (ci := 11) (v := .ref x_2) (C := RX11) (T := TX11) (N := 16) hx hb hta inlX11 hown hK hP ho.1 ((tp_un hfr ho (by decide)).trans hf_1) rfl 0 (by decide) (hta _ wk_15) (fun _ h9 => h9) rfl dX11_make_98 ?_
            refine tp_getN (cy := cy) (ci := 0) (v := .ref x_27) (C := RX0) (T := TX0) (N := 9) hx hb hta inlX0 hown hK hP hx_2.1 ((tp_un hfr hx_2 (by decide)).trans hf_24) rfl 2 (by decide) (va_Nw.use rfl (hN.1 20 _ nk_20)) (fun _ h9 => h9) rfl dX11_make_101 ?_
            refine lv_iload_n hx hb dX11_make_104 rfl (lv_at hl 4 rfl) ?_
            refine lv_iload hx hb dX11_make_105 (lv_at hl 0 rfl) ?_
            refine lv_aload_n hx hb dX11_make_107 rfl (lv_at hl 2 rfl) ?_
            refine tp_get (cy := cy) (ci := 11) (v := .ref x_10) (C := RX11) (T := TX11) (N := 16) hx hb hta inlX11 hown hK hP ho.1 ((tp_un hfr ho (by decide)).trans hf_1) rfl 8 (by decide) (hta _ wk_38) (fun _ h9 => h9) rfl dX11_make_108 ?_
            refine lv_aload hx hb dX11_make_111 (lv_at hl 1 rfl) ?_
            refine lv_aload_n hx hb dX11_make_113 rfl (lv_at hl 2 rfl) ?_
            refine tp_get (cy := cy) (ci := 11) (v := .ref x_9) (C := RX11) (T := TX11) (N := 16) hx hb hta inlX11 hown hK hP ho.1 ((tp_un hfr ho (by decide)).trans hf_1) rfl 7 (by decide) (hta _ wk_34) (fun _ h9 => h9) rfl dX11_make_114 ?_
            refine lv_iload hx hb dX11_make_117 (lv_at hl 0 rfl) ?_
            obtain ⟨x_84, x_85, x_86, x_87, x_88, hf_83, hx_84⟩ := (show tp_o_MAKER L K (0) 0 (Γ (25, 0, 0)) (f_79 x_10) from hI.at hx_10)
            refine tq_ci hS (hAf _ hS.1) (tq_rVN hN (As := [.ref b_23, .ref x_9, .int v7]) (rest := [.int v7, .int p1, .ref x_27]) ⟨hx, hb, hml, hown, hta⟩ (tp_P.pre hK hN hL hU hI hP) (tp_recv hK hP hx_10.1 hf_83 rfl) lk_X11_217 (t_X1_makeAt l D cy H.size L K Γ f_79 x_10 b_23 x_9 v7 hx_10 hb_23 hx_9 (by first | omega | (simp only [Int32.toInt_toInt64]; omega) | decide | assumption)) rfl rfl ⟨Nat.le_of_ble_eq_true rfl, Nat.le_of_ble_eq_true rfl⟩ rfl hl.1 rfl (Nat.le_of_ble_eq_true rfl) dX11_make_119 ⟨Nat.le_of_ble_eq_true rfl, Nat.le_of_ble_eq_true rfl⟩) (fun r_90 f_91 H locs hw_89 hP hI hc_92 hS => ?_)
            have hD : va_D A (va_pl L f_91) := tp_D hL hAL
            have hfr := tp_fr2 hfr hc_92 (by decide)
            obtain ⟨x_94, x_95, x_96, x_97, x_98, x_99, hf_93, hx_94, hx_96, hx_97, hx_98, hx_99⟩ := (show tp_o_ROWS L K (0) 0 (Γ (3, 0, 0)) (f_91 x_27) from hI.at hx_27)
            refine tq_ci hS (hAf _ hS.1) (tq_rVN hN (As := [.int p1, .int v7, .int r_90]) (rest := []) ⟨hx, hb, hml, hown, hta⟩ (tp_P.pre hK hN hL hU hI hP) (tp_recv hK hP hx_27.1 hf_93 rfl) lk_X11_129 (t_X4_put l D cy H.size L K Γ f_91 0 x_27 p1 v7 r_90 hx_27) rfl rfl ⟨Nat.le_of_ble_eq_true rfl, Nat.le_of_ble_eq_true rfl⟩ rfl hl.1 rfl (Nat.le_of_ble_eq_true rfl) dX11_make_122 ⟨Nat.le_of_ble_eq_true rfl, Nat.le_of_ble_eq_true rfl⟩) (fun r_101 f_102 H locs hw_100 hP hI hc_103 hS => ?_)
            have hD : va_D A (va_pl L f_102) := tp_D hL hAL
            have hfr := tp_fr2 hfr hc_103 (by decide)
            refine lv_pop hx hb dX11_make_125 rfl ?_
            obtain ⟨z_104, ez_104⟩ : ∃ y : Int32, y = v7 + 1 := ⟨_, rfl⟩
            refine lv_iinc (v := z_104) (lv' := [(7, .int z_104), (6, .ref b_23), (0, .ref o), (1, .int p0), (2, .int p1), (3, .int p2), (4, .int p3), (5, .int p4)]) hx hb dX11_make_126 hl (k := 0) rfl (by rw [ez_104]; rfl) (by decide) rfl (fun ls hl => ?_)
            try have iz_104 : z_104.toInt = v7.toInt + 1 := by rw [ez_104]; exact tl_addL v7 1 (by decide) (by omega) (by omega)
            refine lv_goto (tgt := 90) hx hb dX11_make_129 (by decide) ?_
            exact ih90 (f_102, z_104) H locs ls (by show (300 - z_104.toInt).toNat < (300 - v7.toInt).toNat; omega) ⟨(show 0 ≤ z_104.toInt from (by omega)), (show z_104.toInt ≤ 300 from (by omega)), hP, hI, hfr, hS, lv_sub hl [0, 1, 2, 3, 4, 5, 6, 7] rfl⟩
        · have c_47 := hw_45.f c_47
          refine lv_iconst (v := (-1)) hx hb dX11_make_43 (by decide) ?_
          exact W.iret (v := (-1)) hx hb hr (fun t ht hW => ⟨⟨_, f, rfl, trivial, by rw [ht]; exact hP, hI, hfr⟩, hS.F ht⟩) hS.2.2 dX11_make_44
