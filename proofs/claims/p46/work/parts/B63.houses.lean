theorem dX11_house_0 : decode cX11_house 0 = .ok (.aload_n 0, 1) := by decide +kernel
theorem dX11_house_1 : decode cX11_house 1 = .ok (.getfield 29, 3) := by decide +kernel
theorem dX11_house_4 : decode cX11_house 4 = .ok (.iload_n 1, 1) := by decide +kernel
theorem dX11_house_5 : decode cX11_house 5 = .ok (.invokevirtual 201, 3) := by decide +kernel
theorem dX11_house_8 : decode cX11_house 8 = .ok (.ifnull 20, 3) := by decide +kernel
theorem dX11_house_11 : decode cX11_house 11 = .ok (.iload_n 2, 1) := by decide +kernel
theorem dX11_house_12 : decode cX11_house 12 = .ok (.invokestatic 336, 3) := by decide +kernel
theorem dX11_house_15 : decode cX11_house 15 = .ok (.ifCond .eq 13, 3) := by decide +kernel
theorem dX11_house_18 : decode cX11_house 18 = .ok (.iload_n 3, 1) := by decide +kernel
theorem dX11_house_19 : decode cX11_house 19 = .ok (.iconst 1, 1) := by decide +kernel
theorem dX11_house_20 : decode cX11_house 20 = .ok (.bipush 15, 2) := by decide +kernel
theorem dX11_house_22 : decode cX11_house 22 = .ok (.invokestatic 105, 3) := by decide +kernel
theorem dX11_house_25 : decode cX11_house 25 = .ok (.ifCond .ne 5, 3) := by decide +kernel
theorem dX11_house_28 : decode cX11_house 28 = .ok (.iconst (-1), 1) := by decide +kernel
theorem dX11_house_29 : decode cX11_house 29 = .ok (.ireturn, 1) := by decide +kernel
theorem dX11_house_30 : decode cX11_house 30 = .ok (.aload_n 0, 1) := by decide +kernel
theorem dX11_house_31 : decode cX11_house 31 = .ok (.getfield 10, 3) := by decide +kernel
theorem dX11_house_34 : decode cX11_house 34 = .ok (.getfield 420, 3) := by decide +kernel
theorem dX11_house_37 : decode cX11_house 37 = .ok (.iload_n 1, 1) := by decide +kernel
theorem dX11_house_38 : decode cX11_house 38 = .ok (.iload_n 2, 1) := by decide +kernel
theorem dX11_house_39 : decode cX11_house 39 = .ok (.iload_n 3, 1) := by decide +kernel
theorem dX11_house_40 : decode cX11_house 40 = .ok (.iconst 0, 1) := by decide +kernel
theorem dX11_house_41 : decode cX11_house 41 = .ok (.invokevirtual 151, 3) := by decide +kernel
theorem dX11_house_44 : decode cX11_house 44 = .ok (.ireturn, 1) := by decide +kernel
theorem wk_286 : Cond.instanceMethod yX6_add ∈ tl_L := List.mem_filter.mpr ⟨lw_m3 (i := 15) rfl, rfl⟩
theorem wk_287 : Cond.selects RX6 yX6_add yX6_add ∈ tl_L := List.mem_filter.mpr ⟨lw_s1 (i := 5) (q := (yX6_add, 3)) rfl, rfl⟩
theorem wk_288 : Cond.code yX6_add cX6_add 6 (some .int) ∈ tl_L := List.mem_filter.mpr ⟨lw_m3 (i := 16) rfl, rfl⟩
theorem nk_24 : tl_N[24]? = some (Cond.fieldLinkNest "ThinLine" 420 "ThinLine$Book" "houses" "LThinLine$Table;" "ThinLine") := by decide +kernel
theorem lk_X11_151 : tl_kVN RX11 151 RX6 yX6_add "ThinLine" cX6_add 6 (some .int) 4 78 := ⟨wk_288, by decide +kernel, wk_286, wk_287, wk_64, ⟨by decide +kernel, by decide +kernel, by decide +kernel⟩⟩
theorem dX11_firstOf_0 : decode cX11_firstOf 0 = .ok (.aload_n 0, 1) := by decide +kernel
theorem dX11_firstOf_1 : decode cX11_firstOf 1 = .ok (.getfield 10, 3) := by decide +kernel
theorem dX11_firstOf_4 : decode cX11_firstOf 4 = .ok (.getfield 420, 3) := by decide +kernel
theorem dX11_firstOf_7 : decode cX11_firstOf 7 = .ok (.iload_n 1, 1) := by decide +kernel
theorem dX11_firstOf_8 : decode cX11_firstOf 8 = .ok (.iconst 0, 1) := by decide +kernel
theorem dX11_firstOf_9 : decode cX11_firstOf 9 = .ok (.invokevirtual 157, 3) := by decide +kernel
theorem dX11_firstOf_12 : decode cX11_firstOf 12 = .ok (.istore_n 2, 1) := by decide +kernel
theorem dX11_firstOf_13 : decode cX11_firstOf 13 = .ok (.aload_n 0, 1) := by decide +kernel
theorem dX11_firstOf_14 : decode cX11_firstOf 14 = .ok (.getfield 10, 3) := by decide +kernel
theorem dX11_firstOf_17 : decode cX11_firstOf 17 = .ok (.getfield 420, 3) := by decide +kernel
theorem dX11_firstOf_20 : decode cX11_firstOf 20 = .ok (.iload_n 1, 1) := by decide +kernel
theorem dX11_firstOf_21 : decode cX11_firstOf 21 = .ok (.iconst 1, 1) := by decide +kernel
theorem dX11_firstOf_22 : decode cX11_firstOf 22 = .ok (.invokevirtual 157, 3) := by decide +kernel
theorem dX11_firstOf_25 : decode cX11_firstOf 25 = .ok (.istore_n 3, 1) := by decide +kernel
theorem dX11_firstOf_26 : decode cX11_firstOf 26 = .ok (.aload_n 0, 1) := by decide +kernel
theorem dX11_firstOf_27 : decode cX11_firstOf 27 = .ok (.getfield 10, 3) := by decide +kernel
theorem dX11_firstOf_30 : decode cX11_firstOf 30 = .ok (.getfield 420, 3) := by decide +kernel
theorem dX11_firstOf_33 : decode cX11_firstOf 33 = .ok (.iload_n 1, 1) := by decide +kernel
theorem dX11_firstOf_34 : decode cX11_firstOf 34 = .ok (.iconst 2, 1) := by decide +kernel
theorem dX11_firstOf_35 : decode cX11_firstOf 35 = .ok (.invokevirtual 157, 3) := by decide +kernel
theorem dX11_firstOf_38 : decode cX11_firstOf 38 = .ok (.istore 4, 2) := by decide +kernel
theorem dX11_firstOf_40 : decode cX11_firstOf 40 = .ok (.sipush 400, 3) := by decide +kernel
theorem dX11_firstOf_43 : decode cX11_firstOf 43 = .ok (.istore 5, 2) := by decide +kernel
theorem dX11_firstOf_45 : decode cX11_firstOf 45 = .ok (.iconst 0, 1) := by decide +kernel
theorem dX11_firstOf_46 : decode cX11_firstOf 46 = .ok (.istore 6, 2) := by decide +kernel
theorem dX11_firstOf_48 : decode cX11_firstOf 48 = .ok (.iload 6, 2) := by decide +kernel
theorem dX11_firstOf_50 : decode cX11_firstOf 50 = .ok (.aload_n 0, 1) := by decide +kernel
theorem dX11_firstOf_51 : decode cX11_firstOf 51 = .ok (.getfield 10, 3) := by decide +kernel
theorem dX11_firstOf_54 : decode cX11_firstOf 54 = .ok (.getfield 109, 3) := by decide +kernel
theorem dX11_firstOf_57 : decode cX11_firstOf 57 = .ok (.getfield 339, 3) := by decide +kernel
theorem dX11_firstOf_60 : decode cX11_firstOf 60 = .ok (.if_icmp .ge 99, 3) := by decide +kernel
theorem dX11_firstOf_63 : decode cX11_firstOf 63 = .ok (.iload 4, 2) := by decide +kernel
theorem dX11_firstOf_65 : decode cX11_firstOf 65 = .ok (.aload_n 0, 1) := by decide +kernel
theorem dX11_firstOf_66 : decode cX11_firstOf 66 = .ok (.getfield 10, 3) := by decide +kernel
theorem dX11_firstOf_69 : decode cX11_firstOf 69 = .ok (.getfield 109, 3) := by decide +kernel
theorem dX11_firstOf_72 : decode cX11_firstOf 72 = .ok (.getfield 136, 3) := by decide +kernel
theorem dX11_firstOf_75 : decode cX11_firstOf 75 = .ok (.iload 6, 2) := by decide +kernel
theorem dX11_firstOf_77 : decode cX11_firstOf 77 = .ok (.iaload, 1) := by decide +kernel
theorem dX11_firstOf_78 : decode cX11_firstOf 78 = .ok (.ishr, 1) := by decide +kernel
theorem dX11_firstOf_79 : decode cX11_firstOf 79 = .ok (.iconst 1, 1) := by decide +kernel
theorem dX11_firstOf_80 : decode cX11_firstOf 80 = .ok (.iand, 1) := by decide +kernel
theorem dX11_firstOf_81 : decode cX11_firstOf 81 = .ok (.iconst 1, 1) := by decide +kernel
theorem dX11_firstOf_82 : decode cX11_firstOf 82 = .ok (.if_icmp .ne 7, 3) := by decide +kernel
theorem dX11_firstOf_85 : decode cX11_firstOf 85 = .ok (.iconst 1, 1) := by decide +kernel
theorem dX11_firstOf_86 : decode cX11_firstOf 86 = .ok (.goto 4, 3) := by decide +kernel
theorem dX11_firstOf_89 : decode cX11_firstOf 89 = .ok (.iconst 0, 1) := by decide +kernel
theorem dX11_firstOf_90 : decode cX11_firstOf 90 = .ok (.istore 7, 2) := by decide +kernel
theorem dX11_firstOf_92 : decode cX11_firstOf 92 = .ok (.iload 7, 2) := by decide +kernel
theorem dX11_firstOf_94 : decode cX11_firstOf 94 = .ok (.ifCond .eq 59, 3) := by decide +kernel
theorem dX11_firstOf_97 : decode cX11_firstOf 97 = .ok (.aload_n 0, 1) := by decide +kernel
theorem dX11_firstOf_98 : decode cX11_firstOf 98 = .ok (.getfield 10, 3) := by decide +kernel
theorem dX11_firstOf_101 : decode cX11_firstOf 101 = .ok (.getfield 109, 3) := by decide +kernel
theorem dX11_firstOf_104 : decode cX11_firstOf 104 = .ok (.getfield 365, 3) := by decide +kernel
theorem dX11_firstOf_107 : decode cX11_firstOf 107 = .ok (.iload 6, 2) := by decide +kernel
theorem dX11_firstOf_109 : decode cX11_firstOf 109 = .ok (.iaload, 1) := by decide +kernel
theorem dX11_firstOf_110 : decode cX11_firstOf 110 = .ok (.iload 5, 2) := by decide +kernel
theorem dX11_firstOf_112 : decode cX11_firstOf 112 = .ok (.if_icmp .ge 41, 3) := by decide +kernel
theorem dX11_firstOf_115 : decode cX11_firstOf 115 = .ok (.aload_n 0, 1) := by decide +kernel
theorem dX11_firstOf_116 : decode cX11_firstOf 116 = .ok (.iload_n 2, 1) := by decide +kernel
theorem dX11_firstOf_117 : decode cX11_firstOf 117 = .ok (.iload 6, 2) := by decide +kernel
theorem dX11_firstOf_119 : decode cX11_firstOf 119 = .ok (.iconst (-1), 1) := by decide +kernel
theorem dX11_firstOf_120 : decode cX11_firstOf 120 = .ok (.invokevirtual 246, 3) := by decide +kernel
theorem dX11_firstOf_123 : decode cX11_firstOf 123 = .ok (.ifCond .eq 30, 3) := by decide +kernel
theorem dX11_firstOf_126 : decode cX11_firstOf 126 = .ok (.aload_n 0, 1) := by decide +kernel
theorem dX11_firstOf_127 : decode cX11_firstOf 127 = .ok (.getfield 66, 3) := by decide +kernel
theorem dX11_firstOf_130 : decode cX11_firstOf 130 = .ok (.iload_n 3, 1) := by decide +kernel
theorem dX11_firstOf_131 : decode cX11_firstOf 131 = .ok (.i2l, 1) := by decide +kernel
theorem dX11_firstOf_132 : decode cX11_firstOf 132 = .ok (.invokevirtual 300, 3) := by decide +kernel
theorem dX11_firstOf_135 : decode cX11_firstOf 135 = .ok (.ifCond .eq 18, 3) := by decide +kernel
theorem dX11_firstOf_138 : decode cX11_firstOf 138 = .ok (.aload_n 0, 1) := by decide +kernel
theorem dX11_firstOf_139 : decode cX11_firstOf 139 = .ok (.getfield 10, 3) := by decide +kernel
theorem dX11_firstOf_142 : decode cX11_firstOf 142 = .ok (.getfield 109, 3) := by decide +kernel
theorem dX11_firstOf_145 : decode cX11_firstOf 145 = .ok (.getfield 365, 3) := by decide +kernel
theorem dX11_firstOf_148 : decode cX11_firstOf 148 = .ok (.iload 6, 2) := by decide +kernel
theorem dX11_firstOf_150 : decode cX11_firstOf 150 = .ok (.iaload, 1) := by decide +kernel
theorem dX11_firstOf_151 : decode cX11_firstOf 151 = .ok (.istore 5, 2) := by decide +kernel
theorem dX11_firstOf_153 : decode cX11_firstOf 153 = .ok (.iinc 6 1, 3) := by decide +kernel
theorem dX11_firstOf_156 : decode cX11_firstOf 156 = .ok (.goto (-108), 3) := by decide +kernel
theorem dX11_firstOf_159 : decode cX11_firstOf 159 = .ok (.iload 5, 2) := by decide +kernel
theorem dX11_firstOf_161 : decode cX11_firstOf 161 = .ok (.ireturn, 1) := by decide +kernel
theorem dX11_findHouses_0 : decode cX11_findHouses 0 = .ok (.aload_n 0, 1) := by decide +kernel
theorem dX11_findHouses_1 : decode cX11_findHouses 1 = .ok (.getfield 84, 3) := by decide +kernel
theorem dX11_findHouses_4 : decode cX11_findHouses 4 = .ok (.sipush 400, 3) := by decide +kernel
theorem dX11_findHouses_7 : decode cX11_findHouses 7 = .ok (.invokestatic 384, 3) := by decide +kernel
theorem dX11_findHouses_10 : decode cX11_findHouses 10 = .ok (.iconst 0, 1) := by decide +kernel
theorem dX11_findHouses_11 : decode cX11_findHouses 11 = .ok (.istore_n 1, 1) := by decide +kernel
theorem dX11_findHouses_12 : decode cX11_findHouses 12 = .ok (.iload_n 1, 1) := by decide +kernel
theorem dX11_findHouses_13 : decode cX11_findHouses 13 = .ok (.aload_n 0, 1) := by decide +kernel
theorem dX11_findHouses_14 : decode cX11_findHouses 14 = .ok (.getfield 10, 3) := by decide +kernel
theorem dX11_findHouses_17 : decode cX11_findHouses 17 = .ok (.getfield 420, 3) := by decide +kernel
theorem dX11_findHouses_20 : decode cX11_findHouses 20 = .ok (.getfield 173, 3) := by decide +kernel
theorem dX11_findHouses_23 : decode cX11_findHouses 23 = .ok (.if_icmp .ge 29, 3) := by decide +kernel
theorem dX11_findHouses_26 : decode cX11_findHouses 26 = .ok (.iload_n 1, 1) := by decide +kernel
theorem dX11_findHouses_27 : decode cX11_findHouses 27 = .ok (.aload_n 0, 1) := by decide +kernel
theorem dX11_findHouses_28 : decode cX11_findHouses 28 = .ok (.getfield 84, 3) := by decide +kernel
theorem dX11_findHouses_31 : decode cX11_findHouses 31 = .ok (.arraylength, 1) := by decide +kernel
theorem dX11_findHouses_32 : decode cX11_findHouses 32 = .ok (.if_icmp .ge 20, 3) := by decide +kernel
theorem dX11_findHouses_35 : decode cX11_findHouses 35 = .ok (.aload_n 0, 1) := by decide +kernel
theorem dX11_findHouses_36 : decode cX11_findHouses 36 = .ok (.getfield 84, 3) := by decide +kernel
theorem dX11_findHouses_39 : decode cX11_findHouses 39 = .ok (.iload_n 1, 1) := by decide +kernel
theorem dX11_findHouses_40 : decode cX11_findHouses 40 = .ok (.aload_n 0, 1) := by decide +kernel
theorem dX11_findHouses_41 : decode cX11_findHouses 41 = .ok (.iload_n 1, 1) := by decide +kernel
theorem dX11_findHouses_42 : decode cX11_findHouses 42 = .ok (.invokevirtual 423, 3) := by decide +kernel
theorem dX11_findHouses_45 : decode cX11_findHouses 45 = .ok (.iastore, 1) := by decide +kernel
theorem dX11_findHouses_46 : decode cX11_findHouses 46 = .ok (.iinc 1 1, 3) := by decide +kernel
theorem dX11_findHouses_49 : decode cX11_findHouses 49 = .ok (.goto (-37), 3) := by decide +kernel
theorem dX11_findHouses_52 : decode cX11_findHouses 52 = .ok (.return_, 1) := by decide +kernel
theorem wk_1320 : Cond.methodLink RX11 423 yX11_firstOf ∈ tl_L := List.mem_filter.mpr ⟨lw_m5 (i := 181) rfl, rfl⟩
theorem wk_1321 : Cond.instanceMethod yX11_firstOf ∈ tl_L := List.mem_filter.mpr ⟨lw_m5 (i := 183) rfl, rfl⟩
theorem wk_1322 : Cond.selects RX11 yX11_firstOf yX11_firstOf ∈ tl_L := List.mem_filter.mpr ⟨lw_s6 (i := 11) (q := (yX11_firstOf, 16)) rfl, rfl⟩
theorem wk_1323 : Cond.code yX11_firstOf cX11_firstOf 8 (some .int) ∈ tl_L := List.mem_filter.mpr ⟨lw_m5 (i := 184) rfl, rfl⟩
theorem lk_X11_423 : tl_kV RX11 423 RX11 yX11_firstOf cX11_firstOf 8 (some .int) 1 := ⟨wk_1323, wk_1320, wk_1321, wk_1322, wk_2, ⟨by decide +kernel, by decide +kernel, by decide +kernel⟩⟩
theorem dX11_says_0 : decode cX11_says 0 = .ok (.aload_n 0, 1) := by decide +kernel
theorem dX11_says_1 : decode cX11_says 1 = .ok (.getfield 10, 3) := by decide +kernel
theorem dX11_says_4 : decode cX11_says 4 = .ok (.getfield 420, 3) := by decide +kernel
theorem dX11_says_7 : decode cX11_says 7 = .ok (.iload_n 1, 1) := by decide +kernel
theorem dX11_says_8 : decode cX11_says 8 = .ok (.invokevirtual 156, 3) := by decide +kernel
theorem dX11_says_11 : decode cX11_says 11 = .ok (.ifCond .eq 10, 3) := by decide +kernel
theorem dX11_says_14 : decode cX11_says 14 = .ok (.iload_n 2, 1) := by decide +kernel
theorem dX11_says_15 : decode cX11_says 15 = .ok (.invokestatic 94, 3) := by decide +kernel
theorem dX11_says_18 : decode cX11_says 18 = .ok (.ifCond .ne 5, 3) := by decide +kernel
theorem dX11_says_21 : decode cX11_says 21 = .ok (.iconst (-1), 1) := by decide +kernel
theorem dX11_says_22 : decode cX11_says 22 = .ok (.ireturn, 1) := by decide +kernel
theorem dX11_says_23 : decode cX11_says 23 = .ok (.aload_n 0, 1) := by decide +kernel
theorem dX11_says_24 : decode cX11_says 24 = .ok (.iload_n 1, 1) := by decide +kernel
theorem dX11_says_25 : decode cX11_says 25 = .ok (.invokevirtual 423, 3) := by decide +kernel
theorem dX11_says_28 : decode cX11_says 28 = .ok (.iload_n 2, 1) := by decide +kernel
theorem dX11_says_29 : decode cX11_says 29 = .ok (.if_icmp .gt 7, 3) := by decide +kernel
theorem dX11_says_32 : decode cX11_says 32 = .ok (.iconst 1, 1) := by decide +kernel
theorem dX11_says_33 : decode cX11_says 33 = .ok (.goto 4, 3) := by decide +kernel
theorem dX11_says_36 : decode cX11_says 36 = .ok (.iconst 0, 1) := by decide +kernel
theorem dX11_says_37 : decode cX11_says 37 = .ok (.ireturn, 1) := by decide +kernel
theorem dX11_agreed_0 : decode cX11_agreed 0 = .ok (.iload_n 1, 1) := by decide +kernel
theorem dX11_agreed_1 : decode cX11_agreed 1 = .ok (.invokestatic 94, 3) := by decide +kernel
theorem dX11_agreed_4 : decode cX11_agreed 4 = .ok (.ifCond .ne 5, 3) := by decide +kernel
theorem dX11_agreed_7 : decode cX11_agreed 7 = .ok (.iconst (-1), 1) := by decide +kernel
theorem dX11_agreed_8 : decode cX11_agreed 8 = .ok (.ireturn, 1) := by decide +kernel
theorem dX11_agreed_9 : decode cX11_agreed 9 = .ok (.aload_n 0, 1) := by decide +kernel
theorem dX11_agreed_10 : decode cX11_agreed 10 = .ok (.invokevirtual 426, 3) := by decide +kernel
theorem dX11_agreed_13 : decode cX11_agreed 13 = .ok (.iconst 0, 1) := by decide +kernel
theorem dX11_agreed_14 : decode cX11_agreed 14 = .ok (.istore_n 2, 1) := by decide +kernel
theorem dX11_agreed_15 : decode cX11_agreed 15 = .ok (.iload_n 2, 1) := by decide +kernel
theorem dX11_agreed_16 : decode cX11_agreed 16 = .ok (.iload_n 1, 1) := by decide +kernel
theorem dX11_agreed_17 : decode cX11_agreed 17 = .ok (.if_icmp .gt 31, 3) := by decide +kernel
theorem dX11_agreed_20 : decode cX11_agreed 20 = .ok (.iconst 2, 1) := by decide +kernel
theorem dX11_agreed_21 : decode cX11_agreed 21 = .ok (.aload_n 0, 1) := by decide +kernel
theorem dX11_agreed_22 : decode cX11_agreed 22 = .ok (.iload_n 2, 1) := by decide +kernel
theorem dX11_agreed_23 : decode cX11_agreed 23 = .ok (.invokevirtual 396, 3) := by decide +kernel
theorem dX11_agreed_26 : decode cX11_agreed 26 = .ok (.imul, 1) := by decide +kernel
theorem dX11_agreed_27 : decode cX11_agreed 27 = .ok (.aload_n 0, 1) := by decide +kernel
theorem dX11_agreed_28 : decode cX11_agreed 28 = .ok (.getfield 10, 3) := by decide +kernel
theorem dX11_agreed_31 : decode cX11_agreed 31 = .ok (.getfield 420, 3) := by decide +kernel
theorem dX11_agreed_34 : decode cX11_agreed 34 = .ok (.getfield 173, 3) := by decide +kernel
theorem dX11_agreed_37 : decode cX11_agreed 37 = .ok (.if_icmp .le 5, 3) := by decide +kernel
theorem dX11_agreed_40 : decode cX11_agreed 40 = .ok (.iload_n 2, 1) := by decide +kernel
theorem dX11_agreed_41 : decode cX11_agreed 41 = .ok (.ireturn, 1) := by decide +kernel
theorem dX11_agreed_42 : decode cX11_agreed 42 = .ok (.iinc 2 1, 3) := by decide +kernel
theorem dX11_agreed_45 : decode cX11_agreed 45 = .ok (.goto (-30), 3) := by decide +kernel
theorem dX11_agreed_48 : decode cX11_agreed 48 = .ok (.bipush (-2), 2) := by decide +kernel
theorem dX11_agreed_50 : decode cX11_agreed 50 = .ok (.ireturn, 1) := by decide +kernel
theorem wk_1336 : Cond.methodLink RX11 426 yX11_findHouses ∈ tl_L := List.mem_filter.mpr ⟨lw_m5 (i := 189) rfl, rfl⟩
theorem wk_1337 : Cond.instanceMethod yX11_findHouses ∈ tl_L := List.mem_filter.mpr ⟨lw_m5 (i := 191) rfl, rfl⟩
theorem wk_1338 : Cond.selects RX11 yX11_findHouses yX11_findHouses ∈ tl_L := List.mem_filter.mpr ⟨lw_s6 (i := 12) (q := (yX11_findHouses, 16)) rfl, rfl⟩
theorem wk_1339 : Cond.code yX11_findHouses cX11_findHouses 2 none ∈ tl_L := List.mem_filter.mpr ⟨lw_m5 (i := 192) rfl, rfl⟩
theorem lk_X11_426 : tl_kV RX11 426 RX11 yX11_findHouses cX11_findHouses 2 none 0 := ⟨wk_1339, wk_1336, wk_1337, wk_1338, wk_2, ⟨by decide +kernel, by decide +kernel, by decide +kernel⟩⟩
theorem dX11_alone_0 : decode cX11_alone 0 = .ok (.iload_n 1, 1) := by decide +kernel
theorem dX11_alone_1 : decode cX11_alone 1 = .ok (.invokestatic 94, 3) := by decide +kernel
theorem dX11_alone_4 : decode cX11_alone 4 = .ok (.ifCond .ne 5, 3) := by decide +kernel
theorem dX11_alone_7 : decode cX11_alone 7 = .ok (.iconst (-1), 1) := by decide +kernel
theorem dX11_alone_8 : decode cX11_alone 8 = .ok (.ireturn, 1) := by decide +kernel
theorem dX11_alone_9 : decode cX11_alone 9 = .ok (.aload_n 0, 1) := by decide +kernel
theorem dX11_alone_10 : decode cX11_alone 10 = .ok (.invokevirtual 426, 3) := by decide +kernel
theorem dX11_alone_13 : decode cX11_alone 13 = .ok (.aload_n 0, 1) := by decide +kernel
theorem dX11_alone_14 : decode cX11_alone 14 = .ok (.iload_n 1, 1) := by decide +kernel
theorem dX11_alone_15 : decode cX11_alone 15 = .ok (.invokevirtual 396, 3) := by decide +kernel
theorem dX11_alone_18 : decode cX11_alone 18 = .ok (.iconst 1, 1) := by decide +kernel
theorem dX11_alone_19 : decode cX11_alone 19 = .ok (.if_icmp .eq 6, 3) := by decide +kernel
theorem dX11_alone_22 : decode cX11_alone 22 = .ok (.bipush (-2), 2) := by decide +kernel
theorem dX11_alone_24 : decode cX11_alone 24 = .ok (.ireturn, 1) := by decide +kernel
theorem dX11_alone_25 : decode cX11_alone 25 = .ok (.bipush (-2), 2) := by decide +kernel
theorem dX11_alone_27 : decode cX11_alone 27 = .ok (.istore_n 2, 1) := by decide +kernel
theorem dX11_alone_28 : decode cX11_alone 28 = .ok (.iconst 0, 1) := by decide +kernel
theorem dX11_alone_29 : decode cX11_alone 29 = .ok (.istore_n 3, 1) := by decide +kernel
theorem dX11_alone_30 : decode cX11_alone 30 = .ok (.iload_n 3, 1) := by decide +kernel
theorem dX11_alone_31 : decode cX11_alone 31 = .ok (.aload_n 0, 1) := by decide +kernel
theorem dX11_alone_32 : decode cX11_alone 32 = .ok (.getfield 84, 3) := by decide +kernel
theorem dX11_alone_35 : decode cX11_alone 35 = .ok (.arraylength, 1) := by decide +kernel
theorem dX11_alone_36 : decode cX11_alone 36 = .ok (.if_icmp .ge 21, 3) := by decide +kernel
theorem dX11_alone_39 : decode cX11_alone 39 = .ok (.aload_n 0, 1) := by decide +kernel
theorem dX11_alone_40 : decode cX11_alone 40 = .ok (.getfield 84, 3) := by decide +kernel
theorem dX11_alone_43 : decode cX11_alone 43 = .ok (.iload_n 3, 1) := by decide +kernel
theorem dX11_alone_44 : decode cX11_alone 44 = .ok (.iaload, 1) := by decide +kernel
theorem dX11_alone_45 : decode cX11_alone 45 = .ok (.iload_n 1, 1) := by decide +kernel
theorem dX11_alone_46 : decode cX11_alone 46 = .ok (.if_icmp .gt 5, 3) := by decide +kernel
theorem dX11_alone_49 : decode cX11_alone 49 = .ok (.iload_n 3, 1) := by decide +kernel
theorem dX11_alone_50 : decode cX11_alone 50 = .ok (.istore_n 2, 1) := by decide +kernel
theorem dX11_alone_51 : decode cX11_alone 51 = .ok (.iinc 3 1, 3) := by decide +kernel
theorem dX11_alone_54 : decode cX11_alone 54 = .ok (.goto (-24), 3) := by decide +kernel
theorem dX11_alone_57 : decode cX11_alone 57 = .ok (.iload_n 2, 1) := by decide +kernel
theorem dX11_alone_58 : decode cX11_alone 58 = .ok (.ireturn, 1) := by decide +kernel
theorem dX11_meanNoise_0 : decode cX11_meanNoise 0 = .ok (.lconst 0, 1) := by decide +kernel
theorem dX11_meanNoise_1 : decode cX11_meanNoise 1 = .ok (.lstore_n 3, 1) := by decide +kernel
theorem dX11_meanNoise_2 : decode cX11_meanNoise 2 = .ok (.iconst 0, 1) := by decide +kernel
theorem dX11_meanNoise_3 : decode cX11_meanNoise 3 = .ok (.istore 5, 2) := by decide +kernel
theorem dX11_meanNoise_5 : decode cX11_meanNoise 5 = .ok (.iconst 0, 1) := by decide +kernel
theorem dX11_meanNoise_6 : decode cX11_meanNoise 6 = .ok (.istore 6, 2) := by decide +kernel
theorem dX11_meanNoise_8 : decode cX11_meanNoise 8 = .ok (.iload 6, 2) := by decide +kernel
theorem dX11_meanNoise_10 : decode cX11_meanNoise 10 = .ok (.aload_n 0, 1) := by decide +kernel
theorem dX11_meanNoise_11 : decode cX11_meanNoise 11 = .ok (.getfield 10, 3) := by decide +kernel
theorem dX11_meanNoise_14 : decode cX11_meanNoise 14 = .ok (.getfield 109, 3) := by decide +kernel
theorem dX11_meanNoise_17 : decode cX11_meanNoise 17 = .ok (.getfield 339, 3) := by decide +kernel
theorem dX11_meanNoise_20 : decode cX11_meanNoise 20 = .ok (.if_icmp .ge 60, 3) := by decide +kernel
theorem dX11_meanNoise_23 : decode cX11_meanNoise 23 = .ok (.aload_n 0, 1) := by decide +kernel
theorem dX11_meanNoise_24 : decode cX11_meanNoise 24 = .ok (.getfield 10, 3) := by decide +kernel
theorem dX11_meanNoise_27 : decode cX11_meanNoise 27 = .ok (.getfield 109, 3) := by decide +kernel
theorem dX11_meanNoise_30 : decode cX11_meanNoise 30 = .ok (.getfield 136, 3) := by decide +kernel
theorem dX11_meanNoise_33 : decode cX11_meanNoise 33 = .ok (.iload 6, 2) := by decide +kernel
theorem dX11_meanNoise_35 : decode cX11_meanNoise 35 = .ok (.iaload, 1) := by decide +kernel
theorem dX11_meanNoise_36 : decode cX11_meanNoise 36 = .ok (.iload_n 2, 1) := by decide +kernel
theorem dX11_meanNoise_37 : decode cX11_meanNoise 37 = .ok (.if_icmp .ne 37, 3) := by decide +kernel
theorem dX11_meanNoise_40 : decode cX11_meanNoise 40 = .ok (.aload_n 0, 1) := by decide +kernel
theorem dX11_meanNoise_41 : decode cX11_meanNoise 41 = .ok (.iload_n 1, 1) := by decide +kernel
theorem dX11_meanNoise_42 : decode cX11_meanNoise 42 = .ok (.iload 6, 2) := by decide +kernel
theorem dX11_meanNoise_44 : decode cX11_meanNoise 44 = .ok (.iconst (-1), 1) := by decide +kernel
theorem dX11_meanNoise_45 : decode cX11_meanNoise 45 = .ok (.invokevirtual 246, 3) := by decide +kernel
theorem dX11_meanNoise_48 : decode cX11_meanNoise 48 = .ok (.ifCond .eq 26, 3) := by decide +kernel
theorem dX11_meanNoise_51 : decode cX11_meanNoise 51 = .ok (.aload_n 0, 1) := by decide +kernel
theorem dX11_meanNoise_52 : decode cX11_meanNoise 52 = .ok (.getfield 66, 3) := by decide +kernel
theorem dX11_meanNoise_55 : decode cX11_meanNoise 55 = .ok (.invokevirtual 252, 3) := by decide +kernel
theorem dX11_meanNoise_58 : decode cX11_meanNoise 58 = .ok (.ifCond .eq 16, 3) := by decide +kernel
theorem dX11_meanNoise_61 : decode cX11_meanNoise 61 = .ok (.lload_n 3, 1) := by decide +kernel
theorem dX11_meanNoise_62 : decode cX11_meanNoise 62 = .ok (.aload_n 0, 1) := by decide +kernel
theorem dX11_meanNoise_63 : decode cX11_meanNoise 63 = .ok (.getfield 66, 3) := by decide +kernel
theorem dX11_meanNoise_66 : decode cX11_meanNoise 66 = .ok (.invokevirtual 268, 3) := by decide +kernel
theorem dX11_meanNoise_69 : decode cX11_meanNoise 69 = .ok (.ladd, 1) := by decide +kernel
theorem dX11_meanNoise_70 : decode cX11_meanNoise 70 = .ok (.lstore_n 3, 1) := by decide +kernel
theorem dX11_meanNoise_71 : decode cX11_meanNoise 71 = .ok (.iinc 5 1, 3) := by decide +kernel
theorem dX11_meanNoise_74 : decode cX11_meanNoise 74 = .ok (.iinc 6 1, 3) := by decide +kernel
theorem dX11_meanNoise_77 : decode cX11_meanNoise 77 = .ok (.goto (-69), 3) := by decide +kernel
theorem dX11_meanNoise_80 : decode cX11_meanNoise 80 = .ok (.iload 5, 2) := by decide +kernel
theorem dX11_meanNoise_82 : decode cX11_meanNoise 82 = .ok (.ifCond .ne 7, 3) := by decide +kernel
theorem dX11_meanNoise_85 : decode cX11_meanNoise 85 = .ok (.lconst 0, 1) := by decide +kernel
theorem dX11_meanNoise_86 : decode cX11_meanNoise 86 = .ok (.goto 8, 3) := by decide +kernel
theorem dX11_meanNoise_89 : decode cX11_meanNoise 89 = .ok (.lload_n 3, 1) := by decide +kernel
theorem dX11_meanNoise_90 : decode cX11_meanNoise 90 = .ok (.iload 5, 2) := by decide +kernel
theorem dX11_meanNoise_92 : decode cX11_meanNoise 92 = .ok (.i2l, 1) := by decide +kernel
theorem dX11_meanNoise_93 : decode cX11_meanNoise 93 = .ok (.ldiv, 1) := by decide +kernel
theorem dX11_meanNoise_94 : decode cX11_meanNoise 94 = .ok (.lreturn, 1) := by decide +kernel
theorem dX11_findWorths_0 : decode cX11_findWorths 0 = .ok (.iconst 0, 1) := by decide +kernel
theorem dX11_findWorths_1 : decode cX11_findWorths 1 = .ok (.istore_n 2, 1) := by decide +kernel
theorem dX11_findWorths_2 : decode cX11_findWorths 2 = .ok (.iload_n 2, 1) := by decide +kernel
theorem dX11_findWorths_3 : decode cX11_findWorths 3 = .ok (.iconst 4, 1) := by decide +kernel
theorem dX11_findWorths_4 : decode cX11_findWorths 4 = .ok (.if_icmp .ge 108, 3) := by decide +kernel
theorem dX11_findWorths_7 : decode cX11_findWorths 7 = .ok (.aload_n 0, 1) := by decide +kernel
theorem dX11_findWorths_8 : decode cX11_findWorths 8 = .ok (.iload_n 1, 1) := by decide +kernel
theorem dX11_findWorths_9 : decode cX11_findWorths 9 = .ok (.iload_n 2, 1) := by decide +kernel
theorem dX11_findWorths_10 : decode cX11_findWorths 10 = .ok (.invokevirtual 432, 3) := by decide +kernel
theorem dX11_findWorths_13 : decode cX11_findWorths 13 = .ok (.lstore_n 3, 1) := by decide +kernel
theorem dX11_findWorths_14 : decode cX11_findWorths 14 = .ok (.iconst 0, 1) := by decide +kernel
theorem dX11_findWorths_15 : decode cX11_findWorths 15 = .ok (.istore 5, 2) := by decide +kernel
theorem dX11_findWorths_17 : decode cX11_findWorths 17 = .ok (.iload 5, 2) := by decide +kernel
theorem dX11_findWorths_19 : decode cX11_findWorths 19 = .ok (.aload_n 0, 1) := by decide +kernel
theorem dX11_findWorths_20 : decode cX11_findWorths 20 = .ok (.getfield 10, 3) := by decide +kernel
theorem dX11_findWorths_23 : decode cX11_findWorths 23 = .ok (.getfield 429, 3) := by decide +kernel
theorem dX11_findWorths_26 : decode cX11_findWorths 26 = .ok (.getfield 173, 3) := by decide +kernel
theorem dX11_findWorths_29 : decode cX11_findWorths 29 = .ok (.if_icmp .ge 77, 3) := by decide +kernel
theorem dX11_findWorths_32 : decode cX11_findWorths 32 = .ok (.iload 5, 2) := by decide +kernel
theorem dX11_findWorths_34 : decode cX11_findWorths 34 = .ok (.aload_n 0, 1) := by decide +kernel
theorem dX11_findWorths_35 : decode cX11_findWorths 35 = .ok (.getfield 87, 3) := by decide +kernel
theorem dX11_findWorths_38 : decode cX11_findWorths 38 = .ok (.arraylength, 1) := by decide +kernel
theorem dX11_findWorths_39 : decode cX11_findWorths 39 = .ok (.if_icmp .ge 67, 3) := by decide +kernel
theorem dX11_findWorths_42 : decode cX11_findWorths 42 = .ok (.aload_n 0, 1) := by decide +kernel
theorem dX11_findWorths_43 : decode cX11_findWorths 43 = .ok (.getfield 10, 3) := by decide +kernel
theorem dX11_findWorths_46 : decode cX11_findWorths 46 = .ok (.getfield 429, 3) := by decide +kernel
theorem dX11_findWorths_49 : decode cX11_findWorths 49 = .ok (.iload 5, 2) := by decide +kernel
theorem dX11_findWorths_51 : decode cX11_findWorths 51 = .ok (.iconst 0, 1) := by decide +kernel
theorem dX11_findWorths_52 : decode cX11_findWorths 52 = .ok (.invokevirtual 157, 3) := by decide +kernel
theorem dX11_findWorths_55 : decode cX11_findWorths 55 = .ok (.iload_n 2, 1) := by decide +kernel
theorem dX11_findWorths_56 : decode cX11_findWorths 56 = .ok (.if_icmp .ne 44, 3) := by decide +kernel
theorem dX11_findWorths_59 : decode cX11_findWorths 59 = .ok (.aload_n 0, 1) := by decide +kernel
theorem dX11_findWorths_60 : decode cX11_findWorths 60 = .ok (.getfield 10, 3) := by decide +kernel
theorem dX11_findWorths_63 : decode cX11_findWorths 63 = .ok (.getfield 429, 3) := by decide +kernel
theorem dX11_findWorths_66 : decode cX11_findWorths 66 = .ok (.iload 5, 2) := by decide +kernel
theorem dX11_findWorths_68 : decode cX11_findWorths 68 = .ok (.iconst 1, 1) := by decide +kernel
theorem dX11_findWorths_69 : decode cX11_findWorths 69 = .ok (.invokevirtual 157, 3) := by decide +kernel
theorem dX11_findWorths_72 : decode cX11_findWorths 72 = .ok (.i2l, 1) := by decide +kernel
theorem dX11_findWorths_73 : decode cX11_findWorths 73 = .ok (.lstore 6, 2) := by decide +kernel
theorem dX11_findWorths_75 : decode cX11_findWorths 75 = .ok (.aload_n 0, 1) := by decide +kernel
theorem dX11_findWorths_76 : decode cX11_findWorths 76 = .ok (.getfield 87, 3) := by decide +kernel
theorem dX11_findWorths_79 : decode cX11_findWorths 79 = .ok (.iload 5, 2) := by decide +kernel
theorem dX11_findWorths_81 : decode cX11_findWorths 81 = .ok (.lload_n 3, 1) := by decide +kernel
theorem dX11_findWorths_82 : decode cX11_findWorths 82 = .ok (.lconst 1, 1) := by decide +kernel
theorem dX11_findWorths_83 : decode cX11_findWorths 83 = .ok (.lcmp, 1) := by decide +kernel
theorem dX11_findWorths_84 : decode cX11_findWorths 84 = .ok (.ifCond .ge 7, 3) := by decide +kernel
theorem dX11_findWorths_87 : decode cX11_findWorths 87 = .ok (.lconst 0, 1) := by decide +kernel
theorem dX11_findWorths_88 : decode cX11_findWorths 88 = .ok (.goto 11, 3) := by decide +kernel
theorem dX11_findWorths_91 : decode cX11_findWorths 91 = .ok (.lload 6, 2) := by decide +kernel
theorem dX11_findWorths_93 : decode cX11_findWorths 93 = .ok (.ldc2_w 436, 3) := by decide +kernel
theorem dX11_findWorths_96 : decode cX11_findWorths 96 = .ok (.lmul, 1) := by decide +kernel
theorem dX11_findWorths_97 : decode cX11_findWorths 97 = .ok (.lload_n 3, 1) := by decide +kernel
theorem dX11_findWorths_98 : decode cX11_findWorths 98 = .ok (.ldiv, 1) := by decide +kernel
theorem dX11_findWorths_99 : decode cX11_findWorths 99 = .ok (.lastore, 1) := by decide +kernel
theorem dX11_findWorths_100 : decode cX11_findWorths 100 = .ok (.iinc 5 1, 3) := by decide +kernel
theorem dX11_findWorths_103 : decode cX11_findWorths 103 = .ok (.goto (-86), 3) := by decide +kernel
theorem dX11_findWorths_106 : decode cX11_findWorths 106 = .ok (.iinc 2 1, 3) := by decide +kernel
theorem dX11_findWorths_109 : decode cX11_findWorths 109 = .ok (.goto (-107), 3) := by decide +kernel
theorem dX11_findWorths_112 : decode cX11_findWorths 112 = .ok (.return_, 1) := by decide +kernel
theorem wk_52 : Cond.fieldLink RX11 87 "ThinLine" "worths" "[J" ∈ tl_L := List.mem_filter.mpr ⟨lw_m2 (i := 153) rfl, rfl⟩
theorem wk_1388 : Cond.constantLong RX11 436 (1000000) ∈ tl_L := List.mem_filter.mpr ⟨lw_m5 (i := 213) rfl, rfl⟩
theorem wk_1389 : Cond.methodLink RX11 432 yX11_meanNoise ∈ tl_L := List.mem_filter.mpr ⟨lw_m5 (i := 209) rfl, rfl⟩
theorem wk_1390 : Cond.instanceMethod yX11_meanNoise ∈ tl_L := List.mem_filter.mpr ⟨lw_m5 (i := 211) rfl, rfl⟩
theorem wk_1391 : Cond.selects RX11 yX11_meanNoise yX11_meanNoise ∈ tl_L := List.mem_filter.mpr ⟨lw_s6 (i := 14) (q := (yX11_meanNoise, 16)) rfl, rfl⟩
theorem wk_1392 : Cond.code yX11_meanNoise cX11_meanNoise 7 (some .long) ∈ tl_L := List.mem_filter.mpr ⟨lw_m5 (i := 212) rfl, rfl⟩
theorem nk_23 : tl_N[23]? = some (Cond.fieldLinkNest "ThinLine" 429 "ThinLine$Book" "candidates" "LThinLine$Table;" "ThinLine") := by decide +kernel
theorem lk_X11_432 : tl_kV RX11 432 RX11 yX11_meanNoise cX11_meanNoise 7 (some .long) 2 := ⟨wk_1392, wk_1389, wk_1390, wk_1391, wk_2, ⟨by decide +kernel, by decide +kernel, by decide +kernel⟩⟩
theorem dX11_hoursOf_0 : decode cX11_hoursOf 0 = .ok (.iconst 0, 1) := by decide +kernel
theorem dX11_hoursOf_1 : decode cX11_hoursOf 1 = .ok (.istore_n 2, 1) := by decide +kernel
theorem dX11_hoursOf_2 : decode cX11_hoursOf 2 = .ok (.iconst 0, 1) := by decide +kernel
theorem dX11_hoursOf_3 : decode cX11_hoursOf 3 = .ok (.istore_n 3, 1) := by decide +kernel
theorem dX11_hoursOf_4 : decode cX11_hoursOf 4 = .ok (.iload_n 3, 1) := by decide +kernel
theorem dX11_hoursOf_5 : decode cX11_hoursOf 5 = .ok (.aload_n 0, 1) := by decide +kernel
theorem dX11_hoursOf_6 : decode cX11_hoursOf 6 = .ok (.getfield 10, 3) := by decide +kernel
theorem dX11_hoursOf_9 : decode cX11_hoursOf 9 = .ok (.getfield 429, 3) := by decide +kernel
theorem dX11_hoursOf_12 : decode cX11_hoursOf 12 = .ok (.getfield 173, 3) := by decide +kernel
theorem dX11_hoursOf_15 : decode cX11_hoursOf 15 = .ok (.if_icmp .ge 30, 3) := by decide +kernel
theorem dX11_hoursOf_18 : decode cX11_hoursOf 18 = .ok (.iload_n 2, 1) := by decide +kernel
theorem dX11_hoursOf_19 : decode cX11_hoursOf 19 = .ok (.iload_n 1, 1) := by decide +kernel
theorem dX11_hoursOf_20 : decode cX11_hoursOf 20 = .ok (.iload_n 3, 1) := by decide +kernel
theorem dX11_hoursOf_21 : decode cX11_hoursOf 21 = .ok (.ishr, 1) := by decide +kernel
theorem dX11_hoursOf_22 : decode cX11_hoursOf 22 = .ok (.iconst 1, 1) := by decide +kernel
theorem dX11_hoursOf_23 : decode cX11_hoursOf 23 = .ok (.iand, 1) := by decide +kernel
theorem dX11_hoursOf_24 : decode cX11_hoursOf 24 = .ok (.aload_n 0, 1) := by decide +kernel
theorem dX11_hoursOf_25 : decode cX11_hoursOf 25 = .ok (.getfield 10, 3) := by decide +kernel
theorem dX11_hoursOf_28 : decode cX11_hoursOf 28 = .ok (.getfield 429, 3) := by decide +kernel
theorem dX11_hoursOf_31 : decode cX11_hoursOf 31 = .ok (.iload_n 3, 1) := by decide +kernel
theorem dX11_hoursOf_32 : decode cX11_hoursOf 32 = .ok (.iconst 1, 1) := by decide +kernel
theorem dX11_hoursOf_33 : decode cX11_hoursOf 33 = .ok (.invokevirtual 157, 3) := by decide +kernel
theorem dX11_hoursOf_36 : decode cX11_hoursOf 36 = .ok (.imul, 1) := by decide +kernel
theorem dX11_hoursOf_37 : decode cX11_hoursOf 37 = .ok (.iadd, 1) := by decide +kernel
theorem dX11_hoursOf_38 : decode cX11_hoursOf 38 = .ok (.istore_n 2, 1) := by decide +kernel
theorem dX11_hoursOf_39 : decode cX11_hoursOf 39 = .ok (.iinc 3 1, 3) := by decide +kernel
theorem dX11_hoursOf_42 : decode cX11_hoursOf 42 = .ok (.goto (-38), 3) := by decide +kernel
theorem dX11_hoursOf_45 : decode cX11_hoursOf 45 = .ok (.iload_n 2, 1) := by decide +kernel
theorem dX11_hoursOf_46 : decode cX11_hoursOf 46 = .ok (.ireturn, 1) := by decide +kernel
theorem dX11_worthOf_0 : decode cX11_worthOf 0 = .ok (.lconst 0, 1) := by decide +kernel
theorem dX11_worthOf_1 : decode cX11_worthOf 1 = .ok (.lstore_n 2, 1) := by decide +kernel
theorem dX11_worthOf_2 : decode cX11_worthOf 2 = .ok (.iconst 0, 1) := by decide +kernel
theorem dX11_worthOf_3 : decode cX11_worthOf 3 = .ok (.istore 4, 2) := by decide +kernel
theorem dX11_worthOf_5 : decode cX11_worthOf 5 = .ok (.iload 4, 2) := by decide +kernel
theorem dX11_worthOf_7 : decode cX11_worthOf 7 = .ok (.aload_n 0, 1) := by decide +kernel
theorem dX11_worthOf_8 : decode cX11_worthOf 8 = .ok (.getfield 10, 3) := by decide +kernel
theorem dX11_worthOf_11 : decode cX11_worthOf 11 = .ok (.getfield 429, 3) := by decide +kernel
theorem dX11_worthOf_14 : decode cX11_worthOf 14 = .ok (.getfield 173, 3) := by decide +kernel
theorem dX11_worthOf_17 : decode cX11_worthOf 17 = .ok (.if_icmp .ge 37, 3) := by decide +kernel
theorem dX11_worthOf_20 : decode cX11_worthOf 20 = .ok (.iload 4, 2) := by decide +kernel
theorem dX11_worthOf_22 : decode cX11_worthOf 22 = .ok (.aload_n 0, 1) := by decide +kernel
theorem dX11_worthOf_23 : decode cX11_worthOf 23 = .ok (.getfield 87, 3) := by decide +kernel
theorem dX11_worthOf_26 : decode cX11_worthOf 26 = .ok (.arraylength, 1) := by decide +kernel
theorem dX11_worthOf_27 : decode cX11_worthOf 27 = .ok (.if_icmp .ge 27, 3) := by decide +kernel
theorem dX11_worthOf_30 : decode cX11_worthOf 30 = .ok (.lload_n 2, 1) := by decide +kernel
theorem dX11_worthOf_31 : decode cX11_worthOf 31 = .ok (.iload_n 1, 1) := by decide +kernel
theorem dX11_worthOf_32 : decode cX11_worthOf 32 = .ok (.iload 4, 2) := by decide +kernel
theorem dX11_worthOf_34 : decode cX11_worthOf 34 = .ok (.ishr, 1) := by decide +kernel
theorem dX11_worthOf_35 : decode cX11_worthOf 35 = .ok (.iconst 1, 1) := by decide +kernel
theorem dX11_worthOf_36 : decode cX11_worthOf 36 = .ok (.iand, 1) := by decide +kernel
theorem dX11_worthOf_37 : decode cX11_worthOf 37 = .ok (.i2l, 1) := by decide +kernel
theorem dX11_worthOf_38 : decode cX11_worthOf 38 = .ok (.aload_n 0, 1) := by decide +kernel
theorem dX11_worthOf_39 : decode cX11_worthOf 39 = .ok (.getfield 87, 3) := by decide +kernel
theorem dX11_worthOf_42 : decode cX11_worthOf 42 = .ok (.iload 4, 2) := by decide +kernel
theorem dX11_worthOf_44 : decode cX11_worthOf 44 = .ok (.laload, 1) := by decide +kernel
theorem dX11_worthOf_45 : decode cX11_worthOf 45 = .ok (.lmul, 1) := by decide +kernel
theorem dX11_worthOf_46 : decode cX11_worthOf 46 = .ok (.ladd, 1) := by decide +kernel
theorem dX11_worthOf_47 : decode cX11_worthOf 47 = .ok (.lstore_n 2, 1) := by decide +kernel
theorem dX11_worthOf_48 : decode cX11_worthOf 48 = .ok (.iinc 4 1, 3) := by decide +kernel
theorem dX11_worthOf_51 : decode cX11_worthOf 51 = .ok (.goto (-46), 3) := by decide +kernel
theorem dX11_worthOf_54 : decode cX11_worthOf 54 = .ok (.lload_n 2, 1) := by decide +kernel
theorem dX11_worthOf_55 : decode cX11_worthOf 55 = .ok (.lreturn, 1) := by decide +kernel
theorem dX11_next_0 : decode cX11_next 0 = .ok (.aload_n 0, 1) := by decide +kernel
theorem dX11_next_1 : decode cX11_next 1 = .ok (.getfield 29, 3) := by decide +kernel
theorem dX11_next_4 : decode cX11_next 4 = .ok (.iload_n 1, 1) := by decide +kernel
theorem dX11_next_5 : decode cX11_next 5 = .ok (.invokevirtual 201, 3) := by decide +kernel
theorem dX11_next_8 : decode cX11_next 8 = .ok (.ifnull 23, 3) := by decide +kernel
theorem dX11_next_11 : decode cX11_next 11 = .ok (.iload_n 2, 1) := by decide +kernel
theorem dX11_next_12 : decode cX11_next 12 = .ok (.iconst 0, 1) := by decide +kernel
theorem dX11_next_13 : decode cX11_next 13 = .ok (.sipush 999, 3) := by decide +kernel
theorem dX11_next_16 : decode cX11_next 16 = .ok (.invokestatic 105, 3) := by decide +kernel
theorem dX11_next_19 : decode cX11_next 19 = .ok (.ifCond .eq 12, 3) := by decide +kernel
theorem dX11_next_22 : decode cX11_next 22 = .ok (.iload_n 3, 1) := by decide +kernel
theorem dX11_next_23 : decode cX11_next 23 = .ok (.iconst 0, 1) := by decide +kernel
theorem dX11_next_24 : decode cX11_next 24 = .ok (.iconst 1, 1) := by decide +kernel
theorem dX11_next_25 : decode cX11_next 25 = .ok (.invokestatic 105, 3) := by decide +kernel
theorem dX11_next_28 : decode cX11_next 28 = .ok (.ifCond .ne 7, 3) := by decide +kernel
theorem dX11_next_31 : decode cX11_next 31 = .ok (.ldc2_w 272, 3) := by decide +kernel
theorem dX11_next_34 : decode cX11_next 34 = .ok (.lreturn, 1) := by decide +kernel
theorem dX11_next_35 : decode cX11_next 35 = .ok (.aload_n 0, 1) := by decide +kernel
theorem dX11_next_36 : decode cX11_next 36 = .ok (.iload_n 1, 1) := by decide +kernel
theorem dX11_next_37 : decode cX11_next 37 = .ok (.invokevirtual 438, 3) := by decide +kernel
theorem dX11_next_40 : decode cX11_next 40 = .ok (.iconst 0, 1) := by decide +kernel
theorem dX11_next_41 : decode cX11_next 41 = .ok (.istore 4, 2) := by decide +kernel
theorem dX11_next_43 : decode cX11_next 43 = .ok (.iconst 0, 1) := by decide +kernel
theorem dX11_next_44 : decode cX11_next 44 = .ok (.istore 5, 2) := by decide +kernel
theorem dX11_next_46 : decode cX11_next 46 = .ok (.lconst 0, 1) := by decide +kernel
theorem dX11_next_47 : decode cX11_next 47 = .ok (.lstore 6, 2) := by decide +kernel
theorem dX11_next_49 : decode cX11_next 49 = .ok (.iconst 1, 1) := by decide +kernel
theorem dX11_next_50 : decode cX11_next 50 = .ok (.istore 8, 2) := by decide +kernel
theorem dX11_next_52 : decode cX11_next 52 = .ok (.iload 8, 2) := by decide +kernel
theorem dX11_next_54 : decode cX11_next 54 = .ok (.iconst 1, 1) := by decide +kernel
theorem dX11_next_55 : decode cX11_next 55 = .ok (.aload_n 0, 1) := by decide +kernel
theorem dX11_next_56 : decode cX11_next 56 = .ok (.getfield 10, 3) := by decide +kernel
theorem dX11_next_59 : decode cX11_next 59 = .ok (.getfield 429, 3) := by decide +kernel
theorem dX11_next_62 : decode cX11_next 62 = .ok (.getfield 173, 3) := by decide +kernel
theorem dX11_next_65 : decode cX11_next 65 = .ok (.ishl, 1) := by decide +kernel
theorem dX11_next_66 : decode cX11_next 66 = .ok (.if_icmp .ge 66, 3) := by decide +kernel
theorem dX11_next_69 : decode cX11_next 69 = .ok (.aload_n 0, 1) := by decide +kernel
theorem dX11_next_70 : decode cX11_next 70 = .ok (.iload 8, 2) := by decide +kernel
theorem dX11_next_72 : decode cX11_next 72 = .ok (.invokevirtual 441, 3) := by decide +kernel
theorem dX11_next_75 : decode cX11_next 75 = .ok (.istore 9, 2) := by decide +kernel
theorem dX11_next_77 : decode cX11_next 77 = .ok (.aload_n 0, 1) := by decide +kernel
theorem dX11_next_78 : decode cX11_next 78 = .ok (.iload 8, 2) := by decide +kernel
theorem dX11_next_80 : decode cX11_next 80 = .ok (.invokevirtual 444, 3) := by decide +kernel
theorem dX11_next_83 : decode cX11_next 83 = .ok (.lstore 10, 2) := by decide +kernel
theorem dX11_next_85 : decode cX11_next 85 = .ok (.iload 9, 2) := by decide +kernel
theorem dX11_next_87 : decode cX11_next 87 = .ok (.iload_n 2, 1) := by decide +kernel
theorem dX11_next_88 : decode cX11_next 88 = .ok (.if_icmp .gt 38, 3) := by decide +kernel
theorem dX11_next_91 : decode cX11_next 91 = .ok (.lload 10, 2) := by decide +kernel
theorem dX11_next_93 : decode cX11_next 93 = .ok (.lload 6, 2) := by decide +kernel
theorem dX11_next_95 : decode cX11_next 95 = .ok (.lcmp, 1) := by decide +kernel
theorem dX11_next_96 : decode cX11_next 96 = .ok (.ifCond .gt 18, 3) := by decide +kernel
theorem dX11_next_99 : decode cX11_next 99 = .ok (.lload 10, 2) := by decide +kernel
theorem dX11_next_101 : decode cX11_next 101 = .ok (.lload 6, 2) := by decide +kernel
theorem dX11_next_103 : decode cX11_next 103 = .ok (.lcmp, 1) := by decide +kernel
theorem dX11_next_104 : decode cX11_next 104 = .ok (.ifCond .ne 22, 3) := by decide +kernel
theorem dX11_next_107 : decode cX11_next 107 = .ok (.iload 9, 2) := by decide +kernel
theorem dX11_next_109 : decode cX11_next 109 = .ok (.iload 5, 2) := by decide +kernel
theorem dX11_next_111 : decode cX11_next 111 = .ok (.if_icmp .ge 15, 3) := by decide +kernel
theorem dX11_next_114 : decode cX11_next 114 = .ok (.iload 8, 2) := by decide +kernel
theorem dX11_next_116 : decode cX11_next 116 = .ok (.istore 4, 2) := by decide +kernel
theorem dX11_next_118 : decode cX11_next 118 = .ok (.iload 9, 2) := by decide +kernel
theorem dX11_next_120 : decode cX11_next 120 = .ok (.istore 5, 2) := by decide +kernel
theorem dX11_next_122 : decode cX11_next 122 = .ok (.lload 10, 2) := by decide +kernel
theorem dX11_next_124 : decode cX11_next 124 = .ok (.lstore 6, 2) := by decide +kernel
theorem dX11_next_126 : decode cX11_next 126 = .ok (.iinc 8 1, 3) := by decide +kernel
theorem dX11_next_129 : decode cX11_next 129 = .ok (.goto (-77), 3) := by decide +kernel
theorem dX11_next_132 : decode cX11_next 132 = .ok (.iload_n 3, 1) := by decide +kernel
theorem dX11_next_133 : decode cX11_next 133 = .ok (.ifCond .ne 9, 3) := by decide +kernel
theorem dX11_next_136 : decode cX11_next 136 = .ok (.iload 4, 2) := by decide +kernel
theorem dX11_next_138 : decode cX11_next 138 = .ok (.i2l, 1) := by decide +kernel
theorem dX11_next_139 : decode cX11_next 139 = .ok (.goto 5, 3) := by decide +kernel
theorem dX11_next_142 : decode cX11_next 142 = .ok (.lload 6, 2) := by decide +kernel
theorem dX11_next_144 : decode cX11_next 144 = .ok (.lreturn, 1) := by decide +kernel
theorem wk_1384 : Cond.methodLink RX11 438 yX11_findWorths ∈ tl_L := List.mem_filter.mpr ⟨lw_m5 (i := 205) rfl, rfl⟩
theorem wk_1385 : Cond.instanceMethod yX11_findWorths ∈ tl_L := List.mem_filter.mpr ⟨lw_m5 (i := 207) rfl, rfl⟩
theorem wk_1386 : Cond.selects RX11 yX11_findWorths yX11_findWorths ∈ tl_L := List.mem_filter.mpr ⟨lw_s6 (i := 13) (q := (yX11_findWorths, 16)) rfl, rfl⟩
theorem wk_1387 : Cond.code yX11_findWorths cX11_findWorths 8 none ∈ tl_L := List.mem_filter.mpr ⟨lw_m5 (i := 208) rfl, rfl⟩
theorem wk_1393 : Cond.methodLink RX11 441 yX11_hoursOf ∈ tl_L := List.mem_filter.mpr ⟨lw_m5 (i := 214) rfl, rfl⟩
theorem wk_1394 : Cond.instanceMethod yX11_hoursOf ∈ tl_L := List.mem_filter.mpr ⟨lw_m5 (i := 216) rfl, rfl⟩
theorem wk_1395 : Cond.selects RX11 yX11_hoursOf yX11_hoursOf ∈ tl_L := List.mem_filter.mpr ⟨lw_s6 (i := 15) (q := (yX11_hoursOf, 16)) rfl, rfl⟩
theorem wk_1396 : Cond.code yX11_hoursOf cX11_hoursOf 4 (some .int) ∈ tl_L := List.mem_filter.mpr ⟨lw_m5 (i := 217) rfl, rfl⟩
theorem wk_1397 : Cond.methodLink RX11 444 yX11_worthOf ∈ tl_L := List.mem_filter.mpr ⟨lw_m5 (i := 218) rfl, rfl⟩
theorem wk_1398 : Cond.instanceMethod yX11_worthOf ∈ tl_L := List.mem_filter.mpr ⟨lw_m5 (i := 220) rfl, rfl⟩
theorem wk_1399 : Cond.selects RX11 yX11_worthOf yX11_worthOf ∈ tl_L := List.mem_filter.mpr ⟨lw_s7 (i := 0) (q := (yX11_worthOf, 16)) rfl, rfl⟩
theorem wk_1400 : Cond.code yX11_worthOf cX11_worthOf 5 (some .long) ∈ tl_L := List.mem_filter.mpr ⟨lw_m5 (i := 221) rfl, rfl⟩
theorem lk_X11_438 : tl_kV RX11 438 RX11 yX11_findWorths cX11_findWorths 8 none 1 := ⟨wk_1387, wk_1384, wk_1385, wk_1386, wk_2, ⟨by decide +kernel, by decide +kernel, by decide +kernel⟩⟩
theorem lk_X11_441 : tl_kV RX11 441 RX11 yX11_hoursOf cX11_hoursOf 4 (some .int) 1 := ⟨wk_1396, wk_1393, wk_1394, wk_1395, wk_2, ⟨by decide +kernel, by decide +kernel, by decide +kernel⟩⟩
theorem lk_X11_444 : tl_kV RX11 444 RX11 yX11_worthOf cX11_worthOf 5 (some .long) 1 := ⟨wk_1400, wk_1397, wk_1398, wk_1399, wk_2, ⟨by decide +kernel, by decide +kernel, by decide +kernel⟩⟩
set_option maxHeartbeats 4000000 in
set_option maxRecDepth 100000 in
theorem t_X11_house (l : Launch) (D : va_G) (cy : Nat → ClassId) (sz : Nat) (L : List Nat) (K : Nat → tk_K) (Γ : tk_G) (f : Nat → va_E) (o : Nat) (p0 : Int32) (p1 : Int32) (p2 : Int32) (ho : tp_r L K 0 (0) 0 o) : Met l yX11_house (tl_w yX11_house cX11_house 4 (some .int)) ({ frames := 3, cells := 0, slots := 0, locals := 69 }) (va_Pc [.ref o, .int p0, .int p1, .int p2] (tp_P D cy L K Γ f sz)) (va_Qi (fun (r : Int32) (u : Nat → va_E) => True) (tp_B D cy L K Γ f [9, 10]) (tp_A L sz)) 0 0 (tp_A L sz) := by
  refine Met.ofW (cc := cX11_house) (maxL := 4) (ret := (some .int)) (by decide) rfl ?_
  intro p e s m args below meth c s₁ B hml hv
  obtain ⟨rfl, hsz, hP, hK, hL, hI, hN, hU⟩ := hv
  have hx := B.exec
  have hb := B.bytes
  have hr := B.returns
  have hta := tl_hta (atoms_spec (ws := tl_w yX11_house cX11_house 4 (some .int)) B.pre)
  have hown : s.vm.findClass RX11 = some m.cls := findClass_of_methodNamed B.named
  have hlocks := B.notSynchronized
  subst hsz
  have hI0 := hI
  generalize hAe : tp_A L s.heap.size = A
  have hA : ∀ q : Nat, s.heap.size ≤ q → A q := fun q h => by rw [← hAe]; exact Or.inr h
  have hAL : ∀ q ∈ L, A q := fun q h => by rw [← hAe]; exact Or.inl h
  have hAf : ∀ (H : Heap), s.heap.size ≤ H.size → ∀ q, tp_A L H.size q → A q := fun H h q hq => hq.elim (hAL q) (fun h2 => hA q (Nat.le_trans h h2))
  have hS : va_S A s.heap s.heap [] := va_S.rf
  have hD : va_D A (va_pl L f) := tp_D hL hAL
  have hfr : ∀ b, (K b).1 ∉ ([9, 10] : List Nat) → f b = f b := fun _ _ => rfl
  have hl := lv_entry ([.ref o, .int p0, .int p1, .int p2]) (n := 4) (Nat.le_of_ble_eq_true rfl)
  rw [lg_entry_eq]
  generalize (lg_sl ([.ref o, .int p0, .int p1, .int p2]) ++ List.replicate (4 - (lg_sl ([.ref o, .int p0, .int p1, .int p2])).length) Slot.unset).toArray = ls at hl ⊢
  have hl : lv_has ls 4 [(0, .ref o), (1, .int p0), (2, .int p1), (3, .int p2)] := hl
  refine lv_aload_n hx hb dX11_house_0 rfl (lv_at hl 0 rfl) ?_
  obtain ⟨x_2, x_3, x_4, x_5, x_6, x_7, x_8, x_9, x_10, x_11, x_12, x_13, x_14, x_15, x_16, x_17, hf_1, hx_2, hx_3, hx_4, hx_5, hx_6, hx_7, hx_8, hx_9, hx_10, hx_11, hx_12, hx_13, hx_14, hx_15, hx_16, hx_17⟩ := (show tp_o_X L K (0) 0 (Γ (0, 0, 0)) (f o) from hI0.at ho)
  refine tp_get (cy := cy) (ci := 11) (v := .ref x_5) (C := RX11) (T := TX11) (N := 16) hx hb hta inlX11 hown hK hP ho.1 hf_1 rfl 3 (by decide) (hta _ wk_21) (fun _ h9 => h9) rfl dX11_house_1 ?_
  refine lv_iload_n hx hb dX11_house_4 rfl (lv_at hl 1 rfl) ?_
  obtain ⟨x_19, x_20, hf_18, hx_19, hx_20⟩ := (show tp_o_TEXTS L K (8) 0 (Γ (13, 8, 0)) (f x_5) from hI0.at hx_5)
  refine tl_sq (tq_rVN hN (As := [.int p0]) (rest := []) ⟨hx, hb, hml, hown, hta⟩ (tp_P.pre hK hN hL hU hI hP) (tp_recv hK hP hx_5.1 hf_18 rfl) lk_X11_201 (t_X8_at l D cy s.heap.size L K Γ f 8 x_5 p0 hx_5 (by first | omega | (simp only [Int32.toInt_toInt64]; omega) | decide | assumption)) rfl rfl ⟨Nat.le_of_ble_eq_true rfl, Nat.le_of_ble_eq_true rfl⟩ rfl hl.1 rfl (Nat.le_of_ble_eq_true rfl) dX11_house_5 ⟨Nat.le_of_ble_eq_true rfl, Nat.le_of_ble_eq_true rfl⟩) (fun r_22 hw_21 => ?_)
  rcases r_22 with _ | b_23
  · refine W.eq (g2 := F0 m 8 ls ([.null])) (by rfl) ?_
    refine lv_ifnullN (tgt := 28) hx hb dX11_house_8 (by decide) ?_
    refine lv_iconst (v := (-1)) hx hb dX11_house_28 (by decide) ?_
    exact W.iret (v := (-1)) hx hb hr (fun t ht hW => ⟨⟨_, f, rfl, trivial, by rw [ht]; exact hP, hI, hfr⟩, hS.F ht⟩) hS.2.2 dX11_house_29
  · have hb_23 := hw_21 _ rfl
    have hb_23 : tp_r L K 18 (0) 0 b_23 := hb_23
    refine W.eq (g2 := F0 m 8 ls ([.ref b_23])) (by rfl) ?_
    refine lv_ifnull hx hb dX11_house_8 ?_
    refine lv_iload_n hx hb dX11_house_11 rfl (lv_at hl 2 rfl) ?_
    refine tl_si (tq_rS (As := [.int p1]) (rest := []) ⟨hx, hb, hml, hown, hta⟩ (tp_P.pre hK hN hL hU hI hP) lk_X11_336 (t_X11_isBar l D cy s.heap.size L K Γ f p1 ) rfl rfl ⟨Nat.le_of_ble_eq_true rfl, Nat.le_of_ble_eq_true rfl⟩ rfl hl.1 rfl (Nat.le_of_ble_eq_true rfl) dX11_house_12 ⟨Nat.le_of_ble_eq_true rfl, Nat.le_of_ble_eq_true rfl⟩) (fun r_25 hw_24 => ?_)
    have hw_24 : tl_E r_25 (-999999 ≤ p1.toInt ∧ p1.toInt ≤ 999999) 1 0 := hw_24
    refine lv_if_eq (tgt := 28) hx hb dX11_house_15 (by decide) (fun c_26 => ?_) (fun c_26 => ?_)
    · have c_26 := hw_24.f c_26
      refine lv_iconst (v := (-1)) hx hb dX11_house_28 (by decide) ?_
      exact W.iret (v := (-1)) hx hb hr (fun t ht hW => ⟨⟨_, f, rfl, trivial, by rw [ht]; exact hP, hI, hfr⟩, hS.F ht⟩) hS.2.2 dX11_house_29
    · have c_26 := hw_24.t c_26
      refine lv_iload_n hx hb dX11_house_18 rfl (lv_at hl 3 rfl) ?_
      refine lv_iconst (v := 1) hx hb dX11_house_19 (by decide) ?_
      refine lv_bipush (v := 15) hx hb dX11_house_20 (by decide) ?_
      refine tl_si (tq_rS (As := [.int p2, .int 1, .int 15]) (rest := []) ⟨hx, hb, hml, hown, hta⟩ (tp_P.pre hK hN hL hU hI hP) lk_X11_105 (t_X11_isIn l D cy s.heap.size L K Γ f p2 1 15 ) rfl rfl ⟨Nat.le_of_ble_eq_true rfl, Nat.le_of_ble_eq_true rfl⟩ rfl hl.1 rfl (Nat.le_of_ble_eq_true rfl) dX11_house_22 ⟨Nat.le_of_ble_eq_true rfl, Nat.le_of_ble_eq_true rfl⟩) (fun r_28 hw_27 => ?_)
      have hw_27 : tl_E r_28 ((1 : Int) ≤ p2.toInt ∧ p2.toInt ≤ (15 : Int)) 1 0 := hw_27
      refine lv_if_ne (tgt := 30) hx hb dX11_house_25 (by decide) (fun c_29 => ?_) (fun c_29 => ?_)
      · have c_29 := hw_27.t c_29
        refine lv_aload_n hx hb dX11_house_30 rfl (lv_at hl 0 rfl) ?_
        refine tp_get (cy := cy) (ci := 11) (v := .ref x_2) (C := RX11) (T := TX11) (N := 16) hx hb hta inlX11 hown hK hP ho.1 hf_1 rfl 0 (by decide) (hta _ wk_15) (fun _ h9 => h9) rfl dX11_house_31 ?_
        obtain ⟨x_31, x_32, x_33, x_34, x_35, x_36, x_37, x_38, x_39, hf_30, hx_31, hx_32, hx_33, hx_34, hx_35, hx_36, hx_37, hx_38, hx_39⟩ := (show tp_o_BOOK L K (0) 0 (Γ (1, 0, 0)) (f x_2) from hI0.at hx_2)
        refine tp_getN (cy := cy) (ci := 0) (v := .ref x_37) (C := RX0) (T := TX0) (N := 9) hx hb hta inlX0 hown hK hP hx_2.1 hf_30 rfl 6 (by decide) (va_Nw.use rfl (hN.1 24 _ nk_24)) (fun _ h9 => h9) rfl dX11_house_34 ?_
        refine lv_iload_n hx hb dX11_house_37 rfl (lv_at hl 1 rfl) ?_
        refine lv_iload_n hx hb dX11_house_38 rfl (lv_at hl 2 rfl) ?_
        refine lv_iload_n hx hb dX11_house_39 rfl (lv_at hl 3 rfl) ?_
        refine lv_iconst (v := 0) hx hb dX11_house_40 (by decide) ?_
        obtain ⟨x_41, x_42, x_43, hf_40, hx_41, hx_42, hx_43⟩ := (show tp_o_HTABLE L K (8) 0 (Γ (9, 8, 0)) (f x_37) from hI.at hx_37)
        refine tq_ci hS (hAf _ hS.1) (tq_rVN hN (As := [.int p0, .int p1, .int p2, .int 0]) (rest := []) ⟨hx, hb, hml, hown, hta⟩ (tp_P.pre hK hN hL hU hI hP) (tp_recv hK hP hx_37.1 hf_40 rfl) lk_X11_151 (th_add l D cy s.heap.size L K Γ f 8 0 x_37 p0 p1 p2 0 hx_37 (by first | omega | (simp only [Int32.toInt_toInt64]; omega) | decide | assumption)) rfl rfl ⟨Nat.le_of_ble_eq_true rfl, Nat.le_of_ble_eq_true rfl⟩ rfl hl.1 rfl (Nat.le_of_ble_eq_true rfl) dX11_house_41 ⟨Nat.le_of_ble_eq_true rfl, Nat.le_of_ble_eq_true rfl⟩) (fun r_45 f_46 H locs hw_44 hP hI hc_47 hS => ?_)
        have hD : va_D A (va_pl L f_46) := tp_D hL hAL
        have hfr := tp_fr2 hfr hc_47 (by decide)
        exact W.iret (v := r_45) hx hb hr (fun t ht hW => ⟨⟨_, f_46, rfl, trivial, by rw [ht]; exact hP, hI, hfr⟩, hS.F ht⟩) hS.2.2 dX11_house_44
      · have c_29 := hw_27.f c_29
        refine lv_iconst (v := (-1)) hx hb dX11_house_28 (by decide) ?_
        exact W.iret (v := (-1)) hx hb hr (fun t ht hW => ⟨⟨_, f, rfl, trivial, by rw [ht]; exact hP, hI, hfr⟩, hS.F ht⟩) hS.2.2 dX11_house_29
set_option maxHeartbeats 4000000 in
set_option maxRecDepth 100000 in
theorem t_X11_firstOf (l : Launch) (D : va_G) (cy : Nat → ClassId) (sz : Nat) (L : List Nat) (K : Nat → tk_K) (Γ : tk_G) (f : Nat → va_E) (o : Nat) (p0 : Int32) (ho : tp_r L K 0 (0) 0 o) : Met l yX11_firstOf (tl_w yX11_firstOf cX11_firstOf 8 (some .int)) ({ frames := 5, cells := 0, slots := 0, locals := 113 }) (va_Pc [.ref o, .int p0] (tp_P D cy L K Γ f sz)) (va_Qi (fun (r : Int32) (u : Nat → va_E) => True) (tp_B D cy L K Γ f [28, 29, 23, 24, 27, 30, 31, 32]) (tp_A L sz)) 0 0 (tp_A L sz) := by
  refine Met.ofW (cc := cX11_firstOf) (maxL := 8) (ret := (some .int)) (by decide) rfl ?_
  intro p e s m args below meth c s₁ B hml hv
  obtain ⟨rfl, hsz, hP, hK, hL, hI, hN, hU⟩ := hv
  have hx := B.exec
  have hb := B.bytes
  have hr := B.returns
  have hta := tl_hta (atoms_spec (ws := tl_w yX11_firstOf cX11_firstOf 8 (some .int)) B.pre)
  have hown : s.vm.findClass RX11 = some m.cls := findClass_of_methodNamed B.named
  have hlocks := B.notSynchronized
  subst hsz
  have hI0 := hI
  generalize hAe : tp_A L s.heap.size = A
  have hA : ∀ q : Nat, s.heap.size ≤ q → A q := fun q h => by rw [← hAe]; exact Or.inr h
  have hAL : ∀ q ∈ L, A q := fun q h => by rw [← hAe]; exact Or.inl h
  have hAf : ∀ (H : Heap), s.heap.size ≤ H.size → ∀ q, tp_A L H.size q → A q := fun H h q hq => hq.elim (hAL q) (fun h2 => hA q (Nat.le_trans h h2))
  have hS : va_S A s.heap s.heap [] := va_S.rf
  have hD : va_D A (va_pl L f) := tp_D hL hAL
  have hfr : ∀ b, (K b).1 ∉ ([28, 29, 23, 24, 27, 30, 31, 32] : List Nat) → f b = f b := fun _ _ => rfl
  have hl := lv_entry ([.ref o, .int p0]) (n := 8) (Nat.le_of_ble_eq_true rfl)
  rw [lg_entry_eq]
  generalize (lg_sl ([.ref o, .int p0]) ++ List.replicate (8 - (lg_sl ([.ref o, .int p0])).length) Slot.unset).toArray = ls at hl ⊢
  have hl : lv_has ls 8 [(0, .ref o), (1, .int p0)] := hl
  refine lv_aload_n hx hb dX11_firstOf_0 rfl (lv_at hl 0 rfl) ?_
  obtain ⟨x_2, x_3, x_4, x_5, x_6, x_7, x_8, x_9, x_10, x_11, x_12, x_13, x_14, x_15, x_16, x_17, hf_1, hx_2, hx_3, hx_4, hx_5, hx_6, hx_7, hx_8, hx_9, hx_10, hx_11, hx_12, hx_13, hx_14, hx_15, hx_16, hx_17⟩ := (show tp_o_X L K (0) 0 (Γ (0, 0, 0)) (f o) from hI0.at ho)
  refine tp_get (cy := cy) (ci := 11) (v := .ref x_2) (C := RX11) (T := TX11) (N := 16) hx hb hta inlX11 hown hK hP ho.1 hf_1 rfl 0 (by decide) (hta _ wk_15) (fun _ h9 => h9) rfl dX11_firstOf_1 ?_
  obtain ⟨x_19, x_20, x_21, x_22, x_23, x_24, x_25, x_26, x_27, hf_18, hx_19, hx_20, hx_21, hx_22, hx_23, hx_24, hx_25, hx_26, hx_27⟩ := (show tp_o_BOOK L K (0) 0 (Γ (1, 0, 0)) (f x_2) from hI0.at hx_2)
  refine tp_getN (cy := cy) (ci := 0) (v := .ref x_25) (C := RX0) (T := TX0) (N := 9) hx hb hta inlX0 hown hK hP hx_2.1 hf_18 rfl 6 (by decide) (va_Nw.use rfl (hN.1 24 _ nk_24)) (fun _ h9 => h9) rfl dX11_firstOf_4 ?_
  refine lv_iload_n hx hb dX11_firstOf_7 rfl (lv_at hl 1 rfl) ?_
  refine lv_iconst (v := 0) hx hb dX11_firstOf_8 (by decide) ?_
  obtain ⟨x_29, x_30, x_31, hf_28, hx_29, hx_30, hx_31⟩ := (show tp_o_HTABLE L K (8) 0 (Γ (9, 8, 0)) (f x_25) from hI0.at hx_25)
  refine tl_si (tq_rVN hN (As := [.int p0, .int 0]) (rest := []) ⟨hx, hb, hml, hown, hta⟩ (tp_P.pre hK hN hL hU hI hP) (tp_recv hK hP hx_25.1 hf_28 rfl) lk_X11_157 (th_cell l D cy s.heap.size L K Γ f 8 0 x_25 p0 0 hx_25 (by first | omega | (simp only [Int32.toInt_toInt64]; omega) | decide | assumption)) rfl rfl ⟨Nat.le_of_ble_eq_true rfl, Nat.le_of_ble_eq_true rfl⟩ rfl hl.1 rfl (Nat.le_of_ble_eq_true rfl) dX11_firstOf_9 ⟨Nat.le_of_ble_eq_true rfl, Nat.le_of_ble_eq_true rfl⟩) (fun r_33 hw_32 => ?_)
  refine lv_istore_n (lv' := [(2, .int r_33), (0, .ref o), (1, .int p0)]) hx hb dX11_firstOf_12 rfl hl (by decide) rfl (fun ls hl => ?_)
  refine lv_aload_n hx hb dX11_firstOf_13 rfl (lv_at hl 1 rfl) ?_
  refine tp_get (cy := cy) (ci := 11) (v := .ref x_2) (C := RX11) (T := TX11) (N := 16) hx hb hta inlX11 hown hK hP ho.1 hf_1 rfl 0 (by decide) (hta _ wk_15) (fun _ h9 => h9) rfl dX11_firstOf_14 ?_
  refine tp_getN (cy := cy) (ci := 0) (v := .ref x_25) (C := RX0) (T := TX0) (N := 9) hx hb hta inlX0 hown hK hP hx_2.1 hf_18 rfl 6 (by decide) (va_Nw.use rfl (hN.1 24 _ nk_24)) (fun _ h9 => h9) rfl dX11_firstOf_17 ?_
  refine lv_iload_n hx hb dX11_firstOf_20 rfl (lv_at hl 2 rfl) ?_
  refine lv_iconst (v := 1) hx hb dX11_firstOf_21 (by decide) ?_
  refine tl_si (tq_rVN hN (As := [.int p0, .int 1]) (rest := []) ⟨hx, hb, hml, hown, hta⟩ (tp_P.pre hK hN hL hU hI hP) (tp_recv hK hP hx_25.1 hf_28 rfl) lk_X11_157 (th_cell l D cy s.heap.size L K Γ f 8 0 x_25 p0 1 hx_25 (by first | omega | (simp only [Int32.toInt_toInt64]; omega) | decide | assumption)) rfl rfl ⟨Nat.le_of_ble_eq_true rfl, Nat.le_of_ble_eq_true rfl⟩ rfl hl.1 rfl (Nat.le_of_ble_eq_true rfl) dX11_firstOf_22 ⟨Nat.le_of_ble_eq_true rfl, Nat.le_of_ble_eq_true rfl⟩) (fun r_35 hw_34 => ?_)
  refine lv_istore_n (lv' := [(3, .int r_35), (2, .int r_33), (0, .ref o), (1, .int p0)]) hx hb dX11_firstOf_25 rfl hl (by decide) rfl (fun ls hl => ?_)
  refine lv_aload_n hx hb dX11_firstOf_26 rfl (lv_at hl 2 rfl) ?_
  refine tp_get (cy := cy) (ci := 11) (v := .ref x_2) (C := RX11) (T := TX11) (N := 16) hx hb hta inlX11 hown hK hP ho.1 hf_1 rfl 0 (by decide) (hta _ wk_15) (fun _ h9 => h9) rfl dX11_firstOf_27 ?_
  refine tp_getN (cy := cy) (ci := 0) (v := .ref x_25) (C := RX0) (T := TX0) (N := 9) hx hb hta inlX0 hown hK hP hx_2.1 hf_18 rfl 6 (by decide) (va_Nw.use rfl (hN.1 24 _ nk_24)) (fun _ h9 => h9) rfl dX11_firstOf_30 ?_
  refine lv_iload_n hx hb dX11_firstOf_33 rfl (lv_at hl 3 rfl) ?_
  refine lv_iconst (v := 2) hx hb dX11_firstOf_34 (by decide) ?_
  refine tl_si (tq_rVN hN (As := [.int p0, .int 2]) (rest := []) ⟨hx, hb, hml, hown, hta⟩ (tp_P.pre hK hN hL hU hI hP) (tp_recv hK hP hx_25.1 hf_28 rfl) lk_X11_157 (th_cell l D cy s.heap.size L K Γ f 8 0 x_25 p0 2 hx_25 (by first | omega | (simp only [Int32.toInt_toInt64]; omega) | decide | assumption)) rfl rfl ⟨Nat.le_of_ble_eq_true rfl, Nat.le_of_ble_eq_true rfl⟩ rfl hl.1 rfl (Nat.le_of_ble_eq_true rfl) dX11_firstOf_35 ⟨Nat.le_of_ble_eq_true rfl, Nat.le_of_ble_eq_true rfl⟩) (fun r_37 hw_36 => ?_)
  refine lv_istore (lv' := [(4, .int r_37), (3, .int r_35), (2, .int r_33), (0, .ref o), (1, .int p0)]) hx hb dX11_firstOf_38 hl (by decide) rfl (fun ls hl => ?_)
  refine lv_sipush (v := 400) hx hb dX11_firstOf_40 (by decide) ?_
  refine lv_istore (lv' := [(5, .int 400), (4, .int r_37), (3, .int r_35), (2, .int r_33), (0, .ref o), (1, .int p0)]) hx hb dX11_firstOf_43 hl (by decide) rfl (fun ls hl => ?_)
  refine lv_iconst (v := 0) hx hb dX11_firstOf_45 (by decide) ?_
  refine lv_istore (lv' := [(6, .int 0), (5, .int 400), (4, .int r_37), (3, .int r_35), (2, .int r_33), (0, .ref o), (1, .int p0)]) hx hb dX11_firstOf_46 hl (by decide) rfl (fun ls hl => ?_)
  refine tq_start hP hS (fun H locs hP hS => ?_)
  refine tl_ind (G := fun H locs ls => W p l e ((headSpec (tl_w yX11_firstOf cX11_firstOf 8 (some .int)) ({ frames := 5, cells := 0, slots := 0, locals := 113 })).room) s m #[.ref o, .int p0] below meth c H locs 0 0 (MQ below (va_Qi (fun (r : Int32) (u : Nat → va_E) => True) (tp_B D cy L K Γ f [28, 29, 23, 24, 27, 30, 31, 32]) A) #[.ref o, .int p0] s 0 0 A) (F0 m 48 ls [])) (α := (Nat → va_E) × Int32 × Int32) (fun aq => (24 - aq.2.1.toInt).toNat) (fun aq H locs ls => (0 ≤ aq.2.1.toInt) ∧ (aq.2.1.toInt ≤ 24) ∧ va_P D vwCl (va_pl L aq.1) H ∧ tp_I cy L K Γ aq.1 ∧ (∀ b, (K b).1 ∉ ([28, 29, 23, 24, 27, 30, 31, 32] : List Nat) → aq.1 b = f b) ∧ va_S A s.heap H locs ∧ lv_has ls 8 [(6, .int aq.2.1), (5, .int aq.2.2), (4, .int r_37), (3, .int r_35), (2, .int r_33), (0, .ref o), (1, .int p0)]) ?_ (f, (0 : Int32), (400 : Int32)) H locs ls ⟨(show 0 ≤ (0 : Int) from (by omega)), (show (0 : Int) ≤ 24 from (by omega)), hP, hI, hfr, hS, lv_sub hl [0, 1, 2, 3, 4, 5, 6] rfl⟩
  rintro ⟨f_38, v6, v5⟩ H locs ls ⟨h0, h1, hP, hI, hfr, hS, hl⟩ ih48
  have hP : va_P D vwCl (va_pl L f_38) H := hP
  have hI : tp_I cy L K Γ f_38 := hI
  have hfr : ∀ b, (K b).1 ∉ ([28, 29, 23, 24, 27, 30, 31, 32] : List Nat) → f_38 b = f b := hfr
  have hD : va_D A (va_pl L f_38) := tp_D hL hAL
  have h0 : 0 ≤ v6.toInt := h0
  have h1 : v6.toInt ≤ 24 := h1
  have hl : lv_has ls 8 [(6, .int v6), (5, .int v5), (4, .int r_37), (3, .int r_35), (2, .int r_33), (0, .ref o), (1, .int p0)] := hl
  refine lv_iload hx hb dX11_firstOf_48 (lv_at hl 0 rfl) ?_
  refine lv_aload_n hx hb dX11_firstOf_50 rfl (lv_at hl 5 rfl) ?_
  refine tp_get (cy := cy) (ci := 11) (v := .ref x_2) (C := RX11) (T := TX11) (N := 16) hx hb hta inlX11 hown hK hP ho.1 ((tp_un hfr ho (by decide)).trans hf_1) rfl 0 (by decide) (hta _ wk_15) (fun _ h9 => h9) rfl dX11_firstOf_51 ?_
  refine tp_getN (cy := cy) (ci := 0) (v := .ref x_21) (C := RX0) (T := TX0) (N := 9) hx hb hta inlX0 hown hK hP hx_2.1 ((tp_un hfr hx_2 (by decide)).trans hf_18) rfl 2 (by decide) (va_Nw.use rfl (hN.1 20 _ nk_20)) (fun _ h9 => h9) rfl dX11_firstOf_54 ?_
  obtain ⟨x_40, x_41, x_42, x_43, x_44, x_45, hf_39, hx_40, hx_42, hx_43, hx_44, hx_45⟩ := (show tp_o_ROWS L K (0) 0 (Γ (3, 0, 0)) (f x_21) from hI0.at hx_21)
  refine tp_getN (cy := cy) (ci := 4) (v := .int x_40) (C := RX4) (T := TX4) (N := 6) hx hb hta inlX4 hown hK hP hx_21.1 ((tp_un hfr hx_21 (by decide)).trans hf_39) rfl 0 (by decide) (va_Nw.use rfl (hN.1 2 _ nk_2)) (fun _ h9 => h9) rfl dX11_firstOf_57 ?_
  refine lv_icmp_ge (tgt := 159) hx hb dX11_firstOf_60 (by decide) (fun c_46 => ?_) (fun c_46 => ?_)
  · have c_46 : x_40.toInt ≤ v6.toInt := tl_le c_46
    refine lv_iload hx hb dX11_firstOf_159 (lv_at hl 1 rfl) ?_
    exact W.iret (v := v5) hx hb hr (fun t ht hW => ⟨⟨_, f_38, rfl, trivial, by rw [ht]; exact hP, hI, hfr⟩, hS.F ht⟩) hS.2.2 dX11_firstOf_161
  · have c_46 : v6.toInt < x_40.toInt := tl_nle c_46
    refine lv_iload hx hb dX11_firstOf_63 (lv_at hl 2 rfl) ?_
    refine lv_aload_n hx hb dX11_firstOf_65 rfl (lv_at hl 5 rfl) ?_
    refine tp_get (cy := cy) (ci := 11) (v := .ref x_2) (C := RX11) (T := TX11) (N := 16) hx hb hta inlX11 hown hK hP ho.1 ((tp_un hfr ho (by decide)).trans hf_1) rfl 0 (by decide) (hta _ wk_15) (fun _ h9 => h9) rfl dX11_firstOf_66 ?_
    refine tp_getN (cy := cy) (ci := 0) (v := .ref x_21) (C := RX0) (T := TX0) (N := 9) hx hb hta inlX0 hown hK hP hx_2.1 ((tp_un hfr hx_2 (by decide)).trans hf_18) rfl 2 (by decide) (va_Nw.use rfl (hN.1 20 _ nk_20)) (fun _ h9 => h9) rfl dX11_firstOf_69 ?_
    refine tp_getN (cy := cy) (ci := 4) (v := .ref x_42) (C := RX4) (T := TX4) (N := 6) hx hb hta inlX4 hown hK hP hx_21.1 ((tp_un hfr hx_21 (by decide)).trans hf_39) rfl 2 (by decide) (va_Nw.use rfl (hN.1 5 _ nk_5)) (fun _ h9 => h9) rfl dX11_firstOf_72 ?_
    refine lv_iload hx hb dX11_firstOf_75 (lv_at hl 0 rfl) ?_
    obtain ⟨g_48, hf_47, hg_49⟩ := (show tp_ai cy 4 (24) (f x_42) from hI0.at hx_42)
    have hn_50 : vp_in v6 (24) := tl_in (by omega) (by omega)
    refine tp_iald (cy := cy) hx hb hK hP hx_42.1 ((tp_un hfr hx_42 (by decide)).trans hf_47) hn_50 dX11_firstOf_77 ?_
    refine lv_topi (fun z_51 ez_51 => ?_)
    refine lv_ishr hx hb dX11_firstOf_78 ?_
    refine lv_topi (fun z_52 ez_52 => ?_)
    refine lv_iconst (v := 1) hx hb dX11_firstOf_79 (by decide) ?_
    refine lv_iand hx hb dX11_firstOf_80 ?_
    refine lv_topi (fun z_53 ez_53 => ?_)
    refine lv_iconst (v := 1) hx hb dX11_firstOf_81 (by decide) ?_
    refine lv_icmp_ne (tgt := 89) hx hb dX11_firstOf_82 (by decide) (fun c_54 => ?_) (fun c_54 => ?_)
    · have c_54 : ¬ z_53.toInt = (1 : Int) := tl_neq c_54
      refine lv_iconst (v := 0) hx hb dX11_firstOf_89 (by decide) ?_
      refine lv_istore (lv' := [(7, .int 0), (6, .int v6), (5, .int v5), (4, .int r_37), (3, .int r_35), (2, .int r_33), (0, .ref o), (1, .int p0)]) hx hb dX11_firstOf_90 hl (by decide) rfl (fun ls hl => ?_)
      refine lv_iload hx hb dX11_firstOf_92 (lv_at hl 0 rfl) ?_
      refine lv_if_eq (tgt := 153) hx hb dX11_firstOf_94 (by decide) (fun _ => ?_) (fun c => absurd c (by decide))
      obtain ⟨z_55, ez_55⟩ : ∃ y : Int32, y = v6 + 1 := ⟨_, rfl⟩
      refine lv_iinc (v := z_55) (lv' := [(6, .int z_55), (7, .int 0), (5, .int v5), (4, .int r_37), (3, .int r_35), (2, .int r_33), (0, .ref o), (1, .int p0)]) hx hb dX11_firstOf_153 hl (k := 1) rfl (by rw [ez_55]; rfl) (by decide) rfl (fun ls hl => ?_)
      try have iz_55 : z_55.toInt = v6.toInt + 1 := by rw [ez_55]; exact tl_addL v6 1 (by decide) (by omega) (by omega)
      refine lv_goto (tgt := 48) hx hb dX11_firstOf_156 (by decide) ?_
      exact ih48 (f_38, z_55, v5) H locs ls (by show (24 - z_55.toInt).toNat < (24 - v6.toInt).toNat; omega) ⟨(show 0 ≤ z_55.toInt from (by omega)), (show z_55.toInt ≤ 24 from (by omega)), hP, hI, hfr, hS, lv_sub hl [0, 2, 3, 4, 5, 6, 7] rfl⟩
    · have c_54 : z_53.toInt = (1 : Int) := tl_eq c_54
      refine lv_iconst (v := 1) hx hb dX11_firstOf_85 (by decide) ?_
      refine lv_goto (tgt := 90) hx hb dX11_firstOf_86 (by decide) ?_
      refine lv_istore (lv' := [(7, .int 1), (6, .int v6), (5, .int v5), (4, .int r_37), (3, .int r_35), (2, .int r_33), (0, .ref o), (1, .int p0)]) hx hb dX11_firstOf_90 hl (by decide) rfl (fun ls hl => ?_)
      refine lv_iload hx hb dX11_firstOf_92 (lv_at hl 0 rfl) ?_
      refine lv_if_eq (tgt := 153) hx hb dX11_firstOf_94 (by decide) (fun c => absurd c (by decide)) (fun _ => ?_)
      refine lv_aload_n hx hb dX11_firstOf_97 rfl (lv_at hl 6 rfl) ?_
      refine tp_get (cy := cy) (ci := 11) (v := .ref x_2) (C := RX11) (T := TX11) (N := 16) hx hb hta inlX11 hown hK hP ho.1 ((tp_un hfr ho (by decide)).trans hf_1) rfl 0 (by decide) (hta _ wk_15) (fun _ h9 => h9) rfl dX11_firstOf_98 ?_
      refine tp_getN (cy := cy) (ci := 0) (v := .ref x_21) (C := RX0) (T := TX0) (N := 9) hx hb hta inlX0 hown hK hP hx_2.1 ((tp_un hfr hx_2 (by decide)).trans hf_18) rfl 2 (by decide) (va_Nw.use rfl (hN.1 20 _ nk_20)) (fun _ h9 => h9) rfl dX11_firstOf_101 ?_
      refine tp_getN (cy := cy) (ci := 4) (v := .ref x_44) (C := RX4) (T := TX4) (N := 6) hx hb hta inlX4 hown hK hP hx_21.1 ((tp_un hfr hx_21 (by decide)).trans hf_39) rfl 4 (by decide) (va_Nw.use rfl (hN.1 9 _ nk_9)) (fun _ h9 => h9) rfl dX11_firstOf_104 ?_
      refine lv_iload hx hb dX11_firstOf_107 (lv_at hl 1 rfl) ?_
      obtain ⟨g_57, hf_56, hg_58⟩ := (show tp_ai cy 4 (24) (f x_44) from hI0.at hx_44)
      have hn_59 : vp_in v6 (24) := tl_in (by omega) (by omega)
      refine tp_iald (cy := cy) hx hb hK hP hx_44.1 ((tp_un hfr hx_44 (by decide)).trans hf_56) hn_59 dX11_firstOf_109 ?_
      refine lv_topi (fun z_60 ez_60 => ?_)
      refine lv_iload hx hb dX11_firstOf_110 (lv_at hl 2 rfl) ?_
      refine lv_icmp_ge (tgt := 153) hx hb dX11_firstOf_112 (by decide) (fun c_61 => ?_) (fun c_61 => ?_)
      · have c_61 : v5.toInt ≤ z_60.toInt := tl_le c_61
        obtain ⟨z_62, ez_62⟩ : ∃ y : Int32, y = v6 + 1 := ⟨_, rfl⟩
        refine lv_iinc (v := z_62) (lv' := [(6, .int z_62), (7, .int 1), (5, .int v5), (4, .int r_37), (3, .int r_35), (2, .int r_33), (0, .ref o), (1, .int p0)]) hx hb dX11_firstOf_153 hl (k := 1) rfl (by rw [ez_62]; rfl) (by decide) rfl (fun ls hl => ?_)
        try have iz_62 : z_62.toInt = v6.toInt + 1 := by rw [ez_62]; exact tl_addL v6 1 (by decide) (by omega) (by omega)
        refine lv_goto (tgt := 48) hx hb dX11_firstOf_156 (by decide) ?_
        exact ih48 (f_38, z_62, v5) H locs ls (by show (24 - z_62.toInt).toNat < (24 - v6.toInt).toNat; omega) ⟨(show 0 ≤ z_62.toInt from (by omega)), (show z_62.toInt ≤ 24 from (by omega)), hP, hI, hfr, hS, lv_sub hl [0, 2, 3, 4, 5, 6, 7] rfl⟩
      · have c_61 : z_60.toInt < v5.toInt := tl_nle c_61
        refine lv_aload_n hx hb dX11_firstOf_115 rfl (lv_at hl 6 rfl) ?_
        refine lv_iload_n hx hb dX11_firstOf_116 rfl (lv_at hl 5 rfl) ?_
        refine lv_iload hx hb dX11_firstOf_117 (lv_at hl 1 rfl) ?_
        refine lv_iconst (v := (-1)) hx hb dX11_firstOf_119 (by decide) ?_
        refine tq_ci hS (hAf _ hS.1) (tq_rV (As := [.int r_33, .int v6, .int (-1)]) (rest := []) ⟨hx, hb, hml, hown, hta⟩ (tp_P.pre hK hN hL hU hI hP) (tp_recv hK hP ho.1 ((tp_un hfr ho (by decide)).trans hf_1) rfl) lk_X11_246 (t_X11_look l D cy H.size L K Γ f_38 o r_33 v6 (-1) ho) rfl rfl ⟨Nat.le_of_ble_eq_true rfl, Nat.le_of_ble_eq_true rfl⟩ rfl hl.1 rfl (Nat.le_of_ble_eq_true rfl) dX11_firstOf_120 ⟨Nat.le_of_ble_eq_true rfl, Nat.le_of_ble_eq_true rfl⟩) (fun r_64 f_65 H locs hw_63 hP hI hc_66 hS => ?_)
        have hD : va_D A (va_pl L f_65) := tp_D hL hAL
        have hfr := tp_fr2 hfr hc_66 (by decide)
        have hw_63 : tl_J r_64 (tv_gx f_38 f_65 o) := hw_63
        refine lv_if_eq (tgt := 153) hx hb dX11_firstOf_123 (by decide) (fun c_67 => ?_) (fun c_67 => ?_)
        · have c_67 := c_67
          obtain ⟨z_68, ez_68⟩ : ∃ y : Int32, y = v6 + 1 := ⟨_, rfl⟩
          refine lv_iinc (v := z_68) (lv' := [(6, .int z_68), (7, .int 1), (5, .int v5), (4, .int r_37), (3, .int r_35), (2, .int r_33), (0, .ref o), (1, .int p0)]) hx hb dX11_firstOf_153 hl (k := 1) rfl (by rw [ez_68]; rfl) (by decide) rfl (fun ls hl => ?_)
          try have iz_68 : z_68.toInt = v6.toInt + 1 := by rw [ez_68]; exact tl_addL v6 1 (by decide) (by omega) (by omega)
          refine lv_goto (tgt := 48) hx hb dX11_firstOf_156 (by decide) ?_
          exact ih48 (f_65, z_68, v5) H locs ls (by show (24 - z_68.toInt).toNat < (24 - v6.toInt).toNat; omega) ⟨(show 0 ≤ z_68.toInt from (by omega)), (show z_68.toInt ≤ 24 from (by omega)), hP, hI, hfr, hS, lv_sub hl [0, 2, 3, 4, 5, 6, 7] rfl⟩
        · have c_67 := hw_63.t c_67
          refine lv_aload_n hx hb dX11_firstOf_126 rfl (lv_at hl 6 rfl) ?_
          refine tp_get (cy := cy) (ci := 11) (v := .ref x_11) (C := RX11) (T := TX11) (N := 16) hx hb hta inlX11 hown hK hP ho.1 ((tp_un hfr ho (by decide)).trans hf_1) rfl 9 (by decide) (hta _ wk_42) (fun _ h9 => h9) rfl dX11_firstOf_127 ?_
          refine lv_iload_n hx hb dX11_firstOf_130 rfl (lv_at hl 4 rfl) ?_
          refine lv_i2l (v := r_35.toInt64) hx hb dX11_firstOf_131 (by first | rfl | decide) ?_
          obtain ⟨x_70, x_71, x_72, x_73, x_74, x_75, x_76, x_77, x_78, x_79, x_80, x_81, x_82, x_83, x_84, x_85, x_86, x_87, hf_69, hx_70, hx_71, hx_72, hx_73, hx_74, hx_75, hx_76, hx_77, hx_78, hx_80, hx_83⟩ := (show tp_o_VIEW L K (0) 0 (Γ (27, 0, 0)) (f_65 x_11) from hI.at hx_11)
          refine tl_si (tq_rVN hN (As := [.long r_35.toInt64]) (rest := []) ⟨hx, hb, hml, hown, hta⟩ (tp_P.pre hK hN hL hU hI hP) (tp_recv hK hP hx_11.1 hf_69 rfl) lk_X11_300 (t_X10_isNotBelow l D cy H.size L K Γ f_65 x_11 r_35.toInt64 hx_11) rfl rfl ⟨Nat.le_of_ble_eq_true rfl, Nat.le_of_ble_eq_true rfl⟩ rfl hl.1 rfl (Nat.le_of_ble_eq_true rfl) dX11_firstOf_132 ⟨Nat.le_of_ble_eq_true rfl, Nat.le_of_ble_eq_true rfl⟩) (fun r_89 hw_88 => ?_)
          have hw_88 : tl_J r_89 (True) := hw_88
          refine lv_if_eq (tgt := 153) hx hb dX11_firstOf_135 (by decide) (fun c_90 => ?_) (fun c_90 => ?_)
          · have c_90 := c_90
            obtain ⟨z_91, ez_91⟩ : ∃ y : Int32, y = v6 + 1 := ⟨_, rfl⟩
            refine lv_iinc (v := z_91) (lv' := [(6, .int z_91), (7, .int 1), (5, .int v5), (4, .int r_37), (3, .int r_35), (2, .int r_33), (0, .ref o), (1, .int p0)]) hx hb dX11_firstOf_153 hl (k := 1) rfl (by rw [ez_91]; rfl) (by decide) rfl (fun ls hl => ?_)
            try have iz_91 : z_91.toInt = v6.toInt + 1 := by rw [ez_91]; exact tl_addL v6 1 (by decide) (by omega) (by omega)
            refine lv_goto (tgt := 48) hx hb dX11_firstOf_156 (by decide) ?_
            exact ih48 (f_65, z_91, v5) H locs ls (by show (24 - z_91.toInt).toNat < (24 - v6.toInt).toNat; omega) ⟨(show 0 ≤ z_91.toInt from (by omega)), (show z_91.toInt ≤ 24 from (by omega)), hP, hI, hfr, hS, lv_sub hl [0, 2, 3, 4, 5, 6, 7] rfl⟩
          · have c_90 := hw_88.t c_90
            refine lv_aload_n hx hb dX11_firstOf_138 rfl (lv_at hl 6 rfl) ?_
            refine tp_get (cy := cy) (ci := 11) (v := .ref x_2) (C := RX11) (T := TX11) (N := 16) hx hb hta inlX11 hown hK hP ho.1 ((tp_un hfr ho (by decide)).trans hf_1) rfl 0 (by decide) (hta _ wk_15) (fun _ h9 => h9) rfl dX11_firstOf_139 ?_
            refine tp_getN (cy := cy) (ci := 0) (v := .ref x_21) (C := RX0) (T := TX0) (N := 9) hx hb hta inlX0 hown hK hP hx_2.1 ((tp_un hfr hx_2 (by decide)).trans hf_18) rfl 2 (by decide) (va_Nw.use rfl (hN.1 20 _ nk_20)) (fun _ h9 => h9) rfl dX11_firstOf_142 ?_
            refine tp_getN (cy := cy) (ci := 4) (v := .ref x_44) (C := RX4) (T := TX4) (N := 6) hx hb hta inlX4 hown hK hP hx_21.1 ((tp_un hfr hx_21 (by decide)).trans hf_39) rfl 4 (by decide) (va_Nw.use rfl (hN.1 9 _ nk_9)) (fun _ h9 => h9) rfl dX11_firstOf_145 ?_
            refine lv_iload hx hb dX11_firstOf_148 (lv_at hl 1 rfl) ?_
            have hn_92 : vp_in v6 (24) := tl_in (by omega) (by omega)
            refine tp_iald (cy := cy) hx hb hK hP hx_44.1 ((tp_un hfr hx_44 (by decide)).trans hf_56) hn_92 dX11_firstOf_150 ?_
            refine lv_topi (fun z_93 ez_93 => ?_)
            obtain rfl : z_60 = z_93 := ez_60.trans ez_93.symm
            refine lv_istore (lv' := [(5, .int z_60), (7, .int 1), (6, .int v6), (4, .int r_37), (3, .int r_35), (2, .int r_33), (0, .ref o), (1, .int p0)]) hx hb dX11_firstOf_151 hl (by decide) rfl (fun ls hl => ?_)
            obtain ⟨z_94, ez_94⟩ : ∃ y : Int32, y = v6 + 1 := ⟨_, rfl⟩
            refine lv_iinc (v := z_94) (lv' := [(6, .int z_94), (5, .int z_60), (7, .int 1), (4, .int r_37), (3, .int r_35), (2, .int r_33), (0, .ref o), (1, .int p0)]) hx hb dX11_firstOf_153 hl (k := 2) rfl (by rw [ez_94]; rfl) (by decide) rfl (fun ls hl => ?_)
            try have iz_94 : z_94.toInt = v6.toInt + 1 := by rw [ez_94]; exact tl_addL v6 1 (by decide) (by omega) (by omega)
            refine lv_goto (tgt := 48) hx hb dX11_firstOf_156 (by decide) ?_
            exact ih48 (f_65, z_94, z_60) H locs ls (by show (24 - z_94.toInt).toNat < (24 - v6.toInt).toNat; omega) ⟨(show 0 ≤ z_94.toInt from (by omega)), (show z_94.toInt ≤ 24 from (by omega)), hP, hI, hfr, hS, lv_sub hl [0, 1, 3, 4, 5, 6, 7] rfl⟩
set_option maxHeartbeats 4000000 in
set_option maxRecDepth 100000 in
theorem t_X11_findHouses (l : Launch) (D : va_G) (cy : Nat → ClassId) (sz : Nat) (L : List Nat) (K : Nat → tk_K) (Γ : tk_G) (f : Nat → va_E) (o : Nat) (ho : tp_r L K 0 (0) 0 o) : Met l yX11_findHouses (tl_w yX11_findHouses cX11_findHouses 2 none) ({ frames := 6, cells := 0, slots := 0, locals := 140 }) (va_Pc [.ref o] (tp_P D cy L K Γ f sz)) (va_Qv (fun (u : Nat → va_E) => True) (tp_B D cy L K Γ f [28, 29, 23, 24, 27, 30, 31, 32, 37]) (tp_A L sz)) 0 0 (tp_A L sz) := by
  refine Met.ofW (cc := cX11_findHouses) (maxL := 2) (ret := none) (by decide) rfl ?_
  intro p e s m args below meth c s₁ B hml hv
  obtain ⟨rfl, hsz, hP, hK, hL, hI, hN, hU⟩ := hv
  have hx := B.exec
  have hb := B.bytes
  have hr := B.returns
  have hta := tl_hta (atoms_spec (ws := tl_w yX11_findHouses cX11_findHouses 2 none) B.pre)
  have hown : s.vm.findClass RX11 = some m.cls := findClass_of_methodNamed B.named
  have hlocks := B.notSynchronized
  subst hsz
  have hI0 := hI
  generalize hAe : tp_A L s.heap.size = A
  have hA : ∀ q : Nat, s.heap.size ≤ q → A q := fun q h => by rw [← hAe]; exact Or.inr h
  have hAL : ∀ q ∈ L, A q := fun q h => by rw [← hAe]; exact Or.inl h
  have hAf : ∀ (H : Heap), s.heap.size ≤ H.size → ∀ q, tp_A L H.size q → A q := fun H h q hq => hq.elim (hAL q) (fun h2 => hA q (Nat.le_trans h h2))
  have hS : va_S A s.heap s.heap [] := va_S.rf
  have hD : va_D A (va_pl L f) := tp_D hL hAL
  have hfr : ∀ b, (K b).1 ∉ ([28, 29, 23, 24, 27, 30, 31, 32, 37] : List Nat) → f b = f b := fun _ _ => rfl
  have hl := lv_entry ([.ref o]) (n := 2) (Nat.le_of_ble_eq_true rfl)
  rw [lg_entry_eq]
  generalize (lg_sl ([.ref o]) ++ List.replicate (2 - (lg_sl ([.ref o])).length) Slot.unset).toArray = ls at hl ⊢
  have hl : lv_has ls 2 [(0, .ref o)] := hl
  refine lv_aload_n hx hb dX11_findHouses_0 rfl (lv_at hl 0 rfl) ?_
  obtain ⟨x_2, x_3, x_4, x_5, x_6, x_7, x_8, x_9, x_10, x_11, x_12, x_13, x_14, x_15, x_16, x_17, hf_1, hx_2, hx_3, hx_4, hx_5, hx_6, hx_7, hx_8, hx_9, hx_10, hx_11, hx_12, hx_13, hx_14, hx_15, hx_16, hx_17⟩ := (show tp_o_X L K (0) 0 (Γ (0, 0, 0)) (f o) from hI0.at ho)
  refine tp_get (cy := cy) (ci := 11) (v := .ref x_15) (C := RX11) (T := TX11) (N := 16) hx hb hta inlX11 hown hK hP ho.1 hf_1 rfl 13 (by decide) (hta _ wk_50) (fun _ h9 => h9) rfl dX11_findHouses_1 ?_
  refine lv_sipush (v := 400) hx hb dX11_findHouses_4 (by decide) ?_
  refine tq_cv hS (hAf _ hS.1) (tq_rS (As := [.ref x_15, .int 400]) (rest := []) ⟨hx, hb, hml, hown, hta⟩ (tp_P.pre hK hN hL hU hI hP) lk_X11_384 (t_fill_XI8 l D cy s.heap.size L K Γ f x_15 400 hx_15) rfl rfl ⟨Nat.le_of_ble_eq_true rfl, Nat.le_of_ble_eq_true rfl⟩ rfl hl.1 rfl (Nat.le_of_ble_eq_true rfl) dX11_findHouses_7 ⟨Nat.le_of_ble_eq_true rfl, Nat.le_of_ble_eq_true rfl⟩) (fun f_20 H locs hw_18 hP hI hc_21 hS => ?_)
  have hD : va_D A (va_pl L f_20) := tp_D hL hAL
  have hfr := tp_fr2 hfr hc_21 (by decide)
  refine lv_iconst (v := 0) hx hb dX11_findHouses_10 (by decide) ?_
  refine lv_istore_n (lv' := [(1, .int 0), (0, .ref o)]) hx hb dX11_findHouses_11 rfl hl (by decide) rfl (fun ls hl => ?_)
  refine tl_ind (G := fun H locs ls => W p l e ((headSpec (tl_w yX11_findHouses cX11_findHouses 2 none) ({ frames := 6, cells := 0, slots := 0, locals := 140 })).room) s m #[.ref o] below meth c H locs 0 0 (MQ below (va_Qv (fun (u : Nat → va_E) => True) (tp_B D cy L K Γ f [28, 29, 23, 24, 27, 30, 31, 32, 37]) A) #[.ref o] s 0 0 A) (F0 m 12 ls [])) (α := (Nat → va_E) × Int32) (fun aq => (8 - aq.2.toInt).toNat) (fun aq H locs ls => (0 ≤ aq.2.toInt) ∧ (aq.2.toInt ≤ 8) ∧ va_P D vwCl (va_pl L aq.1) H ∧ tp_I cy L K Γ aq.1 ∧ (∀ b, (K b).1 ∉ ([28, 29, 23, 24, 27, 30, 31, 32, 37] : List Nat) → aq.1 b = f b) ∧ va_S A s.heap H locs ∧ lv_has ls 2 [(1, .int aq.2), (0, .ref o)]) ?_ (f_20, (0 : Int32)) H locs ls ⟨(show 0 ≤ (0 : Int) from (by omega)), (show (0 : Int) ≤ 8 from (by omega)), hP, hI, hfr, hS, lv_sub hl [0, 1] rfl⟩
  rintro ⟨f_22, v1⟩ H locs ls ⟨h0, h1, hP, hI, hfr, hS, hl⟩ ih12
  have hP : va_P D vwCl (va_pl L f_22) H := hP
  have hI : tp_I cy L K Γ f_22 := hI
  have hfr : ∀ b, (K b).1 ∉ ([28, 29, 23, 24, 27, 30, 31, 32, 37] : List Nat) → f_22 b = f b := hfr
  have hD : va_D A (va_pl L f_22) := tp_D hL hAL
  have h0 : 0 ≤ v1.toInt := h0
  have h1 : v1.toInt ≤ 8 := h1
  have hl : lv_has ls 2 [(1, .int v1), (0, .ref o)] := hl
  refine lv_iload_n hx hb dX11_findHouses_12 rfl (lv_at hl 0 rfl) ?_
  refine lv_aload_n hx hb dX11_findHouses_13 rfl (lv_at hl 1 rfl) ?_
  refine tp_get (cy := cy) (ci := 11) (v := .ref x_2) (C := RX11) (T := TX11) (N := 16) hx hb hta inlX11 hown hK hP ho.1 ((tp_un hfr ho (by decide)).trans hf_1) rfl 0 (by decide) (hta _ wk_15) (fun _ h9 => h9) rfl dX11_findHouses_14 ?_
  obtain ⟨x_24, x_25, x_26, x_27, x_28, x_29, x_30, x_31, x_32, hf_23, hx_24, hx_25, hx_26, hx_27, hx_28, hx_29, hx_30, hx_31, hx_32⟩ := (show tp_o_BOOK L K (0) 0 (Γ (1, 0, 0)) (f x_2) from hI0.at hx_2)
  refine tp_getN (cy := cy) (ci := 0) (v := .ref x_30) (C := RX0) (T := TX0) (N := 9) hx hb hta inlX0 hown hK hP hx_2.1 ((tp_un hfr hx_2 (by decide)).trans hf_23) rfl 6 (by decide) (va_Nw.use rfl (hN.1 24 _ nk_24)) (fun _ h9 => h9) rfl dX11_findHouses_17 ?_
  obtain ⟨x_34, x_35, x_36, hf_33, hx_34, hx_35, hx_36⟩ := (show tp_o_HTABLE L K (8) 0 (Γ (9, 8, 0)) (f x_30) from hI0.at hx_30)
  refine tp_getN (cy := cy) (ci := 6) (v := .int x_36) (C := RX6) (T := TX6) (N := 3) hx hb hta inlX6 hown hK hP hx_30.1 ((tp_un hfr hx_30 (by decide)).trans hf_33) rfl 2 (by decide) (va_Nw.use rfl (hN.1 15 _ nk_15)) (fun _ h9 => h9) rfl dX11_findHouses_20 ?_
  refine lv_icmp_ge (tgt := 52) hx hb dX11_findHouses_23 (by decide) (fun c_37 => ?_) (fun c_37 => ?_)
  · have c_37 : x_36.toInt ≤ v1.toInt := tl_le c_37
    exact W.vret hx hb hr (fun t ht hW => ⟨⟨f_22, rfl, trivial, by rw [ht]; exact hP, hI, hfr⟩, hS.F ht⟩) hS.2.2 dX11_findHouses_52
  · have c_37 : v1.toInt < x_36.toInt := tl_nle c_37
    refine lv_iload_n hx hb dX11_findHouses_26 rfl (lv_at hl 0 rfl) ?_
    refine lv_aload_n hx hb dX11_findHouses_27 rfl (lv_at hl 1 rfl) ?_
    refine tp_get (cy := cy) (ci := 11) (v := .ref x_15) (C := RX11) (T := TX11) (N := 16) hx hb hta inlX11 hown hK hP ho.1 ((tp_un hfr ho (by decide)).trans hf_1) rfl 13 (by decide) (hta _ wk_50) (fun _ h9 => h9) rfl dX11_findHouses_28 ?_
    obtain ⟨g_39, hf_38, hg_40⟩ := (show tp_ai cy 37 (8) (f_22 x_15) from hI.at hx_15)
    refine tp_alen (cy := cy) (t0 := 0) (v := 8) hx hb hK hP hx_15.1 rfl hf_38 rfl dX11_findHouses_31 ?_
    refine lv_icmp_ge (tgt := 52) hx hb dX11_findHouses_32 (by decide) (fun c_41 => ?_) (fun c_41 => ?_)
    · have c_41 : (8 : Int) ≤ v1.toInt := tl_le c_41
      exact W.vret hx hb hr (fun t ht hW => ⟨⟨f_22, rfl, trivial, by rw [ht]; exact hP, hI, hfr⟩, hS.F ht⟩) hS.2.2 dX11_findHouses_52
    · have c_41 : v1.toInt < (8 : Int) := tl_nle c_41
      refine lv_aload_n hx hb dX11_findHouses_35 rfl (lv_at hl 1 rfl) ?_
      refine tp_get (cy := cy) (ci := 11) (v := .ref x_15) (C := RX11) (T := TX11) (N := 16) hx hb hta inlX11 hown hK hP ho.1 ((tp_un hfr ho (by decide)).trans hf_1) rfl 13 (by decide) (hta _ wk_50) (fun _ h9 => h9) rfl dX11_findHouses_36 ?_
      refine lv_iload_n hx hb dX11_findHouses_39 rfl (lv_at hl 0 rfl) ?_
      refine lv_aload_n hx hb dX11_findHouses_40 rfl (lv_at hl 1 rfl) ?_
      refine lv_iload_n hx hb dX11_findHouses_41 rfl (lv_at hl 0 rfl) ?_
      refine tq_ci hS (hAf _ hS.1) (tq_rV (As := [.int v1]) (rest := [.int v1, .ref x_15]) ⟨hx, hb, hml, hown, hta⟩ (tp_P.pre hK hN hL hU hI hP) (tp_recv hK hP ho.1 ((tp_un hfr ho (by decide)).trans hf_1) rfl) lk_X11_423 (t_X11_firstOf l D cy H.size L K Γ f_22 o v1 ho) rfl rfl ⟨Nat.le_of_ble_eq_true rfl, Nat.le_of_ble_eq_true rfl⟩ rfl hl.1 rfl (Nat.le_of_ble_eq_true rfl) dX11_findHouses_42 ⟨Nat.le_of_ble_eq_true rfl, Nat.le_of_ble_eq_true rfl⟩) (fun r_43 f_44 H locs hw_42 hP hI hc_45 hS => ?_)
      have hD : va_D A (va_pl L f_44) := tp_D hL hAL
      have hfr := tp_fr2 hfr hc_45 (by decide)
      have hf_46 := (tp_un hc_45 hx_15 (by decide)).trans hf_38
      have hn_47 : vp_in v1 (8) := tl_in (by omega) (by omega)
      have hI9 : tp_I cy L K Γ (va_up f_44 x_15 (.inl (cy 0, 8, .inl (upd g_39 v1.toNatClampNeg r_43)))) := hI.set hx_15 (show tp_ai cy 37 (8) _ from ⟨_, rfl, tp_pi_upd hg_40 trivial⟩)
      have hfr9 : ∀ b, (K b).1 ∉ ([28, 29, 23, 24, 27, 30, 31, 32, 37] : List Nat) → va_up f_44 x_15 (.inl (cy 0, 8, .inl (upd g_39 v1.toNatClampNeg r_43))) b = f b := tp_fr hfr hx_15 (by decide)
      refine tp_iast (cy := cy) hx hb hK hP hD hS hx_15.1 hf_46 hn_47 dX11_findHouses_45 (fun H locs hP hD hS => ?_)
      have hP : va_P D vwCl (va_pl L (va_up f_44 x_15 (.inl (cy 0, 8, .inl (upd g_39 v1.toNatClampNeg r_43))))) H := hP
      generalize hfe : va_up f_44 x_15 (.inl (cy 0, 8, .inl (upd g_39 v1.toNatClampNeg r_43))) = f_48 at hP hI9 hfr9
      have hD : va_D A (va_pl L f_48) := tp_D hL hAL
      have hf_49 : f_48 x_15 = .inl (cy 0, 8, .inl (upd g_39 v1.toNatClampNeg r_43)) := by rw [← hfe]; exact va_up_self _ _ _
      clear hfe
      have hI := hI9
      have hfr := hfr9
      clear hI9 hfr9
      obtain ⟨z_50, ez_50⟩ : ∃ y : Int32, y = v1 + 1 := ⟨_, rfl⟩
      refine lv_iinc (v := z_50) (lv' := [(1, .int z_50), (0, .ref o)]) hx hb dX11_findHouses_46 hl (k := 0) rfl (by rw [ez_50]; rfl) (by decide) rfl (fun ls hl => ?_)
      try have iz_50 : z_50.toInt = v1.toInt + 1 := by rw [ez_50]; exact tl_addL v1 1 (by decide) (by omega) (by omega)
      refine lv_goto (tgt := 12) hx hb dX11_findHouses_49 (by decide) ?_
      exact ih12 (f_48, z_50) H locs ls (by show (8 - z_50.toInt).toNat < (8 - v1.toInt).toNat; omega) ⟨(show 0 ≤ z_50.toInt from (by omega)), (show z_50.toInt ≤ 8 from (by omega)), hP, hI, hfr, hS, lv_sub hl [0, 1] rfl⟩
set_option maxHeartbeats 4000000 in
set_option maxRecDepth 100000 in
theorem t_X11_says (l : Launch) (D : va_G) (cy : Nat → ClassId) (sz : Nat) (L : List Nat) (K : Nat → tk_K) (Γ : tk_G) (f : Nat → va_E) (o : Nat) (p0 : Int32) (p1 : Int32) (ho : tp_r L K 0 (0) 0 o) : Met l yX11_says (tl_w yX11_says cX11_says 3 (some .int)) ({ frames := 6, cells := 0, slots := 0, locals := 140 }) (va_Pc [.ref o, .int p0, .int p1] (tp_P D cy L K Γ f sz)) (va_Qi (fun (r : Int32) (u : Nat → va_E) => True) (tp_B D cy L K Γ f [28, 29, 23, 24, 27, 30, 31, 32]) (tp_A L sz)) 0 0 (tp_A L sz) := by
  refine Met.ofW (cc := cX11_says) (maxL := 3) (ret := (some .int)) (by decide) rfl ?_
  intro p e s m args below meth c s₁ B hml hv
  obtain ⟨rfl, hsz, hP, hK, hL, hI, hN, hU⟩ := hv
  have hx := B.exec
  have hb := B.bytes
  have hr := B.returns
  have hta := tl_hta (atoms_spec (ws := tl_w yX11_says cX11_says 3 (some .int)) B.pre)
  have hown : s.vm.findClass RX11 = some m.cls := findClass_of_methodNamed B.named
  have hlocks := B.notSynchronized
  subst hsz
  have hI0 := hI
  generalize hAe : tp_A L s.heap.size = A
  have hA : ∀ q : Nat, s.heap.size ≤ q → A q := fun q h => by rw [← hAe]; exact Or.inr h
  have hAL : ∀ q ∈ L, A q := fun q h => by rw [← hAe]; exact Or.inl h
  have hAf : ∀ (H : Heap), s.heap.size ≤ H.size → ∀ q, tp_A L H.size q → A q := fun H h q hq => hq.elim (hAL q) (fun h2 => hA q (Nat.le_trans h h2))
  have hS : va_S A s.heap s.heap [] := va_S.rf
  have hD : va_D A (va_pl L f) := tp_D hL hAL
  have hfr : ∀ b, (K b).1 ∉ ([28, 29, 23, 24, 27, 30, 31, 32] : List Nat) → f b = f b := fun _ _ => rfl
  have hl := lv_entry ([.ref o, .int p0, .int p1]) (n := 3) (Nat.le_of_ble_eq_true rfl)
  rw [lg_entry_eq]
  generalize (lg_sl ([.ref o, .int p0, .int p1]) ++ List.replicate (3 - (lg_sl ([.ref o, .int p0, .int p1])).length) Slot.unset).toArray = ls at hl ⊢
  have hl : lv_has ls 3 [(0, .ref o), (1, .int p0), (2, .int p1)] := hl
  refine lv_aload_n hx hb dX11_says_0 rfl (lv_at hl 0 rfl) ?_
  obtain ⟨x_2, x_3, x_4, x_5, x_6, x_7, x_8, x_9, x_10, x_11, x_12, x_13, x_14, x_15, x_16, x_17, hf_1, hx_2, hx_3, hx_4, hx_5, hx_6, hx_7, hx_8, hx_9, hx_10, hx_11, hx_12, hx_13, hx_14, hx_15, hx_16, hx_17⟩ := (show tp_o_X L K (0) 0 (Γ (0, 0, 0)) (f o) from hI0.at ho)
  refine tp_get (cy := cy) (ci := 11) (v := .ref x_2) (C := RX11) (T := TX11) (N := 16) hx hb hta inlX11 hown hK hP ho.1 hf_1 rfl 0 (by decide) (hta _ wk_15) (fun _ h9 => h9) rfl dX11_says_1 ?_
  obtain ⟨x_19, x_20, x_21, x_22, x_23, x_24, x_25, x_26, x_27, hf_18, hx_19, hx_20, hx_21, hx_22, hx_23, hx_24, hx_25, hx_26, hx_27⟩ := (show tp_o_BOOK L K (0) 0 (Γ (1, 0, 0)) (f x_2) from hI0.at hx_2)
  refine tp_getN (cy := cy) (ci := 0) (v := .ref x_25) (C := RX0) (T := TX0) (N := 9) hx hb hta inlX0 hown hK hP hx_2.1 hf_18 rfl 6 (by decide) (va_Nw.use rfl (hN.1 24 _ nk_24)) (fun _ h9 => h9) rfl dX11_says_4 ?_
  refine lv_iload_n hx hb dX11_says_7 rfl (lv_at hl 1 rfl) ?_
  obtain ⟨x_29, x_30, x_31, hf_28, hx_29, hx_30, hx_31⟩ := (show tp_o_HTABLE L K (8) 0 (Γ (9, 8, 0)) (f x_25) from hI0.at hx_25)
  refine tl_si (tq_rVN hN (As := [.int p0]) (rest := []) ⟨hx, hb, hml, hown, hta⟩ (tp_P.pre hK hN hL hU hI hP) (tp_recv hK hP hx_25.1 hf_28 rfl) lk_X11_156 (th_has l D cy s.heap.size L K Γ f 8 0 x_25 p0 hx_25 (by first | omega | (simp only [Int32.toInt_toInt64]; omega) | decide | assumption)) rfl rfl ⟨Nat.le_of_ble_eq_true rfl, Nat.le_of_ble_eq_true rfl⟩ rfl hl.1 rfl (Nat.le_of_ble_eq_true rfl) dX11_says_8 ⟨Nat.le_of_ble_eq_true rfl, Nat.le_of_ble_eq_true rfl⟩) (fun r_33 hw_32 => ?_)
  have hw_32 : tl_J r_33 (0 ≤ p0.toInt ∧ p0.toInt < 8) := hw_32
  refine lv_if_eq (tgt := 21) hx hb dX11_says_11 (by decide) (fun c_34 => ?_) (fun c_34 => ?_)
  · have c_34 := c_34
    refine lv_iconst (v := (-1)) hx hb dX11_says_21 (by decide) ?_
    exact W.iret (v := (-1)) hx hb hr (fun t ht hW => ⟨⟨_, f, rfl, trivial, by rw [ht]; exact hP, hI, hfr⟩, hS.F ht⟩) hS.2.2 dX11_says_22
  · have c_34 := hw_32.t c_34
    refine lv_iload_n hx hb dX11_says_14 rfl (lv_at hl 2 rfl) ?_
    refine tl_si (tq_rS (As := [.int p1]) (rest := []) ⟨hx, hb, hml, hown, hta⟩ (tp_P.pre hK hN hL hU hI hP) lk_X11_94 (t_X11_isWeek l D cy s.heap.size L K Γ f p1 ) rfl rfl ⟨Nat.le_of_ble_eq_true rfl, Nat.le_of_ble_eq_true rfl⟩ rfl hl.1 rfl (Nat.le_of_ble_eq_true rfl) dX11_says_15 ⟨Nat.le_of_ble_eq_true rfl, Nat.le_of_ble_eq_true rfl⟩) (fun r_36 hw_35 => ?_)
    have hw_35 : tl_E r_36 (0 ≤ p1.toInt ∧ p1.toInt ≤ 399) 1 0 := hw_35
    refine lv_if_ne (tgt := 23) hx hb dX11_says_18 (by decide) (fun c_37 => ?_) (fun c_37 => ?_)
    · have c_37 := hw_35.t c_37
      refine lv_aload_n hx hb dX11_says_23 rfl (lv_at hl 0 rfl) ?_
      refine lv_iload_n hx hb dX11_says_24 rfl (lv_at hl 1 rfl) ?_
      refine tq_ci hS (hAf _ hS.1) (tq_rV (As := [.int p0]) (rest := []) ⟨hx, hb, hml, hown, hta⟩ (tp_P.pre hK hN hL hU hI hP) (tp_recv hK hP ho.1 hf_1 rfl) lk_X11_423 (t_X11_firstOf l D cy s.heap.size L K Γ f o p0 ho) rfl rfl ⟨Nat.le_of_ble_eq_true rfl, Nat.le_of_ble_eq_true rfl⟩ rfl hl.1 rfl (Nat.le_of_ble_eq_true rfl) dX11_says_25 ⟨Nat.le_of_ble_eq_true rfl, Nat.le_of_ble_eq_true rfl⟩) (fun r_39 f_40 H locs hw_38 hP hI hc_41 hS => ?_)
      have hD : va_D A (va_pl L f_40) := tp_D hL hAL
      have hfr := tp_fr2 hfr hc_41 (by decide)
      refine lv_iload_n hx hb dX11_says_28 rfl (lv_at hl 2 rfl) ?_
      refine lv_icmp_gt (tgt := 36) hx hb dX11_says_29 (by decide) (fun c_42 => ?_) (fun c_42 => ?_)
      · have c_42 : p1.toInt < r_39.toInt := tl_lt c_42
        refine lv_iconst (v := 0) hx hb dX11_says_36 (by decide) ?_
        exact W.iret (v := 0) hx hb hr (fun t ht hW => ⟨⟨_, f_40, rfl, trivial, by rw [ht]; exact hP, hI, hfr⟩, hS.F ht⟩) hS.2.2 dX11_says_37
      · have c_42 : r_39.toInt ≤ p1.toInt := tl_nlt c_42
        refine lv_iconst (v := 1) hx hb dX11_says_32 (by decide) ?_
        refine lv_goto (tgt := 37) hx hb dX11_says_33 (by decide) ?_
        exact W.iret (v := 1) hx hb hr (fun t ht hW => ⟨⟨_, f_40, rfl, trivial, by rw [ht]; exact hP, hI, hfr⟩, hS.F ht⟩) hS.2.2 dX11_says_37
    · have c_37 := hw_35.f c_37
      refine lv_iconst (v := (-1)) hx hb dX11_says_21 (by decide) ?_
      exact W.iret (v := (-1)) hx hb hr (fun t ht hW => ⟨⟨_, f, rfl, trivial, by rw [ht]; exact hP, hI, hfr⟩, hS.F ht⟩) hS.2.2 dX11_says_22
set_option maxHeartbeats 4000000 in
set_option maxRecDepth 100000 in
theorem t_X11_agreed (l : Launch) (D : va_G) (cy : Nat → ClassId) (sz : Nat) (L : List Nat) (K : Nat → tk_K) (Γ : tk_G) (f : Nat → va_E) (o : Nat) (p0 : Int32) (ho : tp_r L K 0 (0) 0 o) : Met l yX11_agreed (tl_w yX11_agreed cX11_agreed 3 (some .int)) ({ frames := 7, cells := 0, slots := 0, locals := 161 }) (va_Pc [.ref o, .int p0] (tp_P D cy L K Γ f sz)) (va_Qi (fun (r : Int32) (u : Nat → va_E) => True) (tp_B D cy L K Γ f [28, 29, 23, 24, 27, 30, 31, 32, 37]) (tp_A L sz)) 0 0 (tp_A L sz) := by
  refine Met.ofW (cc := cX11_agreed) (maxL := 3) (ret := (some .int)) (by decide) rfl ?_
  intro p e s m args below meth c s₁ B hml hv
  obtain ⟨rfl, hsz, hP, hK, hL, hI, hN, hU⟩ := hv
  have hx := B.exec
  have hb := B.bytes
  have hr := B.returns
  have hta := tl_hta (atoms_spec (ws := tl_w yX11_agreed cX11_agreed 3 (some .int)) B.pre)
  have hown : s.vm.findClass RX11 = some m.cls := findClass_of_methodNamed B.named
  have hlocks := B.notSynchronized
  subst hsz
  have hI0 := hI
  generalize hAe : tp_A L s.heap.size = A
  have hA : ∀ q : Nat, s.heap.size ≤ q → A q := fun q h => by rw [← hAe]; exact Or.inr h
  have hAL : ∀ q ∈ L, A q := fun q h => by rw [← hAe]; exact Or.inl h
  have hAf : ∀ (H : Heap), s.heap.size ≤ H.size → ∀ q, tp_A L H.size q → A q := fun H h q hq => hq.elim (hAL q) (fun h2 => hA q (Nat.le_trans h h2))
  have hS : va_S A s.heap s.heap [] := va_S.rf
  have hD : va_D A (va_pl L f) := tp_D hL hAL
  have hfr : ∀ b, (K b).1 ∉ ([28, 29, 23, 24, 27, 30, 31, 32, 37] : List Nat) → f b = f b := fun _ _ => rfl
  have hl := lv_entry ([.ref o, .int p0]) (n := 3) (Nat.le_of_ble_eq_true rfl)
  rw [lg_entry_eq]
  generalize (lg_sl ([.ref o, .int p0]) ++ List.replicate (3 - (lg_sl ([.ref o, .int p0])).length) Slot.unset).toArray = ls at hl ⊢
  have hl : lv_has ls 3 [(0, .ref o), (1, .int p0)] := hl
  refine lv_iload_n hx hb dX11_agreed_0 rfl (lv_at hl 1 rfl) ?_
  refine tl_si (tq_rS (As := [.int p0]) (rest := []) ⟨hx, hb, hml, hown, hta⟩ (tp_P.pre hK hN hL hU hI hP) lk_X11_94 (t_X11_isWeek l D cy s.heap.size L K Γ f p0 ) rfl rfl ⟨Nat.le_of_ble_eq_true rfl, Nat.le_of_ble_eq_true rfl⟩ rfl hl.1 rfl (Nat.le_of_ble_eq_true rfl) dX11_agreed_1 ⟨Nat.le_of_ble_eq_true rfl, Nat.le_of_ble_eq_true rfl⟩) (fun r_2 hw_1 => ?_)
  have hw_1 : tl_E r_2 (0 ≤ p0.toInt ∧ p0.toInt ≤ 399) 1 0 := hw_1
  refine lv_if_ne (tgt := 9) hx hb dX11_agreed_4 (by decide) (fun c_3 => ?_) (fun c_3 => ?_)
  · have c_3 := hw_1.t c_3
    refine lv_aload_n hx hb dX11_agreed_9 rfl (lv_at hl 0 rfl) ?_
    obtain ⟨x_5, x_6, x_7, x_8, x_9, x_10, x_11, x_12, x_13, x_14, x_15, x_16, x_17, x_18, x_19, x_20, hf_4, hx_5, hx_6, hx_7, hx_8, hx_9, hx_10, hx_11, hx_12, hx_13, hx_14, hx_15, hx_16, hx_17, hx_18, hx_19, hx_20⟩ := (show tp_o_X L K (0) 0 (Γ (0, 0, 0)) (f o) from hI0.at ho)
    refine tq_cv hS (hAf _ hS.1) (tq_rV (As := []) (rest := []) ⟨hx, hb, hml, hown, hta⟩ (tp_P.pre hK hN hL hU hI hP) (tp_recv hK hP ho.1 hf_4 rfl) lk_X11_426 (t_X11_findHouses l D cy s.heap.size L K Γ f o ho) rfl rfl ⟨Nat.le_of_ble_eq_true rfl, Nat.le_of_ble_eq_true rfl⟩ rfl hl.1 rfl (Nat.le_of_ble_eq_true rfl) dX11_agreed_10 ⟨Nat.le_of_ble_eq_true rfl, Nat.le_of_ble_eq_true rfl⟩) (fun f_23 H locs hw_21 hP hI hc_24 hS => ?_)
    have hD : va_D A (va_pl L f_23) := tp_D hL hAL
    have hfr := tp_fr2 hfr hc_24 (by decide)
    refine lv_iconst (v := 0) hx hb dX11_agreed_13 (by decide) ?_
    refine lv_istore_n (lv' := [(2, .int 0), (0, .ref o), (1, .int p0)]) hx hb dX11_agreed_14 rfl hl (by decide) rfl (fun ls hl => ?_)
    refine tl_ind (G := fun H locs ls => W p l e ((headSpec (tl_w yX11_agreed cX11_agreed 3 (some .int)) ({ frames := 7, cells := 0, slots := 0, locals := 161 })).room) s m #[.ref o, .int p0] below meth c H locs 0 0 (MQ below (va_Qi (fun (r : Int32) (u : Nat → va_E) => True) (tp_B D cy L K Γ f [28, 29, 23, 24, 27, 30, 31, 32, 37]) A) #[.ref o, .int p0] s 0 0 A) (F0 m 15 ls [])) (α := (Nat → va_E) × Int32) (fun aq => (400 - aq.2.toInt).toNat) (fun aq H locs ls => (0 ≤ aq.2.toInt) ∧ (aq.2.toInt ≤ 400) ∧ va_P D vwCl (va_pl L aq.1) H ∧ tp_I cy L K Γ aq.1 ∧ (∀ b, (K b).1 ∉ ([28, 29, 23, 24, 27, 30, 31, 32, 37] : List Nat) → aq.1 b = f b) ∧ va_S A s.heap H locs ∧ lv_has ls 3 [(2, .int aq.2), (0, .ref o), (1, .int p0)]) ?_ (f_23, (0 : Int32)) H locs ls ⟨(show 0 ≤ (0 : Int) from (by omega)), (show (0 : Int) ≤ 400 from (by omega)), hP, hI, hfr, hS, lv_sub hl [0, 1, 2] rfl⟩
    rintro ⟨f_25, v2⟩ H locs ls ⟨h0, h1, hP, hI, hfr, hS, hl⟩ ih15
    have hP : va_P D vwCl (va_pl L f_25) H := hP
    have hI : tp_I cy L K Γ f_25 := hI
    have hfr : ∀ b, (K b).1 ∉ ([28, 29, 23, 24, 27, 30, 31, 32, 37] : List Nat) → f_25 b = f b := hfr
    have hD : va_D A (va_pl L f_25) := tp_D hL hAL
    have h0 : 0 ≤ v2.toInt := h0
    have h1 : v2.toInt ≤ 400 := h1
    have hl : lv_has ls 3 [(2, .int v2), (0, .ref o), (1, .int p0)] := hl
    refine lv_iload_n hx hb dX11_agreed_15 rfl (lv_at hl 0 rfl) ?_
    refine lv_iload_n hx hb dX11_agreed_16 rfl (lv_at hl 2 rfl) ?_
    refine lv_icmp_gt (tgt := 48) hx hb dX11_agreed_17 (by decide) (fun c_26 => ?_) (fun c_26 => ?_)
    · have c_26 : p0.toInt < v2.toInt := tl_lt c_26
      refine lv_bipush (v := (-2)) hx hb dX11_agreed_48 (by decide) ?_
      exact W.iret (v := (-2)) hx hb hr (fun t ht hW => ⟨⟨_, f_25, rfl, trivial, by rw [ht]; exact hP, hI, hfr⟩, hS.F ht⟩) hS.2.2 dX11_agreed_50
    · have c_26 : v2.toInt ≤ p0.toInt := tl_nlt c_26
      refine lv_iconst (v := 2) hx hb dX11_agreed_20 (by decide) ?_
      refine lv_aload_n hx hb dX11_agreed_21 rfl (lv_at hl 1 rfl) ?_
      refine lv_iload_n hx hb dX11_agreed_22 rfl (lv_at hl 0 rfl) ?_
      refine tl_si (tq_rV (As := [.int v2]) (rest := [.int 2]) ⟨hx, hb, hml, hown, hta⟩ (tp_P.pre hK hN hL hU hI hP) (tp_recv hK hP ho.1 ((tp_un hfr ho (by decide)).trans hf_4) rfl) lk_X11_396 (t_X11_begunUpTo l D cy H.size L K Γ f_25 o v2 ho) rfl rfl ⟨Nat.le_of_ble_eq_true rfl, Nat.le_of_ble_eq_true rfl⟩ rfl hl.1 rfl (Nat.le_of_ble_eq_true rfl) dX11_agreed_23 ⟨Nat.le_of_ble_eq_true rfl, Nat.le_of_ble_eq_true rfl⟩) (fun r_28 hw_27 => ?_)
      refine lv_imul hx hb dX11_agreed_26 ?_
      refine lv_topi (fun z_29 ez_29 => ?_)
      try have iz_29 : z_29.toInt = (2 : Int) * r_28.toInt := by rw [ez_29]; exact tl_mulN 2 r_28 rfl rfl (by omega) (by omega)
      refine lv_aload_n hx hb dX11_agreed_27 rfl (lv_at hl 1 rfl) ?_
      refine tp_get (cy := cy) (ci := 11) (v := .ref x_5) (C := RX11) (T := TX11) (N := 16) hx hb hta inlX11 hown hK hP ho.1 ((tp_un hfr ho (by decide)).trans hf_4) rfl 0 (by decide) (hta _ wk_15) (fun _ h9 => h9) rfl dX11_agreed_28 ?_
      obtain ⟨x_31, x_32, x_33, x_34, x_35, x_36, x_37, x_38, x_39, hf_30, hx_31, hx_32, hx_33, hx_34, hx_35, hx_36, hx_37, hx_38, hx_39⟩ := (show tp_o_BOOK L K (0) 0 (Γ (1, 0, 0)) (f x_5) from hI0.at hx_5)
      refine tp_getN (cy := cy) (ci := 0) (v := .ref x_37) (C := RX0) (T := TX0) (N := 9) hx hb hta inlX0 hown hK hP hx_5.1 ((tp_un hfr hx_5 (by decide)).trans hf_30) rfl 6 (by decide) (va_Nw.use rfl (hN.1 24 _ nk_24)) (fun _ h9 => h9) rfl dX11_agreed_31 ?_
      obtain ⟨x_41, x_42, x_43, hf_40, hx_41, hx_42, hx_43⟩ := (show tp_o_HTABLE L K (8) 0 (Γ (9, 8, 0)) (f x_37) from hI0.at hx_37)
      refine tp_getN (cy := cy) (ci := 6) (v := .int x_43) (C := RX6) (T := TX6) (N := 3) hx hb hta inlX6 hown hK hP hx_37.1 ((tp_un hfr hx_37 (by decide)).trans hf_40) rfl 2 (by decide) (va_Nw.use rfl (hN.1 15 _ nk_15)) (fun _ h9 => h9) rfl dX11_agreed_34 ?_
      refine lv_icmp_le (tgt := 42) hx hb dX11_agreed_37 (by decide) (fun c_44 => ?_) (fun c_44 => ?_)
      · have c_44 : z_29.toInt ≤ x_43.toInt := tl_le c_44
        obtain ⟨z_45, ez_45⟩ : ∃ y : Int32, y = v2 + 1 := ⟨_, rfl⟩
        refine lv_iinc (v := z_45) (lv' := [(2, .int z_45), (0, .ref o), (1, .int p0)]) hx hb dX11_agreed_42 hl (k := 0) rfl (by rw [ez_45]; rfl) (by decide) rfl (fun ls hl => ?_)
        try have iz_45 : z_45.toInt = v2.toInt + 1 := by rw [ez_45]; exact tl_addL v2 1 (by decide) (by omega) (by omega)
        refine lv_goto (tgt := 15) hx hb dX11_agreed_45 (by decide) ?_
        exact ih15 (f_25, z_45) H locs ls (by show (400 - z_45.toInt).toNat < (400 - v2.toInt).toNat; omega) ⟨(show 0 ≤ z_45.toInt from (by omega)), (show z_45.toInt ≤ 400 from (by omega)), hP, hI, hfr, hS, lv_sub hl [0, 1, 2] rfl⟩
      · have c_44 : x_43.toInt < z_29.toInt := tl_nle c_44
        refine lv_iload_n hx hb dX11_agreed_40 rfl (lv_at hl 0 rfl) ?_
        exact W.iret (v := v2) hx hb hr (fun t ht hW => ⟨⟨_, f_25, rfl, trivial, by rw [ht]; exact hP, hI, hfr⟩, hS.F ht⟩) hS.2.2 dX11_agreed_41
  · have c_3 := hw_1.f c_3
    refine lv_iconst (v := (-1)) hx hb dX11_agreed_7 (by decide) ?_
    exact W.iret (v := (-1)) hx hb hr (fun t ht hW => ⟨⟨_, f, rfl, trivial, by rw [ht]; exact hP, hI, hfr⟩, hS.F ht⟩) hS.2.2 dX11_agreed_8
set_option maxHeartbeats 4000000 in
set_option maxRecDepth 100000 in
theorem t_X11_alone (l : Launch) (D : va_G) (cy : Nat → ClassId) (sz : Nat) (L : List Nat) (K : Nat → tk_K) (Γ : tk_G) (f : Nat → va_E) (o : Nat) (p0 : Int32) (ho : tp_r L K 0 (0) 0 o) : Met l yX11_alone (tl_w yX11_alone cX11_alone 4 (some .int)) ({ frames := 7, cells := 0, slots := 0, locals := 161 }) (va_Pc [.ref o, .int p0] (tp_P D cy L K Γ f sz)) (va_Qi (fun (r : Int32) (u : Nat → va_E) => True) (tp_B D cy L K Γ f [28, 29, 23, 24, 27, 30, 31, 32, 37]) (tp_A L sz)) 0 0 (tp_A L sz) := by
  refine Met.ofW (cc := cX11_alone) (maxL := 4) (ret := (some .int)) (by decide) rfl ?_
  intro p e s m args below meth c s₁ B hml hv
  obtain ⟨rfl, hsz, hP, hK, hL, hI, hN, hU⟩ := hv
  have hx := B.exec
  have hb := B.bytes
  have hr := B.returns
  have hta := tl_hta (atoms_spec (ws := tl_w yX11_alone cX11_alone 4 (some .int)) B.pre)
  have hown : s.vm.findClass RX11 = some m.cls := findClass_of_methodNamed B.named
  have hlocks := B.notSynchronized
  subst hsz
  have hI0 := hI
  generalize hAe : tp_A L s.heap.size = A
  have hA : ∀ q : Nat, s.heap.size ≤ q → A q := fun q h => by rw [← hAe]; exact Or.inr h
  have hAL : ∀ q ∈ L, A q := fun q h => by rw [← hAe]; exact Or.inl h
  have hAf : ∀ (H : Heap), s.heap.size ≤ H.size → ∀ q, tp_A L H.size q → A q := fun H h q hq => hq.elim (hAL q) (fun h2 => hA q (Nat.le_trans h h2))
  have hS : va_S A s.heap s.heap [] := va_S.rf
  have hD : va_D A (va_pl L f) := tp_D hL hAL
  have hfr : ∀ b, (K b).1 ∉ ([28, 29, 23, 24, 27, 30, 31, 32, 37] : List Nat) → f b = f b := fun _ _ => rfl
  have hl := lv_entry ([.ref o, .int p0]) (n := 4) (Nat.le_of_ble_eq_true rfl)
  rw [lg_entry_eq]
  generalize (lg_sl ([.ref o, .int p0]) ++ List.replicate (4 - (lg_sl ([.ref o, .int p0])).length) Slot.unset).toArray = ls at hl ⊢
  have hl : lv_has ls 4 [(0, .ref o), (1, .int p0)] := hl
  refine lv_iload_n hx hb dX11_alone_0 rfl (lv_at hl 1 rfl) ?_
  refine tl_si (tq_rS (As := [.int p0]) (rest := []) ⟨hx, hb, hml, hown, hta⟩ (tp_P.pre hK hN hL hU hI hP) lk_X11_94 (t_X11_isWeek l D cy s.heap.size L K Γ f p0 ) rfl rfl ⟨Nat.le_of_ble_eq_true rfl, Nat.le_of_ble_eq_true rfl⟩ rfl hl.1 rfl (Nat.le_of_ble_eq_true rfl) dX11_alone_1 ⟨Nat.le_of_ble_eq_true rfl, Nat.le_of_ble_eq_true rfl⟩) (fun r_2 hw_1 => ?_)
  have hw_1 : tl_E r_2 (0 ≤ p0.toInt ∧ p0.toInt ≤ 399) 1 0 := hw_1
  refine lv_if_ne (tgt := 9) hx hb dX11_alone_4 (by decide) (fun c_3 => ?_) (fun c_3 => ?_)
  · have c_3 := hw_1.t c_3
    refine lv_aload_n hx hb dX11_alone_9 rfl (lv_at hl 0 rfl) ?_
    obtain ⟨x_5, x_6, x_7, x_8, x_9, x_10, x_11, x_12, x_13, x_14, x_15, x_16, x_17, x_18, x_19, x_20, hf_4, hx_5, hx_6, hx_7, hx_8, hx_9, hx_10, hx_11, hx_12, hx_13, hx_14, hx_15, hx_16, hx_17, hx_18, hx_19, hx_20⟩ := (show tp_o_X L K (0) 0 (Γ (0, 0, 0)) (f o) from hI0.at ho)
    refine tq_cv hS (hAf _ hS.1) (tq_rV (As := []) (rest := []) ⟨hx, hb, hml, hown, hta⟩ (tp_P.pre hK hN hL hU hI hP) (tp_recv hK hP ho.1 hf_4 rfl) lk_X11_426 (t_X11_findHouses l D cy s.heap.size L K Γ f o ho) rfl rfl ⟨Nat.le_of_ble_eq_true rfl, Nat.le_of_ble_eq_true rfl⟩ rfl hl.1 rfl (Nat.le_of_ble_eq_true rfl) dX11_alone_10 ⟨Nat.le_of_ble_eq_true rfl, Nat.le_of_ble_eq_true rfl⟩) (fun f_23 H locs hw_21 hP hI hc_24 hS => ?_)
    have hD : va_D A (va_pl L f_23) := tp_D hL hAL
    have hfr := tp_fr2 hfr hc_24 (by decide)
    refine lv_aload_n hx hb dX11_alone_13 rfl (lv_at hl 0 rfl) ?_
    refine lv_iload_n hx hb dX11_alone_14 rfl (lv_at hl 1 rfl) ?_
    refine tl_si (tq_rV (As := [.int p0]) (rest := []) ⟨hx, hb, hml, hown, hta⟩ (tp_P.pre hK hN hL hU hI hP) (tp_recv hK hP ho.1 ((tp_un hfr ho (by decide)).trans hf_4) rfl) lk_X11_396 (t_X11_begunUpTo l D cy H.size L K Γ f_23 o p0 ho) rfl rfl ⟨Nat.le_of_ble_eq_true rfl, Nat.le_of_ble_eq_true rfl⟩ rfl hl.1 rfl (Nat.le_of_ble_eq_true rfl) dX11_alone_15 ⟨Nat.le_of_ble_eq_true rfl, Nat.le_of_ble_eq_true rfl⟩) (fun r_26 hw_25 => ?_)
    refine lv_iconst (v := 1) hx hb dX11_alone_18 (by decide) ?_
    refine lv_icmp_eq (tgt := 25) hx hb dX11_alone_19 (by decide) (fun c_27 => ?_) (fun c_27 => ?_)
    · have c_27 : r_26.toInt = (1 : Int) := tl_eq c_27
      refine lv_bipush (v := (-2)) hx hb dX11_alone_25 (by decide) ?_
      refine lv_istore_n (lv' := [(2, .int (-2)), (0, .ref o), (1, .int p0)]) hx hb dX11_alone_27 rfl hl (by decide) rfl (fun ls hl => ?_)
      refine lv_iconst (v := 0) hx hb dX11_alone_28 (by decide) ?_
      refine lv_istore_n (lv' := [(3, .int 0), (2, .int (-2)), (0, .ref o), (1, .int p0)]) hx hb dX11_alone_29 rfl hl (by decide) rfl (fun ls hl => ?_)
      refine tl_ind (G := fun H locs ls => W p l e ((headSpec (tl_w yX11_alone cX11_alone 4 (some .int)) ({ frames := 7, cells := 0, slots := 0, locals := 161 })).room) s m #[.ref o, .int p0] below meth c H locs 0 0 (MQ below (va_Qi (fun (r : Int32) (u : Nat → va_E) => True) (tp_B D cy L K Γ f [28, 29, 23, 24, 27, 30, 31, 32, 37]) A) #[.ref o, .int p0] s 0 0 A) (F0 m 30 ls [])) (α := (Nat → va_E) × Int32 × Int32) (fun aq => (8 - aq.2.1.toInt).toNat) (fun aq H locs ls => (0 ≤ aq.2.1.toInt) ∧ (aq.2.1.toInt ≤ 8) ∧ va_P D vwCl (va_pl L aq.1) H ∧ tp_I cy L K Γ aq.1 ∧ (∀ b, (K b).1 ∉ ([28, 29, 23, 24, 27, 30, 31, 32, 37] : List Nat) → aq.1 b = f b) ∧ va_S A s.heap H locs ∧ lv_has ls 4 [(3, .int aq.2.1), (2, .int aq.2.2), (0, .ref o), (1, .int p0)]) ?_ (f_23, (0 : Int32), ((-2) : Int32)) H locs ls ⟨(show 0 ≤ (0 : Int) from (by omega)), (show (0 : Int) ≤ 8 from (by omega)), hP, hI, hfr, hS, lv_sub hl [0, 1, 2, 3] rfl⟩
      rintro ⟨f_28, v3, v2⟩ H locs ls ⟨h0, h1, hP, hI, hfr, hS, hl⟩ ih30
      have hP : va_P D vwCl (va_pl L f_28) H := hP
      have hI : tp_I cy L K Γ f_28 := hI
      have hfr : ∀ b, (K b).1 ∉ ([28, 29, 23, 24, 27, 30, 31, 32, 37] : List Nat) → f_28 b = f b := hfr
      have hD : va_D A (va_pl L f_28) := tp_D hL hAL
      have h0 : 0 ≤ v3.toInt := h0
      have h1 : v3.toInt ≤ 8 := h1
      have hl : lv_has ls 4 [(3, .int v3), (2, .int v2), (0, .ref o), (1, .int p0)] := hl
      refine lv_iload_n hx hb dX11_alone_30 rfl (lv_at hl 0 rfl) ?_
      refine lv_aload_n hx hb dX11_alone_31 rfl (lv_at hl 2 rfl) ?_
      refine tp_get (cy := cy) (ci := 11) (v := .ref x_18) (C := RX11) (T := TX11) (N := 16) hx hb hta inlX11 hown hK hP ho.1 ((tp_un hfr ho (by decide)).trans hf_4) rfl 13 (by decide) (hta _ wk_50) (fun _ h9 => h9) rfl dX11_alone_32 ?_
      obtain ⟨g_30, hf_29, hg_31⟩ := (show tp_ai cy 37 (8) (f_28 x_18) from hI.at hx_18)
      refine tp_alen (cy := cy) (t0 := 0) (v := 8) hx hb hK hP hx_18.1 rfl hf_29 rfl dX11_alone_35 ?_
      refine lv_icmp_ge (tgt := 57) hx hb dX11_alone_36 (by decide) (fun c_32 => ?_) (fun c_32 => ?_)
      · have c_32 : (8 : Int) ≤ v3.toInt := tl_le c_32
        refine lv_iload_n hx hb dX11_alone_57 rfl (lv_at hl 1 rfl) ?_
        exact W.iret (v := v2) hx hb hr (fun t ht hW => ⟨⟨_, f_28, rfl, trivial, by rw [ht]; exact hP, hI, hfr⟩, hS.F ht⟩) hS.2.2 dX11_alone_58
      · have c_32 : v3.toInt < (8 : Int) := tl_nle c_32
        refine lv_aload_n hx hb dX11_alone_39 rfl (lv_at hl 2 rfl) ?_
        refine tp_get (cy := cy) (ci := 11) (v := .ref x_18) (C := RX11) (T := TX11) (N := 16) hx hb hta inlX11 hown hK hP ho.1 ((tp_un hfr ho (by decide)).trans hf_4) rfl 13 (by decide) (hta _ wk_50) (fun _ h9 => h9) rfl dX11_alone_40 ?_
        refine lv_iload_n hx hb dX11_alone_43 rfl (lv_at hl 0 rfl) ?_
        have hn_33 : vp_in v3 (8) := tl_in (by omega) (by omega)
        refine tp_iald (cy := cy) hx hb hK hP hx_18.1 hf_29 hn_33 dX11_alone_44 ?_
        refine lv_topi (fun z_34 ez_34 => ?_)
        refine lv_iload_n hx hb dX11_alone_45 rfl (lv_at hl 3 rfl) ?_
        refine lv_icmp_gt (tgt := 51) hx hb dX11_alone_46 (by decide) (fun c_35 => ?_) (fun c_35 => ?_)
        · have c_35 : p0.toInt < z_34.toInt := tl_lt c_35
          obtain ⟨z_36, ez_36⟩ : ∃ y : Int32, y = v3 + 1 := ⟨_, rfl⟩
          refine lv_iinc (v := z_36) (lv' := [(3, .int z_36), (2, .int v2), (0, .ref o), (1, .int p0)]) hx hb dX11_alone_51 hl (k := 0) rfl (by rw [ez_36]; rfl) (by decide) rfl (fun ls hl => ?_)
          try have iz_36 : z_36.toInt = v3.toInt + 1 := by rw [ez_36]; exact tl_addL v3 1 (by decide) (by omega) (by omega)
          refine lv_goto (tgt := 30) hx hb dX11_alone_54 (by decide) ?_
          exact ih30 (f_28, z_36, v2) H locs ls (by show (8 - z_36.toInt).toNat < (8 - v3.toInt).toNat; omega) ⟨(show 0 ≤ z_36.toInt from (by omega)), (show z_36.toInt ≤ 8 from (by omega)), hP, hI, hfr, hS, lv_sub hl [0, 1, 2, 3] rfl⟩
        · have c_35 : z_34.toInt ≤ p0.toInt := tl_nlt c_35
          refine lv_iload_n hx hb dX11_alone_49 rfl (lv_at hl 0 rfl) ?_
          refine lv_istore_n (lv' := [(2, .int v3), (3, .int v3), (0, .ref o), (1, .int p0)]) hx hb dX11_alone_50 rfl hl (by decide) rfl (fun ls hl => ?_)
          obtain ⟨z_37, ez_37⟩ : ∃ y : Int32, y = v3 + 1 := ⟨_, rfl⟩
          refine lv_iinc (v := z_37) (lv' := [(3, .int z_37), (2, .int v3), (0, .ref o), (1, .int p0)]) hx hb dX11_alone_51 hl (k := 1) rfl (by rw [ez_37]; rfl) (by decide) rfl (fun ls hl => ?_)
          try have iz_37 : z_37.toInt = v3.toInt + 1 := by rw [ez_37]; exact tl_addL v3 1 (by decide) (by omega) (by omega)
          refine lv_goto (tgt := 30) hx hb dX11_alone_54 (by decide) ?_
          exact ih30 (f_28, z_37, v3) H locs ls (by show (8 - z_37.toInt).toNat < (8 - v3.toInt).toNat; omega) ⟨(show 0 ≤ z_37.toInt from (by omega)), (show z_37.toInt ≤ 8 from (by omega)), hP, hI, hfr, hS, lv_sub hl [0, 1, 2, 3] rfl⟩
    · have c_27 : ¬ r_26.toInt = (1 : Int) := tl_neq c_27
      refine lv_bipush (v := (-2)) hx hb dX11_alone_22 (by decide) ?_
      exact W.iret (v := (-2)) hx hb hr (fun t ht hW => ⟨⟨_, f_23, rfl, trivial, by rw [ht]; exact hP, hI, hfr⟩, hS.F ht⟩) hS.2.2 dX11_alone_24
  · have c_3 := hw_1.f c_3
    refine lv_iconst (v := (-1)) hx hb dX11_alone_7 (by decide) ?_
    exact W.iret (v := (-1)) hx hb hr (fun t ht hW => ⟨⟨_, f, rfl, trivial, by rw [ht]; exact hP, hI, hfr⟩, hS.F ht⟩) hS.2.2 dX11_alone_8
set_option maxHeartbeats 4000000 in
set_option maxRecDepth 100000 in
theorem t_X11_meanNoise (l : Launch) (D : va_G) (cy : Nat → ClassId) (sz : Nat) (L : List Nat) (K : Nat → tk_K) (Γ : tk_G) (f : Nat → va_E) (o : Nat) (p0 : Int32) (p1 : Int32) (ho : tp_r L K 0 (0) 0 o) : Met l yX11_meanNoise (tl_w yX11_meanNoise cX11_meanNoise 7 (some .long)) ({ frames := 5, cells := 0, slots := 0, locals := 113 }) (va_Pc [.ref o, .int p0, .int p1] (tp_P D cy L K Γ f sz)) (va_Ql (fun (r : Int64) (u : Nat → va_E) => True) (tp_B D cy L K Γ f [28, 29, 23, 24, 27, 30, 31, 32]) (tp_A L sz)) 0 0 (tp_A L sz) := by
  refine Met.ofW (cc := cX11_meanNoise) (maxL := 7) (ret := (some .long)) (by decide) rfl ?_
  intro p e s m args below meth c s₁ B hml hv
  obtain ⟨rfl, hsz, hP, hK, hL, hI, hN, hU⟩ := hv
  have hx := B.exec
  have hb := B.bytes
  have hr := B.returns
  have hta := tl_hta (atoms_spec (ws := tl_w yX11_meanNoise cX11_meanNoise 7 (some .long)) B.pre)
  have hown : s.vm.findClass RX11 = some m.cls := findClass_of_methodNamed B.named
  have hlocks := B.notSynchronized
  subst hsz
  have hI0 := hI
  generalize hAe : tp_A L s.heap.size = A
  have hA : ∀ q : Nat, s.heap.size ≤ q → A q := fun q h => by rw [← hAe]; exact Or.inr h
  have hAL : ∀ q ∈ L, A q := fun q h => by rw [← hAe]; exact Or.inl h
  have hAf : ∀ (H : Heap), s.heap.size ≤ H.size → ∀ q, tp_A L H.size q → A q := fun H h q hq => hq.elim (hAL q) (fun h2 => hA q (Nat.le_trans h h2))
  have hS : va_S A s.heap s.heap [] := va_S.rf
  have hD : va_D A (va_pl L f) := tp_D hL hAL
  have hfr : ∀ b, (K b).1 ∉ ([28, 29, 23, 24, 27, 30, 31, 32] : List Nat) → f b = f b := fun _ _ => rfl
  have hl := lv_entry ([.ref o, .int p0, .int p1]) (n := 7) (Nat.le_of_ble_eq_true rfl)
  rw [lg_entry_eq]
  generalize (lg_sl ([.ref o, .int p0, .int p1]) ++ List.replicate (7 - (lg_sl ([.ref o, .int p0, .int p1])).length) Slot.unset).toArray = ls at hl ⊢
  have hl : lv_has ls 7 [(0, .ref o), (1, .int p0), (2, .int p1)] := hl
  refine lv_lconst (v := 0) hx hb dX11_meanNoise_0 (by decide) ?_
  refine lv_lstore_n (lv' := [(3, .long 0), (0, .ref o), (1, .int p0), (2, .int p1)]) hx hb dX11_meanNoise_1 rfl hl (by decide) rfl (fun ls hl => ?_)
  refine lv_iconst (v := 0) hx hb dX11_meanNoise_2 (by decide) ?_
  refine lv_istore (lv' := [(5, .int 0), (3, .long 0), (0, .ref o), (1, .int p0), (2, .int p1)]) hx hb dX11_meanNoise_3 hl (by decide) rfl (fun ls hl => ?_)
  refine lv_iconst (v := 0) hx hb dX11_meanNoise_5 (by decide) ?_
  refine lv_istore (lv' := [(6, .int 0), (5, .int 0), (3, .long 0), (0, .ref o), (1, .int p0), (2, .int p1)]) hx hb dX11_meanNoise_6 hl (by decide) rfl (fun ls hl => ?_)
  refine tq_start hP hS (fun H locs hP hS => ?_)
  refine tl_ind (G := fun H locs ls => W p l e ((headSpec (tl_w yX11_meanNoise cX11_meanNoise 7 (some .long)) ({ frames := 5, cells := 0, slots := 0, locals := 113 })).room) s m #[.ref o, .int p0, .int p1] below meth c H locs 0 0 (MQ below (va_Ql (fun (r : Int64) (u : Nat → va_E) => True) (tp_B D cy L K Γ f [28, 29, 23, 24, 27, 30, 31, 32]) A) #[.ref o, .int p0, .int p1] s 0 0 A) (F0 m 8 ls [])) (α := (Nat → va_E) × Int32 × Int32 × Int64) (fun aq => (24 - aq.2.1.toInt).toNat) (fun aq H locs ls => (0 ≤ aq.2.1.toInt) ∧ (aq.2.1.toInt ≤ 24) ∧ va_P D vwCl (va_pl L aq.1) H ∧ tp_I cy L K Γ aq.1 ∧ (∀ b, (K b).1 ∉ ([28, 29, 23, 24, 27, 30, 31, 32] : List Nat) → aq.1 b = f b) ∧ va_S A s.heap H locs ∧ lv_has ls 7 [(6, .int aq.2.1), (5, .int aq.2.2.1), (3, .long aq.2.2.2), (0, .ref o), (1, .int p0), (2, .int p1)]) ?_ (f, (0 : Int32), (0 : Int32), (0 : Int64)) H locs ls ⟨(show 0 ≤ (0 : Int) from (by omega)), (show (0 : Int) ≤ 24 from (by omega)), hP, hI, hfr, hS, lv_sub hl [0, 1, 2, 3, 4, 5] rfl⟩
  rintro ⟨f_1, v6, v5, v3⟩ H locs ls ⟨h0, h1, hP, hI, hfr, hS, hl⟩ ih8
  have hP : va_P D vwCl (va_pl L f_1) H := hP
  have hI : tp_I cy L K Γ f_1 := hI
  have hfr : ∀ b, (K b).1 ∉ ([28, 29, 23, 24, 27, 30, 31, 32] : List Nat) → f_1 b = f b := hfr
  have hD : va_D A (va_pl L f_1) := tp_D hL hAL
  have h0 : 0 ≤ v6.toInt := h0
  have h1 : v6.toInt ≤ 24 := h1
  have hl : lv_has ls 7 [(6, .int v6), (5, .int v5), (3, .long v3), (0, .ref o), (1, .int p0), (2, .int p1)] := hl
  refine lv_iload hx hb dX11_meanNoise_8 (lv_at hl 0 rfl) ?_
  refine lv_aload_n hx hb dX11_meanNoise_10 rfl (lv_at hl 3 rfl) ?_
  obtain ⟨x_3, x_4, x_5, x_6, x_7, x_8, x_9, x_10, x_11, x_12, x_13, x_14, x_15, x_16, x_17, x_18, hf_2, hx_3, hx_4, hx_5, hx_6, hx_7, hx_8, hx_9, hx_10, hx_11, hx_12, hx_13, hx_14, hx_15, hx_16, hx_17, hx_18⟩ := (show tp_o_X L K (0) 0 (Γ (0, 0, 0)) (f o) from hI0.at ho)
  refine tp_get (cy := cy) (ci := 11) (v := .ref x_3) (C := RX11) (T := TX11) (N := 16) hx hb hta inlX11 hown hK hP ho.1 ((tp_un hfr ho (by decide)).trans hf_2) rfl 0 (by decide) (hta _ wk_15) (fun _ h9 => h9) rfl dX11_meanNoise_11 ?_
  obtain ⟨x_20, x_21, x_22, x_23, x_24, x_25, x_26, x_27, x_28, hf_19, hx_20, hx_21, hx_22, hx_23, hx_24, hx_25, hx_26, hx_27, hx_28⟩ := (show tp_o_BOOK L K (0) 0 (Γ (1, 0, 0)) (f x_3) from hI0.at hx_3)
  refine tp_getN (cy := cy) (ci := 0) (v := .ref x_22) (C := RX0) (T := TX0) (N := 9) hx hb hta inlX0 hown hK hP hx_3.1 ((tp_un hfr hx_3 (by decide)).trans hf_19) rfl 2 (by decide) (va_Nw.use rfl (hN.1 20 _ nk_20)) (fun _ h9 => h9) rfl dX11_meanNoise_14 ?_
  obtain ⟨x_30, x_31, x_32, x_33, x_34, x_35, hf_29, hx_30, hx_32, hx_33, hx_34, hx_35⟩ := (show tp_o_ROWS L K (0) 0 (Γ (3, 0, 0)) (f x_22) from hI0.at hx_22)
  refine tp_getN (cy := cy) (ci := 4) (v := .int x_30) (C := RX4) (T := TX4) (N := 6) hx hb hta inlX4 hown hK hP hx_22.1 ((tp_un hfr hx_22 (by decide)).trans hf_29) rfl 0 (by decide) (va_Nw.use rfl (hN.1 2 _ nk_2)) (fun _ h9 => h9) rfl dX11_meanNoise_17 ?_
  refine lv_icmp_ge (tgt := 80) hx hb dX11_meanNoise_20 (by decide) (fun c_36 => ?_) (fun c_36 => ?_)
  · have c_36 : x_30.toInt ≤ v6.toInt := tl_le c_36
    refine lv_iload hx hb dX11_meanNoise_80 (lv_at hl 1 rfl) ?_
    refine lv_if_ne (tgt := 89) hx hb dX11_meanNoise_82 (by decide) (fun c_37 => ?_) (fun c_37 => ?_)
    · have c_37 : ¬ v5.toInt = (0 : Int) := tl_neq c_37
      refine lv_lload_n hx hb dX11_meanNoise_89 rfl (lv_at hl 2 rfl) ?_
      refine lv_iload hx hb dX11_meanNoise_90 (lv_at hl 1 rfl) ?_
      refine lv_i2l (v := v5.toInt64) hx hb dX11_meanNoise_92 (by first | rfl | decide) ?_
      refine lv_ldiv hx hb dX11_meanNoise_93 (tl_ne0LI (by omega)) ?_
      refine lv_topl (fun z_38 ez_38 => ?_)
      exact W.lret (v := z_38) hx hb hr (fun t ht hW => ⟨⟨_, f_1, rfl, trivial, by rw [ht]; exact hP, hI, hfr⟩, hS.F ht⟩) hS.2.2 dX11_meanNoise_94
    · have c_37 : v5.toInt = (0 : Int) := tl_eq c_37
      refine lv_lconst (v := 0) hx hb dX11_meanNoise_85 (by decide) ?_
      refine lv_goto (tgt := 94) hx hb dX11_meanNoise_86 (by decide) ?_
      exact W.lret (v := 0) hx hb hr (fun t ht hW => ⟨⟨_, f_1, rfl, trivial, by rw [ht]; exact hP, hI, hfr⟩, hS.F ht⟩) hS.2.2 dX11_meanNoise_94
  · have c_36 : v6.toInt < x_30.toInt := tl_nle c_36
    refine lv_aload_n hx hb dX11_meanNoise_23 rfl (lv_at hl 3 rfl) ?_
    refine tp_get (cy := cy) (ci := 11) (v := .ref x_3) (C := RX11) (T := TX11) (N := 16) hx hb hta inlX11 hown hK hP ho.1 ((tp_un hfr ho (by decide)).trans hf_2) rfl 0 (by decide) (hta _ wk_15) (fun _ h9 => h9) rfl dX11_meanNoise_24 ?_
    refine tp_getN (cy := cy) (ci := 0) (v := .ref x_22) (C := RX0) (T := TX0) (N := 9) hx hb hta inlX0 hown hK hP hx_3.1 ((tp_un hfr hx_3 (by decide)).trans hf_19) rfl 2 (by decide) (va_Nw.use rfl (hN.1 20 _ nk_20)) (fun _ h9 => h9) rfl dX11_meanNoise_27 ?_
    refine tp_getN (cy := cy) (ci := 4) (v := .ref x_32) (C := RX4) (T := TX4) (N := 6) hx hb hta inlX4 hown hK hP hx_22.1 ((tp_un hfr hx_22 (by decide)).trans hf_29) rfl 2 (by decide) (va_Nw.use rfl (hN.1 5 _ nk_5)) (fun _ h9 => h9) rfl dX11_meanNoise_30 ?_
    refine lv_iload hx hb dX11_meanNoise_33 (lv_at hl 0 rfl) ?_
    obtain ⟨g_40, hf_39, hg_41⟩ := (show tp_ai cy 4 (24) (f x_32) from hI0.at hx_32)
    have hn_42 : vp_in v6 (24) := tl_in (by omega) (by omega)
    refine tp_iald (cy := cy) hx hb hK hP hx_32.1 ((tp_un hfr hx_32 (by decide)).trans hf_39) hn_42 dX11_meanNoise_35 ?_
    refine lv_topi (fun z_43 ez_43 => ?_)
    refine lv_iload_n hx hb dX11_meanNoise_36 rfl (lv_at hl 5 rfl) ?_
    refine lv_icmp_ne (tgt := 74) hx hb dX11_meanNoise_37 (by decide) (fun c_44 => ?_) (fun c_44 => ?_)
    · have c_44 : ¬ z_43.toInt = p1.toInt := tl_neq c_44
      obtain ⟨z_45, ez_45⟩ : ∃ y : Int32, y = v6 + 1 := ⟨_, rfl⟩
      refine lv_iinc (v := z_45) (lv' := [(6, .int z_45), (5, .int v5), (3, .long v3), (0, .ref o), (1, .int p0), (2, .int p1)]) hx hb dX11_meanNoise_74 hl (k := 0) rfl (by rw [ez_45]; rfl) (by decide) rfl (fun ls hl => ?_)
      try have iz_45 : z_45.toInt = v6.toInt + 1 := by rw [ez_45]; exact tl_addL v6 1 (by decide) (by omega) (by omega)
      refine lv_goto (tgt := 8) hx hb dX11_meanNoise_77 (by decide) ?_
      exact ih8 (f_1, z_45, v5, v3) H locs ls (by show (24 - z_45.toInt).toNat < (24 - v6.toInt).toNat; omega) ⟨(show 0 ≤ z_45.toInt from (by omega)), (show z_45.toInt ≤ 24 from (by omega)), hP, hI, hfr, hS, lv_sub hl [0, 1, 2, 3, 4, 5] rfl⟩
    · have c_44 : z_43.toInt = p1.toInt := tl_eq c_44
      refine lv_aload_n hx hb dX11_meanNoise_40 rfl (lv_at hl 3 rfl) ?_
      refine lv_iload_n hx hb dX11_meanNoise_41 rfl (lv_at hl 4 rfl) ?_
      refine lv_iload hx hb dX11_meanNoise_42 (lv_at hl 0 rfl) ?_
      refine lv_iconst (v := (-1)) hx hb dX11_meanNoise_44 (by decide) ?_
      refine tq_ci hS (hAf _ hS.1) (tq_rV (As := [.int p0, .int v6, .int (-1)]) (rest := []) ⟨hx, hb, hml, hown, hta⟩ (tp_P.pre hK hN hL hU hI hP) (tp_recv hK hP ho.1 ((tp_un hfr ho (by decide)).trans hf_2) rfl) lk_X11_246 (t_X11_look l D cy H.size L K Γ f_1 o p0 v6 (-1) ho) rfl rfl ⟨Nat.le_of_ble_eq_true rfl, Nat.le_of_ble_eq_true rfl⟩ rfl hl.1 rfl (Nat.le_of_ble_eq_true rfl) dX11_meanNoise_45 ⟨Nat.le_of_ble_eq_true rfl, Nat.le_of_ble_eq_true rfl⟩) (fun r_47 f_48 H locs hw_46 hP hI hc_49 hS => ?_)
      have hD : va_D A (va_pl L f_48) := tp_D hL hAL
      have hfr := tp_fr2 hfr hc_49 (by decide)
      have hw_46 : tl_J r_47 (tv_gx f_1 f_48 o) := hw_46
      refine lv_if_eq (tgt := 74) hx hb dX11_meanNoise_48 (by decide) (fun c_50 => ?_) (fun c_50 => ?_)
      · have c_50 := c_50
        obtain ⟨z_51, ez_51⟩ : ∃ y : Int32, y = v6 + 1 := ⟨_, rfl⟩
        refine lv_iinc (v := z_51) (lv' := [(6, .int z_51), (5, .int v5), (3, .long v3), (0, .ref o), (1, .int p0), (2, .int p1)]) hx hb dX11_meanNoise_74 hl (k := 0) rfl (by rw [ez_51]; rfl) (by decide) rfl (fun ls hl => ?_)
        try have iz_51 : z_51.toInt = v6.toInt + 1 := by rw [ez_51]; exact tl_addL v6 1 (by decide) (by omega) (by omega)
        refine lv_goto (tgt := 8) hx hb dX11_meanNoise_77 (by decide) ?_
        exact ih8 (f_48, z_51, v5, v3) H locs ls (by show (24 - z_51.toInt).toNat < (24 - v6.toInt).toNat; omega) ⟨(show 0 ≤ z_51.toInt from (by omega)), (show z_51.toInt ≤ 24 from (by omega)), hP, hI, hfr, hS, lv_sub hl [0, 1, 2, 3, 4, 5] rfl⟩
      · have c_50 := hw_46.t c_50
        refine lv_aload_n hx hb dX11_meanNoise_51 rfl (lv_at hl 3 rfl) ?_
        refine tp_get (cy := cy) (ci := 11) (v := .ref x_12) (C := RX11) (T := TX11) (N := 16) hx hb hta inlX11 hown hK hP ho.1 ((tp_un hfr ho (by decide)).trans hf_2) rfl 9 (by decide) (hta _ wk_42) (fun _ h9 => h9) rfl dX11_meanNoise_52 ?_
        obtain ⟨x_53, x_54, x_55, x_56, x_57, x_58, x_59, x_60, x_61, x_62, x_63, x_64, x_65, x_66, x_67, x_68, x_69, x_70, hf_52, hx_53, hx_54, hx_55, hx_56, hx_57, hx_58, hx_59, hx_60, hx_61, hx_63, hx_66⟩ := (show tp_o_VIEW L K (0) 0 (Γ (27, 0, 0)) (f_48 x_12) from hI.at hx_12)
        refine tl_si (tq_rVN hN (As := []) (rest := []) ⟨hx, hb, hml, hown, hta⟩ (tp_P.pre hK hN hL hU hI hP) (tp_recv hK hP hx_12.1 hf_52 rfl) lk_X11_252 (t_X10_isLaid l D cy H.size L K Γ f_48 x_12 hx_12) rfl rfl ⟨Nat.le_of_ble_eq_true rfl, Nat.le_of_ble_eq_true rfl⟩ rfl hl.1 rfl (Nat.le_of_ble_eq_true rfl) dX11_meanNoise_55 ⟨Nat.le_of_ble_eq_true rfl, Nat.le_of_ble_eq_true rfl⟩) (fun r_72 hw_71 => ?_)
        have hw_71 : tl_J r_72 (True) := hw_71
        refine lv_if_eq (tgt := 74) hx hb dX11_meanNoise_58 (by decide) (fun c_73 => ?_) (fun c_73 => ?_)
        · have c_73 := c_73
          obtain ⟨z_74, ez_74⟩ : ∃ y : Int32, y = v6 + 1 := ⟨_, rfl⟩
          refine lv_iinc (v := z_74) (lv' := [(6, .int z_74), (5, .int v5), (3, .long v3), (0, .ref o), (1, .int p0), (2, .int p1)]) hx hb dX11_meanNoise_74 hl (k := 0) rfl (by rw [ez_74]; rfl) (by decide) rfl (fun ls hl => ?_)
          try have iz_74 : z_74.toInt = v6.toInt + 1 := by rw [ez_74]; exact tl_addL v6 1 (by decide) (by omega) (by omega)
          refine lv_goto (tgt := 8) hx hb dX11_meanNoise_77 (by decide) ?_
          exact ih8 (f_48, z_74, v5, v3) H locs ls (by show (24 - z_74.toInt).toNat < (24 - v6.toInt).toNat; omega) ⟨(show 0 ≤ z_74.toInt from (by omega)), (show z_74.toInt ≤ 24 from (by omega)), hP, hI, hfr, hS, lv_sub hl [0, 1, 2, 3, 4, 5] rfl⟩
        · have c_73 := hw_71.t c_73
          refine lv_lload_n hx hb dX11_meanNoise_61 rfl (lv_at hl 2 rfl) ?_
          refine lv_aload_n hx hb dX11_meanNoise_62 rfl (lv_at hl 3 rfl) ?_
          refine tp_get (cy := cy) (ci := 11) (v := .ref x_12) (C := RX11) (T := TX11) (N := 16) hx hb hta inlX11 hown hK hP ho.1 ((tp_un hfr ho (by decide)).trans hf_2) rfl 9 (by decide) (hta _ wk_42) (fun _ h9 => h9) rfl dX11_meanNoise_63 ?_
          refine tl_sl (tq_rVN hN (As := []) (rest := [.long v3]) ⟨hx, hb, hml, hown, hta⟩ (tp_P.pre hK hN hL hU hI hP) (tp_recv hK hP hx_12.1 hf_52 rfl) lk_X11_268 (t_X10_noisiness l D cy H.size L K Γ f_48 x_12 hx_12) rfl rfl ⟨Nat.le_of_ble_eq_true rfl, Nat.le_of_ble_eq_true rfl⟩ rfl hl.1 rfl (Nat.le_of_ble_eq_true rfl) dX11_meanNoise_66 ⟨Nat.le_of_ble_eq_true rfl, Nat.le_of_ble_eq_true rfl⟩) (fun r_76 hw_75 => ?_)
          have hw_75 : 1 ≤ r_76.toInt := hw_75
          refine lv_ladd hx hb dX11_meanNoise_69 ?_
          refine lv_topl (fun z_77 ez_77 => ?_)
          refine lv_lstore_n (lv' := [(3, .long z_77), (6, .int v6), (5, .int v5), (0, .ref o), (1, .int p0), (2, .int p1)]) hx hb dX11_meanNoise_70 rfl hl (by decide) rfl (fun ls hl => ?_)
          obtain ⟨z_78, ez_78⟩ : ∃ y : Int32, y = v5 + 1 := ⟨_, rfl⟩
          refine lv_iinc (v := z_78) (lv' := [(5, .int z_78), (3, .long z_77), (6, .int v6), (0, .ref o), (1, .int p0), (2, .int p1)]) hx hb dX11_meanNoise_71 hl (k := 2) rfl (by rw [ez_78]; rfl) (by decide) rfl (fun ls hl => ?_)
          try have iz_78 : z_78.toInt = v5.toInt + 1 := by rw [ez_78]; exact tl_addL v5 1 (by decide) (by omega) (by omega)
          obtain ⟨z_79, ez_79⟩ : ∃ y : Int32, y = v6 + 1 := ⟨_, rfl⟩
          refine lv_iinc (v := z_79) (lv' := [(6, .int z_79), (5, .int z_78), (3, .long z_77), (0, .ref o), (1, .int p0), (2, .int p1)]) hx hb dX11_meanNoise_74 hl (k := 2) rfl (by rw [ez_79]; rfl) (by decide) rfl (fun ls hl => ?_)
          try have iz_79 : z_79.toInt = v6.toInt + 1 := by rw [ez_79]; exact tl_addL v6 1 (by decide) (by omega) (by omega)
          refine lv_goto (tgt := 8) hx hb dX11_meanNoise_77 (by decide) ?_
          exact ih8 (f_48, z_79, z_78, z_77) H locs ls (by show (24 - z_79.toInt).toNat < (24 - v6.toInt).toNat; omega) ⟨(show 0 ≤ z_79.toInt from (by omega)), (show z_79.toInt ≤ 24 from (by omega)), hP, hI, hfr, hS, lv_sub hl [0, 1, 2, 3, 4, 5] rfl⟩
set_option maxHeartbeats 4000000 in
set_option maxRecDepth 100000 in
theorem t_X11_findWorths (l : Launch) (D : va_G) (cy : Nat → ClassId) (sz : Nat) (L : List Nat) (K : Nat → tk_K) (Γ : tk_G) (f : Nat → va_E) (o : Nat) (p0 : Int32) (ho : tp_r L K 0 (0) 0 o) : Met l yX11_findWorths (tl_w yX11_findWorths cX11_findWorths 8 none) ({ frames := 6, cells := 0, slots := 0, locals := 139 }) (va_Pc [.ref o, .int p0] (tp_P D cy L K Γ f sz)) (va_Qv (fun (u : Nat → va_E) => True) (tp_B D cy L K Γ f [28, 29, 23, 24, 27, 30, 31, 32, 38]) (tp_A L sz)) 0 0 (tp_A L sz) := by
  refine Met.ofW (cc := cX11_findWorths) (maxL := 8) (ret := none) (by decide) rfl ?_
  intro p e s m args below meth c s₁ B hml hv
  obtain ⟨rfl, hsz, hP, hK, hL, hI, hN, hU⟩ := hv
  have hx := B.exec
  have hb := B.bytes
  have hr := B.returns
  have hta := tl_hta (atoms_spec (ws := tl_w yX11_findWorths cX11_findWorths 8 none) B.pre)
  have hown : s.vm.findClass RX11 = some m.cls := findClass_of_methodNamed B.named
  have hlocks := B.notSynchronized
  subst hsz
  have hI0 := hI
  generalize hAe : tp_A L s.heap.size = A
  have hA : ∀ q : Nat, s.heap.size ≤ q → A q := fun q h => by rw [← hAe]; exact Or.inr h
  have hAL : ∀ q ∈ L, A q := fun q h => by rw [← hAe]; exact Or.inl h
  have hAf : ∀ (H : Heap), s.heap.size ≤ H.size → ∀ q, tp_A L H.size q → A q := fun H h q hq => hq.elim (hAL q) (fun h2 => hA q (Nat.le_trans h h2))
  have hS : va_S A s.heap s.heap [] := va_S.rf
  have hD : va_D A (va_pl L f) := tp_D hL hAL
  have hfr : ∀ b, (K b).1 ∉ ([28, 29, 23, 24, 27, 30, 31, 32, 38] : List Nat) → f b = f b := fun _ _ => rfl
  have hl := lv_entry ([.ref o, .int p0]) (n := 8) (Nat.le_of_ble_eq_true rfl)
  rw [lg_entry_eq]
  generalize (lg_sl ([.ref o, .int p0]) ++ List.replicate (8 - (lg_sl ([.ref o, .int p0])).length) Slot.unset).toArray = ls at hl ⊢
  have hl : lv_has ls 8 [(0, .ref o), (1, .int p0)] := hl
  refine lv_iconst (v := 0) hx hb dX11_findWorths_0 (by decide) ?_
  refine lv_istore_n (lv' := [(2, .int 0), (0, .ref o), (1, .int p0)]) hx hb dX11_findWorths_1 rfl hl (by decide) rfl (fun ls hl => ?_)
  refine tq_start hP hS (fun H locs hP hS => ?_)
  refine tl_ind (G := fun H locs ls => W p l e ((headSpec (tl_w yX11_findWorths cX11_findWorths 8 none) ({ frames := 6, cells := 0, slots := 0, locals := 139 })).room) s m #[.ref o, .int p0] below meth c H locs 0 0 (MQ below (va_Qv (fun (u : Nat → va_E) => True) (tp_B D cy L K Γ f [28, 29, 23, 24, 27, 30, 31, 32, 38]) A) #[.ref o, .int p0] s 0 0 A) (F0 m 2 ls [])) (α := (Nat → va_E) × Int32) (fun aq => (4 - aq.2.toInt).toNat) (fun aq H locs ls => (0 ≤ aq.2.toInt) ∧ (aq.2.toInt ≤ 4) ∧ va_P D vwCl (va_pl L aq.1) H ∧ tp_I cy L K Γ aq.1 ∧ (∀ b, (K b).1 ∉ ([28, 29, 23, 24, 27, 30, 31, 32, 38] : List Nat) → aq.1 b = f b) ∧ va_S A s.heap H locs ∧ lv_has ls 8 [(2, .int aq.2), (0, .ref o), (1, .int p0)]) ?_ (f, (0 : Int32)) H locs ls ⟨(show 0 ≤ (0 : Int) from (by omega)), (show (0 : Int) ≤ 4 from (by omega)), hP, hI, hfr, hS, lv_sub hl [0, 1, 2] rfl⟩
  rintro ⟨f_1, v2⟩ H locs ls ⟨h0, h1, hP, hI, hfr, hS, hl⟩ ih2
  have hP : va_P D vwCl (va_pl L f_1) H := hP
  have hI : tp_I cy L K Γ f_1 := hI
  have hfr : ∀ b, (K b).1 ∉ ([28, 29, 23, 24, 27, 30, 31, 32, 38] : List Nat) → f_1 b = f b := hfr
  have hD : va_D A (va_pl L f_1) := tp_D hL hAL
  have h0 : 0 ≤ v2.toInt := h0
  have h1 : v2.toInt ≤ 4 := h1
  have hl : lv_has ls 8 [(2, .int v2), (0, .ref o), (1, .int p0)] := hl
  refine lv_iload_n hx hb dX11_findWorths_2 rfl (lv_at hl 0 rfl) ?_
  refine lv_iconst (v := 4) hx hb dX11_findWorths_3 (by decide) ?_
  refine lv_icmp_ge (tgt := 112) hx hb dX11_findWorths_4 (by decide) (fun c_2 => ?_) (fun c_2 => ?_)
  · have c_2 : (4 : Int) ≤ v2.toInt := tl_le c_2
    exact W.vret hx hb hr (fun t ht hW => ⟨⟨f_1, rfl, trivial, by rw [ht]; exact hP, hI, hfr⟩, hS.F ht⟩) hS.2.2 dX11_findWorths_112
  · have c_2 : v2.toInt < (4 : Int) := tl_nle c_2
    refine lv_aload_n hx hb dX11_findWorths_7 rfl (lv_at hl 1 rfl) ?_
    refine lv_iload_n hx hb dX11_findWorths_8 rfl (lv_at hl 2 rfl) ?_
    refine lv_iload_n hx hb dX11_findWorths_9 rfl (lv_at hl 0 rfl) ?_
    obtain ⟨x_4, x_5, x_6, x_7, x_8, x_9, x_10, x_11, x_12, x_13, x_14, x_15, x_16, x_17, x_18, x_19, hf_3, hx_4, hx_5, hx_6, hx_7, hx_8, hx_9, hx_10, hx_11, hx_12, hx_13, hx_14, hx_15, hx_16, hx_17, hx_18, hx_19⟩ := (show tp_o_X L K (0) 0 (Γ (0, 0, 0)) (f o) from hI0.at ho)
    refine tq_cl hS (hAf _ hS.1) (tq_rV (As := [.int p0, .int v2]) (rest := []) ⟨hx, hb, hml, hown, hta⟩ (tp_P.pre hK hN hL hU hI hP) (tp_recv hK hP ho.1 ((tp_un hfr ho (by decide)).trans hf_3) rfl) lk_X11_432 (t_X11_meanNoise l D cy H.size L K Γ f_1 o p0 v2 ho) rfl rfl ⟨Nat.le_of_ble_eq_true rfl, Nat.le_of_ble_eq_true rfl⟩ rfl hl.1 rfl (Nat.le_of_ble_eq_true rfl) dX11_findWorths_10 ⟨Nat.le_of_ble_eq_true rfl, Nat.le_of_ble_eq_true rfl⟩) (fun r_21 f_22 H locs hw_20 hP hI hc_23 hS => ?_)
    have hD : va_D A (va_pl L f_22) := tp_D hL hAL
    have hfr := tp_fr2 hfr hc_23 (by decide)
    refine lv_lstore_n (lv' := [(3, .long r_21), (2, .int v2), (0, .ref o), (1, .int p0)]) hx hb dX11_findWorths_13 rfl hl (by decide) rfl (fun ls hl => ?_)
    refine lv_iconst (v := 0) hx hb dX11_findWorths_14 (by decide) ?_
    refine lv_istore (lv' := [(5, .int 0), (3, .long r_21), (2, .int v2), (0, .ref o), (1, .int p0)]) hx hb dX11_findWorths_15 hl (by decide) rfl (fun ls hl => ?_)
    refine tl_ind (G := fun H locs ls => W p l e ((headSpec (tl_w yX11_findWorths cX11_findWorths 8 none) ({ frames := 6, cells := 0, slots := 0, locals := 139 })).room) s m #[.ref o, .int p0] below meth c H locs 0 0 (MQ below (va_Qv (fun (u : Nat → va_E) => True) (tp_B D cy L K Γ f [28, 29, 23, 24, 27, 30, 31, 32, 38]) A) #[.ref o, .int p0] s 0 0 A) (F0 m 17 ls [])) (α := (Nat → va_E) × Int32) (fun aq => (10 - aq.2.toInt).toNat) (fun aq H locs ls => (0 ≤ aq.2.toInt) ∧ (aq.2.toInt ≤ 10) ∧ va_P D vwCl (va_pl L aq.1) H ∧ tp_I cy L K Γ aq.1 ∧ (∀ b, (K b).1 ∉ ([28, 29, 23, 24, 27, 30, 31, 32, 38] : List Nat) → aq.1 b = f b) ∧ va_S A s.heap H locs ∧ lv_has ls 8 [(5, .int aq.2), (3, .long r_21), (2, .int v2), (0, .ref o), (1, .int p0)]) ?_ (f_22, (0 : Int32)) H locs ls ⟨(show 0 ≤ (0 : Int) from (by omega)), (show (0 : Int) ≤ 10 from (by omega)), hP, hI, hfr, hS, lv_sub hl [0, 1, 2, 3, 4] rfl⟩
    rintro ⟨f_24, v5⟩ H locs ls ⟨h0, h1, hP, hI, hfr, hS, hl⟩ ih17
    have hP : va_P D vwCl (va_pl L f_24) H := hP
    have hI : tp_I cy L K Γ f_24 := hI
    have hfr : ∀ b, (K b).1 ∉ ([28, 29, 23, 24, 27, 30, 31, 32, 38] : List Nat) → f_24 b = f b := hfr
    have hD : va_D A (va_pl L f_24) := tp_D hL hAL
    have h0 : 0 ≤ v5.toInt := h0
    have h1 : v5.toInt ≤ 10 := h1
    have hl : lv_has ls 8 [(5, .int v5), (3, .long r_21), (2, .int v2), (0, .ref o), (1, .int p0)] := hl
    refine lv_iload hx hb dX11_findWorths_17 (lv_at hl 0 rfl) ?_
    refine lv_aload_n hx hb dX11_findWorths_19 rfl (lv_at hl 3 rfl) ?_
    refine tp_get (cy := cy) (ci := 11) (v := .ref x_4) (C := RX11) (T := TX11) (N := 16) hx hb hta inlX11 hown hK hP ho.1 ((tp_un hfr ho (by decide)).trans hf_3) rfl 0 (by decide) (hta _ wk_15) (fun _ h9 => h9) rfl dX11_findWorths_20 ?_
    obtain ⟨x_26, x_27, x_28, x_29, x_30, x_31, x_32, x_33, x_34, hf_25, hx_26, hx_27, hx_28, hx_29, hx_30, hx_31, hx_32, hx_33, hx_34⟩ := (show tp_o_BOOK L K (0) 0 (Γ (1, 0, 0)) (f x_4) from hI0.at hx_4)
    refine tp_getN (cy := cy) (ci := 0) (v := .ref x_31) (C := RX0) (T := TX0) (N := 9) hx hb hta inlX0 hown hK hP hx_4.1 ((tp_un hfr hx_4 (by decide)).trans hf_25) rfl 5 (by decide) (va_Nw.use rfl (hN.1 23 _ nk_23)) (fun _ h9 => h9) rfl dX11_findWorths_23 ?_
    obtain ⟨x_36, x_37, x_38, hf_35, hx_36, hx_37, hx_38⟩ := (show tp_o_TABLE L K (10) 0 (Γ (7, 10, 0)) (f x_31) from hI0.at hx_31)
    refine tp_getN (cy := cy) (ci := 6) (v := .int x_38) (C := RX6) (T := TX6) (N := 3) hx hb hta inlX6 hown hK hP hx_31.1 ((tp_un hfr hx_31 (by decide)).trans hf_35) rfl 2 (by decide) (va_Nw.use rfl (hN.1 15 _ nk_15)) (fun _ h9 => h9) rfl dX11_findWorths_26 ?_
    refine lv_icmp_ge (tgt := 106) hx hb dX11_findWorths_29 (by decide) (fun c_39 => ?_) (fun c_39 => ?_)
    · have c_39 : x_38.toInt ≤ v5.toInt := tl_le c_39
      obtain ⟨z_40, ez_40⟩ : ∃ y : Int32, y = v2 + 1 := ⟨_, rfl⟩
      refine lv_iinc (v := z_40) (lv' := [(2, .int z_40), (5, .int v5), (3, .long r_21), (0, .ref o), (1, .int p0)]) hx hb dX11_findWorths_106 hl (k := 2) rfl (by rw [ez_40]; rfl) (by decide) rfl (fun ls hl => ?_)
      try have iz_40 : z_40.toInt = v2.toInt + 1 := by rw [ez_40]; exact tl_addL v2 1 (by decide) (by omega) (by omega)
      refine lv_goto (tgt := 2) hx hb dX11_findWorths_109 (by decide) ?_
      exact ih2 (f_24, z_40) H locs ls (by show (4 - z_40.toInt).toNat < (4 - v2.toInt).toNat; omega) ⟨(show 0 ≤ z_40.toInt from (by omega)), (show z_40.toInt ≤ 4 from (by omega)), hP, hI, hfr, hS, lv_sub hl [0, 3, 4] rfl⟩
    · have c_39 : v5.toInt < x_38.toInt := tl_nle c_39
      refine lv_iload hx hb dX11_findWorths_32 (lv_at hl 0 rfl) ?_
      refine lv_aload_n hx hb dX11_findWorths_34 rfl (lv_at hl 3 rfl) ?_
      refine tp_get (cy := cy) (ci := 11) (v := .ref x_18) (C := RX11) (T := TX11) (N := 16) hx hb hta inlX11 hown hK hP ho.1 ((tp_un hfr ho (by decide)).trans hf_3) rfl 14 (by decide) (hta _ wk_52) (fun _ h9 => h9) rfl dX11_findWorths_35 ?_
      obtain ⟨g_42, hf_41⟩ := (show tp_aj cy (10) (f_24 x_18) from hI.at hx_18)
      refine tp_alen (cy := cy) (t0 := 1) (v := 10) hx hb hK hP hx_18.1 rfl hf_41 rfl dX11_findWorths_38 ?_
      refine lv_icmp_ge (tgt := 106) hx hb dX11_findWorths_39 (by decide) (fun c_44 => ?_) (fun c_44 => ?_)
      · have c_44 : (10 : Int) ≤ v5.toInt := tl_le c_44
        obtain ⟨z_45, ez_45⟩ : ∃ y : Int32, y = v2 + 1 := ⟨_, rfl⟩
        refine lv_iinc (v := z_45) (lv' := [(2, .int z_45), (5, .int v5), (3, .long r_21), (0, .ref o), (1, .int p0)]) hx hb dX11_findWorths_106 hl (k := 2) rfl (by rw [ez_45]; rfl) (by decide) rfl (fun ls hl => ?_)
        try have iz_45 : z_45.toInt = v2.toInt + 1 := by rw [ez_45]; exact tl_addL v2 1 (by decide) (by omega) (by omega)
        refine lv_goto (tgt := 2) hx hb dX11_findWorths_109 (by decide) ?_
        exact ih2 (f_24, z_45) H locs ls (by show (4 - z_45.toInt).toNat < (4 - v2.toInt).toNat; omega) ⟨(show 0 ≤ z_45.toInt from (by omega)), (show z_45.toInt ≤ 4 from (by omega)), hP, hI, hfr, hS, lv_sub hl [0, 3, 4] rfl⟩
      · have c_44 : v5.toInt < (10 : Int) := tl_nle c_44
        refine lv_aload_n hx hb dX11_findWorths_42 rfl (lv_at hl 3 rfl) ?_
        refine tp_get (cy := cy) (ci := 11) (v := .ref x_4) (C := RX11) (T := TX11) (N := 16) hx hb hta inlX11 hown hK hP ho.1 ((tp_un hfr ho (by decide)).trans hf_3) rfl 0 (by decide) (hta _ wk_15) (fun _ h9 => h9) rfl dX11_findWorths_43 ?_
        refine tp_getN (cy := cy) (ci := 0) (v := .ref x_31) (C := RX0) (T := TX0) (N := 9) hx hb hta inlX0 hown hK hP hx_4.1 ((tp_un hfr hx_4 (by decide)).trans hf_25) rfl 5 (by decide) (va_Nw.use rfl (hN.1 23 _ nk_23)) (fun _ h9 => h9) rfl dX11_findWorths_46 ?_
        refine lv_iload hx hb dX11_findWorths_49 (lv_at hl 0 rfl) ?_
        refine lv_iconst (v := 0) hx hb dX11_findWorths_51 (by decide) ?_
        refine tl_si (tq_rVN hN (As := [.int v5, .int 0]) (rest := []) ⟨hx, hb, hml, hown, hta⟩ (tp_P.pre hK hN hL hU hI hP) (tp_recv hK hP hx_31.1 ((tp_un hfr hx_31 (by decide)).trans hf_35) rfl) lk_X11_157 (t_X6_cell l D cy H.size L K Γ f_24 10 0 x_31 v5 0 hx_31 (by first | omega | (simp only [Int32.toInt_toInt64]; omega) | decide | assumption)) rfl rfl ⟨Nat.le_of_ble_eq_true rfl, Nat.le_of_ble_eq_true rfl⟩ rfl hl.1 rfl (Nat.le_of_ble_eq_true rfl) dX11_findWorths_52 ⟨Nat.le_of_ble_eq_true rfl, Nat.le_of_ble_eq_true rfl⟩) (fun r_47 hw_46 => ?_)
        refine lv_iload_n hx hb dX11_findWorths_55 rfl (lv_at hl 2 rfl) ?_
        refine lv_icmp_ne (tgt := 100) hx hb dX11_findWorths_56 (by decide) (fun c_48 => ?_) (fun c_48 => ?_)
        · have c_48 : ¬ r_47.toInt = v2.toInt := tl_neq c_48
          obtain ⟨z_49, ez_49⟩ : ∃ y : Int32, y = v5 + 1 := ⟨_, rfl⟩
          refine lv_iinc (v := z_49) (lv' := [(5, .int z_49), (3, .long r_21), (2, .int v2), (0, .ref o), (1, .int p0)]) hx hb dX11_findWorths_100 hl (k := 0) rfl (by rw [ez_49]; rfl) (by decide) rfl (fun ls hl => ?_)
          try have iz_49 : z_49.toInt = v5.toInt + 1 := by rw [ez_49]; exact tl_addL v5 1 (by decide) (by omega) (by omega)
          refine lv_goto (tgt := 17) hx hb dX11_findWorths_103 (by decide) ?_
          exact ih17 (f_24, z_49) H locs ls (by show (10 - z_49.toInt).toNat < (10 - v5.toInt).toNat; omega) ⟨(show 0 ≤ z_49.toInt from (by omega)), (show z_49.toInt ≤ 10 from (by omega)), hP, hI, hfr, hS, lv_sub hl [0, 1, 2, 3, 4] rfl⟩
        · have c_48 : r_47.toInt = v2.toInt := tl_eq c_48
          refine lv_aload_n hx hb dX11_findWorths_59 rfl (lv_at hl 3 rfl) ?_
          refine tp_get (cy := cy) (ci := 11) (v := .ref x_4) (C := RX11) (T := TX11) (N := 16) hx hb hta inlX11 hown hK hP ho.1 ((tp_un hfr ho (by decide)).trans hf_3) rfl 0 (by decide) (hta _ wk_15) (fun _ h9 => h9) rfl dX11_findWorths_60 ?_
          refine tp_getN (cy := cy) (ci := 0) (v := .ref x_31) (C := RX0) (T := TX0) (N := 9) hx hb hta inlX0 hown hK hP hx_4.1 ((tp_un hfr hx_4 (by decide)).trans hf_25) rfl 5 (by decide) (va_Nw.use rfl (hN.1 23 _ nk_23)) (fun _ h9 => h9) rfl dX11_findWorths_63 ?_
          refine lv_iload hx hb dX11_findWorths_66 (lv_at hl 0 rfl) ?_
          refine lv_iconst (v := 1) hx hb dX11_findWorths_68 (by decide) ?_
          refine tl_si (tq_rVN hN (As := [.int v5, .int 1]) (rest := []) ⟨hx, hb, hml, hown, hta⟩ (tp_P.pre hK hN hL hU hI hP) (tp_recv hK hP hx_31.1 ((tp_un hfr hx_31 (by decide)).trans hf_35) rfl) lk_X11_157 (t_X6_cell l D cy H.size L K Γ f_24 10 0 x_31 v5 1 hx_31 (by first | omega | (simp only [Int32.toInt_toInt64]; omega) | decide | assumption)) rfl rfl ⟨Nat.le_of_ble_eq_true rfl, Nat.le_of_ble_eq_true rfl⟩ rfl hl.1 rfl (Nat.le_of_ble_eq_true rfl) dX11_findWorths_69 ⟨Nat.le_of_ble_eq_true rfl, Nat.le_of_ble_eq_true rfl⟩) (fun r_51 hw_50 => ?_)
          refine lv_i2l (v := r_51.toInt64) hx hb dX11_findWorths_72 (by first | rfl | decide) ?_
          refine lv_lstore (lv' := [(6, .long r_51.toInt64), (5, .int v5), (3, .long r_21), (2, .int v2), (0, .ref o), (1, .int p0)]) hx hb dX11_findWorths_73 hl (by decide) rfl (fun ls hl => ?_)
          refine lv_aload_n hx hb dX11_findWorths_75 rfl (lv_at hl 4 rfl) ?_
          refine tp_get (cy := cy) (ci := 11) (v := .ref x_18) (C := RX11) (T := TX11) (N := 16) hx hb hta inlX11 hown hK hP ho.1 ((tp_un hfr ho (by decide)).trans hf_3) rfl 14 (by decide) (hta _ wk_52) (fun _ h9 => h9) rfl dX11_findWorths_76 ?_
          refine lv_iload hx hb dX11_findWorths_79 (lv_at hl 1 rfl) ?_
          refine lv_lload_n hx hb dX11_findWorths_81 rfl (lv_at hl 2 rfl) ?_
          refine lv_lconst (v := 1) hx hb dX11_findWorths_82 (by decide) ?_
          refine W.lcmp hx hb dX11_findWorths_83 ?_
          refine lv_if_ge (tgt := 91) hx hb dX11_findWorths_84 (by decide) (fun c_52 => ?_) (fun c_52 => ?_)
          · have c_52 : r_21.toInt ≥ (1 : Int) := tl_cmp_ge c_52
            refine lv_lload hx hb dX11_findWorths_91 (lv_at hl 0 rfl) ?_
            refine lv_ldc2 (v := 1000000) hx hb hown (hta _ wk_1388) dX11_findWorths_93 ?_
            refine lv_lmul hx hb dX11_findWorths_96 ?_
            refine lv_topl (fun z_53 ez_53 => ?_)
            refine lv_lload_n hx hb dX11_findWorths_97 rfl (lv_at hl 2 rfl) ?_
            refine lv_ldiv hx hb dX11_findWorths_98 (tl_ne0L (by omega)) ?_
            refine lv_topl (fun z_54 ez_54 => ?_)
            have hn_55 : vp_in v5 (10) := tl_in (by omega) (by omega)
            have hI9 : tp_I cy L K Γ (va_up f_24 x_18 (.inl (cy 1, 10, .inr (.inl (vp_updL g_42 v5.toNatClampNeg z_54))))) := hI.set hx_18 (show tp_aj cy (10) _ from ⟨_, rfl⟩)
            have hfr9 : ∀ b, (K b).1 ∉ ([28, 29, 23, 24, 27, 30, 31, 32, 38] : List Nat) → va_up f_24 x_18 (.inl (cy 1, 10, .inr (.inl (vp_updL g_42 v5.toNatClampNeg z_54)))) b = f b := tp_fr hfr hx_18 (by decide)
            refine tp_last (cy := cy) hx hb hK hP hD hS hx_18.1 hf_41 hn_55 dX11_findWorths_99 (fun H locs hP hD hS => ?_)
            have hP : va_P D vwCl (va_pl L (va_up f_24 x_18 (.inl (cy 1, 10, .inr (.inl (vp_updL g_42 v5.toNatClampNeg z_54)))))) H := hP
            generalize hfe : va_up f_24 x_18 (.inl (cy 1, 10, .inr (.inl (vp_updL g_42 v5.toNatClampNeg z_54)))) = f_56 at hP hI9 hfr9
            have hD : va_D A (va_pl L f_56) := tp_D hL hAL
            have hf_57 : f_56 x_18 = .inl (cy 1, 10, .inr (.inl (vp_updL g_42 v5.toNatClampNeg z_54))) := by rw [← hfe]; exact va_up_self _ _ _
            clear hfe
            have hI := hI9
            have hfr := hfr9
            clear hI9 hfr9
            obtain ⟨z_58, ez_58⟩ : ∃ y : Int32, y = v5 + 1 := ⟨_, rfl⟩
            refine lv_iinc (v := z_58) (lv' := [(5, .int z_58), (6, .long r_51.toInt64), (3, .long r_21), (2, .int v2), (0, .ref o), (1, .int p0)]) hx hb dX11_findWorths_100 hl (k := 1) rfl (by rw [ez_58]; rfl) (by decide) rfl (fun ls hl => ?_)
            try have iz_58 : z_58.toInt = v5.toInt + 1 := by rw [ez_58]; exact tl_addL v5 1 (by decide) (by omega) (by omega)
            refine lv_goto (tgt := 17) hx hb dX11_findWorths_103 (by decide) ?_
            exact ih17 (f_56, z_58) H locs ls (by show (10 - z_58.toInt).toNat < (10 - v5.toInt).toNat; omega) ⟨(show 0 ≤ z_58.toInt from (by omega)), (show z_58.toInt ≤ 10 from (by omega)), hP, hI, hfr, hS, lv_sub hl [0, 2, 3, 4, 5] rfl⟩
          · have c_52 : r_21.toInt < (1 : Int) := tl_cmp_nge c_52
            refine lv_lconst (v := 0) hx hb dX11_findWorths_87 (by decide) ?_
            refine lv_goto (tgt := 99) hx hb dX11_findWorths_88 (by decide) ?_
            have hn_59 : vp_in v5 (10) := tl_in (by omega) (by omega)
            have hI9 : tp_I cy L K Γ (va_up f_24 x_18 (.inl (cy 1, 10, .inr (.inl (vp_updL g_42 v5.toNatClampNeg 0))))) := hI.set hx_18 (show tp_aj cy (10) _ from ⟨_, rfl⟩)
            have hfr9 : ∀ b, (K b).1 ∉ ([28, 29, 23, 24, 27, 30, 31, 32, 38] : List Nat) → va_up f_24 x_18 (.inl (cy 1, 10, .inr (.inl (vp_updL g_42 v5.toNatClampNeg 0)))) b = f b := tp_fr hfr hx_18 (by decide)
            refine tp_last (cy := cy) hx hb hK hP hD hS hx_18.1 hf_41 hn_59 dX11_findWorths_99 (fun H locs hP hD hS => ?_)
            have hP : va_P D vwCl (va_pl L (va_up f_24 x_18 (.inl (cy 1, 10, .inr (.inl (vp_updL g_42 v5.toNatClampNeg 0)))))) H := hP
            generalize hfe : va_up f_24 x_18 (.inl (cy 1, 10, .inr (.inl (vp_updL g_42 v5.toNatClampNeg 0)))) = f_60 at hP hI9 hfr9
            have hD : va_D A (va_pl L f_60) := tp_D hL hAL
            have hf_61 : f_60 x_18 = .inl (cy 1, 10, .inr (.inl (vp_updL g_42 v5.toNatClampNeg 0))) := by rw [← hfe]; exact va_up_self _ _ _
            clear hfe
            have hI := hI9
            have hfr := hfr9
            clear hI9 hfr9
            obtain ⟨z_62, ez_62⟩ : ∃ y : Int32, y = v5 + 1 := ⟨_, rfl⟩
            refine lv_iinc (v := z_62) (lv' := [(5, .int z_62), (6, .long r_51.toInt64), (3, .long r_21), (2, .int v2), (0, .ref o), (1, .int p0)]) hx hb dX11_findWorths_100 hl (k := 1) rfl (by rw [ez_62]; rfl) (by decide) rfl (fun ls hl => ?_)
            try have iz_62 : z_62.toInt = v5.toInt + 1 := by rw [ez_62]; exact tl_addL v5 1 (by decide) (by omega) (by omega)
            refine lv_goto (tgt := 17) hx hb dX11_findWorths_103 (by decide) ?_
            exact ih17 (f_60, z_62) H locs ls (by show (10 - z_62.toInt).toNat < (10 - v5.toInt).toNat; omega) ⟨(show 0 ≤ z_62.toInt from (by omega)), (show z_62.toInt ≤ 10 from (by omega)), hP, hI, hfr, hS, lv_sub hl [0, 2, 3, 4, 5] rfl⟩
set_option maxHeartbeats 4000000 in
set_option maxRecDepth 100000 in
theorem t_X11_hoursOf (l : Launch) (D : va_G) (cy : Nat → ClassId) (sz : Nat) (L : List Nat) (K : Nat → tk_K) (Γ : tk_G) (f : Nat → va_E) (o : Nat) (p0 : Int32) (ho : tp_r L K 0 (0) 0 o) : Met l yX11_hoursOf (tl_w yX11_hoursOf cX11_hoursOf 4 (some .int)) ({ frames := 1, cells := 0, slots := 0, locals := 23 }) (va_Pc [.ref o, .int p0] (tp_P D cy L K Γ f sz)) (vp_Si (fun r : Int32 => True)) 0 0 (fun _ => False) := by
  refine Met.ofW (cc := cX11_hoursOf) (maxL := 4) (ret := (some .int)) (by decide) rfl ?_
  intro p e s m args below meth c s₁ B hml hv
  obtain ⟨rfl, hsz, hP, hK, hL, hI, hN, hU⟩ := hv
  have hx := B.exec
  have hb := B.bytes
  have hr := B.returns
  have hta := tl_hta (atoms_spec (ws := tl_w yX11_hoursOf cX11_hoursOf 4 (some .int)) B.pre)
  have hown : s.vm.findClass RX11 = some m.cls := findClass_of_methodNamed B.named
  have hlocks := B.notSynchronized
  subst hsz
  have hI0 := hI
  have hl := lv_entry ([.ref o, .int p0]) (n := 4) (Nat.le_of_ble_eq_true rfl)
  rw [lg_entry_eq]
  generalize (lg_sl ([.ref o, .int p0]) ++ List.replicate (4 - (lg_sl ([.ref o, .int p0])).length) Slot.unset).toArray = ls at hl ⊢
  have hl : lv_has ls 4 [(0, .ref o), (1, .int p0)] := hl
  refine lv_iconst (v := 0) hx hb dX11_hoursOf_0 (by decide) ?_
  refine lv_istore_n (lv' := [(2, .int 0), (0, .ref o), (1, .int p0)]) hx hb dX11_hoursOf_1 rfl hl (by decide) rfl (fun ls hl => ?_)
  refine lv_iconst (v := 0) hx hb dX11_hoursOf_2 (by decide) ?_
  refine lv_istore_n (lv' := [(3, .int 0), (2, .int 0), (0, .ref o), (1, .int p0)]) hx hb dX11_hoursOf_3 rfl hl (by decide) rfl (fun ls hl => ?_)
  refine tl_indR (G := fun ls => W p l e ((headSpec (tl_w yX11_hoursOf cX11_hoursOf 4 (some .int)) ({ frames := 1, cells := 0, slots := 0, locals := 23 })).room) s m #[.ref o, .int p0] below meth c s.heap [] 0 0 (MQ below (vp_Si (fun r : Int32 => True)) #[.ref o, .int p0] s 0 0 (fun _ => False)) (F0 m 4 ls [])) (α := Int32 × Int32) (fun aq => (10 - aq.1.toInt).toNat) (fun aq ls => (0 ≤ aq.1.toInt) ∧ (aq.1.toInt ≤ 10) ∧ lv_has ls 4 [(3, .int aq.1), (2, .int aq.2), (0, .ref o), (1, .int p0)]) ?_ ((0 : Int32), (0 : Int32)) ls ⟨(show 0 ≤ (0 : Int) from (by omega)), (show (0 : Int) ≤ 10 from (by omega)), lv_sub hl [0, 1, 2, 3] rfl⟩
  rintro ⟨v3, v2⟩ ls ⟨h0, h1, hl⟩ ih4
  have h0 : 0 ≤ v3.toInt := h0
  have h1 : v3.toInt ≤ 10 := h1
  have hl : lv_has ls 4 [(3, .int v3), (2, .int v2), (0, .ref o), (1, .int p0)] := hl
  refine lv_iload_n hx hb dX11_hoursOf_4 rfl (lv_at hl 0 rfl) ?_
  refine lv_aload_n hx hb dX11_hoursOf_5 rfl (lv_at hl 2 rfl) ?_
  obtain ⟨x_2, x_3, x_4, x_5, x_6, x_7, x_8, x_9, x_10, x_11, x_12, x_13, x_14, x_15, x_16, x_17, hf_1, hx_2, hx_3, hx_4, hx_5, hx_6, hx_7, hx_8, hx_9, hx_10, hx_11, hx_12, hx_13, hx_14, hx_15, hx_16, hx_17⟩ := (show tp_o_X L K (0) 0 (Γ (0, 0, 0)) (f o) from hI0.at ho)
  refine tp_get (cy := cy) (ci := 11) (v := .ref x_2) (C := RX11) (T := TX11) (N := 16) hx hb hta inlX11 hown hK hP ho.1 hf_1 rfl 0 (by decide) (hta _ wk_15) (fun _ h9 => h9) rfl dX11_hoursOf_6 ?_
  obtain ⟨x_19, x_20, x_21, x_22, x_23, x_24, x_25, x_26, x_27, hf_18, hx_19, hx_20, hx_21, hx_22, hx_23, hx_24, hx_25, hx_26, hx_27⟩ := (show tp_o_BOOK L K (0) 0 (Γ (1, 0, 0)) (f x_2) from hI0.at hx_2)
  refine tp_getN (cy := cy) (ci := 0) (v := .ref x_24) (C := RX0) (T := TX0) (N := 9) hx hb hta inlX0 hown hK hP hx_2.1 hf_18 rfl 5 (by decide) (va_Nw.use rfl (hN.1 23 _ nk_23)) (fun _ h9 => h9) rfl dX11_hoursOf_9 ?_
  obtain ⟨x_29, x_30, x_31, hf_28, hx_29, hx_30, hx_31⟩ := (show tp_o_TABLE L K (10) 0 (Γ (7, 10, 0)) (f x_24) from hI0.at hx_24)
  refine tp_getN (cy := cy) (ci := 6) (v := .int x_31) (C := RX6) (T := TX6) (N := 3) hx hb hta inlX6 hown hK hP hx_24.1 hf_28 rfl 2 (by decide) (va_Nw.use rfl (hN.1 15 _ nk_15)) (fun _ h9 => h9) rfl dX11_hoursOf_12 ?_
  refine lv_icmp_ge (tgt := 45) hx hb dX11_hoursOf_15 (by decide) (fun c_32 => ?_) (fun c_32 => ?_)
  · have c_32 : x_31.toInt ≤ v3.toInt := tl_le c_32
    refine lv_iload_n hx hb dX11_hoursOf_45 rfl (lv_at hl 1 rfl) ?_
    exact W.iret (v := v2) hx hb hr (fun t ht hW => ⟨_, rfl, trivial, ht⟩) (fun q h => by cases h) dX11_hoursOf_46
  · have c_32 : v3.toInt < x_31.toInt := tl_nle c_32
    refine lv_iload_n hx hb dX11_hoursOf_18 rfl (lv_at hl 1 rfl) ?_
    refine lv_iload_n hx hb dX11_hoursOf_19 rfl (lv_at hl 3 rfl) ?_
    refine lv_iload_n hx hb dX11_hoursOf_20 rfl (lv_at hl 0 rfl) ?_
    refine lv_ishr hx hb dX11_hoursOf_21 ?_
    refine lv_topi (fun z_33 ez_33 => ?_)
    refine lv_iconst (v := 1) hx hb dX11_hoursOf_22 (by decide) ?_
    refine lv_iand hx hb dX11_hoursOf_23 ?_
    refine lv_topi (fun z_34 ez_34 => ?_)
    refine lv_aload_n hx hb dX11_hoursOf_24 rfl (lv_at hl 2 rfl) ?_
    refine tp_get (cy := cy) (ci := 11) (v := .ref x_2) (C := RX11) (T := TX11) (N := 16) hx hb hta inlX11 hown hK hP ho.1 hf_1 rfl 0 (by decide) (hta _ wk_15) (fun _ h9 => h9) rfl dX11_hoursOf_25 ?_
    refine tp_getN (cy := cy) (ci := 0) (v := .ref x_24) (C := RX0) (T := TX0) (N := 9) hx hb hta inlX0 hown hK hP hx_2.1 hf_18 rfl 5 (by decide) (va_Nw.use rfl (hN.1 23 _ nk_23)) (fun _ h9 => h9) rfl dX11_hoursOf_28 ?_
    refine lv_iload_n hx hb dX11_hoursOf_31 rfl (lv_at hl 0 rfl) ?_
    refine lv_iconst (v := 1) hx hb dX11_hoursOf_32 (by decide) ?_
    refine tl_si (tq_rVN hN (As := [.int v3, .int 1]) (rest := [.int z_34, .int v2]) ⟨hx, hb, hml, hown, hta⟩ (tp_P.pre hK hN hL hU hI hP) (tp_recv hK hP hx_24.1 hf_28 rfl) lk_X11_157 (t_X6_cell l D cy s.heap.size L K Γ f 10 0 x_24 v3 1 hx_24 (by first | omega | (simp only [Int32.toInt_toInt64]; omega) | decide | assumption)) rfl rfl ⟨Nat.le_of_ble_eq_true rfl, Nat.le_of_ble_eq_true rfl⟩ rfl hl.1 rfl (Nat.le_of_ble_eq_true rfl) dX11_hoursOf_33 ⟨Nat.le_of_ble_eq_true rfl, Nat.le_of_ble_eq_true rfl⟩) (fun r_36 hw_35 => ?_)
    refine lv_imul hx hb dX11_hoursOf_36 ?_
    refine lv_topi (fun z_37 ez_37 => ?_)
    try have iz_37 : z_37.toInt = z_34.toInt * r_36.toInt := by rw [ez_37]; exact tl_mulN z_34 r_36 rfl rfl (by omega) (by omega)
    refine lv_iadd hx hb dX11_hoursOf_37 ?_
    refine lv_topi (fun z_38 ez_38 => ?_)
    try have iz_38 : z_38.toInt = v2.toInt + z_37.toInt := by rw [ez_38]; exact tl_addN v2 z_37 rfl rfl (by omega) (by omega)
    refine lv_istore_n (lv' := [(2, .int z_38), (3, .int v3), (0, .ref o), (1, .int p0)]) hx hb dX11_hoursOf_38 rfl hl (by decide) rfl (fun ls hl => ?_)
    obtain ⟨z_39, ez_39⟩ : ∃ y : Int32, y = v3 + 1 := ⟨_, rfl⟩
    refine lv_iinc (v := z_39) (lv' := [(3, .int z_39), (2, .int z_38), (0, .ref o), (1, .int p0)]) hx hb dX11_hoursOf_39 hl (k := 1) rfl (by rw [ez_39]; rfl) (by decide) rfl (fun ls hl => ?_)
    try have iz_39 : z_39.toInt = v3.toInt + 1 := by rw [ez_39]; exact tl_addL v3 1 (by decide) (by omega) (by omega)
    refine lv_goto (tgt := 4) hx hb dX11_hoursOf_42 (by decide) ?_
    exact ih4 (z_39, z_38) ls (by show (10 - z_39.toInt).toNat < (10 - v3.toInt).toNat; omega) ⟨(show 0 ≤ z_39.toInt from (by omega)), (show z_39.toInt ≤ 10 from (by omega)), lv_sub hl [0, 1, 2, 3] rfl⟩
set_option maxHeartbeats 4000000 in
set_option maxRecDepth 100000 in
theorem t_X11_worthOf (l : Launch) (D : va_G) (cy : Nat → ClassId) (sz : Nat) (L : List Nat) (K : Nat → tk_K) (Γ : tk_G) (f : Nat → va_E) (o : Nat) (p0 : Int32) (ho : tp_r L K 0 (0) 0 o) : Met l yX11_worthOf (tl_w yX11_worthOf cX11_worthOf 5 (some .long)) ({ frames := 0, cells := 0, slots := 0, locals := 0 }) (va_Pc [.ref o, .int p0] (tp_P D cy L K Γ f sz)) (vp_Sl (fun r : Int64 => True)) 0 0 (fun _ => False) := by
  refine Met.ofW (cc := cX11_worthOf) (maxL := 5) (ret := (some .long)) (by decide) rfl ?_
  intro p e s m args below meth c s₁ B hml hv
  obtain ⟨rfl, hsz, hP, hK, hL, hI, hN, hU⟩ := hv
  have hx := B.exec
  have hb := B.bytes
  have hr := B.returns
  have hta := tl_hta (atoms_spec (ws := tl_w yX11_worthOf cX11_worthOf 5 (some .long)) B.pre)
  have hown : s.vm.findClass RX11 = some m.cls := findClass_of_methodNamed B.named
  have hlocks := B.notSynchronized
  subst hsz
  have hI0 := hI
  have hl := lv_entry ([.ref o, .int p0]) (n := 5) (Nat.le_of_ble_eq_true rfl)
  rw [lg_entry_eq]
  generalize (lg_sl ([.ref o, .int p0]) ++ List.replicate (5 - (lg_sl ([.ref o, .int p0])).length) Slot.unset).toArray = ls at hl ⊢
  have hl : lv_has ls 5 [(0, .ref o), (1, .int p0)] := hl
  refine lv_lconst (v := 0) hx hb dX11_worthOf_0 (by decide) ?_
  refine lv_lstore_n (lv' := [(2, .long 0), (0, .ref o), (1, .int p0)]) hx hb dX11_worthOf_1 rfl hl (by decide) rfl (fun ls hl => ?_)
  refine lv_iconst (v := 0) hx hb dX11_worthOf_2 (by decide) ?_
  refine lv_istore (lv' := [(4, .int 0), (2, .long 0), (0, .ref o), (1, .int p0)]) hx hb dX11_worthOf_3 hl (by decide) rfl (fun ls hl => ?_)
  refine tl_indR (G := fun ls => W p l e ((headSpec (tl_w yX11_worthOf cX11_worthOf 5 (some .long)) ({ frames := 0, cells := 0, slots := 0, locals := 0 })).room) s m #[.ref o, .int p0] below meth c s.heap [] 0 0 (MQ below (vp_Sl (fun r : Int64 => True)) #[.ref o, .int p0] s 0 0 (fun _ => False)) (F0 m 5 ls [])) (α := Int32 × Int64) (fun aq => (10 - aq.1.toInt).toNat) (fun aq ls => (0 ≤ aq.1.toInt) ∧ (aq.1.toInt ≤ 10) ∧ lv_has ls 5 [(4, .int aq.1), (2, .long aq.2), (0, .ref o), (1, .int p0)]) ?_ ((0 : Int32), (0 : Int64)) ls ⟨(show 0 ≤ (0 : Int) from (by omega)), (show (0 : Int) ≤ 10 from (by omega)), lv_sub hl [0, 1, 2, 3] rfl⟩
  rintro ⟨v4, v2⟩ ls ⟨h0, h1, hl⟩ ih5
  have h0 : 0 ≤ v4.toInt := h0
  have h1 : v4.toInt ≤ 10 := h1
  have hl : lv_has ls 5 [(4, .int v4), (2, .long v2), (0, .ref o), (1, .int p0)] := hl
  refine lv_iload hx hb dX11_worthOf_5 (lv_at hl 0 rfl) ?_
  refine lv_aload_n hx hb dX11_worthOf_7 rfl (lv_at hl 2 rfl) ?_
  obtain ⟨x_2, x_3, x_4, x_5, x_6, x_7, x_8, x_9, x_10, x_11, x_12, x_13, x_14, x_15, x_16, x_17, hf_1, hx_2, hx_3, hx_4, hx_5, hx_6, hx_7, hx_8, hx_9, hx_10, hx_11, hx_12, hx_13, hx_14, hx_15, hx_16, hx_17⟩ := (show tp_o_X L K (0) 0 (Γ (0, 0, 0)) (f o) from hI0.at ho)
  refine tp_get (cy := cy) (ci := 11) (v := .ref x_2) (C := RX11) (T := TX11) (N := 16) hx hb hta inlX11 hown hK hP ho.1 hf_1 rfl 0 (by decide) (hta _ wk_15) (fun _ h9 => h9) rfl dX11_worthOf_8 ?_
  obtain ⟨x_19, x_20, x_21, x_22, x_23, x_24, x_25, x_26, x_27, hf_18, hx_19, hx_20, hx_21, hx_22, hx_23, hx_24, hx_25, hx_26, hx_27⟩ := (show tp_o_BOOK L K (0) 0 (Γ (1, 0, 0)) (f x_2) from hI0.at hx_2)
  refine tp_getN (cy := cy) (ci := 0) (v := .ref x_24) (C := RX0) (T := TX0) (N := 9) hx hb hta inlX0 hown hK hP hx_2.1 hf_18 rfl 5 (by decide) (va_Nw.use rfl (hN.1 23 _ nk_23)) (fun _ h9 => h9) rfl dX11_worthOf_11 ?_
  obtain ⟨x_29, x_30, x_31, hf_28, hx_29, hx_30, hx_31⟩ := (show tp_o_TABLE L K (10) 0 (Γ (7, 10, 0)) (f x_24) from hI0.at hx_24)
  refine tp_getN (cy := cy) (ci := 6) (v := .int x_31) (C := RX6) (T := TX6) (N := 3) hx hb hta inlX6 hown hK hP hx_24.1 hf_28 rfl 2 (by decide) (va_Nw.use rfl (hN.1 15 _ nk_15)) (fun _ h9 => h9) rfl dX11_worthOf_14 ?_
  refine lv_icmp_ge (tgt := 54) hx hb dX11_worthOf_17 (by decide) (fun c_32 => ?_) (fun c_32 => ?_)
  · have c_32 : x_31.toInt ≤ v4.toInt := tl_le c_32
    refine lv_lload_n hx hb dX11_worthOf_54 rfl (lv_at hl 1 rfl) ?_
    exact W.lret (v := v2) hx hb hr (fun t ht hW => ⟨_, rfl, trivial, ht⟩) (fun q h => by cases h) dX11_worthOf_55
  · have c_32 : v4.toInt < x_31.toInt := tl_nle c_32
    refine lv_iload hx hb dX11_worthOf_20 (lv_at hl 0 rfl) ?_
    refine lv_aload_n hx hb dX11_worthOf_22 rfl (lv_at hl 2 rfl) ?_
    refine tp_get (cy := cy) (ci := 11) (v := .ref x_16) (C := RX11) (T := TX11) (N := 16) hx hb hta inlX11 hown hK hP ho.1 hf_1 rfl 14 (by decide) (hta _ wk_52) (fun _ h9 => h9) rfl dX11_worthOf_23 ?_
    obtain ⟨g_34, hf_33⟩ := (show tp_aj cy (10) (f x_16) from hI0.at hx_16)
    refine tp_alen (cy := cy) (t0 := 1) (v := 10) hx hb hK hP hx_16.1 rfl hf_33 rfl dX11_worthOf_26 ?_
    refine lv_icmp_ge (tgt := 54) hx hb dX11_worthOf_27 (by decide) (fun c_36 => ?_) (fun c_36 => ?_)
    · have c_36 : (10 : Int) ≤ v4.toInt := tl_le c_36
      refine lv_lload_n hx hb dX11_worthOf_54 rfl (lv_at hl 1 rfl) ?_
      exact W.lret (v := v2) hx hb hr (fun t ht hW => ⟨_, rfl, trivial, ht⟩) (fun q h => by cases h) dX11_worthOf_55
    · have c_36 : v4.toInt < (10 : Int) := tl_nle c_36
      refine lv_lload_n hx hb dX11_worthOf_30 rfl (lv_at hl 1 rfl) ?_
      refine lv_iload_n hx hb dX11_worthOf_31 rfl (lv_at hl 3 rfl) ?_
      refine lv_iload hx hb dX11_worthOf_32 (lv_at hl 0 rfl) ?_
      refine lv_ishr hx hb dX11_worthOf_34 ?_
      refine lv_topi (fun z_37 ez_37 => ?_)
      refine lv_iconst (v := 1) hx hb dX11_worthOf_35 (by decide) ?_
      refine lv_iand hx hb dX11_worthOf_36 ?_
      refine lv_topi (fun z_38 ez_38 => ?_)
      refine lv_i2l (v := z_38.toInt64) hx hb dX11_worthOf_37 (by first | rfl | decide) ?_
      refine lv_aload_n hx hb dX11_worthOf_38 rfl (lv_at hl 2 rfl) ?_
      refine tp_get (cy := cy) (ci := 11) (v := .ref x_16) (C := RX11) (T := TX11) (N := 16) hx hb hta inlX11 hown hK hP ho.1 hf_1 rfl 14 (by decide) (hta _ wk_52) (fun _ h9 => h9) rfl dX11_worthOf_39 ?_
      refine lv_iload hx hb dX11_worthOf_42 (lv_at hl 0 rfl) ?_
      have hn_39 : vp_in v4 (10) := tl_in (by omega) (by omega)
      refine tp_lald (cy := cy) hx hb hK hP hx_16.1 hf_33 hn_39 dX11_worthOf_44 ?_
      refine lv_topl (fun z_40 ez_40 => ?_)
      refine lv_lmul hx hb dX11_worthOf_45 ?_
      refine lv_topl (fun z_41 ez_41 => ?_)
      refine lv_ladd hx hb dX11_worthOf_46 ?_
      refine lv_topl (fun z_42 ez_42 => ?_)
      refine lv_lstore_n (lv' := [(2, .long z_42), (4, .int v4), (0, .ref o), (1, .int p0)]) hx hb dX11_worthOf_47 rfl hl (by decide) rfl (fun ls hl => ?_)
      obtain ⟨z_43, ez_43⟩ : ∃ y : Int32, y = v4 + 1 := ⟨_, rfl⟩
      refine lv_iinc (v := z_43) (lv' := [(4, .int z_43), (2, .long z_42), (0, .ref o), (1, .int p0)]) hx hb dX11_worthOf_48 hl (k := 1) rfl (by rw [ez_43]; rfl) (by decide) rfl (fun ls hl => ?_)
      try have iz_43 : z_43.toInt = v4.toInt + 1 := by rw [ez_43]; exact tl_addL v4 1 (by decide) (by omega) (by omega)
      refine lv_goto (tgt := 5) hx hb dX11_worthOf_51 (by decide) ?_
      exact ih5 (z_43, z_42) ls (by show (10 - z_43.toInt).toNat < (10 - v4.toInt).toNat; omega) ⟨(show 0 ≤ z_43.toInt from (by omega)), (show z_43.toInt ≤ 10 from (by omega)), lv_sub hl [0, 1, 2, 3] rfl⟩
set_option maxHeartbeats 4000000 in
set_option maxRecDepth 100000 in
theorem t_X11_next (l : Launch) (D : va_G) (cy : Nat → ClassId) (sz : Nat) (L : List Nat) (K : Nat → tk_K) (Γ : tk_G) (f : Nat → va_E) (o : Nat) (p0 : Int32) (p1 : Int32) (p2 : Int32) (ho : tp_r L K 0 (0) 0 o) : Met l yX11_next (tl_w yX11_next cX11_next 12 (some .long)) ({ frames := 7, cells := 0, slots := 0, locals := 166 }) (va_Pc [.ref o, .int p0, .int p1, .int p2] (tp_P D cy L K Γ f sz)) (va_Ql (fun (r : Int64) (u : Nat → va_E) => True) (tp_B D cy L K Γ f [28, 29, 23, 24, 27, 30, 31, 32, 38]) (tp_A L sz)) 0 0 (tp_A L sz) := by
  refine Met.ofW (cc := cX11_next) (maxL := 12) (ret := (some .long)) (by decide) rfl ?_
  intro p e s m args below meth c s₁ B hml hv
  obtain ⟨rfl, hsz, hP, hK, hL, hI, hN, hU⟩ := hv
  have hx := B.exec
  have hb := B.bytes
  have hr := B.returns
  have hta := tl_hta (atoms_spec (ws := tl_w yX11_next cX11_next 12 (some .long)) B.pre)
  have hown : s.vm.findClass RX11 = some m.cls := findClass_of_methodNamed B.named
  have hlocks := B.notSynchronized
  subst hsz
  have hI0 := hI
  generalize hAe : tp_A L s.heap.size = A
  have hA : ∀ q : Nat, s.heap.size ≤ q → A q := fun q h => by rw [← hAe]; exact Or.inr h
  have hAL : ∀ q ∈ L, A q := fun q h => by rw [← hAe]; exact Or.inl h
  have hAf : ∀ (H : Heap), s.heap.size ≤ H.size → ∀ q, tp_A L H.size q → A q := fun H h q hq => hq.elim (hAL q) (fun h2 => hA q (Nat.le_trans h h2))
  have hS : va_S A s.heap s.heap [] := va_S.rf
  have hD : va_D A (va_pl L f) := tp_D hL hAL
  have hfr : ∀ b, (K b).1 ∉ ([28, 29, 23, 24, 27, 30, 31, 32, 38] : List Nat) → f b = f b := fun _ _ => rfl
  have hl := lv_entry ([.ref o, .int p0, .int p1, .int p2]) (n := 12) (Nat.le_of_ble_eq_true rfl)
  rw [lg_entry_eq]
  generalize (lg_sl ([.ref o, .int p0, .int p1, .int p2]) ++ List.replicate (12 - (lg_sl ([.ref o, .int p0, .int p1, .int p2])).length) Slot.unset).toArray = ls at hl ⊢
  have hl : lv_has ls 12 [(0, .ref o), (1, .int p0), (2, .int p1), (3, .int p2)] := hl
  refine lv_aload_n hx hb dX11_next_0 rfl (lv_at hl 0 rfl) ?_
  obtain ⟨x_2, x_3, x_4, x_5, x_6, x_7, x_8, x_9, x_10, x_11, x_12, x_13, x_14, x_15, x_16, x_17, hf_1, hx_2, hx_3, hx_4, hx_5, hx_6, hx_7, hx_8, hx_9, hx_10, hx_11, hx_12, hx_13, hx_14, hx_15, hx_16, hx_17⟩ := (show tp_o_X L K (0) 0 (Γ (0, 0, 0)) (f o) from hI0.at ho)
  refine tp_get (cy := cy) (ci := 11) (v := .ref x_5) (C := RX11) (T := TX11) (N := 16) hx hb hta inlX11 hown hK hP ho.1 hf_1 rfl 3 (by decide) (hta _ wk_21) (fun _ h9 => h9) rfl dX11_next_1 ?_
  refine lv_iload_n hx hb dX11_next_4 rfl (lv_at hl 1 rfl) ?_
  obtain ⟨x_19, x_20, hf_18, hx_19, hx_20⟩ := (show tp_o_TEXTS L K (8) 0 (Γ (13, 8, 0)) (f x_5) from hI0.at hx_5)
  refine tl_sq (tq_rVN hN (As := [.int p0]) (rest := []) ⟨hx, hb, hml, hown, hta⟩ (tp_P.pre hK hN hL hU hI hP) (tp_recv hK hP hx_5.1 hf_18 rfl) lk_X11_201 (t_X8_at l D cy s.heap.size L K Γ f 8 x_5 p0 hx_5 (by first | omega | (simp only [Int32.toInt_toInt64]; omega) | decide | assumption)) rfl rfl ⟨Nat.le_of_ble_eq_true rfl, Nat.le_of_ble_eq_true rfl⟩ rfl hl.1 rfl (Nat.le_of_ble_eq_true rfl) dX11_next_5 ⟨Nat.le_of_ble_eq_true rfl, Nat.le_of_ble_eq_true rfl⟩) (fun r_22 hw_21 => ?_)
  rcases r_22 with _ | b_23
  · refine W.eq (g2 := F0 m 8 ls ([.null])) (by rfl) ?_
    refine lv_ifnullN (tgt := 31) hx hb dX11_next_8 (by decide) ?_
    refine lv_ldc2 (v := (-1)) hx hb hown (hta _ wk_962) dX11_next_31 ?_
    exact W.lret (v := (-1)) hx hb hr (fun t ht hW => ⟨⟨_, f, rfl, trivial, by rw [ht]; exact hP, hI, hfr⟩, hS.F ht⟩) hS.2.2 dX11_next_34
  · have hb_23 := hw_21 _ rfl
    have hb_23 : tp_r L K 18 (0) 0 b_23 := hb_23
    refine W.eq (g2 := F0 m 8 ls ([.ref b_23])) (by rfl) ?_
    refine lv_ifnull hx hb dX11_next_8 ?_
    refine lv_iload_n hx hb dX11_next_11 rfl (lv_at hl 2 rfl) ?_
    refine lv_iconst (v := 0) hx hb dX11_next_12 (by decide) ?_
    refine lv_sipush (v := 999) hx hb dX11_next_13 (by decide) ?_
    refine tl_si (tq_rS (As := [.int p1, .int 0, .int 999]) (rest := []) ⟨hx, hb, hml, hown, hta⟩ (tp_P.pre hK hN hL hU hI hP) lk_X11_105 (t_X11_isIn l D cy s.heap.size L K Γ f p1 0 999 ) rfl rfl ⟨Nat.le_of_ble_eq_true rfl, Nat.le_of_ble_eq_true rfl⟩ rfl hl.1 rfl (Nat.le_of_ble_eq_true rfl) dX11_next_16 ⟨Nat.le_of_ble_eq_true rfl, Nat.le_of_ble_eq_true rfl⟩) (fun r_25 hw_24 => ?_)
    have hw_24 : tl_E r_25 ((0 : Int) ≤ p1.toInt ∧ p1.toInt ≤ (999 : Int)) 1 0 := hw_24
    refine lv_if_eq (tgt := 31) hx hb dX11_next_19 (by decide) (fun c_26 => ?_) (fun c_26 => ?_)
    · have c_26 := hw_24.f c_26
      refine lv_ldc2 (v := (-1)) hx hb hown (hta _ wk_962) dX11_next_31 ?_
      exact W.lret (v := (-1)) hx hb hr (fun t ht hW => ⟨⟨_, f, rfl, trivial, by rw [ht]; exact hP, hI, hfr⟩, hS.F ht⟩) hS.2.2 dX11_next_34
    · have c_26 := hw_24.t c_26
      refine lv_iload_n hx hb dX11_next_22 rfl (lv_at hl 3 rfl) ?_
      refine lv_iconst (v := 0) hx hb dX11_next_23 (by decide) ?_
      refine lv_iconst (v := 1) hx hb dX11_next_24 (by decide) ?_
      refine tl_si (tq_rS (As := [.int p2, .int 0, .int 1]) (rest := []) ⟨hx, hb, hml, hown, hta⟩ (tp_P.pre hK hN hL hU hI hP) lk_X11_105 (t_X11_isIn l D cy s.heap.size L K Γ f p2 0 1 ) rfl rfl ⟨Nat.le_of_ble_eq_true rfl, Nat.le_of_ble_eq_true rfl⟩ rfl hl.1 rfl (Nat.le_of_ble_eq_true rfl) dX11_next_25 ⟨Nat.le_of_ble_eq_true rfl, Nat.le_of_ble_eq_true rfl⟩) (fun r_28 hw_27 => ?_)
      have hw_27 : tl_E r_28 ((0 : Int) ≤ p2.toInt ∧ p2.toInt ≤ (1 : Int)) 1 0 := hw_27
      refine lv_if_ne (tgt := 35) hx hb dX11_next_28 (by decide) (fun c_29 => ?_) (fun c_29 => ?_)
      · have c_29 := hw_27.t c_29
        refine lv_aload_n hx hb dX11_next_35 rfl (lv_at hl 0 rfl) ?_
        refine lv_iload_n hx hb dX11_next_36 rfl (lv_at hl 1 rfl) ?_
        refine tq_cv hS (hAf _ hS.1) (tq_rV (As := [.int p0]) (rest := []) ⟨hx, hb, hml, hown, hta⟩ (tp_P.pre hK hN hL hU hI hP) (tp_recv hK hP ho.1 hf_1 rfl) lk_X11_438 (t_X11_findWorths l D cy s.heap.size L K Γ f o p0 ho) rfl rfl ⟨Nat.le_of_ble_eq_true rfl, Nat.le_of_ble_eq_true rfl⟩ rfl hl.1 rfl (Nat.le_of_ble_eq_true rfl) dX11_next_37 ⟨Nat.le_of_ble_eq_true rfl, Nat.le_of_ble_eq_true rfl⟩) (fun f_32 H locs hw_30 hP hI hc_33 hS => ?_)
        have hD : va_D A (va_pl L f_32) := tp_D hL hAL
        have hfr := tp_fr2 hfr hc_33 (by decide)
        refine lv_iconst (v := 0) hx hb dX11_next_40 (by decide) ?_
        refine lv_istore (lv' := [(4, .int 0), (0, .ref o), (1, .int p0), (2, .int p1), (3, .int p2)]) hx hb dX11_next_41 hl (by decide) rfl (fun ls hl => ?_)
        refine lv_iconst (v := 0) hx hb dX11_next_43 (by decide) ?_
        refine lv_istore (lv' := [(5, .int 0), (4, .int 0), (0, .ref o), (1, .int p0), (2, .int p1), (3, .int p2)]) hx hb dX11_next_44 hl (by decide) rfl (fun ls hl => ?_)
        refine lv_lconst (v := 0) hx hb dX11_next_46 (by decide) ?_
        refine lv_lstore (lv' := [(6, .long 0), (5, .int 0), (4, .int 0), (0, .ref o), (1, .int p0), (2, .int p1), (3, .int p2)]) hx hb dX11_next_47 hl (by decide) rfl (fun ls hl => ?_)
        refine lv_iconst (v := 1) hx hb dX11_next_49 (by decide) ?_
        refine lv_istore (lv' := [(8, .int 1), (6, .long 0), (5, .int 0), (4, .int 0), (0, .ref o), (1, .int p0), (2, .int p1), (3, .int p2)]) hx hb dX11_next_50 hl (by decide) rfl (fun ls hl => ?_)
        refine tl_ind (G := fun H locs ls => W p l e ((headSpec (tl_w yX11_next cX11_next 12 (some .long)) ({ frames := 7, cells := 0, slots := 0, locals := 166 })).room) s m #[.ref o, .int p0, .int p1, .int p2] below meth c H locs 0 0 (MQ below (va_Ql (fun (r : Int64) (u : Nat → va_E) => True) (tp_B D cy L K Γ f [28, 29, 23, 24, 27, 30, 31, 32, 38]) A) #[.ref o, .int p0, .int p1, .int p2] s 0 0 A) (F0 m 52 ls [])) (α := (Nat → va_E) × Int32 × Int64 × Int32 × Int32) (fun aq => (2147483647 - aq.2.1.toInt).toNat) (fun aq H locs ls => (0 ≤ aq.2.1.toInt) ∧ va_P D vwCl (va_pl L aq.1) H ∧ tp_I cy L K Γ aq.1 ∧ (∀ b, (K b).1 ∉ ([28, 29, 23, 24, 27, 30, 31, 32, 38] : List Nat) → aq.1 b = f b) ∧ va_S A s.heap H locs ∧ lv_has ls 12 [(8, .int aq.2.1), (6, .long aq.2.2.1), (5, .int aq.2.2.2.1), (4, .int aq.2.2.2.2), (0, .ref o), (1, .int p0), (2, .int p1), (3, .int p2)]) ?_ (f_32, (1 : Int32), (0 : Int64), (0 : Int32), (0 : Int32)) H locs ls ⟨(show 0 ≤ (1 : Int) from (by omega)), hP, hI, hfr, hS, lv_sub hl [0, 1, 2, 3, 4, 5, 6, 7] rfl⟩
        rintro ⟨f_34, v8, v6, v5, v4⟩ H locs ls ⟨h0, hP, hI, hfr, hS, hl⟩ ih52
        have hP : va_P D vwCl (va_pl L f_34) H := hP
        have hI : tp_I cy L K Γ f_34 := hI
        have hfr : ∀ b, (K b).1 ∉ ([28, 29, 23, 24, 27, 30, 31, 32, 38] : List Nat) → f_34 b = f b := hfr
        have hD : va_D A (va_pl L f_34) := tp_D hL hAL
        have h0 : 0 ≤ v8.toInt := h0
        have hl : lv_has ls 12 [(8, .int v8), (6, .long v6), (5, .int v5), (4, .int v4), (0, .ref o), (1, .int p0), (2, .int p1), (3, .int p2)] := hl
        refine lv_iload hx hb dX11_next_52 (lv_at hl 0 rfl) ?_
        refine lv_iconst (v := 1) hx hb dX11_next_54 (by decide) ?_
        refine lv_aload_n hx hb dX11_next_55 rfl (lv_at hl 4 rfl) ?_
        refine tp_get (cy := cy) (ci := 11) (v := .ref x_2) (C := RX11) (T := TX11) (N := 16) hx hb hta inlX11 hown hK hP ho.1 ((tp_un hfr ho (by decide)).trans hf_1) rfl 0 (by decide) (hta _ wk_15) (fun _ h9 => h9) rfl dX11_next_56 ?_
        obtain ⟨x_36, x_37, x_38, x_39, x_40, x_41, x_42, x_43, x_44, hf_35, hx_36, hx_37, hx_38, hx_39, hx_40, hx_41, hx_42, hx_43, hx_44⟩ := (show tp_o_BOOK L K (0) 0 (Γ (1, 0, 0)) (f x_2) from hI0.at hx_2)
        refine tp_getN (cy := cy) (ci := 0) (v := .ref x_41) (C := RX0) (T := TX0) (N := 9) hx hb hta inlX0 hown hK hP hx_2.1 ((tp_un hfr hx_2 (by decide)).trans hf_35) rfl 5 (by decide) (va_Nw.use rfl (hN.1 23 _ nk_23)) (fun _ h9 => h9) rfl dX11_next_59 ?_
        obtain ⟨x_46, x_47, x_48, hf_45, hx_46, hx_47, hx_48⟩ := (show tp_o_TABLE L K (10) 0 (Γ (7, 10, 0)) (f x_41) from hI0.at hx_41)
        refine tp_getN (cy := cy) (ci := 6) (v := .int x_48) (C := RX6) (T := TX6) (N := 3) hx hb hta inlX6 hown hK hP hx_41.1 ((tp_un hfr hx_41 (by decide)).trans hf_45) rfl 2 (by decide) (va_Nw.use rfl (hN.1 15 _ nk_15)) (fun _ h9 => h9) rfl dX11_next_62 ?_
        refine lv_ishl hx hb dX11_next_65 ?_
        refine lv_topi (fun z_49 ez_49 => ?_)
        have rz_49 := tl_rng z_49
        refine lv_icmp_ge (tgt := 132) hx hb dX11_next_66 (by decide) (fun c_50 => ?_) (fun c_50 => ?_)
        · have c_50 : z_49.toInt ≤ v8.toInt := tl_le c_50
          refine lv_iload_n hx hb dX11_next_132 rfl (lv_at hl 7 rfl) ?_
          refine lv_if_ne (tgt := 142) hx hb dX11_next_133 (by decide) (fun c_51 => ?_) (fun c_51 => ?_)
          · have c_51 : ¬ p2.toInt = (0 : Int) := tl_neq c_51
            refine lv_lload hx hb dX11_next_142 (lv_at hl 1 rfl) ?_
            exact W.lret (v := v6) hx hb hr (fun t ht hW => ⟨⟨_, f_34, rfl, trivial, by rw [ht]; exact hP, hI, hfr⟩, hS.F ht⟩) hS.2.2 dX11_next_144
          · have c_51 : p2.toInt = (0 : Int) := tl_eq c_51
            refine lv_iload hx hb dX11_next_136 (lv_at hl 3 rfl) ?_
            refine lv_i2l (v := v4.toInt64) hx hb dX11_next_138 (by first | rfl | decide) ?_
            refine lv_goto (tgt := 144) hx hb dX11_next_139 (by decide) ?_
            exact W.lret (v := v4.toInt64) hx hb hr (fun t ht hW => ⟨⟨_, f_34, rfl, trivial, by rw [ht]; exact hP, hI, hfr⟩, hS.F ht⟩) hS.2.2 dX11_next_144
        · have c_50 : v8.toInt < z_49.toInt := tl_nle c_50
          refine lv_aload_n hx hb dX11_next_69 rfl (lv_at hl 4 rfl) ?_
          refine lv_iload hx hb dX11_next_70 (lv_at hl 0 rfl) ?_
          refine tl_si (tq_rV (As := [.int v8]) (rest := []) ⟨hx, hb, hml, hown, hta⟩ (tp_P.pre hK hN hL hU hI hP) (tp_recv hK hP ho.1 ((tp_un hfr ho (by decide)).trans hf_1) rfl) lk_X11_441 (t_X11_hoursOf l D cy H.size L K Γ f_34 o v8 ho) rfl rfl ⟨Nat.le_of_ble_eq_true rfl, Nat.le_of_ble_eq_true rfl⟩ rfl hl.1 rfl (Nat.le_of_ble_eq_true rfl) dX11_next_72 ⟨Nat.le_of_ble_eq_true rfl, Nat.le_of_ble_eq_true rfl⟩) (fun r_53 hw_52 => ?_)
          refine lv_istore (lv' := [(9, .int r_53), (8, .int v8), (6, .long v6), (5, .int v5), (4, .int v4), (0, .ref o), (1, .int p0), (2, .int p1), (3, .int p2)]) hx hb dX11_next_75 hl (by decide) rfl (fun ls hl => ?_)
          refine lv_aload_n hx hb dX11_next_77 rfl (lv_at hl 5 rfl) ?_
          refine lv_iload hx hb dX11_next_78 (lv_at hl 1 rfl) ?_
          refine tl_sl (tq_rV (As := [.int v8]) (rest := []) ⟨hx, hb, hml, hown, hta⟩ (tp_P.pre hK hN hL hU hI hP) (tp_recv hK hP ho.1 ((tp_un hfr ho (by decide)).trans hf_1) rfl) lk_X11_444 (t_X11_worthOf l D cy H.size L K Γ f_34 o v8 ho) rfl rfl ⟨Nat.le_of_ble_eq_true rfl, Nat.le_of_ble_eq_true rfl⟩ rfl hl.1 rfl (Nat.le_of_ble_eq_true rfl) dX11_next_80 ⟨Nat.le_of_ble_eq_true rfl, Nat.le_of_ble_eq_true rfl⟩) (fun r_55 hw_54 => ?_)
          refine lv_lstore (lv' := [(10, .long r_55), (9, .int r_53), (8, .int v8), (6, .long v6), (5, .int v5), (4, .int v4), (0, .ref o), (1, .int p0), (2, .int p1), (3, .int p2)]) hx hb dX11_next_83 hl (by decide) rfl (fun ls hl => ?_)
          refine lv_iload hx hb dX11_next_85 (lv_at hl 1 rfl) ?_
          refine lv_iload_n hx hb dX11_next_87 rfl (lv_at hl 8 rfl) ?_
          refine lv_icmp_gt (tgt := 126) hx hb dX11_next_88 (by decide) (fun c_56 => ?_) (fun c_56 => ?_)
          · have c_56 : p1.toInt < r_53.toInt := tl_lt c_56
            obtain ⟨z_57, ez_57⟩ : ∃ y : Int32, y = v8 + 1 := ⟨_, rfl⟩
            refine lv_iinc (v := z_57) (lv' := [(8, .int z_57), (10, .long r_55), (9, .int r_53), (6, .long v6), (5, .int v5), (4, .int v4), (0, .ref o), (1, .int p0), (2, .int p1), (3, .int p2)]) hx hb dX11_next_126 hl (k := 2) rfl (by rw [ez_57]; rfl) (by decide) rfl (fun ls hl => ?_)
            try have iz_57 : z_57.toInt = v8.toInt + 1 := by rw [ez_57]; exact tl_addL v8 1 (by decide) (by omega) (by omega)
            refine lv_goto (tgt := 52) hx hb dX11_next_129 (by decide) ?_
            exact ih52 (f_34, z_57, v6, v5, v4) H locs ls (by show (2147483647 - z_57.toInt).toNat < (2147483647 - v8.toInt).toNat; omega) ⟨(show 0 ≤ z_57.toInt from (by omega)), hP, hI, hfr, hS, lv_sub hl [0, 3, 4, 5, 6, 7, 8, 9] rfl⟩
          · have c_56 : r_53.toInt ≤ p1.toInt := tl_nlt c_56
            refine lv_lload hx hb dX11_next_91 (lv_at hl 0 rfl) ?_
            refine lv_lload hx hb dX11_next_93 (lv_at hl 3 rfl) ?_
            refine W.lcmp hx hb dX11_next_95 ?_
            refine lv_if_gt (tgt := 114) hx hb dX11_next_96 (by decide) (fun c_58 => ?_) (fun c_58 => ?_)
            · have c_58 : r_55.toInt > v6.toInt := tl_cmp_gt c_58
              refine lv_iload hx hb dX11_next_114 (lv_at hl 2 rfl) ?_
              refine lv_istore (lv' := [(4, .int v8), (10, .long r_55), (9, .int r_53), (8, .int v8), (6, .long v6), (5, .int v5), (0, .ref o), (1, .int p0), (2, .int p1), (3, .int p2)]) hx hb dX11_next_116 hl (by decide) rfl (fun ls hl => ?_)
              refine lv_iload hx hb dX11_next_118 (lv_at hl 2 rfl) ?_
              refine lv_istore (lv' := [(5, .int r_53), (4, .int v8), (10, .long r_55), (9, .int r_53), (8, .int v8), (6, .long v6), (0, .ref o), (1, .int p0), (2, .int p1), (3, .int p2)]) hx hb dX11_next_120 hl (by decide) rfl (fun ls hl => ?_)
              refine lv_lload hx hb dX11_next_122 (lv_at hl 2 rfl) ?_
              refine lv_lstore (lv' := [(6, .long r_55), (5, .int r_53), (4, .int v8), (10, .long r_55), (9, .int r_53), (8, .int v8), (0, .ref o), (1, .int p0), (2, .int p1), (3, .int p2)]) hx hb dX11_next_124 hl (by decide) rfl (fun ls hl => ?_)
              obtain ⟨z_59, ez_59⟩ : ∃ y : Int32, y = v8 + 1 := ⟨_, rfl⟩
              refine lv_iinc (v := z_59) (lv' := [(8, .int z_59), (6, .long r_55), (5, .int r_53), (4, .int v8), (10, .long r_55), (9, .int r_53), (0, .ref o), (1, .int p0), (2, .int p1), (3, .int p2)]) hx hb dX11_next_126 hl (k := 5) rfl (by rw [ez_59]; rfl) (by decide) rfl (fun ls hl => ?_)
              try have iz_59 : z_59.toInt = v8.toInt + 1 := by rw [ez_59]; exact tl_addL v8 1 (by decide) (by omega) (by omega)
              refine lv_goto (tgt := 52) hx hb dX11_next_129 (by decide) ?_
              exact ih52 (f_34, z_59, r_55, r_53, v8) H locs ls (by show (2147483647 - z_59.toInt).toNat < (2147483647 - v8.toInt).toNat; omega) ⟨(show 0 ≤ z_59.toInt from (by omega)), hP, hI, hfr, hS, lv_sub hl [0, 1, 2, 3, 6, 7, 8, 9] rfl⟩
            · have c_58 : r_55.toInt ≤ v6.toInt := tl_cmp_ngt c_58
              refine lv_lload hx hb dX11_next_99 (lv_at hl 0 rfl) ?_
              refine lv_lload hx hb dX11_next_101 (lv_at hl 3 rfl) ?_
              refine W.lcmp hx hb dX11_next_103 ?_
              refine lv_if_ne (tgt := 126) hx hb dX11_next_104 (by decide) (fun c_60 => ?_) (fun c_60 => ?_)
              · have c_60 : ¬ r_55.toInt = v6.toInt := tl_cmp_ne c_60
                obtain ⟨z_61, ez_61⟩ : ∃ y : Int32, y = v8 + 1 := ⟨_, rfl⟩
                refine lv_iinc (v := z_61) (lv' := [(8, .int z_61), (10, .long r_55), (9, .int r_53), (6, .long v6), (5, .int v5), (4, .int v4), (0, .ref o), (1, .int p0), (2, .int p1), (3, .int p2)]) hx hb dX11_next_126 hl (k := 2) rfl (by rw [ez_61]; rfl) (by decide) rfl (fun ls hl => ?_)
                try have iz_61 : z_61.toInt = v8.toInt + 1 := by rw [ez_61]; exact tl_addL v8 1 (by decide) (by omega) (by omega)
                refine lv_goto (tgt := 52) hx hb dX11_next_129 (by decide) ?_
                exact ih52 (f_34, z_61, v6, v5, v4) H locs ls (by show (2147483647 - z_61.toInt).toNat < (2147483647 - v8.toInt).toNat; omega) ⟨(show 0 ≤ z_61.toInt from (by omega)), hP, hI, hfr, hS, lv_sub hl [0, 3, 4, 5, 6, 7, 8, 9] rfl⟩
              · have c_60 : r_55.toInt = v6.toInt := tl_cmp_nne c_60
                refine lv_iload hx hb dX11_next_107 (lv_at hl 1 rfl) ?_
                refine lv_iload hx hb dX11_next_109 (lv_at hl 4 rfl) ?_
                refine lv_icmp_ge (tgt := 126) hx hb dX11_next_111 (by decide) (fun c_62 => ?_) (fun c_62 => ?_)
                · have c_62 : v5.toInt ≤ r_53.toInt := tl_le c_62
                  obtain ⟨z_63, ez_63⟩ : ∃ y : Int32, y = v8 + 1 := ⟨_, rfl⟩
                  refine lv_iinc (v := z_63) (lv' := [(8, .int z_63), (10, .long r_55), (9, .int r_53), (6, .long v6), (5, .int v5), (4, .int v4), (0, .ref o), (1, .int p0), (2, .int p1), (3, .int p2)]) hx hb dX11_next_126 hl (k := 2) rfl (by rw [ez_63]; rfl) (by decide) rfl (fun ls hl => ?_)
                  try have iz_63 : z_63.toInt = v8.toInt + 1 := by rw [ez_63]; exact tl_addL v8 1 (by decide) (by omega) (by omega)
                  refine lv_goto (tgt := 52) hx hb dX11_next_129 (by decide) ?_
                  exact ih52 (f_34, z_63, v6, v5, v4) H locs ls (by show (2147483647 - z_63.toInt).toNat < (2147483647 - v8.toInt).toNat; omega) ⟨(show 0 ≤ z_63.toInt from (by omega)), hP, hI, hfr, hS, lv_sub hl [0, 3, 4, 5, 6, 7, 8, 9] rfl⟩
                · have c_62 : r_53.toInt < v5.toInt := tl_nle c_62
                  refine lv_iload hx hb dX11_next_114 (lv_at hl 2 rfl) ?_
                  refine lv_istore (lv' := [(4, .int v8), (10, .long r_55), (9, .int r_53), (8, .int v8), (6, .long v6), (5, .int v5), (0, .ref o), (1, .int p0), (2, .int p1), (3, .int p2)]) hx hb dX11_next_116 hl (by decide) rfl (fun ls hl => ?_)
                  refine lv_iload hx hb dX11_next_118 (lv_at hl 2 rfl) ?_
                  refine lv_istore (lv' := [(5, .int r_53), (4, .int v8), (10, .long r_55), (9, .int r_53), (8, .int v8), (6, .long v6), (0, .ref o), (1, .int p0), (2, .int p1), (3, .int p2)]) hx hb dX11_next_120 hl (by decide) rfl (fun ls hl => ?_)
                  refine lv_lload hx hb dX11_next_122 (lv_at hl 2 rfl) ?_
                  refine lv_lstore (lv' := [(6, .long r_55), (5, .int r_53), (4, .int v8), (10, .long r_55), (9, .int r_53), (8, .int v8), (0, .ref o), (1, .int p0), (2, .int p1), (3, .int p2)]) hx hb dX11_next_124 hl (by decide) rfl (fun ls hl => ?_)
                  obtain ⟨z_64, ez_64⟩ : ∃ y : Int32, y = v8 + 1 := ⟨_, rfl⟩
                  refine lv_iinc (v := z_64) (lv' := [(8, .int z_64), (6, .long r_55), (5, .int r_53), (4, .int v8), (10, .long r_55), (9, .int r_53), (0, .ref o), (1, .int p0), (2, .int p1), (3, .int p2)]) hx hb dX11_next_126 hl (k := 5) rfl (by rw [ez_64]; rfl) (by decide) rfl (fun ls hl => ?_)
                  try have iz_64 : z_64.toInt = v8.toInt + 1 := by rw [ez_64]; exact tl_addL v8 1 (by decide) (by omega) (by omega)
                  refine lv_goto (tgt := 52) hx hb dX11_next_129 (by decide) ?_
                  exact ih52 (f_34, z_64, r_55, r_53, v8) H locs ls (by show (2147483647 - z_64.toInt).toNat < (2147483647 - v8.toInt).toNat; omega) ⟨(show 0 ≤ z_64.toInt from (by omega)), hP, hI, hfr, hS, lv_sub hl [0, 1, 2, 3, 6, 7, 8, 9] rfl⟩
      · have c_29 := hw_27.f c_29
        refine lv_ldc2 (v := (-1)) hx hb hown (hta _ wk_962) dX11_next_31 ?_
        exact W.lret (v := (-1)) hx hb hr (fun t ht hW => ⟨⟨_, f, rfl, trivial, by rw [ht]; exact hP, hI, hfr⟩, hS.F ht⟩) hS.2.2 dX11_next_34
