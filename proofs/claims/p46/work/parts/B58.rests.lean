theorem dX3_gather_0 : decode cX3_gather 0 = .ok (.aload_n 0, 1) := by decide +kernel
theorem dX3_gather_1 : decode cX3_gather 1 = .ok (.getfield 9, 3) := by decide +kernel
theorem dX3_gather_4 : decode cX3_gather 4 = .ok (.lconst 0, 1) := by decide +kernel
theorem dX3_gather_5 : decode cX3_gather 5 = .ok (.invokestatic 19, 3) := by decide +kernel
theorem dX3_gather_8 : decode cX3_gather 8 = .ok (.aload_n 0, 1) := by decide +kernel
theorem dX3_gather_9 : decode cX3_gather 9 = .ok (.getfield 15, 3) := by decide +kernel
theorem dX3_gather_12 : decode cX3_gather 12 = .ok (.iconst 0, 1) := by decide +kernel
theorem dX3_gather_13 : decode cX3_gather 13 = .ok (.invokestatic 25, 3) := by decide +kernel
theorem dX3_gather_16 : decode cX3_gather 16 = .ok (.iconst 0, 1) := by decide +kernel
theorem dX3_gather_17 : decode cX3_gather 17 = .ok (.istore_n 3, 1) := by decide +kernel
theorem dX3_gather_18 : decode cX3_gather 18 = .ok (.iconst 0, 1) := by decide +kernel
theorem dX3_gather_19 : decode cX3_gather 19 = .ok (.istore 4, 2) := by decide +kernel
theorem dX3_gather_21 : decode cX3_gather 21 = .ok (.iload 4, 2) := by decide +kernel
theorem dX3_gather_23 : decode cX3_gather 23 = .ok (.sipush 300, 3) := by decide +kernel
theorem dX3_gather_26 : decode cX3_gather 26 = .ok (.if_icmp .ge 77, 3) := by decide +kernel
theorem dX3_gather_29 : decode cX3_gather 29 = .ok (.aload_n 1, 1) := by decide +kernel
theorem dX3_gather_30 : decode cX3_gather 30 = .ok (.getfield 28, 3) := by decide +kernel
theorem dX3_gather_33 : decode cX3_gather 33 = .ok (.iload 4, 2) := by decide +kernel
theorem dX3_gather_35 : decode cX3_gather 35 = .ok (.baload, 1) := by decide +kernel
theorem dX3_gather_36 : decode cX3_gather 36 = .ok (.ifCond .eq 38, 3) := by decide +kernel
theorem dX3_gather_39 : decode cX3_gather 39 = .ok (.aload_n 0, 1) := by decide +kernel
theorem dX3_gather_40 : decode cX3_gather 40 = .ok (.getfield 9, 3) := by decide +kernel
theorem dX3_gather_43 : decode cX3_gather 43 = .ok (.iload_n 3, 1) := by decide +kernel
theorem dX3_gather_44 : decode cX3_gather 44 = .ok (.dup2, 1) := by decide +kernel
theorem dX3_gather_45 : decode cX3_gather 45 = .ok (.laload, 1) := by decide +kernel
theorem dX3_gather_46 : decode cX3_gather 46 = .ok (.aload_n 1, 1) := by decide +kernel
theorem dX3_gather_47 : decode cX3_gather 47 = .ok (.getfield 34, 3) := by decide +kernel
theorem dX3_gather_50 : decode cX3_gather 50 = .ok (.iload 4, 2) := by decide +kernel
theorem dX3_gather_52 : decode cX3_gather 52 = .ok (.iaload, 1) := by decide +kernel
theorem dX3_gather_53 : decode cX3_gather 53 = .ok (.aload_n 1, 1) := by decide +kernel
theorem dX3_gather_54 : decode cX3_gather 54 = .ok (.getfield 37, 3) := by decide +kernel
theorem dX3_gather_57 : decode cX3_gather 57 = .ok (.iload 4, 2) := by decide +kernel
theorem dX3_gather_59 : decode cX3_gather 59 = .ok (.iaload, 1) := by decide +kernel
theorem dX3_gather_60 : decode cX3_gather 60 = .ok (.isub, 1) := by decide +kernel
theorem dX3_gather_61 : decode cX3_gather 61 = .ok (.i2l, 1) := by decide +kernel
theorem dX3_gather_62 : decode cX3_gather 62 = .ok (.ladd, 1) := by decide +kernel
theorem dX3_gather_63 : decode cX3_gather 63 = .ok (.lastore, 1) := by decide +kernel
theorem dX3_gather_64 : decode cX3_gather 64 = .ok (.aload_n 0, 1) := by decide +kernel
theorem dX3_gather_65 : decode cX3_gather 65 = .ok (.getfield 15, 3) := by decide +kernel
theorem dX3_gather_68 : decode cX3_gather 68 = .ok (.iload_n 3, 1) := by decide +kernel
theorem dX3_gather_69 : decode cX3_gather 69 = .ok (.dup2, 1) := by decide +kernel
theorem dX3_gather_70 : decode cX3_gather 70 = .ok (.iaload, 1) := by decide +kernel
theorem dX3_gather_71 : decode cX3_gather 71 = .ok (.iconst 1, 1) := by decide +kernel
theorem dX3_gather_72 : decode cX3_gather 72 = .ok (.iadd, 1) := by decide +kernel
theorem dX3_gather_73 : decode cX3_gather 73 = .ok (.iastore, 1) := by decide +kernel
theorem dX3_gather_74 : decode cX3_gather 74 = .ok (.iload_n 3, 1) := by decide +kernel
theorem dX3_gather_75 : decode cX3_gather 75 = .ok (.iconst 1, 1) := by decide +kernel
theorem dX3_gather_76 : decode cX3_gather 76 = .ok (.iadd, 1) := by decide +kernel
theorem dX3_gather_77 : decode cX3_gather 77 = .ok (.iload_n 2, 1) := by decide +kernel
theorem dX3_gather_78 : decode cX3_gather 78 = .ok (.if_icmp .ge 17, 3) := by decide +kernel
theorem dX3_gather_81 : decode cX3_gather 81 = .ok (.iload_n 3, 1) := by decide +kernel
theorem dX3_gather_82 : decode cX3_gather 82 = .ok (.iconst 1, 1) := by decide +kernel
theorem dX3_gather_83 : decode cX3_gather 83 = .ok (.iadd, 1) := by decide +kernel
theorem dX3_gather_84 : decode cX3_gather 84 = .ok (.bipush 99, 2) := by decide +kernel
theorem dX3_gather_86 : decode cX3_gather 86 = .ok (.if_icmp .ge 9, 3) := by decide +kernel
theorem dX3_gather_89 : decode cX3_gather 89 = .ok (.iload_n 3, 1) := by decide +kernel
theorem dX3_gather_90 : decode cX3_gather 90 = .ok (.iconst 1, 1) := by decide +kernel
theorem dX3_gather_91 : decode cX3_gather 91 = .ok (.iadd, 1) := by decide +kernel
theorem dX3_gather_92 : decode cX3_gather 92 = .ok (.goto 4, 3) := by decide +kernel
theorem dX3_gather_95 : decode cX3_gather 95 = .ok (.iconst 0, 1) := by decide +kernel
theorem dX3_gather_96 : decode cX3_gather 96 = .ok (.istore_n 3, 1) := by decide +kernel
theorem dX3_gather_97 : decode cX3_gather 97 = .ok (.iinc 4 1, 3) := by decide +kernel
theorem dX3_gather_100 : decode cX3_gather 100 = .ok (.goto (-79), 3) := by decide +kernel
theorem dX3_gather_103 : decode cX3_gather 103 = .ok (.return_, 1) := by decide +kernel
theorem wk_143 : Cond.fieldLink RX3 9 "ThinLine$Rests" "left" "[J" ∈ tl_L := List.mem_filter.mpr ⟨lw_m2 (i := 132) rfl, rfl⟩
theorem wk_144 : Cond.fieldLink RX3 15 "ThinLine$Rests" "many" "[I" ∈ tl_L := List.mem_filter.mpr ⟨lw_m2 (i := 133) rfl, rfl⟩
theorem wk_1246 : Cond.methodLink RX3 19 yJ7_fill_d0a16 ∈ tl_L := List.mem_filter.mpr ⟨lw_m5 (i := 150) rfl, rfl⟩
theorem wk_1247 : Cond.static yJ7_fill_d0a16 ∈ tl_L := List.mem_filter.mpr ⟨lw_m5 (i := 151) rfl, rfl⟩
theorem wk_1248 : Cond.code yJ7_fill_d0a16 cJ7_fill_d0a16 5 none ∈ tl_L := List.mem_filter.mpr ⟨lw_m5 (i := 152) rfl, rfl⟩
theorem wk_1249 : Cond.methodLink RX3 25 yJ7_fill_53178 ∈ tl_L := List.mem_filter.mpr ⟨lw_m5 (i := 153) rfl, rfl⟩
theorem nk_61 : tl_N[61]? = some (Cond.fieldLinkNest "ThinLine$Rests" 28 "ThinLine$View" "used" "[Z" "ThinLine") := by decide +kernel
theorem nk_62 : tl_N[62]? = some (Cond.fieldLinkNest "ThinLine$Rests" 34 "ThinLine$View" "seen" "[I" "ThinLine") := by decide +kernel
theorem nk_64 : tl_N[64]? = some (Cond.fieldLinkNest "ThinLine$Rests" 37 "ThinLine$View" "height" "[I" "ThinLine") := by decide +kernel
theorem lk_X3_19 : tl_kS RX3 19 yJ7_fill_d0a16 cJ7_fill_d0a16 5 none 2 := ⟨wk_1248, wk_1246, wk_1247, wk_215, ⟨by decide +kernel, by decide +kernel, by decide +kernel⟩⟩
theorem lk_X3_25 : tl_kS RX3 25 yJ7_fill_53178 cJ7_fill_53178 4 none 2 := ⟨wk_216, wk_1249, wk_214, wk_215, ⟨by decide +kernel, by decide +kernel, by decide +kernel⟩⟩
theorem dX3_power_0 : decode cX3_power 0 = .ok (.aload_n 0, 1) := by decide +kernel
theorem dX3_power_1 : decode cX3_power 1 = .ok (.aload_n 1, 1) := by decide +kernel
theorem dX3_power_2 : decode cX3_power 2 = .ok (.iload_n 2, 1) := by decide +kernel
theorem dX3_power_3 : decode cX3_power 3 = .ok (.invokevirtual 40, 3) := by decide +kernel
theorem dX3_power_6 : decode cX3_power 6 = .ok (.lconst 0, 1) := by decide +kernel
theorem dX3_power_7 : decode cX3_power 7 = .ok (.lstore_n 3, 1) := by decide +kernel
theorem dX3_power_8 : decode cX3_power 8 = .ok (.iconst 0, 1) := by decide +kernel
theorem dX3_power_9 : decode cX3_power 9 = .ok (.istore 5, 2) := by decide +kernel
theorem dX3_power_11 : decode cX3_power 11 = .ok (.iload 5, 2) := by decide +kernel
theorem dX3_power_13 : decode cX3_power 13 = .ok (.bipush 99, 2) := by decide +kernel
theorem dX3_power_15 : decode cX3_power 15 = .ok (.if_icmp .ge 50, 3) := by decide +kernel
theorem dX3_power_18 : decode cX3_power 18 = .ok (.lload_n 3, 1) := by decide +kernel
theorem dX3_power_19 : decode cX3_power 19 = .ok (.aload_n 0, 1) := by decide +kernel
theorem dX3_power_20 : decode cX3_power 20 = .ok (.getfield 15, 3) := by decide +kernel
theorem dX3_power_23 : decode cX3_power 23 = .ok (.iload 5, 2) := by decide +kernel
theorem dX3_power_25 : decode cX3_power 25 = .ok (.iaload, 1) := by decide +kernel
theorem dX3_power_26 : decode cX3_power 26 = .ok (.ifCond .ne 7, 3) := by decide +kernel
theorem dX3_power_29 : decode cX3_power 29 = .ok (.lconst 0, 1) := by decide +kernel
theorem dX3_power_30 : decode cX3_power 30 = .ok (.goto 27, 3) := by decide +kernel
theorem dX3_power_33 : decode cX3_power 33 = .ok (.aload_n 0, 1) := by decide +kernel
theorem dX3_power_34 : decode cX3_power 34 = .ok (.getfield 9, 3) := by decide +kernel
theorem dX3_power_37 : decode cX3_power 37 = .ok (.iload 5, 2) := by decide +kernel
theorem dX3_power_39 : decode cX3_power 39 = .ok (.laload, 1) := by decide +kernel
theorem dX3_power_40 : decode cX3_power 40 = .ok (.aload_n 0, 1) := by decide +kernel
theorem dX3_power_41 : decode cX3_power 41 = .ok (.getfield 9, 3) := by decide +kernel
theorem dX3_power_44 : decode cX3_power 44 = .ok (.iload 5, 2) := by decide +kernel
theorem dX3_power_46 : decode cX3_power 46 = .ok (.laload, 1) := by decide +kernel
theorem dX3_power_47 : decode cX3_power 47 = .ok (.lmul, 1) := by decide +kernel
theorem dX3_power_48 : decode cX3_power 48 = .ok (.aload_n 0, 1) := by decide +kernel
theorem dX3_power_49 : decode cX3_power 49 = .ok (.getfield 15, 3) := by decide +kernel
theorem dX3_power_52 : decode cX3_power 52 = .ok (.iload 5, 2) := by decide +kernel
theorem dX3_power_54 : decode cX3_power 54 = .ok (.iaload, 1) := by decide +kernel
theorem dX3_power_55 : decode cX3_power 55 = .ok (.i2l, 1) := by decide +kernel
theorem dX3_power_56 : decode cX3_power 56 = .ok (.ldiv, 1) := by decide +kernel
theorem dX3_power_57 : decode cX3_power 57 = .ok (.ladd, 1) := by decide +kernel
theorem dX3_power_58 : decode cX3_power 58 = .ok (.lstore_n 3, 1) := by decide +kernel
theorem dX3_power_59 : decode cX3_power 59 = .ok (.iinc 5 1, 3) := by decide +kernel
theorem dX3_power_62 : decode cX3_power 62 = .ok (.goto (-51), 3) := by decide +kernel
theorem dX3_power_65 : decode cX3_power 65 = .ok (.lload_n 3, 1) := by decide +kernel
theorem dX3_power_66 : decode cX3_power 66 = .ok (.lreturn, 1) := by decide +kernel
theorem wk_45 : Cond.initialized RX3 ∈ tl_L := List.mem_filter.mpr ⟨lw_m1 (i := 13) rfl, rfl⟩
theorem wk_1242 : Cond.methodLink RX3 40 yX3_gather ∈ tl_L := List.mem_filter.mpr ⟨lw_m5 (i := 146) rfl, rfl⟩
theorem wk_1243 : Cond.instanceMethod yX3_gather ∈ tl_L := List.mem_filter.mpr ⟨lw_m5 (i := 148) rfl, rfl⟩
theorem wk_1244 : Cond.selects RX3 yX3_gather yX3_gather ∈ tl_L := List.mem_filter.mpr ⟨lw_s6 (i := 9) (q := (yX3_gather, 2)) rfl, rfl⟩
theorem wk_1245 : Cond.code yX3_gather cX3_gather 5 none ∈ tl_L := List.mem_filter.mpr ⟨lw_m5 (i := 149) rfl, rfl⟩
theorem lk_X3_40 : tl_kV RX3 40 RX3 yX3_gather cX3_gather 5 none 2 := ⟨wk_1245, wk_1242, wk_1243, wk_1244, wk_45, ⟨by decide +kernel, by decide +kernel, by decide +kernel⟩⟩
theorem dX3_found_0 : decode cX3_found 0 = .ok (.iconst 2, 1) := by decide +kernel
theorem dX3_found_1 : decode cX3_found 1 = .ok (.istore_n 2, 1) := by decide +kernel
theorem dX3_found_2 : decode cX3_found 2 = .ok (.aload_n 0, 1) := by decide +kernel
theorem dX3_found_3 : decode cX3_found 3 = .ok (.aload_n 1, 1) := by decide +kernel
theorem dX3_found_4 : decode cX3_found 4 = .ok (.iconst 2, 1) := by decide +kernel
theorem dX3_found_5 : decode cX3_found 5 = .ok (.invokevirtual 44, 3) := by decide +kernel
theorem dX3_found_8 : decode cX3_found 8 = .ok (.lstore_n 3, 1) := by decide +kernel
theorem dX3_found_9 : decode cX3_found 9 = .ok (.iconst 3, 1) := by decide +kernel
theorem dX3_found_10 : decode cX3_found 10 = .ok (.istore 5, 2) := by decide +kernel
theorem dX3_found_12 : decode cX3_found 12 = .ok (.iload 5, 2) := by decide +kernel
theorem dX3_found_14 : decode cX3_found 14 = .ok (.bipush 99, 2) := by decide +kernel
theorem dX3_found_16 : decode cX3_found 16 = .ok (.if_icmp .gt 31, 3) := by decide +kernel
theorem dX3_found_19 : decode cX3_found 19 = .ok (.aload_n 0, 1) := by decide +kernel
theorem dX3_found_20 : decode cX3_found 20 = .ok (.aload_n 1, 1) := by decide +kernel
theorem dX3_found_21 : decode cX3_found 21 = .ok (.iload 5, 2) := by decide +kernel
theorem dX3_found_23 : decode cX3_found 23 = .ok (.invokevirtual 44, 3) := by decide +kernel
theorem dX3_found_26 : decode cX3_found 26 = .ok (.lstore 6, 2) := by decide +kernel
theorem dX3_found_28 : decode cX3_found 28 = .ok (.lload 6, 2) := by decide +kernel
theorem dX3_found_30 : decode cX3_found 30 = .ok (.lload_n 3, 1) := by decide +kernel
theorem dX3_found_31 : decode cX3_found 31 = .ok (.lcmp, 1) := by decide +kernel
theorem dX3_found_32 : decode cX3_found 32 = .ok (.ifCond .le 9, 3) := by decide +kernel
theorem dX3_found_35 : decode cX3_found 35 = .ok (.iload 5, 2) := by decide +kernel
theorem dX3_found_37 : decode cX3_found 37 = .ok (.istore_n 2, 1) := by decide +kernel
theorem dX3_found_38 : decode cX3_found 38 = .ok (.lload 6, 2) := by decide +kernel
theorem dX3_found_40 : decode cX3_found 40 = .ok (.lstore_n 3, 1) := by decide +kernel
theorem dX3_found_41 : decode cX3_found 41 = .ok (.iinc 5 1, 3) := by decide +kernel
theorem dX3_found_44 : decode cX3_found 44 = .ok (.goto (-32), 3) := by decide +kernel
theorem dX3_found_47 : decode cX3_found 47 = .ok (.iload_n 2, 1) := by decide +kernel
theorem dX3_found_48 : decode cX3_found 48 = .ok (.ireturn, 1) := by decide +kernel
theorem wk_1238 : Cond.methodLink RX3 44 yX3_power ∈ tl_L := List.mem_filter.mpr ⟨lw_m5 (i := 142) rfl, rfl⟩
theorem wk_1239 : Cond.instanceMethod yX3_power ∈ tl_L := List.mem_filter.mpr ⟨lw_m5 (i := 144) rfl, rfl⟩
theorem wk_1240 : Cond.selects RX3 yX3_power yX3_power ∈ tl_L := List.mem_filter.mpr ⟨lw_s6 (i := 8) (q := (yX3_power, 2)) rfl, rfl⟩
theorem wk_1241 : Cond.code yX3_power cX3_power 6 (some .long) ∈ tl_L := List.mem_filter.mpr ⟨lw_m5 (i := 145) rfl, rfl⟩
theorem lk_X3_44 : tl_kV RX3 44 RX3 yX3_power cX3_power 6 (some .long) 2 := ⟨wk_1241, wk_1238, wk_1239, wk_1240, wk_45, ⟨by decide +kernel, by decide +kernel, by decide +kernel⟩⟩
theorem dX3_meanAt_0 : decode cX3_meanAt 0 = .ok (.iload_n 1, 1) := by decide +kernel
theorem dX3_meanAt_1 : decode cX3_meanAt 1 = .ok (.ifCond .lt 22, 3) := by decide +kernel
theorem dX3_meanAt_4 : decode cX3_meanAt 4 = .ok (.iload_n 1, 1) := by decide +kernel
theorem dX3_meanAt_5 : decode cX3_meanAt 5 = .ok (.bipush 99, 2) := by decide +kernel
theorem dX3_meanAt_7 : decode cX3_meanAt 7 = .ok (.if_icmp .ge 16, 3) := by decide +kernel
theorem dX3_meanAt_10 : decode cX3_meanAt 10 = .ok (.aload_n 0, 1) := by decide +kernel
theorem dX3_meanAt_11 : decode cX3_meanAt 11 = .ok (.getfield 15, 3) := by decide +kernel
theorem dX3_meanAt_14 : decode cX3_meanAt 14 = .ok (.iload_n 1, 1) := by decide +kernel
theorem dX3_meanAt_15 : decode cX3_meanAt 15 = .ok (.iaload, 1) := by decide +kernel
theorem dX3_meanAt_16 : decode cX3_meanAt 16 = .ok (.ifCond .eq 7, 3) := by decide +kernel
theorem dX3_meanAt_19 : decode cX3_meanAt 19 = .ok (.iconst 1, 1) := by decide +kernel
theorem dX3_meanAt_20 : decode cX3_meanAt 20 = .ok (.goto 4, 3) := by decide +kernel
theorem dX3_meanAt_23 : decode cX3_meanAt 23 = .ok (.iconst 0, 1) := by decide +kernel
theorem dX3_meanAt_24 : decode cX3_meanAt 24 = .ok (.istore_n 2, 1) := by decide +kernel
theorem dX3_meanAt_25 : decode cX3_meanAt 25 = .ok (.iload_n 2, 1) := by decide +kernel
theorem dX3_meanAt_26 : decode cX3_meanAt 26 = .ok (.ifCond .eq 22, 3) := by decide +kernel
theorem dX3_meanAt_29 : decode cX3_meanAt 29 = .ok (.aload_n 0, 1) := by decide +kernel
theorem dX3_meanAt_30 : decode cX3_meanAt 30 = .ok (.getfield 9, 3) := by decide +kernel
theorem dX3_meanAt_33 : decode cX3_meanAt 33 = .ok (.iload_n 1, 1) := by decide +kernel
theorem dX3_meanAt_34 : decode cX3_meanAt 34 = .ok (.laload, 1) := by decide +kernel
theorem dX3_meanAt_35 : decode cX3_meanAt 35 = .ok (.aload_n 0, 1) := by decide +kernel
theorem dX3_meanAt_36 : decode cX3_meanAt 36 = .ok (.getfield 15, 3) := by decide +kernel
theorem dX3_meanAt_39 : decode cX3_meanAt 39 = .ok (.iload_n 1, 1) := by decide +kernel
theorem dX3_meanAt_40 : decode cX3_meanAt 40 = .ok (.iaload, 1) := by decide +kernel
theorem dX3_meanAt_41 : decode cX3_meanAt 41 = .ok (.i2l, 1) := by decide +kernel
theorem dX3_meanAt_42 : decode cX3_meanAt 42 = .ok (.invokestatic 48, 3) := by decide +kernel
theorem dX3_meanAt_45 : decode cX3_meanAt 45 = .ok (.goto 4, 3) := by decide +kernel
theorem dX3_meanAt_48 : decode cX3_meanAt 48 = .ok (.lconst 0, 1) := by decide +kernel
theorem dX3_meanAt_49 : decode cX3_meanAt 49 = .ok (.lreturn, 1) := by decide +kernel
theorem wk_1269 : Cond.methodLink RX3 48 yJ9_floorDiv_f86c9 ∈ tl_L := List.mem_filter.mpr ⟨lw_m5 (i := 164) rfl, rfl⟩
theorem lk_X3_48 : tl_kS RX3 48 yJ9_floorDiv_f86c9 cJ9_floorDiv_f86c9 6 (some .long) 2 := ⟨wk_973, wk_1269, wk_972, wk_869, ⟨by decide +kernel, by decide +kernel, by decide +kernel⟩⟩
set_option maxHeartbeats 4000000 in
set_option maxRecDepth 100000 in
theorem t_X3_gather (l : Launch) (D : va_G) (cy : Nat → ClassId) (sz : Nat) (L : List Nat) (K : Nat → tk_K) (Γ : tk_G) (f : Nat → va_E) (o : Nat) (q : Nat) (p0 : Int32) (ho : tp_r L K 33 (0) 0 o) (hq : tp_r L K 27 (0) 0 q) : Met l yX3_gather (tl_w yX3_gather cX3_gather 5 none) ({ frames := 1, cells := 0, slots := 0, locals := 24 }) (va_Pc [.ref o, .ref q, .int p0] (tp_P D cy L K Γ f sz)) (va_Qv (fun (u : Nat → va_E) => True) (tp_B D cy L K Γ f [34, 35]) (tp_A L sz)) 0 0 (tp_A L sz) := by
  refine Met.ofW (cc := cX3_gather) (maxL := 5) (ret := none) (by decide) rfl ?_
  intro p e s m args below meth c s₁ B hml hv
  obtain ⟨rfl, hsz, hP, hK, hL, hI, hN, hU⟩ := hv
  have hx := B.exec
  have hb := B.bytes
  have hr := B.returns
  have hta := tl_hta (atoms_spec (ws := tl_w yX3_gather cX3_gather 5 none) B.pre)
  have hown : s.vm.findClass RX3 = some m.cls := findClass_of_methodNamed B.named
  have hlocks := B.notSynchronized
  subst hsz
  have hI0 := hI
  generalize hAe : tp_A L s.heap.size = A
  have hA : ∀ q : Nat, s.heap.size ≤ q → A q := fun q h => by rw [← hAe]; exact Or.inr h
  have hAL : ∀ q ∈ L, A q := fun q h => by rw [← hAe]; exact Or.inl h
  have hAf : ∀ (H : Heap), s.heap.size ≤ H.size → ∀ q, tp_A L H.size q → A q := fun H h q hq => hq.elim (hAL q) (fun h2 => hA q (Nat.le_trans h h2))
  have hS : va_S A s.heap s.heap [] := va_S.rf
  have hD : va_D A (va_pl L f) := tp_D hL hAL
  have hfr : ∀ b, (K b).1 ∉ ([34, 35] : List Nat) → f b = f b := fun _ _ => rfl
  have hl := lv_entry ([.ref o, .ref q, .int p0]) (n := 5) (Nat.le_of_ble_eq_true rfl)
  rw [lg_entry_eq]
  generalize (lg_sl ([.ref o, .ref q, .int p0]) ++ List.replicate (5 - (lg_sl ([.ref o, .ref q, .int p0])).length) Slot.unset).toArray = ls at hl ⊢
  have hl : lv_has ls 5 [(0, .ref o), (1, .ref q), (2, .int p0)] := hl
  refine lv_aload_n hx hb dX3_gather_0 rfl (lv_at hl 0 rfl) ?_
  obtain ⟨x_2, x_3, hf_1, hx_2, hx_3⟩ := (show tp_o_RESTS L K (0) 0 (Γ (33, 0, 0)) (f o) from hI0.at ho)
  refine tp_get (cy := cy) (ci := 3) (v := .ref x_2) (C := RX3) (T := TX3) (N := 2) hx hb hta inlX3 hown hK hP ho.1 hf_1 rfl 0 (by decide) (hta _ wk_143) (fun _ h9 => h9) rfl dX3_gather_1 ?_
  refine lv_lconst (v := 0) hx hb dX3_gather_4 (by decide) ?_
  refine tq_cv hS (hAf _ hS.1) (tq_rS (As := [.ref x_2, .long 0]) (rest := []) ⟨hx, hb, hml, hown, hta⟩ (tp_P.pre hK hN hL hU hI hP) lk_X3_19 (t_fill_RL l D cy s.heap.size L K Γ f x_2 0 hx_2) rfl rfl ⟨Nat.le_of_ble_eq_true rfl, Nat.le_of_ble_eq_true rfl⟩ rfl hl.1 rfl (Nat.le_of_ble_eq_true rfl) dX3_gather_5 ⟨Nat.le_of_ble_eq_true rfl, Nat.le_of_ble_eq_true rfl⟩) (fun f_6 H locs hw_4 hP hI hc_7 hS => ?_)
  have hD : va_D A (va_pl L f_6) := tp_D hL hAL
  have hfr := tp_fr2 hfr hc_7 (by decide)
  refine lv_aload_n hx hb dX3_gather_8 rfl (lv_at hl 0 rfl) ?_
  refine tp_get (cy := cy) (ci := 3) (v := .ref x_3) (C := RX3) (T := TX3) (N := 2) hx hb hta inlX3 hown hK hP ho.1 ((tp_un hfr ho (by decide)).trans hf_1) rfl 1 (by decide) (hta _ wk_144) (fun _ h9 => h9) rfl dX3_gather_9 ?_
  refine lv_iconst (v := 0) hx hb dX3_gather_12 (by decide) ?_
  refine tq_cv hS (hAf _ hS.1) (tq_rS (As := [.ref x_3, .int 0]) (rest := []) ⟨hx, hb, hml, hown, hta⟩ (tp_P.pre hK hN hL hU hI hP) lk_X3_25 (t_fill_RM l D cy H.size L K Γ f_6 x_3 0 hx_3) rfl rfl ⟨Nat.le_of_ble_eq_true rfl, Nat.le_of_ble_eq_true rfl⟩ rfl hl.1 rfl (Nat.le_of_ble_eq_true rfl) dX3_gather_13 ⟨Nat.le_of_ble_eq_true rfl, Nat.le_of_ble_eq_true rfl⟩) (fun f_10 H locs hw_8 hP hI hc_11 hS => ?_)
  have hD : va_D A (va_pl L f_10) := tp_D hL hAL
  have hfr := tp_fr2 hfr hc_11 (by decide)
  refine lv_iconst (v := 0) hx hb dX3_gather_16 (by decide) ?_
  refine lv_istore_n (lv' := [(3, .int 0), (0, .ref o), (1, .ref q), (2, .int p0)]) hx hb dX3_gather_17 rfl hl (by decide) rfl (fun ls hl => ?_)
  refine lv_iconst (v := 0) hx hb dX3_gather_18 (by decide) ?_
  refine lv_istore (lv' := [(4, .int 0), (3, .int 0), (0, .ref o), (1, .ref q), (2, .int p0)]) hx hb dX3_gather_19 hl (by decide) rfl (fun ls hl => ?_)
  refine tl_ind (G := fun H locs ls => W p l e ((headSpec (tl_w yX3_gather cX3_gather 5 none) ({ frames := 1, cells := 0, slots := 0, locals := 24 })).room) s m #[.ref o, .ref q, .int p0] below meth c H locs 0 0 (MQ below (va_Qv (fun (u : Nat → va_E) => True) (tp_B D cy L K Γ f [34, 35]) A) #[.ref o, .ref q, .int p0] s 0 0 A) (F0 m 21 ls [])) (α := (Nat → va_E) × Int32 × Int32) (fun aq => (300 - aq.2.1.toInt).toNat) (fun aq H locs ls => (0 ≤ aq.2.1.toInt ∧ aq.2.1.toInt ≤ 300) ∧ (0 ≤ aq.2.2.toInt ∧ aq.2.2.toInt ≤ 98) ∧ va_P D vwCl (va_pl L aq.1) H ∧ tp_I cy L K Γ aq.1 ∧ (∀ b, (K b).1 ∉ ([34, 35] : List Nat) → aq.1 b = f b) ∧ va_S A s.heap H locs ∧ lv_has ls 5 [(4, .int aq.2.1), (3, .int aq.2.2), (0, .ref o), (1, .ref q), (2, .int p0)]) ?_ (f_10, (0 : Int32), (0 : Int32)) H locs ls ⟨(show 0 ≤ (0 : Int) ∧ (0 : Int) ≤ 300 from (by omega)), (show 0 ≤ (0 : Int) ∧ (0 : Int) ≤ 98 from (by omega)), hP, hI, hfr, hS, lv_sub hl [0, 1, 2, 3, 4] rfl⟩
  rintro ⟨f_12, v4, v3⟩ H locs ls ⟨h0, h1, hP, hI, hfr, hS, hl⟩ ih21
  have hP : va_P D vwCl (va_pl L f_12) H := hP
  have hI : tp_I cy L K Γ f_12 := hI
  have hfr : ∀ b, (K b).1 ∉ ([34, 35] : List Nat) → f_12 b = f b := hfr
  have hD : va_D A (va_pl L f_12) := tp_D hL hAL
  have h0 : 0 ≤ v4.toInt ∧ v4.toInt ≤ 300 := h0
  have h1 : 0 ≤ v3.toInt ∧ v3.toInt ≤ 98 := h1
  have hl : lv_has ls 5 [(4, .int v4), (3, .int v3), (0, .ref o), (1, .ref q), (2, .int p0)] := hl
  refine lv_iload hx hb dX3_gather_21 (lv_at hl 0 rfl) ?_
  refine lv_sipush (v := 300) hx hb dX3_gather_23 (by decide) ?_
  refine lv_icmp_ge (tgt := 103) hx hb dX3_gather_26 (by decide) (fun c_13 => ?_) (fun c_13 => ?_)
  · have c_13 : (300 : Int) ≤ v4.toInt := tl_le c_13
    exact W.vret hx hb hr (fun t ht hW => ⟨⟨f_12, rfl, trivial, by rw [ht]; exact hP, hI, hfr⟩, hS.F ht⟩) hS.2.2 dX3_gather_103
  · have c_13 : v4.toInt < (300 : Int) := tl_nle c_13
    refine lv_aload_n hx hb dX3_gather_29 rfl (lv_at hl 3 rfl) ?_
    obtain ⟨x_15, x_16, x_17, x_18, x_19, x_20, x_21, x_22, x_23, x_24, x_25, x_26, x_27, x_28, x_29, x_30, x_31, x_32, hf_14, hx_15, hx_16, hx_17, hx_18, hx_19, hx_20, hx_21, hx_22, hx_23, hx_25, hx_28⟩ := (show tp_o_VIEW L K (0) 0 (Γ (27, 0, 0)) (f q) from hI0.at hq)
    refine tp_getN (cy := cy) (ci := 10) (v := .ref x_17) (C := RX10) (T := TX10) (N := 18) hx hb hta inlX10 hown hK hP hq.1 ((tp_un hfr hq (by decide)).trans hf_14) rfl 2 (by decide) (va_Nw.use rfl (hN.1 61 _ nk_61)) (fun _ h9 => h9) rfl dX3_gather_30 ?_
    refine lv_iload hx hb dX3_gather_33 (lv_at hl 0 rfl) ?_
    obtain ⟨g_34, hf_33⟩ := (show tp_az cy (300) (f x_17) from hI0.at hx_17)
    have hn_36 : vp_in v4 (300) := tl_in (by omega) (by omega)
    refine tp_zald (cy := cy) hx hb hK hP hx_17.1 ((tp_un hfr hx_17 (by decide)).trans hf_33) hn_36 dX3_gather_35 ?_
    refine lv_topi (fun z_37 ez_37 => ?_)
    refine lv_if_eq (tgt := 74) hx hb dX3_gather_36 (by decide) (fun c_38 => ?_) (fun c_38 => ?_)
    · have c_38 : z_37.toInt = (0 : Int) := tl_eq c_38
      refine lv_iload_n hx hb dX3_gather_74 rfl (lv_at hl 1 rfl) ?_
      refine lv_iconst (v := 1) hx hb dX3_gather_75 (by decide) ?_
      refine lv_iadd hx hb dX3_gather_76 ?_
      refine lv_topi (fun z_39 ez_39 => ?_)
      try have iz_39 : z_39.toInt = v3.toInt + (1 : Int) := by rw [ez_39]; exact tl_addN v3 1 rfl rfl (by omega) (by omega)
      refine lv_iload_n hx hb dX3_gather_77 rfl (lv_at hl 4 rfl) ?_
      refine lv_icmp_ge (tgt := 95) hx hb dX3_gather_78 (by decide) (fun c_40 => ?_) (fun c_40 => ?_)
      · have c_40 : p0.toInt ≤ z_39.toInt := tl_le c_40
        refine lv_iconst (v := 0) hx hb dX3_gather_95 (by decide) ?_
        refine lv_istore_n (lv' := [(3, .int 0), (4, .int v4), (0, .ref o), (1, .ref q), (2, .int p0)]) hx hb dX3_gather_96 rfl hl (by decide) rfl (fun ls hl => ?_)
        obtain ⟨z_41, ez_41⟩ : ∃ y : Int32, y = v4 + 1 := ⟨_, rfl⟩
        refine lv_iinc (v := z_41) (lv' := [(4, .int z_41), (3, .int 0), (0, .ref o), (1, .ref q), (2, .int p0)]) hx hb dX3_gather_97 hl (k := 1) rfl (by rw [ez_41]; rfl) (by decide) rfl (fun ls hl => ?_)
        try have iz_41 : z_41.toInt = v4.toInt + 1 := by rw [ez_41]; exact tl_addL v4 1 (by decide) (by omega) (by omega)
        refine lv_goto (tgt := 21) hx hb dX3_gather_100 (by decide) ?_
        exact ih21 (f_12, z_41, 0) H locs ls (by show (300 - z_41.toInt).toNat < (300 - v4.toInt).toNat; omega) ⟨(show 0 ≤ z_41.toInt ∧ z_41.toInt ≤ 300 from (by omega)), (show 0 ≤ (0 : Int) ∧ (0 : Int) ≤ 98 from (by omega)), hP, hI, hfr, hS, lv_sub hl [0, 1, 2, 3, 4] rfl⟩
      · have c_40 : z_39.toInt < p0.toInt := tl_nle c_40
        refine lv_iload_n hx hb dX3_gather_81 rfl (lv_at hl 1 rfl) ?_
        refine lv_iconst (v := 1) hx hb dX3_gather_82 (by decide) ?_
        refine lv_iadd hx hb dX3_gather_83 ?_
        refine lv_topi (fun z_42 ez_42 => ?_)
        try have iz_42 : z_42.toInt = v3.toInt + (1 : Int) := by rw [ez_42]; exact tl_addN v3 1 rfl rfl (by omega) (by omega)
        refine lv_bipush (v := 99) hx hb dX3_gather_84 (by decide) ?_
        refine lv_icmp_ge (tgt := 95) hx hb dX3_gather_86 (by decide) (fun c_43 => ?_) (fun c_43 => ?_)
        · have c_43 : (99 : Int) ≤ z_42.toInt := tl_le c_43
          refine lv_iconst (v := 0) hx hb dX3_gather_95 (by decide) ?_
          refine lv_istore_n (lv' := [(3, .int 0), (4, .int v4), (0, .ref o), (1, .ref q), (2, .int p0)]) hx hb dX3_gather_96 rfl hl (by decide) rfl (fun ls hl => ?_)
          obtain ⟨z_44, ez_44⟩ : ∃ y : Int32, y = v4 + 1 := ⟨_, rfl⟩
          refine lv_iinc (v := z_44) (lv' := [(4, .int z_44), (3, .int 0), (0, .ref o), (1, .ref q), (2, .int p0)]) hx hb dX3_gather_97 hl (k := 1) rfl (by rw [ez_44]; rfl) (by decide) rfl (fun ls hl => ?_)
          try have iz_44 : z_44.toInt = v4.toInt + 1 := by rw [ez_44]; exact tl_addL v4 1 (by decide) (by omega) (by omega)
          refine lv_goto (tgt := 21) hx hb dX3_gather_100 (by decide) ?_
          exact ih21 (f_12, z_44, 0) H locs ls (by show (300 - z_44.toInt).toNat < (300 - v4.toInt).toNat; omega) ⟨(show 0 ≤ z_44.toInt ∧ z_44.toInt ≤ 300 from (by omega)), (show 0 ≤ (0 : Int) ∧ (0 : Int) ≤ 98 from (by omega)), hP, hI, hfr, hS, lv_sub hl [0, 1, 2, 3, 4] rfl⟩
        · have c_43 : z_42.toInt < (99 : Int) := tl_nle c_43
          refine lv_iload_n hx hb dX3_gather_89 rfl (lv_at hl 1 rfl) ?_
          refine lv_iconst (v := 1) hx hb dX3_gather_90 (by decide) ?_
          refine lv_iadd hx hb dX3_gather_91 ?_
          refine lv_topi (fun z_45 ez_45 => ?_)
          try have iz_45 : z_45.toInt = v3.toInt + (1 : Int) := by rw [ez_45]; exact tl_addN v3 1 rfl rfl (by omega) (by omega)
          refine lv_goto (tgt := 96) hx hb dX3_gather_92 (by decide) ?_
          refine lv_istore_n (lv' := [(3, .int z_45), (4, .int v4), (0, .ref o), (1, .ref q), (2, .int p0)]) hx hb dX3_gather_96 rfl hl (by decide) rfl (fun ls hl => ?_)
          obtain ⟨z_46, ez_46⟩ : ∃ y : Int32, y = v4 + 1 := ⟨_, rfl⟩
          refine lv_iinc (v := z_46) (lv' := [(4, .int z_46), (3, .int z_45), (0, .ref o), (1, .ref q), (2, .int p0)]) hx hb dX3_gather_97 hl (k := 1) rfl (by rw [ez_46]; rfl) (by decide) rfl (fun ls hl => ?_)
          try have iz_46 : z_46.toInt = v4.toInt + 1 := by rw [ez_46]; exact tl_addL v4 1 (by decide) (by omega) (by omega)
          refine lv_goto (tgt := 21) hx hb dX3_gather_100 (by decide) ?_
          exact ih21 (f_12, z_46, z_45) H locs ls (by show (300 - z_46.toInt).toNat < (300 - v4.toInt).toNat; omega) ⟨(show 0 ≤ z_46.toInt ∧ z_46.toInt ≤ 300 from (by omega)), (show 0 ≤ z_45.toInt ∧ z_45.toInt ≤ 98 from (by omega)), hP, hI, hfr, hS, lv_sub hl [0, 1, 2, 3, 4] rfl⟩
    · have c_38 : ¬ z_37.toInt = (0 : Int) := tl_neq c_38
      refine lv_aload_n hx hb dX3_gather_39 rfl (lv_at hl 2 rfl) ?_
      refine tp_get (cy := cy) (ci := 3) (v := .ref x_2) (C := RX3) (T := TX3) (N := 2) hx hb hta inlX3 hown hK hP ho.1 ((tp_un hfr ho (by decide)).trans hf_1) rfl 0 (by decide) (hta _ wk_143) (fun _ h9 => h9) rfl dX3_gather_40 ?_
      refine lv_iload_n hx hb dX3_gather_43 rfl (lv_at hl 1 rfl) ?_
      refine lv_dup2_11 hx hb dX3_gather_44 rfl rfl ?_
      obtain ⟨g_48, hf_47⟩ := (show tp_aj cy (99) (f_12 x_2) from hI.at hx_2)
      have hn_50 : vp_in v3 (99) := tl_in (by omega) (by omega)
      refine tp_lald (cy := cy) hx hb hK hP hx_2.1 hf_47 hn_50 dX3_gather_45 ?_
      refine lv_topl (fun z_51 ez_51 => ?_)
      refine lv_aload_n hx hb dX3_gather_46 rfl (lv_at hl 3 rfl) ?_
      refine tp_getN (cy := cy) (ci := 10) (v := .ref x_18) (C := RX10) (T := TX10) (N := 18) hx hb hta inlX10 hown hK hP hq.1 ((tp_un hfr hq (by decide)).trans hf_14) rfl 3 (by decide) (va_Nw.use rfl (hN.1 62 _ nk_62)) (fun _ h9 => h9) rfl dX3_gather_47 ?_
      refine lv_iload hx hb dX3_gather_50 (lv_at hl 0 rfl) ?_
      obtain ⟨g_53, hf_52, hg_54⟩ := (show tp_ai cy 29 (300) (f x_18) from hI0.at hx_18)
      have hn_55 : vp_in v4 (300) := tl_in (by omega) (by omega)
      refine tp_iald (cy := cy) hx hb hK hP hx_18.1 ((tp_un hfr hx_18 (by decide)).trans hf_52) hn_55 dX3_gather_52 ?_
      refine lv_topi (fun z_56 ez_56 => ?_)
      refine lv_aload_n hx hb dX3_gather_53 rfl (lv_at hl 3 rfl) ?_
      refine tp_getN (cy := cy) (ci := 10) (v := .ref x_19) (C := RX10) (T := TX10) (N := 18) hx hb hta inlX10 hown hK hP hq.1 ((tp_un hfr hq (by decide)).trans hf_14) rfl 4 (by decide) (va_Nw.use rfl (hN.1 64 _ nk_64)) (fun _ h9 => h9) rfl dX3_gather_54 ?_
      refine lv_iload hx hb dX3_gather_57 (lv_at hl 0 rfl) ?_
      obtain ⟨g_58, hf_57, hg_59⟩ := (show tp_ai cy 29 (300) (f x_19) from hI0.at hx_19)
      have hn_60 : vp_in v4 (300) := tl_in (by omega) (by omega)
      refine tp_iald (cy := cy) hx hb hK hP hx_19.1 ((tp_un hfr hx_19 (by decide)).trans hf_57) hn_60 dX3_gather_59 ?_
      refine lv_topi (fun z_61 ez_61 => ?_)
      refine lv_isub hx hb dX3_gather_60 ?_
      refine lv_topi (fun z_62 ez_62 => ?_)
      try have iz_62 : z_62.toInt = z_56.toInt - z_61.toInt := by rw [ez_62]; exact tl_subN z_56 z_61 rfl rfl (by omega) (by omega)
      refine lv_i2l (v := z_62.toInt64) hx hb dX3_gather_61 (by first | rfl | decide) ?_
      refine lv_ladd hx hb dX3_gather_62 ?_
      refine lv_topl (fun z_63 ez_63 => ?_)
      have hn_64 : vp_in v3 (99) := tl_in (by omega) (by omega)
      have hI9 : tp_I cy L K Γ (va_up f_12 x_2 (.inl (cy 1, 99, .inr (.inl (vp_updL g_48 v3.toNatClampNeg z_63))))) := hI.set hx_2 (show tp_aj cy (99) _ from ⟨_, rfl⟩)
      have hfr9 : ∀ b, (K b).1 ∉ ([34, 35] : List Nat) → va_up f_12 x_2 (.inl (cy 1, 99, .inr (.inl (vp_updL g_48 v3.toNatClampNeg z_63)))) b = f b := tp_fr hfr hx_2 (by decide)
      refine tp_last (cy := cy) hx hb hK hP hD hS hx_2.1 hf_47 hn_64 dX3_gather_63 (fun H locs hP hD hS => ?_)
      have hP : va_P D vwCl (va_pl L (va_up f_12 x_2 (.inl (cy 1, 99, .inr (.inl (vp_updL g_48 v3.toNatClampNeg z_63)))))) H := hP
      generalize hfe : va_up f_12 x_2 (.inl (cy 1, 99, .inr (.inl (vp_updL g_48 v3.toNatClampNeg z_63)))) = f_65 at hP hI9 hfr9
      have hD : va_D A (va_pl L f_65) := tp_D hL hAL
      have hf_66 : f_65 x_2 = .inl (cy 1, 99, .inr (.inl (vp_updL g_48 v3.toNatClampNeg z_63))) := by rw [← hfe]; exact va_up_self _ _ _
      clear hfe
      have hI := hI9
      have hfr := hfr9
      clear hI9 hfr9
      refine lv_aload_n hx hb dX3_gather_64 rfl (lv_at hl 2 rfl) ?_
      refine tp_get (cy := cy) (ci := 3) (v := .ref x_3) (C := RX3) (T := TX3) (N := 2) hx hb hta inlX3 hown hK hP ho.1 ((tp_un hfr ho (by decide)).trans hf_1) rfl 1 (by decide) (hta _ wk_144) (fun _ h9 => h9) rfl dX3_gather_65 ?_
      refine lv_iload_n hx hb dX3_gather_68 rfl (lv_at hl 1 rfl) ?_
      refine lv_dup2_11 hx hb dX3_gather_69 rfl rfl ?_
      obtain ⟨g_68, hf_67, hg_69⟩ := (show tp_ai cy 35 (99) (f_65 x_3) from hI.at hx_3)
      have hn_70 : vp_in v3 (99) := tl_in (by omega) (by omega)
      refine tp_iald (cy := cy) hx hb hK hP hx_3.1 hf_67 hn_70 dX3_gather_70 ?_
      refine lv_topi (fun z_71 ez_71 => ?_)
      refine lv_iconst (v := 1) hx hb dX3_gather_71 (by decide) ?_
      refine lv_iadd hx hb dX3_gather_72 ?_
      refine lv_topi (fun z_72 ez_72 => ?_)
      try have iz_72 : z_72.toInt = z_71.toInt + (1 : Int) := by rw [ez_72]; exact tl_addN z_71 1 rfl rfl (by omega) (by omega)
      have hn_73 : vp_in v3 (99) := tl_in (by omega) (by omega)
      have hI9 : tp_I cy L K Γ (va_up f_65 x_3 (.inl (cy 0, 99, .inl (upd g_68 v3.toNatClampNeg z_72)))) := hI.set hx_3 (show tp_ai cy 35 (99) _ from ⟨_, rfl, tp_pi_upd hg_69 trivial⟩)
      have hfr9 : ∀ b, (K b).1 ∉ ([34, 35] : List Nat) → va_up f_65 x_3 (.inl (cy 0, 99, .inl (upd g_68 v3.toNatClampNeg z_72))) b = f b := tp_fr hfr hx_3 (by decide)
      refine tp_iast (cy := cy) hx hb hK hP hD hS hx_3.1 hf_67 hn_73 dX3_gather_73 (fun H locs hP hD hS => ?_)
      have hP : va_P D vwCl (va_pl L (va_up f_65 x_3 (.inl (cy 0, 99, .inl (upd g_68 v3.toNatClampNeg z_72))))) H := hP
      generalize hfe : va_up f_65 x_3 (.inl (cy 0, 99, .inl (upd g_68 v3.toNatClampNeg z_72))) = f_74 at hP hI9 hfr9
      have hD : va_D A (va_pl L f_74) := tp_D hL hAL
      have hf_75 : f_74 x_3 = .inl (cy 0, 99, .inl (upd g_68 v3.toNatClampNeg z_72)) := by rw [← hfe]; exact va_up_self _ _ _
      clear hfe
      have hI := hI9
      have hfr := hfr9
      clear hI9 hfr9
      refine lv_iload_n hx hb dX3_gather_74 rfl (lv_at hl 1 rfl) ?_
      refine lv_iconst (v := 1) hx hb dX3_gather_75 (by decide) ?_
      refine lv_iadd hx hb dX3_gather_76 ?_
      refine lv_topi (fun z_76 ez_76 => ?_)
      try have iz_76 : z_76.toInt = v3.toInt + (1 : Int) := by rw [ez_76]; exact tl_addN v3 1 rfl rfl (by omega) (by omega)
      refine lv_iload_n hx hb dX3_gather_77 rfl (lv_at hl 4 rfl) ?_
      refine lv_icmp_ge (tgt := 95) hx hb dX3_gather_78 (by decide) (fun c_77 => ?_) (fun c_77 => ?_)
      · have c_77 : p0.toInt ≤ z_76.toInt := tl_le c_77
        refine lv_iconst (v := 0) hx hb dX3_gather_95 (by decide) ?_
        refine lv_istore_n (lv' := [(3, .int 0), (4, .int v4), (0, .ref o), (1, .ref q), (2, .int p0)]) hx hb dX3_gather_96 rfl hl (by decide) rfl (fun ls hl => ?_)
        obtain ⟨z_78, ez_78⟩ : ∃ y : Int32, y = v4 + 1 := ⟨_, rfl⟩
        refine lv_iinc (v := z_78) (lv' := [(4, .int z_78), (3, .int 0), (0, .ref o), (1, .ref q), (2, .int p0)]) hx hb dX3_gather_97 hl (k := 1) rfl (by rw [ez_78]; rfl) (by decide) rfl (fun ls hl => ?_)
        try have iz_78 : z_78.toInt = v4.toInt + 1 := by rw [ez_78]; exact tl_addL v4 1 (by decide) (by omega) (by omega)
        refine lv_goto (tgt := 21) hx hb dX3_gather_100 (by decide) ?_
        exact ih21 (f_74, z_78, 0) H locs ls (by show (300 - z_78.toInt).toNat < (300 - v4.toInt).toNat; omega) ⟨(show 0 ≤ z_78.toInt ∧ z_78.toInt ≤ 300 from (by omega)), (show 0 ≤ (0 : Int) ∧ (0 : Int) ≤ 98 from (by omega)), hP, hI, hfr, hS, lv_sub hl [0, 1, 2, 3, 4] rfl⟩
      · have c_77 : z_76.toInt < p0.toInt := tl_nle c_77
        refine lv_iload_n hx hb dX3_gather_81 rfl (lv_at hl 1 rfl) ?_
        refine lv_iconst (v := 1) hx hb dX3_gather_82 (by decide) ?_
        refine lv_iadd hx hb dX3_gather_83 ?_
        refine lv_topi (fun z_79 ez_79 => ?_)
        try have iz_79 : z_79.toInt = v3.toInt + (1 : Int) := by rw [ez_79]; exact tl_addN v3 1 rfl rfl (by omega) (by omega)
        refine lv_bipush (v := 99) hx hb dX3_gather_84 (by decide) ?_
        refine lv_icmp_ge (tgt := 95) hx hb dX3_gather_86 (by decide) (fun c_80 => ?_) (fun c_80 => ?_)
        · have c_80 : (99 : Int) ≤ z_79.toInt := tl_le c_80
          refine lv_iconst (v := 0) hx hb dX3_gather_95 (by decide) ?_
          refine lv_istore_n (lv' := [(3, .int 0), (4, .int v4), (0, .ref o), (1, .ref q), (2, .int p0)]) hx hb dX3_gather_96 rfl hl (by decide) rfl (fun ls hl => ?_)
          obtain ⟨z_81, ez_81⟩ : ∃ y : Int32, y = v4 + 1 := ⟨_, rfl⟩
          refine lv_iinc (v := z_81) (lv' := [(4, .int z_81), (3, .int 0), (0, .ref o), (1, .ref q), (2, .int p0)]) hx hb dX3_gather_97 hl (k := 1) rfl (by rw [ez_81]; rfl) (by decide) rfl (fun ls hl => ?_)
          try have iz_81 : z_81.toInt = v4.toInt + 1 := by rw [ez_81]; exact tl_addL v4 1 (by decide) (by omega) (by omega)
          refine lv_goto (tgt := 21) hx hb dX3_gather_100 (by decide) ?_
          exact ih21 (f_74, z_81, 0) H locs ls (by show (300 - z_81.toInt).toNat < (300 - v4.toInt).toNat; omega) ⟨(show 0 ≤ z_81.toInt ∧ z_81.toInt ≤ 300 from (by omega)), (show 0 ≤ (0 : Int) ∧ (0 : Int) ≤ 98 from (by omega)), hP, hI, hfr, hS, lv_sub hl [0, 1, 2, 3, 4] rfl⟩
        · have c_80 : z_79.toInt < (99 : Int) := tl_nle c_80
          refine lv_iload_n hx hb dX3_gather_89 rfl (lv_at hl 1 rfl) ?_
          refine lv_iconst (v := 1) hx hb dX3_gather_90 (by decide) ?_
          refine lv_iadd hx hb dX3_gather_91 ?_
          refine lv_topi (fun z_82 ez_82 => ?_)
          try have iz_82 : z_82.toInt = v3.toInt + (1 : Int) := by rw [ez_82]; exact tl_addN v3 1 rfl rfl (by omega) (by omega)
          refine lv_goto (tgt := 96) hx hb dX3_gather_92 (by decide) ?_
          refine lv_istore_n (lv' := [(3, .int z_82), (4, .int v4), (0, .ref o), (1, .ref q), (2, .int p0)]) hx hb dX3_gather_96 rfl hl (by decide) rfl (fun ls hl => ?_)
          obtain ⟨z_83, ez_83⟩ : ∃ y : Int32, y = v4 + 1 := ⟨_, rfl⟩
          refine lv_iinc (v := z_83) (lv' := [(4, .int z_83), (3, .int z_82), (0, .ref o), (1, .ref q), (2, .int p0)]) hx hb dX3_gather_97 hl (k := 1) rfl (by rw [ez_83]; rfl) (by decide) rfl (fun ls hl => ?_)
          try have iz_83 : z_83.toInt = v4.toInt + 1 := by rw [ez_83]; exact tl_addL v4 1 (by decide) (by omega) (by omega)
          refine lv_goto (tgt := 21) hx hb dX3_gather_100 (by decide) ?_
          exact ih21 (f_74, z_83, z_82) H locs ls (by show (300 - z_83.toInt).toNat < (300 - v4.toInt).toNat; omega) ⟨(show 0 ≤ z_83.toInt ∧ z_83.toInt ≤ 300 from (by omega)), (show 0 ≤ z_82.toInt ∧ z_82.toInt ≤ 98 from (by omega)), hP, hI, hfr, hS, lv_sub hl [0, 1, 2, 3, 4] rfl⟩
set_option maxHeartbeats 4000000 in
set_option maxRecDepth 100000 in
theorem t_X3_power (l : Launch) (D : va_G) (cy : Nat → ClassId) (sz : Nat) (L : List Nat) (K : Nat → tk_K) (Γ : tk_G) (f : Nat → va_E) (o : Nat) (q : Nat) (p0 : Int32) (ho : tp_r L K 33 (0) 0 o) (hq : tp_r L K 27 (0) 0 q) : Met l yX3_power (tl_w yX3_power cX3_power 6 (some .long)) ({ frames := 2, cells := 0, slots := 0, locals := 48 }) (va_Pc [.ref o, .ref q, .int p0] (tp_P D cy L K Γ f sz)) (va_Ql (fun (r : Int64) (u : Nat → va_E) => True) (tp_B D cy L K Γ f [34, 35]) (tp_A L sz)) 0 0 (tp_A L sz) := by
  refine Met.ofW (cc := cX3_power) (maxL := 6) (ret := (some .long)) (by decide) rfl ?_
  intro p e s m args below meth c s₁ B hml hv
  obtain ⟨rfl, hsz, hP, hK, hL, hI, hN, hU⟩ := hv
  have hx := B.exec
  have hb := B.bytes
  have hr := B.returns
  have hta := tl_hta (atoms_spec (ws := tl_w yX3_power cX3_power 6 (some .long)) B.pre)
  have hown : s.vm.findClass RX3 = some m.cls := findClass_of_methodNamed B.named
  have hlocks := B.notSynchronized
  subst hsz
  have hI0 := hI
  generalize hAe : tp_A L s.heap.size = A
  have hA : ∀ q : Nat, s.heap.size ≤ q → A q := fun q h => by rw [← hAe]; exact Or.inr h
  have hAL : ∀ q ∈ L, A q := fun q h => by rw [← hAe]; exact Or.inl h
  have hAf : ∀ (H : Heap), s.heap.size ≤ H.size → ∀ q, tp_A L H.size q → A q := fun H h q hq => hq.elim (hAL q) (fun h2 => hA q (Nat.le_trans h h2))
  have hS : va_S A s.heap s.heap [] := va_S.rf
  have hD : va_D A (va_pl L f) := tp_D hL hAL
  have hfr : ∀ b, (K b).1 ∉ ([34, 35] : List Nat) → f b = f b := fun _ _ => rfl
  have hl := lv_entry ([.ref o, .ref q, .int p0]) (n := 6) (Nat.le_of_ble_eq_true rfl)
  rw [lg_entry_eq]
  generalize (lg_sl ([.ref o, .ref q, .int p0]) ++ List.replicate (6 - (lg_sl ([.ref o, .ref q, .int p0])).length) Slot.unset).toArray = ls at hl ⊢
  have hl : lv_has ls 6 [(0, .ref o), (1, .ref q), (2, .int p0)] := hl
  refine lv_aload_n hx hb dX3_power_0 rfl (lv_at hl 0 rfl) ?_
  refine lv_aload_n hx hb dX3_power_1 rfl (lv_at hl 1 rfl) ?_
  refine lv_iload_n hx hb dX3_power_2 rfl (lv_at hl 2 rfl) ?_
  obtain ⟨x_2, x_3, hf_1, hx_2, hx_3⟩ := (show tp_o_RESTS L K (0) 0 (Γ (33, 0, 0)) (f o) from hI0.at ho)
  refine tq_cv hS (hAf _ hS.1) (tq_rV (As := [.ref q, .int p0]) (rest := []) ⟨hx, hb, hml, hown, hta⟩ (tp_P.pre hK hN hL hU hI hP) (tp_recv hK hP ho.1 hf_1 rfl) lk_X3_40 (t_X3_gather l D cy s.heap.size L K Γ f o q p0 ho hq) rfl rfl ⟨Nat.le_of_ble_eq_true rfl, Nat.le_of_ble_eq_true rfl⟩ rfl hl.1 rfl (Nat.le_of_ble_eq_true rfl) dX3_power_3 ⟨Nat.le_of_ble_eq_true rfl, Nat.le_of_ble_eq_true rfl⟩) (fun f_6 H locs hw_4 hP hI hc_7 hS => ?_)
  have hD : va_D A (va_pl L f_6) := tp_D hL hAL
  have hfr := tp_fr2 hfr hc_7 (by decide)
  refine lv_lconst (v := 0) hx hb dX3_power_6 (by decide) ?_
  refine lv_lstore_n (lv' := [(3, .long 0), (0, .ref o), (1, .ref q), (2, .int p0)]) hx hb dX3_power_7 rfl hl (by decide) rfl (fun ls hl => ?_)
  refine lv_iconst (v := 0) hx hb dX3_power_8 (by decide) ?_
  refine lv_istore (lv' := [(5, .int 0), (3, .long 0), (0, .ref o), (1, .ref q), (2, .int p0)]) hx hb dX3_power_9 hl (by decide) rfl (fun ls hl => ?_)
  refine tl_ind (G := fun H locs ls => W p l e ((headSpec (tl_w yX3_power cX3_power 6 (some .long)) ({ frames := 2, cells := 0, slots := 0, locals := 48 })).room) s m #[.ref o, .ref q, .int p0] below meth c H locs 0 0 (MQ below (va_Ql (fun (r : Int64) (u : Nat → va_E) => True) (tp_B D cy L K Γ f [34, 35]) A) #[.ref o, .ref q, .int p0] s 0 0 A) (F0 m 11 ls [])) (α := (Nat → va_E) × Int32 × Int64) (fun aq => (99 - aq.2.1.toInt).toNat) (fun aq H locs ls => (0 ≤ aq.2.1.toInt) ∧ (aq.2.1.toInt ≤ 99) ∧ va_P D vwCl (va_pl L aq.1) H ∧ tp_I cy L K Γ aq.1 ∧ (∀ b, (K b).1 ∉ ([34, 35] : List Nat) → aq.1 b = f b) ∧ va_S A s.heap H locs ∧ lv_has ls 6 [(5, .int aq.2.1), (3, .long aq.2.2), (0, .ref o), (1, .ref q), (2, .int p0)]) ?_ (f_6, (0 : Int32), (0 : Int64)) H locs ls ⟨(show 0 ≤ (0 : Int) from (by omega)), (show (0 : Int) ≤ 99 from (by omega)), hP, hI, hfr, hS, lv_sub hl [0, 1, 2, 3, 4] rfl⟩
  rintro ⟨f_8, v5, v3⟩ H locs ls ⟨h0, h1, hP, hI, hfr, hS, hl⟩ ih11
  have hP : va_P D vwCl (va_pl L f_8) H := hP
  have hI : tp_I cy L K Γ f_8 := hI
  have hfr : ∀ b, (K b).1 ∉ ([34, 35] : List Nat) → f_8 b = f b := hfr
  have hD : va_D A (va_pl L f_8) := tp_D hL hAL
  have h0 : 0 ≤ v5.toInt := h0
  have h1 : v5.toInt ≤ 99 := h1
  have hl : lv_has ls 6 [(5, .int v5), (3, .long v3), (0, .ref o), (1, .ref q), (2, .int p0)] := hl
  refine lv_iload hx hb dX3_power_11 (lv_at hl 0 rfl) ?_
  refine lv_bipush (v := 99) hx hb dX3_power_13 (by decide) ?_
  refine lv_icmp_ge (tgt := 65) hx hb dX3_power_15 (by decide) (fun c_9 => ?_) (fun c_9 => ?_)
  · have c_9 : (99 : Int) ≤ v5.toInt := tl_le c_9
    refine lv_lload_n hx hb dX3_power_65 rfl (lv_at hl 1 rfl) ?_
    exact W.lret (v := v3) hx hb hr (fun t ht hW => ⟨⟨_, f_8, rfl, trivial, by rw [ht]; exact hP, hI, hfr⟩, hS.F ht⟩) hS.2.2 dX3_power_66
  · have c_9 : v5.toInt < (99 : Int) := tl_nle c_9
    refine lv_lload_n hx hb dX3_power_18 rfl (lv_at hl 1 rfl) ?_
    refine lv_aload_n hx hb dX3_power_19 rfl (lv_at hl 2 rfl) ?_
    refine tp_get (cy := cy) (ci := 3) (v := .ref x_3) (C := RX3) (T := TX3) (N := 2) hx hb hta inlX3 hown hK hP ho.1 ((tp_un hfr ho (by decide)).trans hf_1) rfl 1 (by decide) (hta _ wk_144) (fun _ h9 => h9) rfl dX3_power_20 ?_
    refine lv_iload hx hb dX3_power_23 (lv_at hl 0 rfl) ?_
    obtain ⟨g_11, hf_10, hg_12⟩ := (show tp_ai cy 35 (99) (f_8 x_3) from hI.at hx_3)
    have hn_13 : vp_in v5 (99) := tl_in (by omega) (by omega)
    refine tp_iald (cy := cy) hx hb hK hP hx_3.1 hf_10 hn_13 dX3_power_25 ?_
    refine lv_topi (fun z_14 ez_14 => ?_)
    refine lv_if_ne (tgt := 33) hx hb dX3_power_26 (by decide) (fun c_15 => ?_) (fun c_15 => ?_)
    · have c_15 : ¬ z_14.toInt = (0 : Int) := tl_neq c_15
      refine lv_aload_n hx hb dX3_power_33 rfl (lv_at hl 2 rfl) ?_
      refine tp_get (cy := cy) (ci := 3) (v := .ref x_2) (C := RX3) (T := TX3) (N := 2) hx hb hta inlX3 hown hK hP ho.1 ((tp_un hfr ho (by decide)).trans hf_1) rfl 0 (by decide) (hta _ wk_143) (fun _ h9 => h9) rfl dX3_power_34 ?_
      refine lv_iload hx hb dX3_power_37 (lv_at hl 0 rfl) ?_
      obtain ⟨g_17, hf_16⟩ := (show tp_aj cy (99) (f_8 x_2) from hI.at hx_2)
      have hn_19 : vp_in v5 (99) := tl_in (by omega) (by omega)
      refine tp_lald (cy := cy) hx hb hK hP hx_2.1 hf_16 hn_19 dX3_power_39 ?_
      refine lv_topl (fun z_20 ez_20 => ?_)
      refine lv_aload_n hx hb dX3_power_40 rfl (lv_at hl 2 rfl) ?_
      refine tp_get (cy := cy) (ci := 3) (v := .ref x_2) (C := RX3) (T := TX3) (N := 2) hx hb hta inlX3 hown hK hP ho.1 ((tp_un hfr ho (by decide)).trans hf_1) rfl 0 (by decide) (hta _ wk_143) (fun _ h9 => h9) rfl dX3_power_41 ?_
      refine lv_iload hx hb dX3_power_44 (lv_at hl 0 rfl) ?_
      have hn_21 : vp_in v5 (99) := tl_in (by omega) (by omega)
      refine tp_lald (cy := cy) hx hb hK hP hx_2.1 hf_16 hn_21 dX3_power_46 ?_
      refine lv_topl (fun z_22 ez_22 => ?_)
      obtain rfl : z_20 = z_22 := ez_20.trans ez_22.symm
      refine lv_lmul hx hb dX3_power_47 ?_
      refine lv_topl (fun z_23 ez_23 => ?_)
      refine lv_aload_n hx hb dX3_power_48 rfl (lv_at hl 2 rfl) ?_
      refine tp_get (cy := cy) (ci := 3) (v := .ref x_3) (C := RX3) (T := TX3) (N := 2) hx hb hta inlX3 hown hK hP ho.1 ((tp_un hfr ho (by decide)).trans hf_1) rfl 1 (by decide) (hta _ wk_144) (fun _ h9 => h9) rfl dX3_power_49 ?_
      refine lv_iload hx hb dX3_power_52 (lv_at hl 0 rfl) ?_
      have hn_24 : vp_in v5 (99) := tl_in (by omega) (by omega)
      refine tp_iald (cy := cy) hx hb hK hP hx_3.1 hf_10 hn_24 dX3_power_54 ?_
      refine lv_topi (fun z_25 ez_25 => ?_)
      obtain rfl : z_14 = z_25 := ez_14.trans ez_25.symm
      refine lv_i2l (v := z_14.toInt64) hx hb dX3_power_55 (by first | rfl | decide) ?_
      refine lv_ldiv hx hb dX3_power_56 (tl_ne0LI (by omega)) ?_
      refine lv_topl (fun z_26 ez_26 => ?_)
      refine lv_ladd hx hb dX3_power_57 ?_
      refine lv_topl (fun z_27 ez_27 => ?_)
      refine lv_lstore_n (lv' := [(3, .long z_27), (5, .int v5), (0, .ref o), (1, .ref q), (2, .int p0)]) hx hb dX3_power_58 rfl hl (by decide) rfl (fun ls hl => ?_)
      obtain ⟨z_28, ez_28⟩ : ∃ y : Int32, y = v5 + 1 := ⟨_, rfl⟩
      refine lv_iinc (v := z_28) (lv' := [(5, .int z_28), (3, .long z_27), (0, .ref o), (1, .ref q), (2, .int p0)]) hx hb dX3_power_59 hl (k := 1) rfl (by rw [ez_28]; rfl) (by decide) rfl (fun ls hl => ?_)
      try have iz_28 : z_28.toInt = v5.toInt + 1 := by rw [ez_28]; exact tl_addL v5 1 (by decide) (by omega) (by omega)
      refine lv_goto (tgt := 11) hx hb dX3_power_62 (by decide) ?_
      exact ih11 (f_8, z_28, z_27) H locs ls (by show (99 - z_28.toInt).toNat < (99 - v5.toInt).toNat; omega) ⟨(show 0 ≤ z_28.toInt from (by omega)), (show z_28.toInt ≤ 99 from (by omega)), hP, hI, hfr, hS, lv_sub hl [0, 1, 2, 3, 4] rfl⟩
    · have c_15 : z_14.toInt = (0 : Int) := tl_eq c_15
      refine lv_lconst (v := 0) hx hb dX3_power_29 (by decide) ?_
      refine lv_goto (tgt := 57) hx hb dX3_power_30 (by decide) ?_
      refine lv_ladd hx hb dX3_power_57 ?_
      refine lv_topl (fun z_29 ez_29 => ?_)
      refine lv_lstore_n (lv' := [(3, .long z_29), (5, .int v5), (0, .ref o), (1, .ref q), (2, .int p0)]) hx hb dX3_power_58 rfl hl (by decide) rfl (fun ls hl => ?_)
      obtain ⟨z_30, ez_30⟩ : ∃ y : Int32, y = v5 + 1 := ⟨_, rfl⟩
      refine lv_iinc (v := z_30) (lv' := [(5, .int z_30), (3, .long z_29), (0, .ref o), (1, .ref q), (2, .int p0)]) hx hb dX3_power_59 hl (k := 1) rfl (by rw [ez_30]; rfl) (by decide) rfl (fun ls hl => ?_)
      try have iz_30 : z_30.toInt = v5.toInt + 1 := by rw [ez_30]; exact tl_addL v5 1 (by decide) (by omega) (by omega)
      refine lv_goto (tgt := 11) hx hb dX3_power_62 (by decide) ?_
      exact ih11 (f_8, z_30, z_29) H locs ls (by show (99 - z_30.toInt).toNat < (99 - v5.toInt).toNat; omega) ⟨(show 0 ≤ z_30.toInt from (by omega)), (show z_30.toInt ≤ 99 from (by omega)), hP, hI, hfr, hS, lv_sub hl [0, 1, 2, 3, 4] rfl⟩
set_option maxHeartbeats 4000000 in
set_option maxRecDepth 100000 in
theorem t_X3_found (l : Launch) (D : va_G) (cy : Nat → ClassId) (sz : Nat) (L : List Nat) (K : Nat → tk_K) (Γ : tk_G) (f : Nat → va_E) (o : Nat) (q : Nat) (ho : tp_r L K 33 (0) 0 o) (hq : tp_r L K 27 (0) 0 q) : Met l yX3_found (tl_w yX3_found cX3_found 8 (some .int)) ({ frames := 3, cells := 0, slots := 0, locals := 73 }) (va_Pc [.ref o, .ref q] (tp_P D cy L K Γ f sz)) (va_Qi (fun (r : Int32) (u : Nat → va_E) => True) (tp_B D cy L K Γ f [34, 35]) (tp_A L sz)) 0 0 (tp_A L sz) := by
  refine Met.ofW (cc := cX3_found) (maxL := 8) (ret := (some .int)) (by decide) rfl ?_
  intro p e s m args below meth c s₁ B hml hv
  obtain ⟨rfl, hsz, hP, hK, hL, hI, hN, hU⟩ := hv
  have hx := B.exec
  have hb := B.bytes
  have hr := B.returns
  have hta := tl_hta (atoms_spec (ws := tl_w yX3_found cX3_found 8 (some .int)) B.pre)
  have hown : s.vm.findClass RX3 = some m.cls := findClass_of_methodNamed B.named
  have hlocks := B.notSynchronized
  subst hsz
  have hI0 := hI
  generalize hAe : tp_A L s.heap.size = A
  have hA : ∀ q : Nat, s.heap.size ≤ q → A q := fun q h => by rw [← hAe]; exact Or.inr h
  have hAL : ∀ q ∈ L, A q := fun q h => by rw [← hAe]; exact Or.inl h
  have hAf : ∀ (H : Heap), s.heap.size ≤ H.size → ∀ q, tp_A L H.size q → A q := fun H h q hq => hq.elim (hAL q) (fun h2 => hA q (Nat.le_trans h h2))
  have hS : va_S A s.heap s.heap [] := va_S.rf
  have hD : va_D A (va_pl L f) := tp_D hL hAL
  have hfr : ∀ b, (K b).1 ∉ ([34, 35] : List Nat) → f b = f b := fun _ _ => rfl
  have hl := lv_entry ([.ref o, .ref q]) (n := 8) (Nat.le_of_ble_eq_true rfl)
  rw [lg_entry_eq]
  generalize (lg_sl ([.ref o, .ref q]) ++ List.replicate (8 - (lg_sl ([.ref o, .ref q])).length) Slot.unset).toArray = ls at hl ⊢
  have hl : lv_has ls 8 [(0, .ref o), (1, .ref q)] := hl
  refine lv_iconst (v := 2) hx hb dX3_found_0 (by decide) ?_
  refine lv_istore_n (lv' := [(2, .int 2), (0, .ref o), (1, .ref q)]) hx hb dX3_found_1 rfl hl (by decide) rfl (fun ls hl => ?_)
  refine lv_aload_n hx hb dX3_found_2 rfl (lv_at hl 1 rfl) ?_
  refine lv_aload_n hx hb dX3_found_3 rfl (lv_at hl 2 rfl) ?_
  refine lv_iconst (v := 2) hx hb dX3_found_4 (by decide) ?_
  obtain ⟨x_2, x_3, hf_1, hx_2, hx_3⟩ := (show tp_o_RESTS L K (0) 0 (Γ (33, 0, 0)) (f o) from hI0.at ho)
  refine tq_cl hS (hAf _ hS.1) (tq_rV (As := [.ref q, .int 2]) (rest := []) ⟨hx, hb, hml, hown, hta⟩ (tp_P.pre hK hN hL hU hI hP) (tp_recv hK hP ho.1 hf_1 rfl) lk_X3_44 (t_X3_power l D cy s.heap.size L K Γ f o q 2 ho hq) rfl rfl ⟨Nat.le_of_ble_eq_true rfl, Nat.le_of_ble_eq_true rfl⟩ rfl hl.1 rfl (Nat.le_of_ble_eq_true rfl) dX3_found_5 ⟨Nat.le_of_ble_eq_true rfl, Nat.le_of_ble_eq_true rfl⟩) (fun r_5 f_6 H locs hw_4 hP hI hc_7 hS => ?_)
  have hD : va_D A (va_pl L f_6) := tp_D hL hAL
  have hfr := tp_fr2 hfr hc_7 (by decide)
  refine lv_lstore_n (lv' := [(3, .long r_5), (2, .int 2), (0, .ref o), (1, .ref q)]) hx hb dX3_found_8 rfl hl (by decide) rfl (fun ls hl => ?_)
  refine lv_iconst (v := 3) hx hb dX3_found_9 (by decide) ?_
  refine lv_istore (lv' := [(5, .int 3), (3, .long r_5), (2, .int 2), (0, .ref o), (1, .ref q)]) hx hb dX3_found_10 hl (by decide) rfl (fun ls hl => ?_)
  refine tl_ind (G := fun H locs ls => W p l e ((headSpec (tl_w yX3_found cX3_found 8 (some .int)) ({ frames := 3, cells := 0, slots := 0, locals := 73 })).room) s m #[.ref o, .ref q] below meth c H locs 0 0 (MQ below (va_Qi (fun (r : Int32) (u : Nat → va_E) => True) (tp_B D cy L K Γ f [34, 35]) A) #[.ref o, .ref q] s 0 0 A) (F0 m 12 ls [])) (α := (Nat → va_E) × Int32 × Int64 × Int32) (fun aq => (100 - aq.2.1.toInt).toNat) (fun aq H locs ls => (0 ≤ aq.2.1.toInt) ∧ (aq.2.1.toInt ≤ 100) ∧ va_P D vwCl (va_pl L aq.1) H ∧ tp_I cy L K Γ aq.1 ∧ (∀ b, (K b).1 ∉ ([34, 35] : List Nat) → aq.1 b = f b) ∧ va_S A s.heap H locs ∧ lv_has ls 8 [(5, .int aq.2.1), (3, .long aq.2.2.1), (2, .int aq.2.2.2), (0, .ref o), (1, .ref q)]) ?_ (f_6, (3 : Int32), r_5, (2 : Int32)) H locs ls ⟨(show 0 ≤ (3 : Int) from (by omega)), (show (3 : Int) ≤ 100 from (by omega)), hP, hI, hfr, hS, lv_sub hl [0, 1, 2, 3, 4] rfl⟩
  rintro ⟨f_8, v5, v3, v2⟩ H locs ls ⟨h0, h1, hP, hI, hfr, hS, hl⟩ ih12
  have hP : va_P D vwCl (va_pl L f_8) H := hP
  have hI : tp_I cy L K Γ f_8 := hI
  have hfr : ∀ b, (K b).1 ∉ ([34, 35] : List Nat) → f_8 b = f b := hfr
  have hD : va_D A (va_pl L f_8) := tp_D hL hAL
  have h0 : 0 ≤ v5.toInt := h0
  have h1 : v5.toInt ≤ 100 := h1
  have hl : lv_has ls 8 [(5, .int v5), (3, .long v3), (2, .int v2), (0, .ref o), (1, .ref q)] := hl
  refine lv_iload hx hb dX3_found_12 (lv_at hl 0 rfl) ?_
  refine lv_bipush (v := 99) hx hb dX3_found_14 (by decide) ?_
  refine lv_icmp_gt (tgt := 47) hx hb dX3_found_16 (by decide) (fun c_9 => ?_) (fun c_9 => ?_)
  · have c_9 : (99 : Int) < v5.toInt := tl_lt c_9
    refine lv_iload_n hx hb dX3_found_47 rfl (lv_at hl 2 rfl) ?_
    exact W.iret (v := v2) hx hb hr (fun t ht hW => ⟨⟨_, f_8, rfl, trivial, by rw [ht]; exact hP, hI, hfr⟩, hS.F ht⟩) hS.2.2 dX3_found_48
  · have c_9 : v5.toInt ≤ (99 : Int) := tl_nlt c_9
    refine lv_aload_n hx hb dX3_found_19 rfl (lv_at hl 3 rfl) ?_
    refine lv_aload_n hx hb dX3_found_20 rfl (lv_at hl 4 rfl) ?_
    refine lv_iload hx hb dX3_found_21 (lv_at hl 0 rfl) ?_
    refine tq_cl hS (hAf _ hS.1) (tq_rV (As := [.ref q, .int v5]) (rest := []) ⟨hx, hb, hml, hown, hta⟩ (tp_P.pre hK hN hL hU hI hP) (tp_recv hK hP ho.1 ((tp_un hfr ho (by decide)).trans hf_1) rfl) lk_X3_44 (t_X3_power l D cy H.size L K Γ f_8 o q v5 ho hq) rfl rfl ⟨Nat.le_of_ble_eq_true rfl, Nat.le_of_ble_eq_true rfl⟩ rfl hl.1 rfl (Nat.le_of_ble_eq_true rfl) dX3_found_23 ⟨Nat.le_of_ble_eq_true rfl, Nat.le_of_ble_eq_true rfl⟩) (fun r_11 f_12 H locs hw_10 hP hI hc_13 hS => ?_)
    have hD : va_D A (va_pl L f_12) := tp_D hL hAL
    have hfr := tp_fr2 hfr hc_13 (by decide)
    refine lv_lstore (lv' := [(6, .long r_11), (5, .int v5), (3, .long v3), (2, .int v2), (0, .ref o), (1, .ref q)]) hx hb dX3_found_26 hl (by decide) rfl (fun ls hl => ?_)
    refine lv_lload hx hb dX3_found_28 (lv_at hl 0 rfl) ?_
    refine lv_lload_n hx hb dX3_found_30 rfl (lv_at hl 2 rfl) ?_
    refine W.lcmp hx hb dX3_found_31 ?_
    refine lv_if_le (tgt := 41) hx hb dX3_found_32 (by decide) (fun c_14 => ?_) (fun c_14 => ?_)
    · have c_14 : r_11.toInt ≤ v3.toInt := tl_cmp_le c_14
      obtain ⟨z_15, ez_15⟩ : ∃ y : Int32, y = v5 + 1 := ⟨_, rfl⟩
      refine lv_iinc (v := z_15) (lv' := [(5, .int z_15), (6, .long r_11), (3, .long v3), (2, .int v2), (0, .ref o), (1, .ref q)]) hx hb dX3_found_41 hl (k := 1) rfl (by rw [ez_15]; rfl) (by decide) rfl (fun ls hl => ?_)
      try have iz_15 : z_15.toInt = v5.toInt + 1 := by rw [ez_15]; exact tl_addL v5 1 (by decide) (by omega) (by omega)
      refine lv_goto (tgt := 12) hx hb dX3_found_44 (by decide) ?_
      exact ih12 (f_12, z_15, v3, v2) H locs ls (by show (100 - z_15.toInt).toNat < (100 - v5.toInt).toNat; omega) ⟨(show 0 ≤ z_15.toInt from (by omega)), (show z_15.toInt ≤ 100 from (by omega)), hP, hI, hfr, hS, lv_sub hl [0, 2, 3, 4, 5] rfl⟩
    · have c_14 : r_11.toInt > v3.toInt := tl_cmp_nle c_14
      refine lv_iload hx hb dX3_found_35 (lv_at hl 1 rfl) ?_
      refine lv_istore_n (lv' := [(2, .int v5), (6, .long r_11), (5, .int v5), (3, .long v3), (0, .ref o), (1, .ref q)]) hx hb dX3_found_37 rfl hl (by decide) rfl (fun ls hl => ?_)
      refine lv_lload hx hb dX3_found_38 (lv_at hl 1 rfl) ?_
      refine lv_lstore_n (lv' := [(3, .long r_11), (2, .int v5), (6, .long r_11), (5, .int v5), (0, .ref o), (1, .ref q)]) hx hb dX3_found_40 rfl hl (by decide) rfl (fun ls hl => ?_)
      obtain ⟨z_16, ez_16⟩ : ∃ y : Int32, y = v5 + 1 := ⟨_, rfl⟩
      refine lv_iinc (v := z_16) (lv' := [(5, .int z_16), (3, .long r_11), (2, .int v5), (6, .long r_11), (0, .ref o), (1, .ref q)]) hx hb dX3_found_41 hl (k := 3) rfl (by rw [ez_16]; rfl) (by decide) rfl (fun ls hl => ?_)
      try have iz_16 : z_16.toInt = v5.toInt + 1 := by rw [ez_16]; exact tl_addL v5 1 (by decide) (by omega) (by omega)
      refine lv_goto (tgt := 12) hx hb dX3_found_44 (by decide) ?_
      exact ih12 (f_12, z_16, r_11, v5) H locs ls (by show (100 - z_16.toInt).toNat < (100 - v5.toInt).toNat; omega) ⟨(show 0 ≤ z_16.toInt from (by omega)), (show z_16.toInt ≤ 100 from (by omega)), hP, hI, hfr, hS, lv_sub hl [0, 1, 2, 4, 5] rfl⟩
set_option maxHeartbeats 4000000 in
set_option maxRecDepth 100000 in
theorem t_X3_meanAt (l : Launch) (D : va_G) (cy : Nat → ClassId) (sz : Nat) (L : List Nat) (K : Nat → tk_K) (Γ : tk_G) (f : Nat → va_E) (o : Nat) (p0 : Int32) (ho : tp_r L K 33 (0) 0 o) : Met l yX3_meanAt (tl_w yX3_meanAt cX3_meanAt 3 (some .long)) ({ frames := 1, cells := 0, slots := 0, locals := 25 }) (va_Pc [.ref o, .int p0] (tp_P D cy L K Γ f sz)) (vp_Sl (fun r : Int64 => True)) 0 0 (fun _ => False) := by
  refine Met.ofW (cc := cX3_meanAt) (maxL := 3) (ret := (some .long)) (by decide) rfl ?_
  intro p e s m args below meth c s₁ B hml hv
  obtain ⟨rfl, hsz, hP, hK, hL, hI, hN, hU⟩ := hv
  have hx := B.exec
  have hb := B.bytes
  have hr := B.returns
  have hta := tl_hta (atoms_spec (ws := tl_w yX3_meanAt cX3_meanAt 3 (some .long)) B.pre)
  have hown : s.vm.findClass RX3 = some m.cls := findClass_of_methodNamed B.named
  have hlocks := B.notSynchronized
  subst hsz
  have hI0 := hI
  have hl := lv_entry ([.ref o, .int p0]) (n := 3) (Nat.le_of_ble_eq_true rfl)
  rw [lg_entry_eq]
  generalize (lg_sl ([.ref o, .int p0]) ++ List.replicate (3 - (lg_sl ([.ref o, .int p0])).length) Slot.unset).toArray = ls at hl ⊢
  have hl : lv_has ls 3 [(0, .ref o), (1, .int p0)] := hl
  refine lv_iload_n hx hb dX3_meanAt_0 rfl (lv_at hl 1 rfl) ?_
  refine lv_if_lt (tgt := 23) hx hb dX3_meanAt_1 (by decide) (fun c_1 => ?_) (fun c_1 => ?_)
  · have c_1 : p0.toInt < (0 : Int) := tl_lt c_1
    refine lv_iconst (v := 0) hx hb dX3_meanAt_23 (by decide) ?_
    refine lv_istore_n (lv' := [(2, .int 0), (0, .ref o), (1, .int p0)]) hx hb dX3_meanAt_24 rfl hl (by decide) rfl (fun ls hl => ?_)
    refine lv_iload_n hx hb dX3_meanAt_25 rfl (lv_at hl 0 rfl) ?_
    refine lv_if_eq (tgt := 48) hx hb dX3_meanAt_26 (by decide) (fun _ => ?_) (fun c => absurd c (by decide))
    refine lv_lconst (v := 0) hx hb dX3_meanAt_48 (by decide) ?_
    exact W.lret (v := 0) hx hb hr (fun t ht hW => ⟨_, rfl, trivial, ht⟩) (fun q h => by cases h) dX3_meanAt_49
  · have c_1 : (0 : Int) ≤ p0.toInt := tl_nlt c_1
    refine lv_iload_n hx hb dX3_meanAt_4 rfl (lv_at hl 1 rfl) ?_
    refine lv_bipush (v := 99) hx hb dX3_meanAt_5 (by decide) ?_
    refine lv_icmp_ge (tgt := 23) hx hb dX3_meanAt_7 (by decide) (fun c_2 => ?_) (fun c_2 => ?_)
    · have c_2 : (99 : Int) ≤ p0.toInt := tl_le c_2
      refine lv_iconst (v := 0) hx hb dX3_meanAt_23 (by decide) ?_
      refine lv_istore_n (lv' := [(2, .int 0), (0, .ref o), (1, .int p0)]) hx hb dX3_meanAt_24 rfl hl (by decide) rfl (fun ls hl => ?_)
      refine lv_iload_n hx hb dX3_meanAt_25 rfl (lv_at hl 0 rfl) ?_
      refine lv_if_eq (tgt := 48) hx hb dX3_meanAt_26 (by decide) (fun _ => ?_) (fun c => absurd c (by decide))
      refine lv_lconst (v := 0) hx hb dX3_meanAt_48 (by decide) ?_
      exact W.lret (v := 0) hx hb hr (fun t ht hW => ⟨_, rfl, trivial, ht⟩) (fun q h => by cases h) dX3_meanAt_49
    · have c_2 : p0.toInt < (99 : Int) := tl_nle c_2
      refine lv_aload_n hx hb dX3_meanAt_10 rfl (lv_at hl 0 rfl) ?_
      obtain ⟨x_4, x_5, hf_3, hx_4, hx_5⟩ := (show tp_o_RESTS L K (0) 0 (Γ (33, 0, 0)) (f o) from hI0.at ho)
      refine tp_get (cy := cy) (ci := 3) (v := .ref x_5) (C := RX3) (T := TX3) (N := 2) hx hb hta inlX3 hown hK hP ho.1 hf_3 rfl 1 (by decide) (hta _ wk_144) (fun _ h9 => h9) rfl dX3_meanAt_11 ?_
      refine lv_iload_n hx hb dX3_meanAt_14 rfl (lv_at hl 1 rfl) ?_
      obtain ⟨g_7, hf_6, hg_8⟩ := (show tp_ai cy 35 (99) (f x_5) from hI0.at hx_5)
      have hn_9 : vp_in p0 (99) := tl_in (by omega) (by omega)
      refine tp_iald (cy := cy) hx hb hK hP hx_5.1 hf_6 hn_9 dX3_meanAt_15 ?_
      refine lv_topi (fun z_10 ez_10 => ?_)
      refine lv_if_eq (tgt := 23) hx hb dX3_meanAt_16 (by decide) (fun c_11 => ?_) (fun c_11 => ?_)
      · have c_11 : z_10.toInt = (0 : Int) := tl_eq c_11
        refine lv_iconst (v := 0) hx hb dX3_meanAt_23 (by decide) ?_
        refine lv_istore_n (lv' := [(2, .int 0), (0, .ref o), (1, .int p0)]) hx hb dX3_meanAt_24 rfl hl (by decide) rfl (fun ls hl => ?_)
        refine lv_iload_n hx hb dX3_meanAt_25 rfl (lv_at hl 0 rfl) ?_
        refine lv_if_eq (tgt := 48) hx hb dX3_meanAt_26 (by decide) (fun _ => ?_) (fun c => absurd c (by decide))
        refine lv_lconst (v := 0) hx hb dX3_meanAt_48 (by decide) ?_
        exact W.lret (v := 0) hx hb hr (fun t ht hW => ⟨_, rfl, trivial, ht⟩) (fun q h => by cases h) dX3_meanAt_49
      · have c_11 : ¬ z_10.toInt = (0 : Int) := tl_neq c_11
        refine lv_iconst (v := 1) hx hb dX3_meanAt_19 (by decide) ?_
        refine lv_goto (tgt := 24) hx hb dX3_meanAt_20 (by decide) ?_
        refine lv_istore_n (lv' := [(2, .int 1), (0, .ref o), (1, .int p0)]) hx hb dX3_meanAt_24 rfl hl (by decide) rfl (fun ls hl => ?_)
        refine lv_iload_n hx hb dX3_meanAt_25 rfl (lv_at hl 0 rfl) ?_
        refine lv_if_eq (tgt := 48) hx hb dX3_meanAt_26 (by decide) (fun c => absurd c (by decide)) (fun _ => ?_)
        refine lv_aload_n hx hb dX3_meanAt_29 rfl (lv_at hl 1 rfl) ?_
        refine tp_get (cy := cy) (ci := 3) (v := .ref x_4) (C := RX3) (T := TX3) (N := 2) hx hb hta inlX3 hown hK hP ho.1 hf_3 rfl 0 (by decide) (hta _ wk_143) (fun _ h9 => h9) rfl dX3_meanAt_30 ?_
        refine lv_iload_n hx hb dX3_meanAt_33 rfl (lv_at hl 2 rfl) ?_
        obtain ⟨g_13, hf_12⟩ := (show tp_aj cy (99) (f x_4) from hI0.at hx_4)
        have hn_15 : vp_in p0 (99) := tl_in (by omega) (by omega)
        refine tp_lald (cy := cy) hx hb hK hP hx_4.1 hf_12 hn_15 dX3_meanAt_34 ?_
        refine lv_topl (fun z_16 ez_16 => ?_)
        refine lv_aload_n hx hb dX3_meanAt_35 rfl (lv_at hl 1 rfl) ?_
        refine tp_get (cy := cy) (ci := 3) (v := .ref x_5) (C := RX3) (T := TX3) (N := 2) hx hb hta inlX3 hown hK hP ho.1 hf_3 rfl 1 (by decide) (hta _ wk_144) (fun _ h9 => h9) rfl dX3_meanAt_36 ?_
        refine lv_iload_n hx hb dX3_meanAt_39 rfl (lv_at hl 2 rfl) ?_
        have hn_17 : vp_in p0 (99) := tl_in (by omega) (by omega)
        refine tp_iald (cy := cy) hx hb hK hP hx_5.1 hf_6 hn_17 dX3_meanAt_40 ?_
        refine lv_topi (fun z_18 ez_18 => ?_)
        obtain rfl : z_10 = z_18 := ez_10.trans ez_18.symm
        refine lv_i2l (v := z_10.toInt64) hx hb dX3_meanAt_41 (by first | rfl | decide) ?_
        refine tl_sl (tq_rS (As := [.long z_16, .long z_10.toInt64]) (rest := []) ⟨hx, hb, hml, hown, hta⟩ (tp_P.pre hK hN hL hU hI hP) lk_X3_48 (t_J9_floorDiv_f86c9 l D cy s.heap.size L K Γ f z_16 z_10.toInt64 (by first | omega | (simp only [Int32.toInt_toInt64]; omega) | decide | assumption)) rfl rfl ⟨Nat.le_of_ble_eq_true rfl, Nat.le_of_ble_eq_true rfl⟩ rfl hl.1 rfl (Nat.le_of_ble_eq_true rfl) dX3_meanAt_42 ⟨Nat.le_of_ble_eq_true rfl, Nat.le_of_ble_eq_true rfl⟩) (fun r_20 hw_19 => ?_)
        refine lv_goto (tgt := 49) hx hb dX3_meanAt_45 (by decide) ?_
        exact W.lret (v := r_20) hx hb hr (fun t ht hW => ⟨_, rfl, trivial, ht⟩) (fun q h => by cases h) dX3_meanAt_49
