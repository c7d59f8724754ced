theorem dX12_readAt_0 : decode cX12_readAt 0 = .ok (.aload_n 0, 1) := by decide +kernel
theorem dX12_readAt_1 : decode cX12_readAt 1 = .ok (.getfield 7, 3) := by decide +kernel
theorem dX12_readAt_4 : decode cX12_readAt 4 = .ok (.sipush 441, 3) := by decide +kernel
theorem dX12_readAt_7 : decode cX12_readAt 7 = .ok (.sipush 300, 3) := by decide +kernel
theorem dX12_readAt_10 : decode cX12_readAt 10 = .ok (.iload_n 1, 1) := by decide +kernel
theorem dX12_readAt_11 : decode cX12_readAt 11 = .ok (.imul, 1) := by decide +kernel
theorem dX12_readAt_12 : decode cX12_readAt 12 = .ok (.iadd, 1) := by decide +kernel
theorem dX12_readAt_13 : decode cX12_readAt 13 = .ok (.iload_n 2, 1) := by decide +kernel
theorem dX12_readAt_14 : decode cX12_readAt 14 = .ok (.iadd, 1) := by decide +kernel
theorem dX12_readAt_15 : decode cX12_readAt 15 = .ok (.iaload, 1) := by decide +kernel
theorem dX12_readAt_16 : decode cX12_readAt 16 = .ok (.istore_n 3, 1) := by decide +kernel
theorem dX12_readAt_17 : decode cX12_readAt 17 = .ok (.iload_n 3, 1) := by decide +kernel
theorem dX12_readAt_18 : decode cX12_readAt 18 = .ok (.ldc 109, 2) := by decide +kernel
theorem dX12_readAt_20 : decode cX12_readAt 20 = .ok (.if_icmp .ne 6, 3) := by decide +kernel
theorem dX12_readAt_23 : decode cX12_readAt 23 = .ok (.ldc 109, 2) := by decide +kernel
theorem dX12_readAt_25 : decode cX12_readAt 25 = .ok (.ireturn, 1) := by decide +kernel
theorem dX12_readAt_26 : decode cX12_readAt 26 = .ok (.iconst 0, 1) := by decide +kernel
theorem dX12_readAt_27 : decode cX12_readAt 27 = .ok (.istore 4, 2) := by decide +kernel
theorem dX12_readAt_29 : decode cX12_readAt 29 = .ok (.iload 4, 2) := by decide +kernel
theorem dX12_readAt_31 : decode cX12_readAt 31 = .ok (.aload_n 0, 1) := by decide +kernel
theorem dX12_readAt_32 : decode cX12_readAt 32 = .ok (.getfield 7, 3) := by decide +kernel
theorem dX12_readAt_35 : decode cX12_readAt 35 = .ok (.iconst 2, 1) := by decide +kernel
theorem dX12_readAt_36 : decode cX12_readAt 36 = .ok (.iaload, 1) := by decide +kernel
theorem dX12_readAt_37 : decode cX12_readAt 37 = .ok (.if_icmp .ge 72, 3) := by decide +kernel
theorem dX12_readAt_40 : decode cX12_readAt 40 = .ok (.bipush 81, 2) := by decide +kernel
theorem dX12_readAt_42 : decode cX12_readAt 42 = .ok (.iconst 4, 1) := by decide +kernel
theorem dX12_readAt_43 : decode cX12_readAt 43 = .ok (.iload 4, 2) := by decide +kernel
theorem dX12_readAt_45 : decode cX12_readAt 45 = .ok (.imul, 1) := by decide +kernel
theorem dX12_readAt_46 : decode cX12_readAt 46 = .ok (.iadd, 1) := by decide +kernel
theorem dX12_readAt_47 : decode cX12_readAt 47 = .ok (.istore 5, 2) := by decide +kernel
theorem dX12_readAt_49 : decode cX12_readAt 49 = .ok (.aload_n 0, 1) := by decide +kernel
theorem dX12_readAt_50 : decode cX12_readAt 50 = .ok (.getfield 7, 3) := by decide +kernel
theorem dX12_readAt_53 : decode cX12_readAt 53 = .ok (.iload 5, 2) := by decide +kernel
theorem dX12_readAt_55 : decode cX12_readAt 55 = .ok (.iaload, 1) := by decide +kernel
theorem dX12_readAt_56 : decode cX12_readAt 56 = .ok (.aload_n 0, 1) := by decide +kernel
theorem dX12_readAt_57 : decode cX12_readAt 57 = .ok (.iload_n 1, 1) := by decide +kernel
theorem dX12_readAt_58 : decode cX12_readAt 58 = .ok (.iconst 0, 1) := by decide +kernel
theorem dX12_readAt_59 : decode cX12_readAt 59 = .ok (.invokevirtual 132, 3) := by decide +kernel
theorem dX12_readAt_62 : decode cX12_readAt 62 = .ok (.if_icmp .ne 41, 3) := by decide +kernel
theorem dX12_readAt_65 : decode cX12_readAt 65 = .ok (.iload_n 2, 1) := by decide +kernel
theorem dX12_readAt_66 : decode cX12_readAt 66 = .ok (.aload_n 0, 1) := by decide +kernel
theorem dX12_readAt_67 : decode cX12_readAt 67 = .ok (.getfield 7, 3) := by decide +kernel
theorem dX12_readAt_70 : decode cX12_readAt 70 = .ok (.iload 5, 2) := by decide +kernel
theorem dX12_readAt_72 : decode cX12_readAt 72 = .ok (.iconst 1, 1) := by decide +kernel
theorem dX12_readAt_73 : decode cX12_readAt 73 = .ok (.iadd, 1) := by decide +kernel
theorem dX12_readAt_74 : decode cX12_readAt 74 = .ok (.iaload, 1) := by decide +kernel
theorem dX12_readAt_75 : decode cX12_readAt 75 = .ok (.if_icmp .lt 28, 3) := by decide +kernel
theorem dX12_readAt_78 : decode cX12_readAt 78 = .ok (.iload_n 2, 1) := by decide +kernel
theorem dX12_readAt_79 : decode cX12_readAt 79 = .ok (.aload_n 0, 1) := by decide +kernel
theorem dX12_readAt_80 : decode cX12_readAt 80 = .ok (.getfield 7, 3) := by decide +kernel
theorem dX12_readAt_83 : decode cX12_readAt 83 = .ok (.iload 5, 2) := by decide +kernel
theorem dX12_readAt_85 : decode cX12_readAt 85 = .ok (.iconst 2, 1) := by decide +kernel
theorem dX12_readAt_86 : decode cX12_readAt 86 = .ok (.iadd, 1) := by decide +kernel
theorem dX12_readAt_87 : decode cX12_readAt 87 = .ok (.iaload, 1) := by decide +kernel
theorem dX12_readAt_88 : decode cX12_readAt 88 = .ok (.if_icmp .gt 15, 3) := by decide +kernel
theorem dX12_readAt_91 : decode cX12_readAt 91 = .ok (.iload_n 3, 1) := by decide +kernel
theorem dX12_readAt_92 : decode cX12_readAt 92 = .ok (.aload_n 0, 1) := by decide +kernel
theorem dX12_readAt_93 : decode cX12_readAt 93 = .ok (.getfield 7, 3) := by decide +kernel
theorem dX12_readAt_96 : decode cX12_readAt 96 = .ok (.iload 5, 2) := by decide +kernel
theorem dX12_readAt_98 : decode cX12_readAt 98 = .ok (.iconst 3, 1) := by decide +kernel
theorem dX12_readAt_99 : decode cX12_readAt 99 = .ok (.iadd, 1) := by decide +kernel
theorem dX12_readAt_100 : decode cX12_readAt 100 = .ok (.iaload, 1) := by decide +kernel
theorem dX12_readAt_101 : decode cX12_readAt 101 = .ok (.isub, 1) := by decide +kernel
theorem dX12_readAt_102 : decode cX12_readAt 102 = .ok (.istore_n 3, 1) := by decide +kernel
theorem dX12_readAt_103 : decode cX12_readAt 103 = .ok (.iinc 4 1, 3) := by decide +kernel
theorem dX12_readAt_106 : decode cX12_readAt 106 = .ok (.goto (-77), 3) := by decide +kernel
theorem dX12_readAt_109 : decode cX12_readAt 109 = .ok (.iload_n 3, 1) := by decide +kernel
theorem dX12_readAt_110 : decode cX12_readAt 110 = .ok (.ireturn, 1) := by decide +kernel
theorem dX12_read_0 : decode cX12_read 0 = .ok (.aload_n 0, 1) := by decide +kernel
theorem dX12_read_1 : decode cX12_read 1 = .ok (.iload_n 1, 1) := by decide +kernel
theorem dX12_read_2 : decode cX12_read 2 = .ok (.invokevirtual 120, 3) := by decide +kernel
theorem dX12_read_5 : decode cX12_read 5 = .ok (.ifCond .eq 19, 3) := by decide +kernel
theorem dX12_read_8 : decode cX12_read 8 = .ok (.iload_n 2, 1) := by decide +kernel
theorem dX12_read_9 : decode cX12_read 9 = .ok (.invokestatic 124, 3) := by decide +kernel
theorem dX12_read_12 : decode cX12_read 12 = .ok (.ifCond .eq 12, 3) := by decide +kernel
theorem dX12_read_15 : decode cX12_read 15 = .ok (.aload_n 0, 1) := by decide +kernel
theorem dX12_read_16 : decode cX12_read 16 = .ok (.iload_n 1, 1) := by decide +kernel
theorem dX12_read_17 : decode cX12_read 17 = .ok (.iload_n 2, 1) := by decide +kernel
theorem dX12_read_18 : decode cX12_read 18 = .ok (.invokevirtual 136, 3) := by decide +kernel
theorem dX12_read_21 : decode cX12_read 21 = .ok (.goto 5, 3) := by decide +kernel
theorem dX12_read_24 : decode cX12_read 24 = .ok (.ldc 131, 2) := by decide +kernel
theorem dX12_read_26 : decode cX12_read 26 = .ok (.ireturn, 1) := by decide +kernel
theorem wk_271 : Cond.methodLink RX12 136 yX12_readAt ∈ tl_L := List.mem_filter.mpr ⟨lw_m7 (i := 5) rfl, rfl⟩
theorem wk_272 : Cond.instanceMethod yX12_readAt ∈ tl_L := List.mem_filter.mpr ⟨lw_m7 (i := 7) rfl, rfl⟩
theorem wk_273 : Cond.selects RX12 yX12_readAt yX12_readAt ∈ tl_L := List.mem_filter.mpr ⟨lw_s7 (i := 9) (q := (yX12_readAt, 49)) rfl, rfl⟩
theorem wk_274 : Cond.code yX12_readAt cX12_readAt 6 (some .int) ∈ tl_L := List.mem_filter.mpr ⟨lw_m7 (i := 8) rfl, rfl⟩
theorem lk_X12_136 : tl_kV RX12 136 RX12 yX12_readAt cX12_readAt 6 (some .int) 2 := ⟨wk_274, wk_271, wk_272, wk_273, wk_5, ⟨by decide +kernel, by decide +kernel, by decide +kernel⟩⟩
theorem dX12_lifts_0 : decode cX12_lifts 0 = .ok (.iconst 0, 1) := by decide +kernel
theorem dX12_lifts_1 : decode cX12_lifts 1 = .ok (.istore_n 2, 1) := by decide +kernel
theorem dX12_lifts_2 : decode cX12_lifts 2 = .ok (.iload_n 2, 1) := by decide +kernel
theorem dX12_lifts_3 : decode cX12_lifts 3 = .ok (.sipush 300, 3) := by decide +kernel
theorem dX12_lifts_6 : decode cX12_lifts 6 = .ok (.if_icmp .ge 21, 3) := by decide +kernel
theorem dX12_lifts_9 : decode cX12_lifts 9 = .ok (.aload_n 0, 1) := by decide +kernel
theorem dX12_lifts_10 : decode cX12_lifts 10 = .ok (.getfield 69, 3) := by decide +kernel
theorem dX12_lifts_13 : decode cX12_lifts 13 = .ok (.iload_n 2, 1) := by decide +kernel
theorem dX12_lifts_14 : decode cX12_lifts 14 = .ok (.aload_n 0, 1) := by decide +kernel
theorem dX12_lifts_15 : decode cX12_lifts 15 = .ok (.iload_n 1, 1) := by decide +kernel
theorem dX12_lifts_16 : decode cX12_lifts 16 = .ok (.iload_n 2, 1) := by decide +kernel
theorem dX12_lifts_17 : decode cX12_lifts 17 = .ok (.invokevirtual 136, 3) := by decide +kernel
theorem dX12_lifts_20 : decode cX12_lifts 20 = .ok (.iastore, 1) := by decide +kernel
theorem dX12_lifts_21 : decode cX12_lifts 21 = .ok (.iinc 2 1, 3) := by decide +kernel
theorem dX12_lifts_24 : decode cX12_lifts 24 = .ok (.goto (-22), 3) := by decide +kernel
theorem dX12_lifts_27 : decode cX12_lifts 27 = .ok (.return_, 1) := by decide +kernel
theorem wk_169 : Cond.fieldLink RX12 69 "ThinLineModel" "look" "[I" ∈ tl_L := List.mem_filter.mpr ⟨lw_m6 (i := 95) rfl, rfl⟩
theorem dX12_isHolding_0 : decode cX12_isHolding 0 = .ok (.bipush 48, 2) := by decide +kernel
theorem dX12_isHolding_2 : decode cX12_isHolding 2 = .ok (.iload_n 1, 1) := by decide +kernel
theorem dX12_isHolding_3 : decode cX12_isHolding 3 = .ok (.imul, 1) := by decide +kernel
theorem dX12_isHolding_4 : decode cX12_isHolding 4 = .ok (.iconst 4, 1) := by decide +kernel
theorem dX12_isHolding_5 : decode cX12_isHolding 5 = .ok (.iload_n 2, 1) := by decide +kernel
theorem dX12_isHolding_6 : decode cX12_isHolding 6 = .ok (.imul, 1) := by decide +kernel
theorem dX12_isHolding_7 : decode cX12_isHolding 7 = .ok (.iadd, 1) := by decide +kernel
theorem dX12_isHolding_8 : decode cX12_isHolding 8 = .ok (.istore_n 3, 1) := by decide +kernel
theorem dX12_isHolding_9 : decode cX12_isHolding 9 = .ok (.aload_n 0, 1) := by decide +kernel
theorem dX12_isHolding_10 : decode cX12_isHolding 10 = .ok (.getfield 26, 3) := by decide +kernel
theorem dX12_isHolding_13 : decode cX12_isHolding 13 = .ok (.iload_n 3, 1) := by decide +kernel
theorem dX12_isHolding_14 : decode cX12_isHolding 14 = .ok (.iconst 2, 1) := by decide +kernel
theorem dX12_isHolding_15 : decode cX12_isHolding 15 = .ok (.iadd, 1) := by decide +kernel
theorem dX12_isHolding_16 : decode cX12_isHolding 16 = .ok (.iaload, 1) := by decide +kernel
theorem dX12_isHolding_17 : decode cX12_isHolding 17 = .ok (.ifCond .lt 29, 3) := by decide +kernel
theorem dX12_isHolding_20 : decode cX12_isHolding 20 = .ok (.aload_n 0, 1) := by decide +kernel
theorem dX12_isHolding_21 : decode cX12_isHolding 21 = .ok (.iload_n 1, 1) := by decide +kernel
theorem dX12_isHolding_22 : decode cX12_isHolding 22 = .ok (.aload_n 0, 1) := by decide +kernel
theorem dX12_isHolding_23 : decode cX12_isHolding 23 = .ok (.getfield 26, 3) := by decide +kernel
theorem dX12_isHolding_26 : decode cX12_isHolding 26 = .ok (.iload_n 3, 1) := by decide +kernel
theorem dX12_isHolding_27 : decode cX12_isHolding 27 = .ok (.iconst 2, 1) := by decide +kernel
theorem dX12_isHolding_28 : decode cX12_isHolding 28 = .ok (.iadd, 1) := by decide +kernel
theorem dX12_isHolding_29 : decode cX12_isHolding 29 = .ok (.iaload, 1) := by decide +kernel
theorem dX12_isHolding_30 : decode cX12_isHolding 30 = .ok (.aload_n 0, 1) := by decide +kernel
theorem dX12_isHolding_31 : decode cX12_isHolding 31 = .ok (.getfield 26, 3) := by decide +kernel
theorem dX12_isHolding_34 : decode cX12_isHolding 34 = .ok (.iload_n 3, 1) := by decide +kernel
theorem dX12_isHolding_35 : decode cX12_isHolding 35 = .ok (.iconst 3, 1) := by decide +kernel
theorem dX12_isHolding_36 : decode cX12_isHolding 36 = .ok (.iadd, 1) := by decide +kernel
theorem dX12_isHolding_37 : decode cX12_isHolding 37 = .ok (.iaload, 1) := by decide +kernel
theorem dX12_isHolding_38 : decode cX12_isHolding 38 = .ok (.invokevirtual 348, 3) := by decide +kernel
theorem dX12_isHolding_41 : decode cX12_isHolding 41 = .ok (.lconst 1, 1) := by decide +kernel
theorem dX12_isHolding_42 : decode cX12_isHolding 42 = .ok (.lcmp, 1) := by decide +kernel
theorem dX12_isHolding_43 : decode cX12_isHolding 43 = .ok (.ifCond .ne 7, 3) := by decide +kernel
theorem dX12_isHolding_46 : decode cX12_isHolding 46 = .ok (.iconst 1, 1) := by decide +kernel
theorem dX12_isHolding_47 : decode cX12_isHolding 47 = .ok (.goto 4, 3) := by decide +kernel
theorem dX12_isHolding_50 : decode cX12_isHolding 50 = .ok (.iconst 0, 1) := by decide +kernel
theorem dX12_isHolding_51 : decode cX12_isHolding 51 = .ok (.ireturn, 1) := by decide +kernel
theorem wk_155 : Cond.fieldLink RX12 26 "ThinLineModel" "clause" "[I" ∈ tl_L := List.mem_filter.mpr ⟨lw_m6 (i := 71) rfl, rfl⟩
theorem wk_799 : Cond.methodLink RX12 348 yX12_reckons ∈ tl_L := List.mem_filter.mpr ⟨lw_m7 (i := 218) rfl, rfl⟩
theorem wk_800 : Cond.instanceMethod yX12_reckons ∈ tl_L := List.mem_filter.mpr ⟨lw_m7 (i := 220) rfl, rfl⟩
theorem wk_801 : Cond.selects RX12 yX12_reckons yX12_reckons ∈ tl_L := List.mem_filter.mpr ⟨lw_s9 (i := 14) (q := (yX12_reckons, 49)) rfl, rfl⟩
theorem wk_802 : Cond.code yX12_reckons cX12_reckons 11 (some .long) ∈ tl_L := List.mem_filter.mpr ⟨lw_m7 (i := 221) rfl, rfl⟩
theorem lk_X12_348 : tl_kV RX12 348 RX12 yX12_reckons cX12_reckons 11 (some .long) 3 := ⟨wk_802, wk_799, wk_800, wk_801, wk_5, ⟨by decide +kernel, by decide +kernel, by decide +kernel⟩⟩
theorem dX12_summed_0 : decode cX12_summed 0 = .ok (.aload_n 0, 1) := by decide +kernel
theorem dX12_summed_1 : decode cX12_summed 1 = .ok (.iload_n 1, 1) := by decide +kernel
theorem dX12_summed_2 : decode cX12_summed 2 = .ok (.aload_n 0, 1) := by decide +kernel
theorem dX12_summed_3 : decode cX12_summed 3 = .ok (.getfield 26, 3) := by decide +kernel
theorem dX12_summed_6 : decode cX12_summed 6 = .ok (.bipush 48, 2) := by decide +kernel
theorem dX12_summed_8 : decode cX12_summed 8 = .ok (.iload_n 1, 1) := by decide +kernel
theorem dX12_summed_9 : decode cX12_summed 9 = .ok (.imul, 1) := by decide +kernel
theorem dX12_summed_10 : decode cX12_summed 10 = .ok (.iconst 4, 1) := by decide +kernel
theorem dX12_summed_11 : decode cX12_summed 11 = .ok (.iload_n 2, 1) := by decide +kernel
theorem dX12_summed_12 : decode cX12_summed 12 = .ok (.imul, 1) := by decide +kernel
theorem dX12_summed_13 : decode cX12_summed 13 = .ok (.iadd, 1) := by decide +kernel
theorem dX12_summed_14 : decode cX12_summed 14 = .ok (.iaload, 1) := by decide +kernel
theorem dX12_summed_15 : decode cX12_summed 15 = .ok (.aload_n 0, 1) := by decide +kernel
theorem dX12_summed_16 : decode cX12_summed 16 = .ok (.getfield 26, 3) := by decide +kernel
theorem dX12_summed_19 : decode cX12_summed 19 = .ok (.bipush 48, 2) := by decide +kernel
theorem dX12_summed_21 : decode cX12_summed 21 = .ok (.iload_n 1, 1) := by decide +kernel
theorem dX12_summed_22 : decode cX12_summed 22 = .ok (.imul, 1) := by decide +kernel
theorem dX12_summed_23 : decode cX12_summed 23 = .ok (.iconst 4, 1) := by decide +kernel
theorem dX12_summed_24 : decode cX12_summed 24 = .ok (.iload_n 2, 1) := by decide +kernel
theorem dX12_summed_25 : decode cX12_summed 25 = .ok (.imul, 1) := by decide +kernel
theorem dX12_summed_26 : decode cX12_summed 26 = .ok (.iadd, 1) := by decide +kernel
theorem dX12_summed_27 : decode cX12_summed 27 = .ok (.iconst 1, 1) := by decide +kernel
theorem dX12_summed_28 : decode cX12_summed 28 = .ok (.iadd, 1) := by decide +kernel
theorem dX12_summed_29 : decode cX12_summed 29 = .ok (.iaload, 1) := by decide +kernel
theorem dX12_summed_30 : decode cX12_summed 30 = .ok (.invokevirtual 348, 3) := by decide +kernel
theorem dX12_summed_33 : decode cX12_summed 33 = .ok (.lreturn, 1) := by decide +kernel
set_option maxHeartbeats 4000000 in
set_option maxRecDepth 100000 in
theorem r_X12_readAt (l : Launch) (D : va_G) (cy : Nat → ClassId) (sz : Nat) (L : List Nat) (K : Nat → tk_K) (Γ : tk_G) (f : Nat → va_E) (o : Nat) (p0 : Int32) (p1 : Int32) (ho : tp_r L K 39 (0) 0 o) (hs : (0 ≤ Γ (40, 7666, 0) 1 ∧ Γ (40, 7666, 0) 1 ≤ 24) ∧ (0 ≤ Γ (40, 7666, 0) 2 ∧ Γ (40, 7666, 0) 2 ≤ 40) ∧ (0 ≤ Γ (40, 7666, 0) 3 ∧ Γ (40, 7666, 0) 3 ≤ 60) ∧ (0 ≤ Γ (40, 7666, 0) 4 ∧ Γ (40, 7666, 0) 4 ≤ 10) ∧ (0 ≤ Γ (40, 7666, 0) 7665 ∧ Γ (40, 7666, 0) 7665 ≤ 8)) (hraw : ∀ k : Nat, k < 7200 → (Γ (40, 7666, 0) (441 + k) = -1000000 ∨ (-100000 ≤ Γ (40, 7666, 0) (441 + k) ∧ Γ (40, 7666, 0) (441 + k) ≤ 100000))) (hslp : ∀ k : Nat, k < 40 → -9999 ≤ Γ (40, 7666, 0) (84 + 4 * k) ∧ Γ (40, 7666, 0) (84 + 4 * k) ≤ 9999) (h0 : 0 ≤ p0.toInt ∧ p0.toInt ≤ 23) (h1 : 0 ≤ p1.toInt ∧ p1.toInt ≤ 299) : Met l yX12_readAt (tl_w yX12_readAt cX12_readAt 6 (some .int)) ({ frames := 1, cells := 0, slots := 0, locals := 22 }) (va_Pc [.ref o, .int p0, .int p1] (tp_P D cy L K Γ f sz)) (vp_Si (fun r : Int32 => (r.toInt = -1000000 ∨ (-500000 ≤ r.toInt ∧ r.toInt ≤ 500000)))) 0 0 (fun _ => False) := by
  refine Met.ofW (cc := cX12_readAt) (maxL := 6) (ret := (some .int)) (by decide) rfl ?_
  intro p e s m args below meth c s₁ B hml hv
  obtain ⟨rfl, hsz, hP, hK, hL, hI, hN, hU⟩ := hv
  have hx := B.exec
  have hb := B.bytes
  have hr := B.returns
  have hta := tl_hta (atoms_spec (ws := tl_w yX12_readAt cX12_readAt 6 (some .int)) B.pre)
  have hown : s.vm.findClass RX12 = some m.cls := findClass_of_methodNamed B.named
  have hlocks := B.notSynchronized
  subst hsz
  have hI0 := hI
  have hl := lv_entry ([.ref o, .int p0, .int p1]) (n := 6) (Nat.le_of_ble_eq_true rfl)
  rw [lg_entry_eq]
  generalize (lg_sl ([.ref o, .int p0, .int p1]) ++ List.replicate (6 - (lg_sl ([.ref o, .int p0, .int p1])).length) Slot.unset).toArray = ls at hl ⊢
  have hl : lv_has ls 6 [(0, .ref o), (1, .int p0), (2, .int p1)] := hl
  refine lv_aload_n hx hb dX12_readAt_0 rfl (lv_at hl 0 rfl) ?_
  obtain ⟨r_2, v_3, q_4, hf_1, hr_5, hv_6⟩ := (show tp_o_M L K 0 0 (Γ (39, 0, 0)) (f o) from hI0.at ho)
  refine tp_get (cy := cy) (ci := 12) (v := .ref (r_2 0)) (C := RX12) (T := TX12) (N := 49) hx hb hta inlX12 hown hK hP ho.1 hf_1 rfl 0 (by decide) (hta _ wk_149) (fun _ h9 => h9) rfl dX12_readAt_1 ?_
  refine lv_sipush (v := 441) hx hb dX12_readAt_4 (by decide) ?_
  refine lv_sipush (v := 300) hx hb dX12_readAt_7 (by decide) ?_
  refine lv_iload_n hx hb dX12_readAt_10 rfl (lv_at hl 1 rfl) ?_
  refine lv_imul hx hb dX12_readAt_11 ?_
  refine lv_topi (fun z_7 ez_7 => ?_)
  try have iz_7 : z_7.toInt = (300 : Int) * p0.toInt := by rw [ez_7]; exact tl_mulN 300 p0 rfl rfl (by omega) (by omega)
  refine lv_iadd hx hb dX12_readAt_12 ?_
  refine lv_topi (fun z_8 ez_8 => ?_)
  try have iz_8 : z_8.toInt = (441 : Int) + z_7.toInt := by rw [ez_8]; exact tl_addN 441 z_7 rfl rfl (by omega) (by omega)
  refine lv_iload_n hx hb dX12_readAt_13 rfl (lv_at hl 2 rfl) ?_
  refine lv_iadd hx hb dX12_readAt_14 ?_
  refine lv_topi (fun z_9 ez_9 => ?_)
  try have iz_9 : z_9.toInt = z_8.toInt + p1.toInt := by rw [ez_9]; exact tl_addN z_8 p1 rfl rfl (by omega) (by omega)
  obtain ⟨g_11, hf_10, hg_12⟩ := (show tp_gi cy (7666) (Γ (40, 7666, 0)) (f (r_2 0)) from hI0.at (show tp_r L K 40 7666 0 (r_2 0) from hr_5 0 (by decide)))
  have hn_13 : vp_in z_9 (7666) := tl_in (by omega) (by omega)
  refine tp_iald (cy := cy) hx hb hK hP (show tp_r L K 40 7666 0 (r_2 0) from hr_5 0 (by decide)).1 hf_10 hn_13 dX12_readAt_15 ?_
  refine lv_topi (fun z_14 ez_14 => ?_)
  have iz_14 : z_14.toInt = Γ (40, 7666, 0) z_9.toInt.toNat := by rw [ez_14]; exact hg_12 _ (tp_pin hn_13)
  refine lv_istore_n (lv' := [(3, .int z_14), (0, .ref o), (1, .int p0), (2, .int p1)]) hx hb dX12_readAt_16 rfl hl (by decide) rfl (fun ls hl => ?_)
  refine lv_iload_n hx hb dX12_readAt_17 rfl (lv_at hl 0 rfl) ?_
  refine lv_ldc (v := (-1000000)) hx hb hown (hta _ wk_182) dX12_readAt_18 ?_
  refine lv_icmp_ne (tgt := 26) hx hb dX12_readAt_20 (by decide) (fun c_15 => ?_) (fun c_15 => ?_)
  · have c_15 : ¬ z_14.toInt = (-1000000 : Int) := tl_neq c_15
    have hr9 := hraw (300 * p0.toInt + p1.toInt).toNat (by omega)
    rw [show Γ (40, 7666, 0) (441 + (300 * p0.toInt + p1.toInt).toNat) = z_14.toInt from (iz_14.trans (congrArg _ (by omega))).symm] at hr9
    refine lv_iconst (v := 0) hx hb dX12_readAt_26 (by decide) ?_
    refine lv_istore (lv' := [(4, .int 0), (3, .int z_14), (0, .ref o), (1, .int p0), (2, .int p1)]) hx hb dX12_readAt_27 hl (by decide) rfl (fun ls hl => ?_)
    refine tl_indR (G := fun ls => W p l e ((headSpec (tl_w yX12_readAt cX12_readAt 6 (some .int)) ({ frames := 1, cells := 0, slots := 0, locals := 22 })).room) s m #[.ref o, .int p0, .int p1] below meth c s.heap [] 0 0 (MQ below (vp_Si (fun r : Int32 => (r.toInt = -1000000 ∨ (-500000 ≤ r.toInt ∧ r.toInt ≤ 500000)))) #[.ref o, .int p0, .int p1] s 0 0 (fun _ => False)) (F0 m 29 ls [])) (α := Int32 × Int32) (fun aq => (40 - aq.1.toInt).toNat) (fun aq ls => (0 ≤ aq.1.toInt) ∧ (aq.1.toInt ≤ 40) ∧ (-100000 - 9999 * aq.1.toInt ≤ aq.2.toInt ∧ aq.2.toInt ≤ 100000 + 9999 * aq.1.toInt) ∧ lv_has ls 6 [(4, .int aq.1), (3, .int aq.2), (0, .ref o), (1, .int p0), (2, .int p1)]) ?_ ((0 : Int32), z_14) ls ⟨(show 0 ≤ (0 : Int) from (by omega)), (show (0 : Int) ≤ 40 from (by omega)), (show -100000 - 9999 * (0 : Int) ≤ z_14.toInt ∧ z_14.toInt ≤ 100000 + 9999 * (0 : Int) from (by omega)), lv_sub hl [0, 1, 2, 3, 4] rfl⟩
    rintro ⟨v4, v3⟩ ls ⟨h0, h1, hv, hl⟩ ih29
    have h0 : 0 ≤ v4.toInt := h0
    have h1 : v4.toInt ≤ 40 := h1
    have hv : -100000 - 9999 * v4.toInt ≤ v3.toInt ∧ v3.toInt ≤ 100000 + 9999 * v4.toInt := hv
    have hl : lv_has ls 6 [(4, .int v4), (3, .int v3), (0, .ref o), (1, .int p0), (2, .int p1)] := hl
    refine lv_iload hx hb dX12_readAt_29 (lv_at hl 0 rfl) ?_
    refine lv_aload_n hx hb dX12_readAt_31 rfl (lv_at hl 2 rfl) ?_
    refine tp_get (cy := cy) (ci := 12) (v := .ref (r_2 0)) (C := RX12) (T := TX12) (N := 49) hx hb hta inlX12 hown hK hP ho.1 hf_1 rfl 0 (by decide) (hta _ wk_149) (fun _ h9 => h9) rfl dX12_readAt_32 ?_
    refine lv_iconst (v := 2) hx hb dX12_readAt_35 (by decide) ?_
    have hn_16 : vp_in 2 (7666) := tl_in (by decide) (by decide)
    refine tp_iald (cy := cy) hx hb hK hP (show tp_r L K 40 7666 0 (r_2 0) from hr_5 0 (by decide)).1 hf_10 hn_16 dX12_readAt_36 ?_
    refine lv_topi (fun z_17 ez_17 => ?_)
    have iz_17 : z_17.toInt = Γ (40, 7666, 0) 2 := by rw [ez_17]; exact hg_12 _ (tp_pin hn_16)
    refine lv_icmp_ge (tgt := 109) hx hb dX12_readAt_37 (by decide) (fun c_18 => ?_) (fun c_18 => ?_)
    · have c_18 : z_17.toInt ≤ v4.toInt := tl_le c_18
      refine lv_iload_n hx hb dX12_readAt_109 rfl (lv_at hl 1 rfl) ?_
      exact W.iret (v := v3) hx hb hr (fun t ht hW => ⟨_, rfl, (Or.inr (by omega)), ht⟩) (fun q h => by cases h) dX12_readAt_110
    · have c_18 : v4.toInt < z_17.toInt := tl_nle c_18
      refine lv_bipush (v := 81) hx hb dX12_readAt_40 (by decide) ?_
      refine lv_iconst (v := 4) hx hb dX12_readAt_42 (by decide) ?_
      refine lv_iload hx hb dX12_readAt_43 (lv_at hl 0 rfl) ?_
      refine lv_imul hx hb dX12_readAt_45 ?_
      refine lv_topi (fun z_19 ez_19 => ?_)
      try have iz_19 : z_19.toInt = (4 : Int) * v4.toInt := by rw [ez_19]; exact tl_mulN 4 v4 rfl rfl (by omega) (by omega)
      refine lv_iadd hx hb dX12_readAt_46 ?_
      refine lv_topi (fun z_20 ez_20 => ?_)
      try have iz_20 : z_20.toInt = (81 : Int) + z_19.toInt := by rw [ez_20]; exact tl_addN 81 z_19 rfl rfl (by omega) (by omega)
      refine lv_istore (lv' := [(5, .int z_20), (4, .int v4), (3, .int v3), (0, .ref o), (1, .int p0), (2, .int p1)]) hx hb dX12_readAt_47 hl (by decide) rfl (fun ls hl => ?_)
      refine lv_aload_n hx hb dX12_readAt_49 rfl (lv_at hl 3 rfl) ?_
      refine tp_get (cy := cy) (ci := 12) (v := .ref (r_2 0)) (C := RX12) (T := TX12) (N := 49) hx hb hta inlX12 hown hK hP ho.1 hf_1 rfl 0 (by decide) (hta _ wk_149) (fun _ h9 => h9) rfl dX12_readAt_50 ?_
      refine lv_iload hx hb dX12_readAt_53 (lv_at hl 0 rfl) ?_
      have hn_21 : vp_in z_20 (7666) := tl_in (by omega) (by omega)
      refine tp_iald (cy := cy) hx hb hK hP (show tp_r L K 40 7666 0 (r_2 0) from hr_5 0 (by decide)).1 hf_10 hn_21 dX12_readAt_55 ?_
      refine lv_topi (fun z_22 ez_22 => ?_)
      have iz_22 : z_22.toInt = Γ (40, 7666, 0) z_20.toInt.toNat := by rw [ez_22]; exact hg_12 _ (tp_pin hn_21)
      refine lv_aload_n hx hb dX12_readAt_56 rfl (lv_at hl 3 rfl) ?_
      refine lv_iload_n hx hb dX12_readAt_57 rfl (lv_at hl 4 rfl) ?_
      refine lv_iconst (v := 0) hx hb dX12_readAt_58 (by decide) ?_
      refine tl_si (tq_rV (As := [.int p0, .int 0]) (rest := [.int z_22]) ⟨hx, hb, hml, hown, hta⟩ (tp_P.pre hK hN hL hU hI hP) (tp_recv hK hP ho.1 hf_1 rfl) lk_X12_132 (r_X12_rowOf l D cy s.heap.size L K Γ f o p0 0 ho (by first | omega | (simp only [Int32.toInt_toInt64]; omega) | decide | assumption) (by first | omega | (simp only [Int32.toInt_toInt64]; omega) | decide | assumption)) rfl rfl ⟨Nat.le_of_ble_eq_true rfl, Nat.le_of_ble_eq_true rfl⟩ rfl hl.1 rfl (Nat.le_of_ble_eq_true rfl) dX12_readAt_59 ⟨Nat.le_of_ble_eq_true rfl, Nat.le_of_ble_eq_true rfl⟩) (fun r_24 hw_23 => ?_)
      have hw_23 : r_24.toInt = Γ (40, 7666, 0) (9 + 3 * p0.toInt + (0 : Int)).toNat := hw_23
      refine lv_icmp_ne (tgt := 103) hx hb dX12_readAt_62 (by decide) (fun c_25 => ?_) (fun c_25 => ?_)
      · have c_25 : ¬ z_22.toInt = r_24.toInt := tl_neq c_25
        obtain ⟨z_26, ez_26⟩ : ∃ y : Int32, y = v4 + 1 := ⟨_, rfl⟩
        refine lv_iinc (v := z_26) (lv' := [(4, .int z_26), (5, .int z_20), (3, .int v3), (0, .ref o), (1, .int p0), (2, .int p1)]) hx hb dX12_readAt_103 hl (k := 1) rfl (by rw [ez_26]; rfl) (by decide) rfl (fun ls hl => ?_)
        try have iz_26 : z_26.toInt = v4.toInt + 1 := by rw [ez_26]; exact tl_addL v4 1 (by decide) (by omega) (by omega)
        refine lv_goto (tgt := 29) hx hb dX12_readAt_106 (by decide) ?_
        exact ih29 (z_26, v3) ls (by show (40 - z_26.toInt).toNat < (40 - v4.toInt).toNat; omega) ⟨(show 0 ≤ z_26.toInt from (by omega)), (show z_26.toInt ≤ 40 from (by omega)), (show -100000 - 9999 * z_26.toInt ≤ v3.toInt ∧ v3.toInt ≤ 100000 + 9999 * z_26.toInt from (by omega)), lv_sub hl [0, 2, 3, 4, 5] rfl⟩
      · have c_25 : z_22.toInt = r_24.toInt := tl_eq c_25
        refine lv_iload_n hx hb dX12_readAt_65 rfl (lv_at hl 5 rfl) ?_
        refine lv_aload_n hx hb dX12_readAt_66 rfl (lv_at hl 3 rfl) ?_
        refine tp_get (cy := cy) (ci := 12) (v := .ref (r_2 0)) (C := RX12) (T := TX12) (N := 49) hx hb hta inlX12 hown hK hP ho.1 hf_1 rfl 0 (by decide) (hta _ wk_149) (fun _ h9 => h9) rfl dX12_readAt_67 ?_
        refine lv_iload hx hb dX12_readAt_70 (lv_at hl 0 rfl) ?_
        refine lv_iconst (v := 1) hx hb dX12_readAt_72 (by decide) ?_
        refine lv_iadd hx hb dX12_readAt_73 ?_
        refine lv_topi (fun z_27 ez_27 => ?_)
        try have iz_27 : z_27.toInt = z_20.toInt + (1 : Int) := by rw [ez_27]; exact tl_addN z_20 1 rfl rfl (by omega) (by omega)
        have hn_28 : vp_in z_27 (7666) := tl_in (by omega) (by omega)
        refine tp_iald (cy := cy) hx hb hK hP (show tp_r L K 40 7666 0 (r_2 0) from hr_5 0 (by decide)).1 hf_10 hn_28 dX12_readAt_74 ?_
        refine lv_topi (fun z_29 ez_29 => ?_)
        have iz_29 : z_29.toInt = Γ (40, 7666, 0) z_27.toInt.toNat := by rw [ez_29]; exact hg_12 _ (tp_pin hn_28)
        refine lv_icmp_lt (tgt := 103) hx hb dX12_readAt_75 (by decide) (fun c_30 => ?_) (fun c_30 => ?_)
        · have c_30 : p1.toInt < z_29.toInt := tl_lt c_30
          obtain ⟨z_31, ez_31⟩ : ∃ y : Int32, y = v4 + 1 := ⟨_, rfl⟩
          refine lv_iinc (v := z_31) (lv' := [(4, .int z_31), (5, .int z_20), (3, .int v3), (0, .ref o), (1, .int p0), (2, .int p1)]) hx hb dX12_readAt_103 hl (k := 1) rfl (by rw [ez_31]; rfl) (by decide) rfl (fun ls hl => ?_)
          try have iz_31 : z_31.toInt = v4.toInt + 1 := by rw [ez_31]; exact tl_addL v4 1 (by decide) (by omega) (by omega)
          refine lv_goto (tgt := 29) hx hb dX12_readAt_106 (by decide) ?_
          exact ih29 (z_31, v3) ls (by show (40 - z_31.toInt).toNat < (40 - v4.toInt).toNat; omega) ⟨(show 0 ≤ z_31.toInt from (by omega)), (show z_31.toInt ≤ 40 from (by omega)), (show -100000 - 9999 * z_31.toInt ≤ v3.toInt ∧ v3.toInt ≤ 100000 + 9999 * z_31.toInt from (by omega)), lv_sub hl [0, 2, 3, 4, 5] rfl⟩
        · have c_30 : z_29.toInt ≤ p1.toInt := tl_nlt c_30
          refine lv_iload_n hx hb dX12_readAt_78 rfl (lv_at hl 5 rfl) ?_
          refine lv_aload_n hx hb dX12_readAt_79 rfl (lv_at hl 3 rfl) ?_
          refine tp_get (cy := cy) (ci := 12) (v := .ref (r_2 0)) (C := RX12) (T := TX12) (N := 49) hx hb hta inlX12 hown hK hP ho.1 hf_1 rfl 0 (by decide) (hta _ wk_149) (fun _ h9 => h9) rfl dX12_readAt_80 ?_
          refine lv_iload hx hb dX12_readAt_83 (lv_at hl 0 rfl) ?_
          refine lv_iconst (v := 2) hx hb dX12_readAt_85 (by decide) ?_
          refine lv_iadd hx hb dX12_readAt_86 ?_
          refine lv_topi (fun z_32 ez_32 => ?_)
          try have iz_32 : z_32.toInt = z_20.toInt + (2 : Int) := by rw [ez_32]; exact tl_addN z_20 2 rfl rfl (by omega) (by omega)
          have hn_33 : vp_in z_32 (7666) := tl_in (by omega) (by omega)
          refine tp_iald (cy := cy) hx hb hK hP (show tp_r L K 40 7666 0 (r_2 0) from hr_5 0 (by decide)).1 hf_10 hn_33 dX12_readAt_87 ?_
          refine lv_topi (fun z_34 ez_34 => ?_)
          have iz_34 : z_34.toInt = Γ (40, 7666, 0) z_32.toInt.toNat := by rw [ez_34]; exact hg_12 _ (tp_pin hn_33)
          refine lv_icmp_gt (tgt := 103) hx hb dX12_readAt_88 (by decide) (fun c_35 => ?_) (fun c_35 => ?_)
          · have c_35 : z_34.toInt < p1.toInt := tl_lt c_35
            obtain ⟨z_36, ez_36⟩ : ∃ y : Int32, y = v4 + 1 := ⟨_, rfl⟩
            refine lv_iinc (v := z_36) (lv' := [(4, .int z_36), (5, .int z_20), (3, .int v3), (0, .ref o), (1, .int p0), (2, .int p1)]) hx hb dX12_readAt_103 hl (k := 1) rfl (by rw [ez_36]; rfl) (by decide) rfl (fun ls hl => ?_)
            try have iz_36 : z_36.toInt = v4.toInt + 1 := by rw [ez_36]; exact tl_addL v4 1 (by decide) (by omega) (by omega)
            refine lv_goto (tgt := 29) hx hb dX12_readAt_106 (by decide) ?_
            exact ih29 (z_36, v3) ls (by show (40 - z_36.toInt).toNat < (40 - v4.toInt).toNat; omega) ⟨(show 0 ≤ z_36.toInt from (by omega)), (show z_36.toInt ≤ 40 from (by omega)), (show -100000 - 9999 * z_36.toInt ≤ v3.toInt ∧ v3.toInt ≤ 100000 + 9999 * z_36.toInt from (by omega)), lv_sub hl [0, 2, 3, 4, 5] rfl⟩
          · have c_35 : p1.toInt ≤ z_34.toInt := tl_nlt c_35
            refine lv_iload_n hx hb dX12_readAt_91 rfl (lv_at hl 2 rfl) ?_
            refine lv_aload_n hx hb dX12_readAt_92 rfl (lv_at hl 3 rfl) ?_
            refine tp_get (cy := cy) (ci := 12) (v := .ref (r_2 0)) (C := RX12) (T := TX12) (N := 49) hx hb hta inlX12 hown hK hP ho.1 hf_1 rfl 0 (by decide) (hta _ wk_149) (fun _ h9 => h9) rfl dX12_readAt_93 ?_
            refine lv_iload hx hb dX12_readAt_96 (lv_at hl 0 rfl) ?_
            refine lv_iconst (v := 3) hx hb dX12_readAt_98 (by decide) ?_
            refine lv_iadd hx hb dX12_readAt_99 ?_
            refine lv_topi (fun z_37 ez_37 => ?_)
            try have iz_37 : z_37.toInt = z_20.toInt + (3 : Int) := by rw [ez_37]; exact tl_addN z_20 3 rfl rfl (by omega) (by omega)
            have hn_38 : vp_in z_37 (7666) := tl_in (by omega) (by omega)
            refine tp_iald (cy := cy) hx hb hK hP (show tp_r L K 40 7666 0 (r_2 0) from hr_5 0 (by decide)).1 hf_10 hn_38 dX12_readAt_100 ?_
            refine lv_topi (fun z_39 ez_39 => ?_)
            have iz_39 : z_39.toInt = Γ (40, 7666, 0) z_37.toInt.toNat := by rw [ez_39]; exact hg_12 _ (tp_pin hn_38)
            have hs9 := hslp v4.toInt.toNat (by omega)
            rw [show Γ (40, 7666, 0) (84 + 4 * v4.toInt.toNat) = z_39.toInt from (iz_39.trans (congrArg _ (by omega))).symm] at hs9
            refine lv_isub hx hb dX12_readAt_101 ?_
            refine lv_topi (fun z_40 ez_40 => ?_)
            try have iz_40 : z_40.toInt = v3.toInt - z_39.toInt := by rw [ez_40]; exact tl_subN v3 z_39 rfl rfl (by omega) (by omega)
            refine lv_istore_n (lv' := [(3, .int z_40), (5, .int z_20), (4, .int v4), (0, .ref o), (1, .int p0), (2, .int p1)]) hx hb dX12_readAt_102 rfl hl (by decide) rfl (fun ls hl => ?_)
            obtain ⟨z_41, ez_41⟩ : ∃ y : Int32, y = v4 + 1 := ⟨_, rfl⟩
            refine lv_iinc (v := z_41) (lv' := [(4, .int z_41), (3, .int z_40), (5, .int z_20), (0, .ref o), (1, .int p0), (2, .int p1)]) hx hb dX12_readAt_103 hl (k := 2) rfl (by rw [ez_41]; rfl) (by decide) rfl (fun ls hl => ?_)
            try have iz_41 : z_41.toInt = v4.toInt + 1 := by rw [ez_41]; exact tl_addL v4 1 (by decide) (by omega) (by omega)
            refine lv_goto (tgt := 29) hx hb dX12_readAt_106 (by decide) ?_
            exact ih29 (z_41, z_40) ls (by show (40 - z_41.toInt).toNat < (40 - v4.toInt).toNat; omega) ⟨(show 0 ≤ z_41.toInt from (by omega)), (show z_41.toInt ≤ 40 from (by omega)), (show -100000 - 9999 * z_41.toInt ≤ z_40.toInt ∧ z_40.toInt ≤ 100000 + 9999 * z_41.toInt from (by omega)), lv_sub hl [0, 1, 3, 4, 5] rfl⟩
  · have c_15 : z_14.toInt = (-1000000 : Int) := tl_eq c_15
    refine lv_ldc (v := (-1000000)) hx hb hown (hta _ wk_182) dX12_readAt_23 ?_
    exact W.iret (v := (-1000000)) hx hb hr (fun t ht hW => ⟨_, rfl, (Or.inl (by decide)), ht⟩) (fun q h => by cases h) dX12_readAt_25
set_option maxHeartbeats 4000000 in
set_option maxRecDepth 100000 in
theorem r_X12_read (l : Launch) (D : va_G) (cy : Nat → ClassId) (sz : Nat) (L : List Nat) (K : Nat → tk_K) (Γ : tk_G) (f : Nat → va_E) (o : Nat) (p0 : Int32) (p1 : Int32) (ho : tp_r L K 39 (0) 0 o) (hs : (0 ≤ Γ (40, 7666, 0) 1 ∧ Γ (40, 7666, 0) 1 ≤ 24) ∧ (0 ≤ Γ (40, 7666, 0) 2 ∧ Γ (40, 7666, 0) 2 ≤ 40) ∧ (0 ≤ Γ (40, 7666, 0) 3 ∧ Γ (40, 7666, 0) 3 ≤ 60) ∧ (0 ≤ Γ (40, 7666, 0) 4 ∧ Γ (40, 7666, 0) 4 ≤ 10) ∧ (0 ≤ Γ (40, 7666, 0) 7665 ∧ Γ (40, 7666, 0) 7665 ≤ 8)) (hraw : ∀ k : Nat, k < 7200 → (Γ (40, 7666, 0) (441 + k) = -1000000 ∨ (-100000 ≤ Γ (40, 7666, 0) (441 + k) ∧ Γ (40, 7666, 0) (441 + k) ≤ 100000))) (hslp : ∀ k : Nat, k < 40 → -9999 ≤ Γ (40, 7666, 0) (84 + 4 * k) ∧ Γ (40, 7666, 0) (84 + 4 * k) ≤ 9999) : Met l yX12_read (tl_w yX12_read cX12_read 3 (some .int)) ({ frames := 2, cells := 0, slots := 0, locals := 47 }) (va_Pc [.ref o, .int p0, .int p1] (tp_P D cy L K Γ f sz)) (vp_Si (fun r : Int32 => True)) 0 0 (fun _ => False) := by
  refine Met.ofW (cc := cX12_read) (maxL := 3) (ret := (some .int)) (by decide) rfl ?_
  intro p e s m args below meth c s₁ B hml hv
  obtain ⟨rfl, hsz, hP, hK, hL, hI, hN, hU⟩ := hv
  have hx := B.exec
  have hb := B.bytes
  have hr := B.returns
  have hta := tl_hta (atoms_spec (ws := tl_w yX12_read cX12_read 3 (some .int)) B.pre)
  have hown : s.vm.findClass RX12 = some m.cls := findClass_of_methodNamed B.named
  have hlocks := B.notSynchronized
  subst hsz
  have hI0 := hI
  have hl := lv_entry ([.ref o, .int p0, .int p1]) (n := 3) (Nat.le_of_ble_eq_true rfl)
  rw [lg_entry_eq]
  generalize (lg_sl ([.ref o, .int p0, .int p1]) ++ List.replicate (3 - (lg_sl ([.ref o, .int p0, .int p1])).length) Slot.unset).toArray = ls at hl ⊢
  have hl : lv_has ls 3 [(0, .ref o), (1, .int p0), (2, .int p1)] := hl
  refine lv_aload_n hx hb dX12_read_0 rfl (lv_at hl 0 rfl) ?_
  refine lv_iload_n hx hb dX12_read_1 rfl (lv_at hl 1 rfl) ?_
  obtain ⟨r_2, v_3, q_4, hf_1, hr_5, hv_6⟩ := (show tp_o_M L K 0 0 (Γ (39, 0, 0)) (f o) from hI0.at ho)
  refine tl_si (tq_rV (As := [.int p0]) (rest := []) ⟨hx, hb, hml, hown, hta⟩ (tp_P.pre hK hN hL hU hI hP) (tp_recv hK hP ho.1 hf_1 rfl) lk_X12_120 (r_X12_isRow l D cy s.heap.size L K Γ f o p0 ho) rfl rfl ⟨Nat.le_of_ble_eq_true rfl, Nat.le_of_ble_eq_true rfl⟩ rfl hl.1 rfl (Nat.le_of_ble_eq_true rfl) dX12_read_2 ⟨Nat.le_of_ble_eq_true rfl, Nat.le_of_ble_eq_true rfl⟩) (fun r_8 hw_7 => ?_)
  have hw_7 : tl_E r_8 (0 ≤ p0.toInt ∧ p0.toInt < Γ (40, 7666, 0) 1) 1 0 := hw_7
  refine lv_if_eq (tgt := 24) hx hb dX12_read_5 (by decide) (fun c_9 => ?_) (fun c_9 => ?_)
  · have c_9 := hw_7.f c_9
    refine lv_ldc (v := (-2000000)) hx hb hown (hta _ wk_248) dX12_read_24 ?_
    exact W.iret (v := (-2000000)) hx hb hr (fun t ht hW => ⟨_, rfl, trivial, ht⟩) (fun q h => by cases h) dX12_read_26
  · have c_9 := hw_7.t c_9
    refine lv_iload_n hx hb dX12_read_8 rfl (lv_at hl 2 rfl) ?_
    refine tl_si (tq_rS (As := [.int p1]) (rest := []) ⟨hx, hb, hml, hown, hta⟩ (tp_P.pre hK hN hL hU hI hP) lk_X12_124 (r_X12_isColour l D cy s.heap.size L K Γ f p1 ) rfl rfl ⟨Nat.le_of_ble_eq_true rfl, Nat.le_of_ble_eq_true rfl⟩ rfl hl.1 rfl (Nat.le_of_ble_eq_true rfl) dX12_read_9 ⟨Nat.le_of_ble_eq_true rfl, Nat.le_of_ble_eq_true rfl⟩) (fun r_11 hw_10 => ?_)
    have hw_10 : tl_E r_11 (0 ≤ p1.toInt ∧ p1.toInt ≤ 299) 1 0 := hw_10
    refine lv_if_eq (tgt := 24) hx hb dX12_read_12 (by decide) (fun c_12 => ?_) (fun c_12 => ?_)
    · have c_12 := hw_10.f c_12
      refine lv_ldc (v := (-2000000)) hx hb hown (hta _ wk_248) dX12_read_24 ?_
      exact W.iret (v := (-2000000)) hx hb hr (fun t ht hW => ⟨_, rfl, trivial, ht⟩) (fun q h => by cases h) dX12_read_26
    · have c_12 := hw_10.t c_12
      refine lv_aload_n hx hb dX12_read_15 rfl (lv_at hl 0 rfl) ?_
      refine lv_iload_n hx hb dX12_read_16 rfl (lv_at hl 1 rfl) ?_
      refine lv_iload_n hx hb dX12_read_17 rfl (lv_at hl 2 rfl) ?_
      refine tl_si (tq_rV (As := [.int p0, .int p1]) (rest := []) ⟨hx, hb, hml, hown, hta⟩ (tp_P.pre hK hN hL hU hI hP) (tp_recv hK hP ho.1 hf_1 rfl) lk_X12_136 (r_X12_readAt l D cy s.heap.size L K Γ f o p0 p1 ho (by first | omega | (simp only [Int32.toInt_toInt64]; omega) | decide | assumption) (by first | omega | (simp only [Int32.toInt_toInt64]; omega) | decide | assumption) (by first | omega | (simp only [Int32.toInt_toInt64]; omega) | decide | assumption) (by first | omega | (simp only [Int32.toInt_toInt64]; omega) | decide | assumption) (by first | omega | (simp only [Int32.toInt_toInt64]; omega) | decide | assumption)) rfl rfl ⟨Nat.le_of_ble_eq_true rfl, Nat.le_of_ble_eq_true rfl⟩ rfl hl.1 rfl (Nat.le_of_ble_eq_true rfl) dX12_read_18 ⟨Nat.le_of_ble_eq_true rfl, Nat.le_of_ble_eq_true rfl⟩) (fun r_14 hw_13 => ?_)
      have hw_13 : (r_14.toInt = -1000000 ∨ (-500000 ≤ r_14.toInt ∧ r_14.toInt ≤ 500000)) := hw_13
      refine lv_goto (tgt := 26) hx hb dX12_read_21 (by decide) ?_
      exact W.iret (v := r_14) hx hb hr (fun t ht hW => ⟨_, rfl, trivial, ht⟩) (fun q h => by cases h) dX12_read_26
set_option maxHeartbeats 4000000 in
set_option maxRecDepth 100000 in
theorem r_X12_lifts (l : Launch) (D : va_G) (cy : Nat → ClassId) (sz : Nat) (L : List Nat) (K : Nat → tk_K) (Γ : tk_G) (f : Nat → va_E) (o : Nat) (p0 : Int32) (ho : tp_r L K 39 (0) 0 o) (hs : (0 ≤ Γ (40, 7666, 0) 1 ∧ Γ (40, 7666, 0) 1 ≤ 24) ∧ (0 ≤ Γ (40, 7666, 0) 2 ∧ Γ (40, 7666, 0) 2 ≤ 40) ∧ (0 ≤ Γ (40, 7666, 0) 3 ∧ Γ (40, 7666, 0) 3 ≤ 60) ∧ (0 ≤ Γ (40, 7666, 0) 4 ∧ Γ (40, 7666, 0) 4 ≤ 10) ∧ (0 ≤ Γ (40, 7666, 0) 7665 ∧ Γ (40, 7666, 0) 7665 ≤ 8)) (hraw : ∀ k : Nat, k < 7200 → (Γ (40, 7666, 0) (441 + k) = -1000000 ∨ (-100000 ≤ Γ (40, 7666, 0) (441 + k) ∧ Γ (40, 7666, 0) (441 + k) ≤ 100000))) (hslp : ∀ k : Nat, k < 40 → -9999 ≤ Γ (40, 7666, 0) (84 + 4 * k) ∧ Γ (40, 7666, 0) (84 + 4 * k) ≤ 9999) (h0 : 0 ≤ p0.toInt ∧ p0.toInt ≤ 23) : Met l yX12_lifts (tl_w yX12_lifts cX12_lifts 3 none) ({ frames := 2, cells := 0, slots := 0, locals := 47 }) (va_Pc [.ref o, .int p0] (tp_P D cy L K Γ f sz)) (va_Qv (fun (u : (Nat → va_E) × tk_G) => ∀ j : Nat, j < 300 → (u.2 (59, 300, 0) j = -1000000 ∨ (-500000 ≤ u.2 (59, 300, 0) j ∧ u.2 (59, 300, 0) j ≤ 500000))) (tp_BG D cy L K Γ f [59]) (tp_A L sz)) 0 0 (tp_A L sz) := by
  refine Met.ofW (cc := cX12_lifts) (maxL := 3) (ret := none) (by decide) rfl ?_
  intro p e s m args below meth c s₁ B hml hv
  obtain ⟨rfl, hsz, hP, hK, hL, hI, hN, hU⟩ := hv
  have hx := B.exec
  have hb := B.bytes
  have hr := B.returns
  have hta := tl_hta (atoms_spec (ws := tl_w yX12_lifts cX12_lifts 3 none) B.pre)
  have hown : s.vm.findClass RX12 = some m.cls := findClass_of_methodNamed B.named
  have hlocks := B.notSynchronized
  subst hsz
  have hI0 := hI
  generalize hAe : tp_A L s.heap.size = A
  have hA : ∀ q : Nat, s.heap.size ≤ q → A q := fun q h => by rw [← hAe]; exact Or.inr h
  have hAL : ∀ q ∈ L, A q := fun q h => by rw [← hAe]; exact Or.inl h
  have hAf : ∀ (H : Heap), s.heap.size ≤ H.size → ∀ q, tp_A L H.size q → A q := fun H h q hq => hq.elim (hAL q) (fun h2 => hA q (Nat.le_trans h h2))
  have hS : va_S A s.heap s.heap [] := va_S.rf
  have hD : va_D A (va_pl L f) := tp_D hL hAL
  have hfr : ∀ b, (K b).1 ∉ ([59] : List Nat) → f b = f b := fun _ _ => rfl
  have hgr : ∀ κ : tk_K, κ.1 ∉ ([59] : List Nat) → Γ κ = Γ κ := fun _ _ => rfl
  have hl := lv_entry ([.ref o, .int p0]) (n := 3) (Nat.le_of_ble_eq_true rfl)
  rw [lg_entry_eq]
  generalize (lg_sl ([.ref o, .int p0]) ++ List.replicate (3 - (lg_sl ([.ref o, .int p0])).length) Slot.unset).toArray = ls at hl ⊢
  have hl : lv_has ls 3 [(0, .ref o), (1, .int p0)] := hl
  refine lv_iconst (v := 0) hx hb dX12_lifts_0 (by decide) ?_
  refine lv_istore_n (lv' := [(2, .int 0), (0, .ref o), (1, .int p0)]) hx hb dX12_lifts_1 rfl hl (by decide) rfl (fun ls hl => ?_)
  refine tq_start hP hS (fun H locs hP hS => ?_)
  refine tl_ind (G := fun H locs ls => W p l e ((headSpec (tl_w yX12_lifts cX12_lifts 3 none) ({ frames := 2, cells := 0, slots := 0, locals := 47 })).room) s m #[.ref o, .int p0] below meth c H locs 0 0 (MQ below (va_Qv (fun (u : (Nat → va_E) × tk_G) => ∀ j : Nat, j < 300 → (u.2 (59, 300, 0) j = -1000000 ∨ (-500000 ≤ u.2 (59, 300, 0) j ∧ u.2 (59, 300, 0) j ≤ 500000))) (tp_BG D cy L K Γ f [59]) A) #[.ref o, .int p0] s 0 0 A) (F0 m 2 ls [])) (α := (Nat → va_E) × tk_G × Int32) (fun aq => (300 - aq.2.2.toInt).toNat) (fun aq H locs ls => (0 ≤ aq.2.2.toInt) ∧ (aq.2.2.toInt ≤ 300) ∧ (∀ j : Nat, (j : Int) < aq.2.2.toInt → (aq.2.1 (59, 300, 0) j = -1000000 ∨ (-500000 ≤ aq.2.1 (59, 300, 0) j ∧ aq.2.1 (59, 300, 0) j ≤ 500000))) ∧ va_P D vwCl (va_pl L aq.1) H ∧ tp_I cy L K aq.2.1 aq.1 ∧ (∀ b, (K b).1 ∉ ([59] : List Nat) → aq.1 b = f b) ∧ (∀ κ : tk_K, κ.1 ∉ ([59] : List Nat) → aq.2.1 κ = Γ κ) ∧ va_S A s.heap H locs ∧ lv_has ls 3 [(2, .int aq.2.2), (0, .ref o), (1, .int p0)]) ?_ (f, Γ, (0 : Int32)) H locs ls ⟨(show 0 ≤ (0 : Int) from (by omega)), (show (0 : Int) ≤ 300 from (by omega)), (show ∀ j : Nat, (j : Int) < (0 : Int) → (Γ (59, 300, 0) j = -1000000 ∨ (-500000 ≤ Γ (59, 300, 0) j ∧ Γ (59, 300, 0) j ≤ 500000)) from (fun j9 q9 => absurd q9 (by omega))), hP, hI, hfr, hgr, hS, lv_sub hl [0, 1, 2] rfl⟩
  rintro ⟨f_1, Γ_2, v2⟩ H locs ls ⟨h0, h1, hlk, hP, hI, hfr, hgr, hS, hl⟩ ih2
  have hgr : ∀ κ : tk_K, κ.1 ∉ ([59] : List Nat) → Γ_2 κ = Γ κ := hgr
  have hP : va_P D vwCl (va_pl L f_1) H := hP
  have hI : tp_I cy L K Γ_2 f_1 := hI
  have hfr : ∀ b, (K b).1 ∉ ([59] : List Nat) → f_1 b = f b := hfr
  have hD : va_D A (va_pl L f_1) := tp_D hL hAL
  have h0 : 0 ≤ v2.toInt := h0
  have h1 : v2.toInt ≤ 300 := h1
  have hlk : ∀ j : Nat, (j : Int) < v2.toInt → (Γ_2 (59, 300, 0) j = -1000000 ∨ (-500000 ≤ Γ_2 (59, 300, 0) j ∧ Γ_2 (59, 300, 0) j ≤ 500000)) := hlk
  have hl : lv_has ls 3 [(2, .int v2), (0, .ref o), (1, .int p0)] := hl
  refine lv_iload_n hx hb dX12_lifts_2 rfl (lv_at hl 0 rfl) ?_
  refine lv_sipush (v := 300) hx hb dX12_lifts_3 (by decide) ?_
  refine lv_icmp_ge (tgt := 27) hx hb dX12_lifts_6 (by decide) (fun c_3 => ?_) (fun c_3 => ?_)
  · have c_3 : (300 : Int) ≤ v2.toInt := tl_le c_3
    have hpo9 : ∀ j : Nat, j < 300 → (Γ_2 (59, 300, 0) j = -1000000 ∨ (-500000 ≤ Γ_2 (59, 300, 0) j ∧ Γ_2 (59, 300, 0) j ≤ 500000)) := (fun j9 q9 => hlk j9 (by omega))
    exact W.vret hx hb hr (fun t ht hW => ⟨⟨(f_1, Γ_2), rfl, hpo9, by rw [ht]; exact hP, hI, hfr, hgr⟩, hS.F ht⟩) hS.2.2 dX12_lifts_27
  · have c_3 : v2.toInt < (300 : Int) := tl_nle c_3
    refine lv_aload_n hx hb dX12_lifts_9 rfl (lv_at hl 1 rfl) ?_
    obtain ⟨r_5, v_6, q_7, hf_4, hr_8, hv_9⟩ := (show tp_o_M L K 0 0 (Γ (39, 0, 0)) (f o) from hI0.at ho)
    refine tp_get (cy := cy) (ci := 12) (v := .ref (r_5 19)) (C := RX12) (T := TX12) (N := 49) hx hb hta inlX12 hown hK hP ho.1 ((tp_un hfr ho (by decide)).trans hf_4) rfl 30 (by decide) (hta _ wk_169) (fun _ h9 => h9) rfl dX12_lifts_10 ?_
    refine lv_iload_n hx hb dX12_lifts_13 rfl (lv_at hl 0 rfl) ?_
    refine lv_aload_n hx hb dX12_lifts_14 rfl (lv_at hl 1 rfl) ?_
    refine lv_iload_n hx hb dX12_lifts_15 rfl (lv_at hl 2 rfl) ?_
    refine lv_iload_n hx hb dX12_lifts_16 rfl (lv_at hl 0 rfl) ?_
    refine tl_si (tq_rV (As := [.int p0, .int v2]) (rest := [.int v2, .ref (r_5 19)]) ⟨hx, hb, hml, hown, hta⟩ (tp_P.pre hK hN hL hU hI hP) (tp_recv hK hP ho.1 ((tp_un hfr ho (by decide)).trans hf_4) rfl) lk_X12_136 (r_X12_readAt l D cy H.size L K Γ_2 f_1 o p0 v2 ho (by first | omega | assumption | (rw [hgr (40, 7666, 0) (by decide)]; first | exact hs | assumption | omega)) (by first | omega | assumption | (rw [hgr (40, 7666, 0) (by decide)]; first | exact hraw | assumption | omega)) (by first | omega | assumption | (rw [hgr (40, 7666, 0) (by decide)]; first | exact hslp | assumption | omega)) (by first | omega | (simp only [Int32.toInt_toInt64]; omega) | decide | assumption) (by first | omega | (simp only [Int32.toInt_toInt64]; omega) | decide | assumption)) rfl rfl ⟨Nat.le_of_ble_eq_true rfl, Nat.le_of_ble_eq_true rfl⟩ rfl hl.1 rfl (Nat.le_of_ble_eq_true rfl) dX12_lifts_17 ⟨Nat.le_of_ble_eq_true rfl, Nat.le_of_ble_eq_true rfl⟩) (fun r_11 hw_10 => ?_)
    have hlkr : (r_11.toInt = -1000000 ∨ (-500000 ≤ r_11.toInt ∧ r_11.toInt ≤ 500000)) := hw_10
    have hw_10 : (r_11.toInt = -1000000 ∨ (-500000 ≤ r_11.toInt ∧ r_11.toInt ≤ 500000)) := hw_10
    obtain ⟨g_13, hf_12, hg_14⟩ := (show tp_gi cy (300) (Γ_2 (59, 300, 0)) (f_1 (r_5 19)) from hI.at (show tp_r L K 59 300 0 (r_5 19) from hr_8 19 (by decide)))
    have hn_15 : vp_in v2 (300) := tl_in (by omega) (by omega)
    have hj_16 : v2.toNatClampNeg = v2.toInt.toNat := by show v2.toInt.toNat = _; omega
    have hv_17 : r_11.toInt = r_11.toInt := rfl
    obtain ⟨Γ_18, eΓ_18⟩ : ∃ y : tk_G, y = tg Γ_2 (59, 300, 0) v2.toInt.toNat r_11.toInt := ⟨_, rfl⟩
    have hI9 : tp_I cy L K Γ_18 (va_up f_1 (r_5 19) (.inl (cy 0, 300, .inl (upd g_13 v2.toNatClampNeg r_11)))) := by have q9 : tg Γ_2 (59, 300, 0) v2.toInt.toNat r_11.toInt = tg Γ_2 (59, 300, 0) v2.toNatClampNeg r_11.toInt := (by rw [hj_16, hv_17]); rw [eΓ_18, q9]; exact hI.setg hU rfl (show tp_r L K 59 300 0 (r_5 19) from hr_8 19 (by decide)) (show tp_gi cy (300) (tgu (Γ_2 (59, 300, 0)) _ _) _ from ⟨_, rfl, tp_gi_upd hg_14⟩)
    have hfr9 : ∀ b, (K b).1 ∉ ([59] : List Nat) → va_up f_1 (r_5 19) (.inl (cy 0, 300, .inl (upd g_13 v2.toNatClampNeg r_11))) b = f b := tp_fr hfr (show tp_r L K 59 300 0 (r_5 19) from hr_8 19 (by decide)) (by decide)
    refine tp_iast (cy := cy) hx hb hK hP hD hS (show tp_r L K 59 300 0 (r_5 19) from hr_8 19 (by decide)).1 hf_12 hn_15 dX12_lifts_20 (fun H locs hP hD hS => ?_)
    have hP : va_P D vwCl (va_pl L (va_up f_1 (r_5 19) (.inl (cy 0, 300, .inl (upd g_13 v2.toNatClampNeg r_11))))) H := hP
    generalize hfe : va_up f_1 (r_5 19) (.inl (cy 0, 300, .inl (upd g_13 v2.toNatClampNeg r_11))) = f_19 at hP hI9 hfr9
    have hD : va_D A (va_pl L f_19) := tp_D hL hAL
    have hf_20 : f_19 (r_5 19) = .inl (cy 0, 300, .inl (upd g_13 v2.toNatClampNeg r_11)) := by rw [← hfe]; exact va_up_self _ _ _
    clear hfe
    have hI := hI9
    have hfr := hfr9
    clear hI9 hfr9
    have wsΓ_18 : Γ_18 (59, 300, 0) v2.toInt.toNat = r_11.toInt := by rw [eΓ_18]; exact tg_s
    have hgr : ∀ κ : tk_K, κ.1 ∉ ([59] : List Nat) → Γ_18 κ = Γ κ := tg_fr hgr eΓ_18 (by decide)
    obtain ⟨z_21, ez_21⟩ : ∃ y : Int32, y = v2 + 1 := ⟨_, rfl⟩
    refine lv_iinc (v := z_21) (lv' := [(2, .int z_21), (0, .ref o), (1, .int p0)]) hx hb dX12_lifts_21 hl (k := 0) rfl (by rw [ez_21]; rfl) (by decide) rfl (fun ls hl => ?_)
    try have iz_21 : z_21.toInt = v2.toInt + 1 := by rw [ez_21]; exact tl_addL v2 1 (by decide) (by omega) (by omega)
    refine lv_goto (tgt := 2) hx hb dX12_lifts_24 (by decide) ?_
    exact ih2 (f_19, Γ_18, z_21) H locs ls (by show (300 - z_21.toInt).toNat < (300 - v2.toInt).toNat; omega) ⟨(show 0 ≤ z_21.toInt from (by omega)), (show z_21.toInt ≤ 300 from (by omega)), (show ∀ j : Nat, (j : Int) < z_21.toInt → (Γ_18 (59, 300, 0) j = -1000000 ∨ (-500000 ≤ Γ_18 (59, 300, 0) j ∧ Γ_18 (59, 300, 0) j ≤ 500000)) from (fun j9 q9 => by rw [eΓ_18]; by_cases q8 : j9 = v2.toInt.toNat; (rw [q8, tg_s]; exact hlkr); (rw [tg_i q8]; exact hlk j9 (by omega)))), hP, hI, hfr, hgr, hS, lv_sub hl [0, 1, 2] rfl⟩
set_option maxHeartbeats 4000000 in
set_option maxRecDepth 100000 in
theorem r_X12_isHolding (l : Launch) (D : va_G) (cy : Nat → ClassId) (sz : Nat) (L : List Nat) (K : Nat → tk_K) (Γ : tk_G) (f : Nat → va_E) (o : Nat) (p0 : Int32) (p1 : Int32) (ho : tp_r L K 39 (0) 0 o) (ht0 : 0 ≤ p0.toInt ∧ p0.toInt ≤ 21) (hc0 : 0 ≤ p1.toInt ∧ p1.toInt ≤ 11) (hte : Γ (45, 1056, 0) (48 * p0.toInt + 4 * p1.toInt + 2).toNat < 0 ∨ (0 ≤ Γ (45, 1056, 0) (48 * p0.toInt + 4 * p1.toInt + 2).toNat ∧ Γ (45, 1056, 0) (48 * p0.toInt + 4 * p1.toInt + 2).toNat ≤ Γ (45, 1056, 0) (48 * p0.toInt + 4 * p1.toInt + 3).toNat ∧ Γ (45, 1056, 0) (48 * p0.toInt + 4 * p1.toInt + 3).toNat ≤ 400 ∧ rp (Γ (43, 8800, 0)) (400 * p0.toInt + Γ (45, 1056, 0) (48 * p0.toInt + 4 * p1.toInt + 2).toNat).toNat (Γ (45, 1056, 0) (48 * p0.toInt + 4 * p1.toInt + 3).toNat - Γ (45, 1056, 0) (48 * p0.toInt + 4 * p1.toInt + 2).toNat).toNat 1)) : Met l yX12_isHolding (tl_w yX12_isHolding cX12_isHolding 4 (some .boolean)) ({ frames := 2, cells := 0, slots := 0, locals := 54 }) (va_Pc [.ref o, .int p0, .int p1] (tp_P D cy L K Γ f sz)) (va_Qi (fun (r : Int32) (u : (Nat → va_E) × tk_G) => tl_J r (True) ∧ u.2 (39, 0, 0) 0 = Γ (39, 0, 0) 0 ∧ u.2 (39, 0, 0) 10 = Γ (39, 0, 0) 10 ∧ u.2 (39, 0, 0) 11 = Γ (39, 0, 0) 11 ∧ u.2 (39, 0, 0) 12 = Γ (39, 0, 0) 12 ∧ u.2 (39, 0, 0) 13 = Γ (39, 0, 0) 13 ∧ u.2 (39, 0, 0) 14 = Γ (39, 0, 0) 14 ∧ u.2 (39, 0, 0) 15 = Γ (39, 0, 0) 15) (tp_BG D cy L K Γ f [39, 57]) (tp_A L sz)) 0 0 (tp_A L sz) := by
  refine Met.ofW (cc := cX12_isHolding) (maxL := 4) (ret := (some .boolean)) (by decide) rfl ?_
  intro p e s m args below meth c s₁ B hml hv
  obtain ⟨rfl, hsz, hP, hK, hL, hI, hN, hU⟩ := hv
  have hx := B.exec
  have hb := B.bytes
  have hr := B.returns
  have hta := tl_hta (atoms_spec (ws := tl_w yX12_isHolding cX12_isHolding 4 (some .boolean)) B.pre)
  have hown : s.vm.findClass RX12 = some m.cls := findClass_of_methodNamed B.named
  have hlocks := B.notSynchronized
  subst hsz
  have hI0 := hI
  generalize hAe : tp_A L s.heap.size = A
  have hA : ∀ q : Nat, s.heap.size ≤ q → A q := fun q h => by rw [← hAe]; exact Or.inr h
  have hAL : ∀ q ∈ L, A q := fun q h => by rw [← hAe]; exact Or.inl h
  have hAf : ∀ (H : Heap), s.heap.size ≤ H.size → ∀ q, tp_A L H.size q → A q := fun H h q hq => hq.elim (hAL q) (fun h2 => hA q (Nat.le_trans h h2))
  have hS : va_S A s.heap s.heap [] := va_S.rf
  have hD : va_D A (va_pl L f) := tp_D hL hAL
  have hfr : ∀ b, (K b).1 ∉ ([39, 57] : List Nat) → f b = f b := fun _ _ => rfl
  have hgr : ∀ κ : tk_K, κ.1 ∉ ([39, 57] : List Nat) → Γ κ = Γ κ := fun _ _ => rfl
  have hl := lv_entry ([.ref o, .int p0, .int p1]) (n := 4) (Nat.le_of_ble_eq_true rfl)
  rw [lg_entry_eq]
  generalize (lg_sl ([.ref o, .int p0, .int p1]) ++ List.replicate (4 - (lg_sl ([.ref o, .int p0, .int p1])).length) Slot.unset).toArray = ls at hl ⊢
  have hl : lv_has ls 4 [(0, .ref o), (1, .int p0), (2, .int p1)] := hl
  refine lv_bipush (v := 48) hx hb dX12_isHolding_0 (by decide) ?_
  refine lv_iload_n hx hb dX12_isHolding_2 rfl (lv_at hl 1 rfl) ?_
  refine lv_imul hx hb dX12_isHolding_3 ?_
  refine lv_topi (fun z_1 ez_1 => ?_)
  try have iz_1 : z_1.toInt = (48 : Int) * p0.toInt := by rw [ez_1]; exact tl_mulN 48 p0 rfl rfl (by omega) (by omega)
  refine lv_iconst (v := 4) hx hb dX12_isHolding_4 (by decide) ?_
  refine lv_iload_n hx hb dX12_isHolding_5 rfl (lv_at hl 2 rfl) ?_
  refine lv_imul hx hb dX12_isHolding_6 ?_
  refine lv_topi (fun z_2 ez_2 => ?_)
  try have iz_2 : z_2.toInt = (4 : Int) * p1.toInt := by rw [ez_2]; exact tl_mulN 4 p1 rfl rfl (by omega) (by omega)
  refine lv_iadd hx hb dX12_isHolding_7 ?_
  refine lv_topi (fun z_3 ez_3 => ?_)
  try have iz_3 : z_3.toInt = z_1.toInt + z_2.toInt := by rw [ez_3]; exact tl_addN z_1 z_2 rfl rfl (by omega) (by omega)
  refine lv_istore_n (lv' := [(3, .int z_3), (0, .ref o), (1, .int p0), (2, .int p1)]) hx hb dX12_isHolding_8 rfl hl (by decide) rfl (fun ls hl => ?_)
  refine lv_aload_n hx hb dX12_isHolding_9 rfl (lv_at hl 1 rfl) ?_
  obtain ⟨r_5, v_6, q_7, hf_4, hr_8, hv_9⟩ := (show tp_o_M L K 0 0 (Γ (39, 0, 0)) (f o) from hI.at ho)
  refine tp_get (cy := cy) (ci := 12) (v := .ref (r_5 5)) (C := RX12) (T := TX12) (N := 49) hx hb hta inlX12 hown hK hP ho.1 hf_4 rfl 6 (by decide) (hta _ wk_155) (fun _ h9 => h9) rfl dX12_isHolding_10 ?_
  refine lv_iload_n hx hb dX12_isHolding_13 rfl (lv_at hl 0 rfl) ?_
  refine lv_iconst (v := 2) hx hb dX12_isHolding_14 (by decide) ?_
  refine lv_iadd hx hb dX12_isHolding_15 ?_
  refine lv_topi (fun z_18 ez_18 => ?_)
  try have iz_18 : z_18.toInt = z_3.toInt + (2 : Int) := by rw [ez_18]; exact tl_addN z_3 2 rfl rfl (by omega) (by omega)
  obtain ⟨g_20, hf_19, hg_21⟩ := (show tp_gi cy (1056) (Γ (45, 1056, 0)) (f (r_5 5)) from hI0.at (show tp_r L K 45 1056 0 (r_5 5) from hr_8 5 (by decide)))
  have hn_22 : vp_in z_18 (1056) := tl_in (by omega) (by omega)
  refine tp_iald (cy := cy) hx hb hK hP (show tp_r L K 45 1056 0 (r_5 5) from hr_8 5 (by decide)).1 hf_19 hn_22 dX12_isHolding_16 ?_
  refine lv_topi (fun z_23 ez_23 => ?_)
  have iz_23 : z_23.toInt = Γ (45, 1056, 0) z_18.toInt.toNat := by rw [ez_23]; exact hg_21 _ (tp_pin hn_22)
  have hq0 : z_23.toInt = Γ (45, 1056, 0) (48 * p0.toInt + 4 * p1.toInt + 2).toNat := iz_23.trans (congrArg _ (by omega))
  refine lv_if_lt (tgt := 46) hx hb dX12_isHolding_17 (by decide) (fun c_24 => ?_) (fun c_24 => ?_)
  · have c_24 : z_23.toInt < (0 : Int) := tl_lt c_24
    refine lv_iconst (v := 1) hx hb dX12_isHolding_46 (by decide) ?_
    refine lv_goto (tgt := 51) hx hb dX12_isHolding_47 (by decide) ?_
    have hpo9 : tl_J (1 : Int32) (True) ∧ Γ (39, 0, 0) 0 = Γ (39, 0, 0) 0 ∧ Γ (39, 0, 0) 10 = Γ (39, 0, 0) 10 ∧ Γ (39, 0, 0) 11 = Γ (39, 0, 0) 11 ∧ Γ (39, 0, 0) 12 = Γ (39, 0, 0) 12 ∧ Γ (39, 0, 0) 13 = Γ (39, 0, 0) 13 ∧ Γ (39, 0, 0) 14 = Γ (39, 0, 0) 14 ∧ Γ (39, 0, 0) 15 = Γ (39, 0, 0) 15 := ⟨(Or.inl ⟨rfl, trivial⟩), ⟨(by omega), (by omega), (by omega), (by omega), (by omega), (by omega), (by omega)⟩⟩
    exact W.zret (ty := .boolean) (v := 1) hx hb hr rfl (fun t ht hW => ⟨⟨_, (f, Γ), rfl, hpo9, by rw [ht]; exact hP, hI, hfr, hgr⟩, hS.F ht⟩) hS.2.2 dX12_isHolding_51
  · have c_24 : (0 : Int) ≤ z_23.toInt := tl_nlt c_24
    refine lv_aload_n hx hb dX12_isHolding_20 rfl (lv_at hl 1 rfl) ?_
    refine lv_iload_n hx hb dX12_isHolding_21 rfl (lv_at hl 2 rfl) ?_
    refine lv_aload_n hx hb dX12_isHolding_22 rfl (lv_at hl 1 rfl) ?_
    refine tp_get (cy := cy) (ci := 12) (v := .ref (r_5 5)) (C := RX12) (T := TX12) (N := 49) hx hb hta inlX12 hown hK hP ho.1 hf_4 rfl 6 (by decide) (hta _ wk_155) (fun _ h9 => h9) rfl dX12_isHolding_23 ?_
    refine lv_iload_n hx hb dX12_isHolding_26 rfl (lv_at hl 0 rfl) ?_
    refine lv_iconst (v := 2) hx hb dX12_isHolding_27 (by decide) ?_
    refine lv_iadd hx hb dX12_isHolding_28 ?_
    refine lv_topi (fun z_25 ez_25 => ?_)
    try have iz_25 : z_25.toInt = z_3.toInt + (2 : Int) := by rw [ez_25]; exact tl_addN z_3 2 rfl rfl (by omega) (by omega)
    have hn_26 : vp_in z_25 (1056) := tl_in (by omega) (by omega)
    refine tp_iald (cy := cy) hx hb hK hP (show tp_r L K 45 1056 0 (r_5 5) from hr_8 5 (by decide)).1 hf_19 hn_26 dX12_isHolding_29 ?_
    refine lv_topi (fun z_27 ez_27 => ?_)
    have iz_27 : z_27.toInt = Γ (45, 1056, 0) z_25.toInt.toNat := by rw [ez_27]; exact hg_21 _ (tp_pin hn_26)
    refine lv_aload_n hx hb dX12_isHolding_30 rfl (lv_at hl 1 rfl) ?_
    refine tp_get (cy := cy) (ci := 12) (v := .ref (r_5 5)) (C := RX12) (T := TX12) (N := 49) hx hb hta inlX12 hown hK hP ho.1 hf_4 rfl 6 (by decide) (hta _ wk_155) (fun _ h9 => h9) rfl dX12_isHolding_31 ?_
    refine lv_iload_n hx hb dX12_isHolding_34 rfl (lv_at hl 0 rfl) ?_
    refine lv_iconst (v := 3) hx hb dX12_isHolding_35 (by decide) ?_
    refine lv_iadd hx hb dX12_isHolding_36 ?_
    refine lv_topi (fun z_28 ez_28 => ?_)
    try have iz_28 : z_28.toInt = z_3.toInt + (3 : Int) := by rw [ez_28]; exact tl_addN z_3 3 rfl rfl (by omega) (by omega)
    have hn_29 : vp_in z_28 (1056) := tl_in (by omega) (by omega)
    refine tp_iald (cy := cy) hx hb hK hP (show tp_r L K 45 1056 0 (r_5 5) from hr_8 5 (by decide)).1 hf_19 hn_29 dX12_isHolding_37 ?_
    refine lv_topi (fun z_30 ez_30 => ?_)
    have iz_30 : z_30.toInt = Γ (45, 1056, 0) z_28.toInt.toNat := by rw [ez_30]; exact hg_21 _ (tp_pin hn_29)
    have hqa : z_27.toInt = Γ (45, 1056, 0) (48 * p0.toInt + 4 * p1.toInt + 2).toNat := iz_27.trans (congrArg _ (by omega))
    have hqb : z_30.toInt = Γ (45, 1056, 0) (48 * p0.toInt + 4 * p1.toInt + 3).toNat := iz_30.trans (congrArg _ (by omega))
    have hsg := hte.resolve_left (by omega)
    have hrp9 : rp (Γ (43, 8800, 0)) (400 * p0.toInt + z_27.toInt).toNat (z_30.toInt - z_27.toInt).toNat 1 := by rw [hqa, hqb]; exact hsg.2.2.2
    obtain ⟨hsg1, hsg2, hsg3, _⟩ := hsg
    refine tq_clR hS (hAf _ hS.1) (tq_rV (As := [.int p0, .int z_27, .int z_30]) (rest := []) ⟨hx, hb, hml, hown, hta⟩ (tp_P.pre hK hN hL hU hI hP) (tp_recv hK hP ho.1 hf_4 rfl) lk_X12_348 (r_X12_reckons l D cy s.heap.size L K Γ f o p0 z_27 z_30 ho (by first | omega | (simp only [Int32.toInt_toInt64]; omega) | decide | assumption) (by first | omega | (simp only [Int32.toInt_toInt64]; omega) | decide | assumption) hrp9) rfl rfl ⟨Nat.le_of_ble_eq_true rfl, Nat.le_of_ble_eq_true rfl⟩ rfl hl.1 rfl (Nat.le_of_ble_eq_true rfl) dX12_isHolding_38 ⟨Nat.le_of_ble_eq_true rfl, Nat.le_of_ble_eq_true rfl⟩) (fun r_32 f_33 Γ_35 H locs hw_31 hP hI hc_34 hcg_36 hS => ?_)
    have hD : va_D A (va_pl L f_33) := tp_D hL hAL
    have hfr := tp_fr2 hfr hc_34 (by decide)
    have hgr : ∀ κ : tk_K, κ.1 ∉ ([39, 57] : List Nat) → Γ_35 κ = Γ κ := tg_fr2 hgr hcg_36 (by decide)
    have hw_31 : Γ_35 (39, 0, 0) 0 = Γ (39, 0, 0) 0 ∧ Γ_35 (39, 0, 0) 10 = Γ (39, 0, 0) 10 ∧ Γ_35 (39, 0, 0) 11 = Γ (39, 0, 0) 11 ∧ Γ_35 (39, 0, 0) 12 = Γ (39, 0, 0) 12 ∧ Γ_35 (39, 0, 0) 13 = Γ (39, 0, 0) 13 ∧ Γ_35 (39, 0, 0) 14 = Γ (39, 0, 0) 14 ∧ Γ_35 (39, 0, 0) 15 = Γ (39, 0, 0) 15 := hw_31
    refine lv_lconst (v := 1) hx hb dX12_isHolding_41 (by decide) ?_
    refine W.lcmp hx hb dX12_isHolding_42 ?_
    refine lv_if_ne (tgt := 50) hx hb dX12_isHolding_43 (by decide) (fun c_37 => ?_) (fun c_37 => ?_)
    · have c_37 : ¬ r_32.toInt = (1 : Int) := tl_cmp_ne c_37
      refine lv_iconst (v := 0) hx hb dX12_isHolding_50 (by decide) ?_
      have hpo9 : tl_J (0 : Int32) (True) ∧ Γ_35 (39, 0, 0) 0 = Γ (39, 0, 0) 0 ∧ Γ_35 (39, 0, 0) 10 = Γ (39, 0, 0) 10 ∧ Γ_35 (39, 0, 0) 11 = Γ (39, 0, 0) 11 ∧ Γ_35 (39, 0, 0) 12 = Γ (39, 0, 0) 12 ∧ Γ_35 (39, 0, 0) 13 = Γ (39, 0, 0) 13 ∧ Γ_35 (39, 0, 0) 14 = Γ (39, 0, 0) 14 ∧ Γ_35 (39, 0, 0) 15 = Γ (39, 0, 0) 15 := ⟨(Or.inr rfl), ⟨(by omega), (by omega), (by omega), (by omega), (by omega), (by omega), (by omega)⟩⟩
      exact W.zret (ty := .boolean) (v := 0) hx hb hr rfl (fun t ht hW => ⟨⟨_, (f_33, Γ_35), rfl, hpo9, by rw [ht]; exact hP, hI, hfr, hgr⟩, hS.F ht⟩) hS.2.2 dX12_isHolding_51
    · have c_37 : r_32.toInt = (1 : Int) := tl_cmp_nne c_37
      refine lv_iconst (v := 1) hx hb dX12_isHolding_46 (by decide) ?_
      refine lv_goto (tgt := 51) hx hb dX12_isHolding_47 (by decide) ?_
      have hpo9 : tl_J (1 : Int32) (True) ∧ Γ_35 (39, 0, 0) 0 = Γ (39, 0, 0) 0 ∧ Γ_35 (39, 0, 0) 10 = Γ (39, 0, 0) 10 ∧ Γ_35 (39, 0, 0) 11 = Γ (39, 0, 0) 11 ∧ Γ_35 (39, 0, 0) 12 = Γ (39, 0, 0) 12 ∧ Γ_35 (39, 0, 0) 13 = Γ (39, 0, 0) 13 ∧ Γ_35 (39, 0, 0) 14 = Γ (39, 0, 0) 14 ∧ Γ_35 (39, 0, 0) 15 = Γ (39, 0, 0) 15 := ⟨(Or.inl ⟨rfl, trivial⟩), ⟨(by omega), (by omega), (by omega), (by omega), (by omega), (by omega), (by omega)⟩⟩
      exact W.zret (ty := .boolean) (v := 1) hx hb hr rfl (fun t ht hW => ⟨⟨_, (f_33, Γ_35), rfl, hpo9, by rw [ht]; exact hP, hI, hfr, hgr⟩, hS.F ht⟩) hS.2.2 dX12_isHolding_51
set_option maxHeartbeats 4000000 in
set_option maxRecDepth 100000 in
theorem r_X12_summed (l : Launch) (D : va_G) (cy : Nat → ClassId) (sz : Nat) (L : List Nat) (K : Nat → tk_K) (Γ : tk_G) (f : Nat → va_E) (o : Nat) (p0 : Int32) (p1 : Int32) (ho : tp_r L K 39 (0) 0 o) (ht0 : 0 ≤ p0.toInt ∧ p0.toInt ≤ 21) (hc0 : 0 ≤ p1.toInt ∧ p1.toInt ≤ 11) (hsu : 0 ≤ Γ (45, 1056, 0) (48 * p0.toInt + 4 * p1.toInt + 0).toNat ∧ Γ (45, 1056, 0) (48 * p0.toInt + 4 * p1.toInt + 0).toNat ≤ Γ (45, 1056, 0) (48 * p0.toInt + 4 * p1.toInt + 1).toNat ∧ Γ (45, 1056, 0) (48 * p0.toInt + 4 * p1.toInt + 1).toNat ≤ 400 ∧ rp (Γ (43, 8800, 0)) (400 * p0.toInt + Γ (45, 1056, 0) (48 * p0.toInt + 4 * p1.toInt + 0).toNat).toNat (Γ (45, 1056, 0) (48 * p0.toInt + 4 * p1.toInt + 1).toNat - Γ (45, 1056, 0) (48 * p0.toInt + 4 * p1.toInt + 0).toNat).toNat 1) : Met l yX12_summed (tl_w yX12_summed cX12_summed 3 (some .long)) ({ frames := 2, cells := 0, slots := 0, locals := 54 }) (va_Pc [.ref o, .int p0, .int p1] (tp_P D cy L K Γ f sz)) (va_Ql (fun (r : Int64) (u : (Nat → va_E) × tk_G) => u.2 (39, 0, 0) 0 = Γ (39, 0, 0) 0 ∧ u.2 (39, 0, 0) 10 = Γ (39, 0, 0) 10 ∧ u.2 (39, 0, 0) 11 = Γ (39, 0, 0) 11 ∧ u.2 (39, 0, 0) 12 = Γ (39, 0, 0) 12 ∧ u.2 (39, 0, 0) 13 = Γ (39, 0, 0) 13 ∧ u.2 (39, 0, 0) 14 = Γ (39, 0, 0) 14 ∧ u.2 (39, 0, 0) 15 = Γ (39, 0, 0) 15) (tp_BG D cy L K Γ f [39, 57]) (tp_A L sz)) 0 0 (tp_A L sz) := by
  refine Met.ofW (cc := cX12_summed) (maxL := 3) (ret := (some .long)) (by decide) rfl ?_
  intro p e s m args below meth c s₁ B hml hv
  obtain ⟨rfl, hsz, hP, hK, hL, hI, hN, hU⟩ := hv
  have hx := B.exec
  have hb := B.bytes
  have hr := B.returns
  have hta := tl_hta (atoms_spec (ws := tl_w yX12_summed cX12_summed 3 (some .long)) B.pre)
  have hown : s.vm.findClass RX12 = some m.cls := findClass_of_methodNamed B.named
  have hlocks := B.notSynchronized
  subst hsz
  have hI0 := hI
  generalize hAe : tp_A L s.heap.size = A
  have hA : ∀ q : Nat, s.heap.size ≤ q → A q := fun q h => by rw [← hAe]; exact Or.inr h
  have hAL : ∀ q ∈ L, A q := fun q h => by rw [← hAe]; exact Or.inl h
  have hAf : ∀ (H : Heap), s.heap.size ≤ H.size → ∀ q, tp_A L H.size q → A q := fun H h q hq => hq.elim (hAL q) (fun h2 => hA q (Nat.le_trans h h2))
  have hS : va_S A s.heap s.heap [] := va_S.rf
  have hD : va_D A (va_pl L f) := tp_D hL hAL
  have hfr : ∀ b, (K b).1 ∉ ([39, 57] : List Nat) → f b = f b := fun _ _ => rfl
  have hgr : ∀ κ : tk_K, κ.1 ∉ ([39, 57] : List Nat) → Γ κ = Γ κ := fun _ _ => rfl
  have hl := lv_entry ([.ref o, .int p0, .int p1]) (n := 3) (Nat.le_of_ble_eq_true rfl)
  rw [lg_entry_eq]
  generalize (lg_sl ([.ref o, .int p0, .int p1]) ++ List.replicate (3 - (lg_sl ([.ref o, .int p0, .int p1])).length) Slot.unset).toArray = ls at hl ⊢
  have hl : lv_has ls 3 [(0, .ref o), (1, .int p0), (2, .int p1)] := hl
  refine lv_aload_n hx hb dX12_summed_0 rfl (lv_at hl 0 rfl) ?_
  refine lv_iload_n hx hb dX12_summed_1 rfl (lv_at hl 1 rfl) ?_
  refine lv_aload_n hx hb dX12_summed_2 rfl (lv_at hl 0 rfl) ?_
  obtain ⟨r_2, v_3, q_4, hf_1, hr_5, hv_6⟩ := (show tp_o_M L K 0 0 (Γ (39, 0, 0)) (f o) from hI.at ho)
  refine tp_get (cy := cy) (ci := 12) (v := .ref (r_2 5)) (C := RX12) (T := TX12) (N := 49) hx hb hta inlX12 hown hK hP ho.1 hf_1 rfl 6 (by decide) (hta _ wk_155) (fun _ h9 => h9) rfl dX12_summed_3 ?_
  refine lv_bipush (v := 48) hx hb dX12_summed_6 (by decide) ?_
  refine lv_iload_n hx hb dX12_summed_8 rfl (lv_at hl 1 rfl) ?_
  refine lv_imul hx hb dX12_summed_9 ?_
  refine lv_topi (fun z_15 ez_15 => ?_)
  try have iz_15 : z_15.toInt = (48 : Int) * p0.toInt := by rw [ez_15]; exact tl_mulN 48 p0 rfl rfl (by omega) (by omega)
  refine lv_iconst (v := 4) hx hb dX12_summed_10 (by decide) ?_
  refine lv_iload_n hx hb dX12_summed_11 rfl (lv_at hl 2 rfl) ?_
  refine lv_imul hx hb dX12_summed_12 ?_
  refine lv_topi (fun z_16 ez_16 => ?_)
  try have iz_16 : z_16.toInt = (4 : Int) * p1.toInt := by rw [ez_16]; exact tl_mulN 4 p1 rfl rfl (by omega) (by omega)
  refine lv_iadd hx hb dX12_summed_13 ?_
  refine lv_topi (fun z_17 ez_17 => ?_)
  try have iz_17 : z_17.toInt = z_15.toInt + z_16.toInt := by rw [ez_17]; exact tl_addN z_15 z_16 rfl rfl (by omega) (by omega)
  obtain ⟨g_19, hf_18, hg_20⟩ := (show tp_gi cy (1056) (Γ (45, 1056, 0)) (f (r_2 5)) from hI0.at (show tp_r L K 45 1056 0 (r_2 5) from hr_5 5 (by decide)))
  have hn_21 : vp_in z_17 (1056) := tl_in (by omega) (by omega)
  refine tp_iald (cy := cy) hx hb hK hP (show tp_r L K 45 1056 0 (r_2 5) from hr_5 5 (by decide)).1 hf_18 hn_21 dX12_summed_14 ?_
  refine lv_topi (fun z_22 ez_22 => ?_)
  have iz_22 : z_22.toInt = Γ (45, 1056, 0) z_17.toInt.toNat := by rw [ez_22]; exact hg_20 _ (tp_pin hn_21)
  refine lv_aload_n hx hb dX12_summed_15 rfl (lv_at hl 0 rfl) ?_
  refine tp_get (cy := cy) (ci := 12) (v := .ref (r_2 5)) (C := RX12) (T := TX12) (N := 49) hx hb hta inlX12 hown hK hP ho.1 hf_1 rfl 6 (by decide) (hta _ wk_155) (fun _ h9 => h9) rfl dX12_summed_16 ?_
  refine lv_bipush (v := 48) hx hb dX12_summed_19 (by decide) ?_
  refine lv_iload_n hx hb dX12_summed_21 rfl (lv_at hl 1 rfl) ?_
  refine lv_imul hx hb dX12_summed_22 ?_
  refine lv_topi (fun z_23 ez_23 => ?_)
  try have iz_23 : z_23.toInt = (48 : Int) * p0.toInt := by rw [ez_23]; exact tl_mulN 48 p0 rfl rfl (by omega) (by omega)
  refine lv_iconst (v := 4) hx hb dX12_summed_23 (by decide) ?_
  refine lv_iload_n hx hb dX12_summed_24 rfl (lv_at hl 2 rfl) ?_
  refine lv_imul hx hb dX12_summed_25 ?_
  refine lv_topi (fun z_24 ez_24 => ?_)
  try have iz_24 : z_24.toInt = (4 : Int) * p1.toInt := by rw [ez_24]; exact tl_mulN 4 p1 rfl rfl (by omega) (by omega)
  refine lv_iadd hx hb dX12_summed_26 ?_
  refine lv_topi (fun z_25 ez_25 => ?_)
  try have iz_25 : z_25.toInt = z_23.toInt + z_24.toInt := by rw [ez_25]; exact tl_addN z_23 z_24 rfl rfl (by omega) (by omega)
  refine lv_iconst (v := 1) hx hb dX12_summed_27 (by decide) ?_
  refine lv_iadd hx hb dX12_summed_28 ?_
  refine lv_topi (fun z_26 ez_26 => ?_)
  try have iz_26 : z_26.toInt = z_25.toInt + (1 : Int) := by rw [ez_26]; exact tl_addN z_25 1 rfl rfl (by omega) (by omega)
  have hn_27 : vp_in z_26 (1056) := tl_in (by omega) (by omega)
  refine tp_iald (cy := cy) hx hb hK hP (show tp_r L K 45 1056 0 (r_2 5) from hr_5 5 (by decide)).1 hf_18 hn_27 dX12_summed_29 ?_
  refine lv_topi (fun z_28 ez_28 => ?_)
  have iz_28 : z_28.toInt = Γ (45, 1056, 0) z_26.toInt.toNat := by rw [ez_28]; exact hg_20 _ (tp_pin hn_27)
  have hqa : z_22.toInt = Γ (45, 1056, 0) (48 * p0.toInt + 4 * p1.toInt + 0).toNat := iz_22.trans (congrArg _ (by omega))
  have hqb : z_28.toInt = Γ (45, 1056, 0) (48 * p0.toInt + 4 * p1.toInt + 1).toNat := iz_28.trans (congrArg _ (by omega))
  have hsg := hsu
  have hrp9 : rp (Γ (43, 8800, 0)) (400 * p0.toInt + z_22.toInt).toNat (z_28.toInt - z_22.toInt).toNat 1 := by rw [hqa, hqb]; exact hsg.2.2.2
  obtain ⟨hsg1, hsg2, hsg3, _⟩ := hsg
  refine tq_clR hS (hAf _ hS.1) (tq_rV (As := [.int p0, .int z_22, .int z_28]) (rest := []) ⟨hx, hb, hml, hown, hta⟩ (tp_P.pre hK hN hL hU hI hP) (tp_recv hK hP ho.1 hf_1 rfl) lk_X12_348 (r_X12_reckons l D cy s.heap.size L K Γ f o p0 z_22 z_28 ho (by first | omega | (simp only [Int32.toInt_toInt64]; omega) | decide | assumption) (by first | omega | (simp only [Int32.toInt_toInt64]; omega) | decide | assumption) hrp9) rfl rfl ⟨Nat.le_of_ble_eq_true rfl, Nat.le_of_ble_eq_true rfl⟩ rfl hl.1 rfl (Nat.le_of_ble_eq_true rfl) dX12_summed_30 ⟨Nat.le_of_ble_eq_true rfl, Nat.le_of_ble_eq_true rfl⟩) (fun r_30 f_31 Γ_33 H locs hw_29 hP hI hc_32 hcg_34 hS => ?_)
  have hD : va_D A (va_pl L f_31) := tp_D hL hAL
  have hfr := tp_fr2 hfr hc_32 (by decide)
  have hgr : ∀ κ : tk_K, κ.1 ∉ ([39, 57] : List Nat) → Γ_33 κ = Γ κ := tg_fr2 hgr hcg_34 (by decide)
  have hw_29 : Γ_33 (39, 0, 0) 0 = Γ (39, 0, 0) 0 ∧ Γ_33 (39, 0, 0) 10 = Γ (39, 0, 0) 10 ∧ Γ_33 (39, 0, 0) 11 = Γ (39, 0, 0) 11 ∧ Γ_33 (39, 0, 0) 12 = Γ (39, 0, 0) 12 ∧ Γ_33 (39, 0, 0) 13 = Γ (39, 0, 0) 13 ∧ Γ_33 (39, 0, 0) 14 = Γ (39, 0, 0) 14 ∧ Γ_33 (39, 0, 0) 15 = Γ (39, 0, 0) 15 := hw_29
  have hpo9 : Γ_33 (39, 0, 0) 0 = Γ (39, 0, 0) 0 ∧ Γ_33 (39, 0, 0) 10 = Γ (39, 0, 0) 10 ∧ Γ_33 (39, 0, 0) 11 = Γ (39, 0, 0) 11 ∧ Γ_33 (39, 0, 0) 12 = Γ (39, 0, 0) 12 ∧ Γ_33 (39, 0, 0) 13 = Γ (39, 0, 0) 13 ∧ Γ_33 (39, 0, 0) 14 = Γ (39, 0, 0) 14 ∧ Γ_33 (39, 0, 0) 15 = Γ (39, 0, 0) 15 := ⟨(by omega), (by omega), (by omega), (by omega), (by omega), (by omega), (by omega)⟩
  exact W.lret (v := r_30) hx hb hr (fun t ht hW => ⟨⟨_, (f_31, Γ_33), rfl, hpo9, by rw [ht]; exact hP, hI, hfr, hgr⟩, hS.F ht⟩) hS.2.2 dX12_summed_33
