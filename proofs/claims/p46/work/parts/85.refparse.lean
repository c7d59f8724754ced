theorem dX12_value_0 : decode cX12_value 0 = .ok (.aload_n 0, 1) := by decide +kernel
theorem dX12_value_1 : decode cX12_value 1 = .ok (.invokevirtual 167, 3) := by decide +kernel
theorem dX12_value_4 : decode cX12_value 4 = .ok (.pop, 1) := by decide +kernel
theorem dX12_value_5 : decode cX12_value 5 = .ok (.aload_n 0, 1) := by decide +kernel
theorem dX12_value_6 : decode cX12_value 6 = .ok (.getfield 164, 3) := by decide +kernel
theorem dX12_value_9 : decode cX12_value 9 = .ok (.istore_n 1, 1) := by decide +kernel
theorem dX12_value_10 : decode cX12_value 10 = .ok (.aload_n 0, 1) := by decide +kernel
theorem dX12_value_11 : decode cX12_value 11 = .ok (.aload_n 0, 1) := by decide +kernel
theorem dX12_value_12 : decode cX12_value 12 = .ok (.getfield 164, 3) := by decide +kernel
theorem dX12_value_15 : decode cX12_value 15 = .ok (.invokevirtual 181, 3) := by decide +kernel
theorem dX12_value_18 : decode cX12_value 18 = .ok (.ifCond .eq 34, 3) := by decide +kernel
theorem dX12_value_21 : decode cX12_value 21 = .ok (.aload_n 0, 1) := by decide +kernel
theorem dX12_value_22 : decode cX12_value 22 = .ok (.iconst 0, 1) := by decide +kernel
theorem dX12_value_23 : decode cX12_value 23 = .ok (.ldc 232, 2) := by decide +kernel
theorem dX12_value_25 : decode cX12_value 25 = .ok (.invokevirtual 233, 3) := by decide +kernel
theorem dX12_value_28 : decode cX12_value 28 = .ok (.ifCond .eq 11, 3) := by decide +kernel
theorem dX12_value_31 : decode cX12_value 31 = .ok (.aload_n 0, 1) := by decide +kernel
theorem dX12_value_32 : decode cX12_value 32 = .ok (.iload_n 1, 1) := by decide +kernel
theorem dX12_value_33 : decode cX12_value 33 = .ok (.invokevirtual 236, 3) := by decide +kernel
theorem dX12_value_36 : decode cX12_value 36 = .ok (.ifCond .ne 5, 3) := by decide +kernel
theorem dX12_value_39 : decode cX12_value 39 = .ok (.iconst 0, 1) := by decide +kernel
theorem dX12_value_40 : decode cX12_value 40 = .ok (.ireturn, 1) := by decide +kernel
theorem dX12_value_41 : decode cX12_value 41 = .ok (.aload_n 0, 1) := by decide +kernel
theorem dX12_value_42 : decode cX12_value 42 = .ok (.iconst 0, 1) := by decide +kernel
theorem dX12_value_43 : decode cX12_value 43 = .ok (.aload_n 0, 1) := by decide +kernel
theorem dX12_value_44 : decode cX12_value 44 = .ok (.getfield 188, 3) := by decide +kernel
theorem dX12_value_47 : decode cX12_value 47 = .ok (.invokevirtual 228, 3) := by decide +kernel
theorem dX12_value_50 : decode cX12_value 50 = .ok (.iconst 1, 1) := by decide +kernel
theorem dX12_value_51 : decode cX12_value 51 = .ok (.ireturn, 1) := by decide +kernel
theorem dX12_value_52 : decode cX12_value 52 = .ok (.aload_n 0, 1) := by decide +kernel
theorem dX12_value_53 : decode cX12_value 53 = .ok (.invokevirtual 239, 3) := by decide +kernel
theorem dX12_value_56 : decode cX12_value 56 = .ok (.istore_n 2, 1) := by decide +kernel
theorem dX12_value_57 : decode cX12_value 57 = .ok (.iload_n 2, 1) := by decide +kernel
theorem dX12_value_58 : decode cX12_value 58 = .ok (.ifCond .ge 10, 3) := by decide +kernel
theorem dX12_value_61 : decode cX12_value 61 = .ok (.aload_n 0, 1) := by decide +kernel
theorem dX12_value_62 : decode cX12_value 62 = .ok (.iconst 0, 1) := by decide +kernel
theorem dX12_value_63 : decode cX12_value 63 = .ok (.iload_n 1, 1) := by decide +kernel
theorem dX12_value_64 : decode cX12_value 64 = .ok (.invokevirtual 184, 3) := by decide +kernel
theorem dX12_value_67 : decode cX12_value 67 = .ok (.ireturn, 1) := by decide +kernel
theorem dX12_value_68 : decode cX12_value 68 = .ok (.aload_n 0, 1) := by decide +kernel
theorem dX12_value_69 : decode cX12_value 69 = .ok (.iload_n 1, 1) := by decide +kernel
theorem dX12_value_70 : decode cX12_value 70 = .ok (.invokevirtual 236, 3) := by decide +kernel
theorem dX12_value_73 : decode cX12_value 73 = .ok (.ifCond .ne 5, 3) := by decide +kernel
theorem dX12_value_76 : decode cX12_value 76 = .ok (.iconst 0, 1) := by decide +kernel
theorem dX12_value_77 : decode cX12_value 77 = .ok (.ireturn, 1) := by decide +kernel
theorem dX12_value_78 : decode cX12_value 78 = .ok (.aload_n 0, 1) := by decide +kernel
theorem dX12_value_79 : decode cX12_value 79 = .ok (.invokevirtual 178, 3) := by decide +kernel
theorem dX12_value_82 : decode cX12_value 82 = .ok (.aload_n 0, 1) := by decide +kernel
theorem dX12_value_83 : decode cX12_value 83 = .ok (.iconst 1, 1) := by decide +kernel
theorem dX12_value_84 : decode cX12_value 84 = .ok (.iload_n 2, 1) := by decide +kernel
theorem dX12_value_85 : decode cX12_value 85 = .ok (.invokevirtual 228, 3) := by decide +kernel
theorem dX12_value_88 : decode cX12_value 88 = .ok (.iconst 1, 1) := by decide +kernel
theorem dX12_value_89 : decode cX12_value 89 = .ok (.ireturn, 1) := by decide +kernel
theorem wk_594 : Cond.methodLink RX12 233 yX12_numberHere ∈ tl_L := List.mem_filter.mpr ⟨lw_m7 (i := 105) rfl, rfl⟩
theorem wk_595 : Cond.instanceMethod yX12_numberHere ∈ tl_L := List.mem_filter.mpr ⟨lw_m7 (i := 107) rfl, rfl⟩
theorem wk_596 : Cond.selects RX12 yX12_numberHere yX12_numberHere ∈ tl_L := List.mem_filter.mpr ⟨lw_s8 (i := 7) (q := (yX12_numberHere, 49)) rfl, rfl⟩
theorem wk_597 : Cond.code yX12_numberHere cX12_numberHere 5 (some .boolean) ∈ tl_L := List.mem_filter.mpr ⟨lw_m7 (i := 108) rfl, rfl⟩
theorem wk_627 : Cond.constant RX12 232 (99999) ∈ tl_L := List.mem_filter.mpr ⟨lw_m7 (i := 137) rfl, rfl⟩
theorem wk_628 : Cond.methodLink RX12 236 yX12_makes ∈ tl_L := List.mem_filter.mpr ⟨lw_m7 (i := 138) rfl, rfl⟩
theorem wk_629 : Cond.instanceMethod yX12_makes ∈ tl_L := List.mem_filter.mpr ⟨lw_m7 (i := 140) rfl, rfl⟩
theorem wk_630 : Cond.selects RX12 yX12_makes yX12_makes ∈ tl_L := List.mem_filter.mpr ⟨lw_s8 (i := 15) (q := (yX12_makes, 49)) rfl, rfl⟩
theorem wk_631 : Cond.code yX12_makes cX12_makes 2 (some .boolean) ∈ tl_L := List.mem_filter.mpr ⟨lw_m7 (i := 141) rfl, rfl⟩
theorem wk_632 : Cond.methodLink RX12 228 yX12_puts ∈ tl_L := List.mem_filter.mpr ⟨lw_m7 (i := 142) rfl, rfl⟩
theorem wk_633 : Cond.instanceMethod yX12_puts ∈ tl_L := List.mem_filter.mpr ⟨lw_m7 (i := 144) rfl, rfl⟩
theorem wk_634 : Cond.selects RX12 yX12_puts yX12_puts ∈ tl_L := List.mem_filter.mpr ⟨lw_s9 (i := 0) (q := (yX12_puts, 49)) rfl, rfl⟩
theorem wk_635 : Cond.code yX12_puts cX12_puts 3 none ∈ tl_L := List.mem_filter.mpr ⟨lw_m7 (i := 145) rfl, rfl⟩
theorem wk_636 : Cond.methodLink RX12 239 yX12_wordHere ∈ tl_L := List.mem_filter.mpr ⟨lw_m7 (i := 146) rfl, rfl⟩
theorem wk_637 : Cond.instanceMethod yX12_wordHere ∈ tl_L := List.mem_filter.mpr ⟨lw_m7 (i := 148) rfl, rfl⟩
theorem wk_638 : Cond.selects RX12 yX12_wordHere yX12_wordHere ∈ tl_L := List.mem_filter.mpr ⟨lw_s9 (i := 1) (q := (yX12_wordHere, 49)) rfl, rfl⟩
theorem wk_639 : Cond.code yX12_wordHere cX12_wordHere 1 (some .int) ∈ tl_L := List.mem_filter.mpr ⟨lw_m7 (i := 149) rfl, rfl⟩
theorem lk_X12_228 : tl_kV RX12 228 RX12 yX12_puts cX12_puts 3 none 2 := ⟨wk_635, wk_632, wk_633, wk_634, wk_5, ⟨by decide +kernel, by decide +kernel, by decide +kernel⟩⟩
theorem lk_X12_233 : tl_kV RX12 233 RX12 yX12_numberHere cX12_numberHere 5 (some .boolean) 2 := ⟨wk_597, wk_594, wk_595, wk_596, wk_5, ⟨by decide +kernel, by decide +kernel, by decide +kernel⟩⟩
theorem lk_X12_236 : tl_kV RX12 236 RX12 yX12_makes cX12_makes 2 (some .boolean) 1 := ⟨wk_631, wk_628, wk_629, wk_630, wk_5, ⟨by decide +kernel, by decide +kernel, by decide +kernel⟩⟩
theorem lk_X12_239 : tl_kV RX12 239 RX12 yX12_wordHere cX12_wordHere 1 (some .int) 0 := ⟨wk_639, wk_636, wk_637, wk_638, wk_5, ⟨by decide +kernel, by decide +kernel, by decide +kernel⟩⟩
theorem dX12_term_0 : decode cX12_term 0 = .ok (.aload_n 0, 1) := by decide +kernel
theorem dX12_term_1 : decode cX12_term 1 = .ok (.invokevirtual 242, 3) := by decide +kernel
theorem dX12_term_4 : decode cX12_term 4 = .ok (.ifCond .ne 5, 3) := by decide +kernel
theorem dX12_term_7 : decode cX12_term 7 = .ok (.iconst 0, 1) := by decide +kernel
theorem dX12_term_8 : decode cX12_term 8 = .ok (.ireturn, 1) := by decide +kernel
theorem dX12_term_9 : decode cX12_term 9 = .ok (.aload_n 0, 1) := by decide +kernel
theorem dX12_term_10 : decode cX12_term 10 = .ok (.invokevirtual 167, 3) := by decide +kernel
theorem dX12_term_13 : decode cX12_term 13 = .ok (.bipush 42, 2) := by decide +kernel
theorem dX12_term_15 : decode cX12_term 15 = .ok (.if_icmp .eq 12, 3) := by decide +kernel
theorem dX12_term_18 : decode cX12_term 18 = .ok (.aload_n 0, 1) := by decide +kernel
theorem dX12_term_19 : decode cX12_term 19 = .ok (.invokevirtual 167, 3) := by decide +kernel
theorem dX12_term_22 : decode cX12_term 22 = .ok (.bipush 47, 2) := by decide +kernel
theorem dX12_term_24 : decode cX12_term 24 = .ok (.if_icmp .ne 51, 3) := by decide +kernel
theorem dX12_term_27 : decode cX12_term 27 = .ok (.aload_n 0, 1) := by decide +kernel
theorem dX12_term_28 : decode cX12_term 28 = .ok (.getfield 13, 3) := by decide +kernel
theorem dX12_term_31 : decode cX12_term 31 = .ok (.aload_n 0, 1) := by decide +kernel
theorem dX12_term_32 : decode cX12_term 32 = .ok (.getfield 164, 3) := by decide +kernel
theorem dX12_term_35 : decode cX12_term 35 = .ok (.baload, 1) := by decide +kernel
theorem dX12_term_36 : decode cX12_term 36 = .ok (.bipush 42, 2) := by decide +kernel
theorem dX12_term_38 : decode cX12_term 38 = .ok (.if_icmp .ne 7, 3) := by decide +kernel
theorem dX12_term_41 : decode cX12_term 41 = .ok (.iconst 4, 1) := by decide +kernel
theorem dX12_term_42 : decode cX12_term 42 = .ok (.goto 4, 3) := by decide +kernel
theorem dX12_term_45 : decode cX12_term 45 = .ok (.iconst 5, 1) := by decide +kernel
theorem dX12_term_46 : decode cX12_term 46 = .ok (.istore_n 1, 1) := by decide +kernel
theorem dX12_term_47 : decode cX12_term 47 = .ok (.aload_n 0, 1) := by decide +kernel
theorem dX12_term_48 : decode cX12_term 48 = .ok (.dup, 1) := by decide +kernel
theorem dX12_term_49 : decode cX12_term 49 = .ok (.getfield 164, 3) := by decide +kernel
theorem dX12_term_52 : decode cX12_term 52 = .ok (.iconst 1, 1) := by decide +kernel
theorem dX12_term_53 : decode cX12_term 53 = .ok (.iadd, 1) := by decide +kernel
theorem dX12_term_54 : decode cX12_term 54 = .ok (.putfield 164, 3) := by decide +kernel
theorem dX12_term_57 : decode cX12_term 57 = .ok (.aload_n 0, 1) := by decide +kernel
theorem dX12_term_58 : decode cX12_term 58 = .ok (.invokevirtual 242, 3) := by decide +kernel
theorem dX12_term_61 : decode cX12_term 61 = .ok (.ifCond .ne 5, 3) := by decide +kernel
theorem dX12_term_64 : decode cX12_term 64 = .ok (.iconst 0, 1) := by decide +kernel
theorem dX12_term_65 : decode cX12_term 65 = .ok (.ireturn, 1) := by decide +kernel
theorem dX12_term_66 : decode cX12_term 66 = .ok (.aload_n 0, 1) := by decide +kernel
theorem dX12_term_67 : decode cX12_term 67 = .ok (.iload_n 1, 1) := by decide +kernel
theorem dX12_term_68 : decode cX12_term 68 = .ok (.iconst 0, 1) := by decide +kernel
theorem dX12_term_69 : decode cX12_term 69 = .ok (.invokevirtual 228, 3) := by decide +kernel
theorem dX12_term_72 : decode cX12_term 72 = .ok (.goto (-63), 3) := by decide +kernel
theorem dX12_term_75 : decode cX12_term 75 = .ok (.iconst 1, 1) := by decide +kernel
theorem dX12_term_76 : decode cX12_term 76 = .ok (.ireturn, 1) := by decide +kernel
theorem wk_623 : Cond.methodLink RX12 242 yX12_value ∈ tl_L := List.mem_filter.mpr ⟨lw_m7 (i := 133) rfl, rfl⟩
theorem wk_624 : Cond.instanceMethod yX12_value ∈ tl_L := List.mem_filter.mpr ⟨lw_m7 (i := 135) rfl, rfl⟩
theorem wk_625 : Cond.selects RX12 yX12_value yX12_value ∈ tl_L := List.mem_filter.mpr ⟨lw_s8 (i := 14) (q := (yX12_value, 49)) rfl, rfl⟩
theorem wk_626 : Cond.code yX12_value cX12_value 3 (some .boolean) ∈ tl_L := List.mem_filter.mpr ⟨lw_m7 (i := 136) rfl, rfl⟩
theorem lk_X12_242 : tl_kV RX12 242 RX12 yX12_value cX12_value 3 (some .boolean) 0 := ⟨wk_626, wk_623, wk_624, wk_625, wk_5, ⟨by decide +kernel, by decide +kernel, by decide +kernel⟩⟩
theorem dX12_sum_0 : decode cX12_sum 0 = .ok (.aload_n 0, 1) := by decide +kernel
theorem dX12_sum_1 : decode cX12_sum 1 = .ok (.invokevirtual 246, 3) := by decide +kernel
theorem dX12_sum_4 : decode cX12_sum 4 = .ok (.ifCond .ne 5, 3) := by decide +kernel
theorem dX12_sum_7 : decode cX12_sum 7 = .ok (.iconst 0, 1) := by decide +kernel
theorem dX12_sum_8 : decode cX12_sum 8 = .ok (.ireturn, 1) := by decide +kernel
theorem dX12_sum_9 : decode cX12_sum 9 = .ok (.aload_n 0, 1) := by decide +kernel
theorem dX12_sum_10 : decode cX12_sum 10 = .ok (.invokevirtual 167, 3) := by decide +kernel
theorem dX12_sum_13 : decode cX12_sum 13 = .ok (.bipush 43, 2) := by decide +kernel
theorem dX12_sum_15 : decode cX12_sum 15 = .ok (.if_icmp .eq 12, 3) := by decide +kernel
theorem dX12_sum_18 : decode cX12_sum 18 = .ok (.aload_n 0, 1) := by decide +kernel
theorem dX12_sum_19 : decode cX12_sum 19 = .ok (.invokevirtual 167, 3) := by decide +kernel
theorem dX12_sum_22 : decode cX12_sum 22 = .ok (.bipush 45, 2) := by decide +kernel
theorem dX12_sum_24 : decode cX12_sum 24 = .ok (.if_icmp .ne 51, 3) := by decide +kernel
theorem dX12_sum_27 : decode cX12_sum 27 = .ok (.aload_n 0, 1) := by decide +kernel
theorem dX12_sum_28 : decode cX12_sum 28 = .ok (.getfield 13, 3) := by decide +kernel
theorem dX12_sum_31 : decode cX12_sum 31 = .ok (.aload_n 0, 1) := by decide +kernel
theorem dX12_sum_32 : decode cX12_sum 32 = .ok (.getfield 164, 3) := by decide +kernel
theorem dX12_sum_35 : decode cX12_sum 35 = .ok (.baload, 1) := by decide +kernel
theorem dX12_sum_36 : decode cX12_sum 36 = .ok (.bipush 43, 2) := by decide +kernel
theorem dX12_sum_38 : decode cX12_sum 38 = .ok (.if_icmp .ne 7, 3) := by decide +kernel
theorem dX12_sum_41 : decode cX12_sum 41 = .ok (.iconst 2, 1) := by decide +kernel
theorem dX12_sum_42 : decode cX12_sum 42 = .ok (.goto 4, 3) := by decide +kernel
theorem dX12_sum_45 : decode cX12_sum 45 = .ok (.iconst 3, 1) := by decide +kernel
theorem dX12_sum_46 : decode cX12_sum 46 = .ok (.istore_n 1, 1) := by decide +kernel
theorem dX12_sum_47 : decode cX12_sum 47 = .ok (.aload_n 0, 1) := by decide +kernel
theorem dX12_sum_48 : decode cX12_sum 48 = .ok (.dup, 1) := by decide +kernel
theorem dX12_sum_49 : decode cX12_sum 49 = .ok (.getfield 164, 3) := by decide +kernel
theorem dX12_sum_52 : decode cX12_sum 52 = .ok (.iconst 1, 1) := by decide +kernel
theorem dX12_sum_53 : decode cX12_sum 53 = .ok (.iadd, 1) := by decide +kernel
theorem dX12_sum_54 : decode cX12_sum 54 = .ok (.putfield 164, 3) := by decide +kernel
theorem dX12_sum_57 : decode cX12_sum 57 = .ok (.aload_n 0, 1) := by decide +kernel
theorem dX12_sum_58 : decode cX12_sum 58 = .ok (.invokevirtual 246, 3) := by decide +kernel
theorem dX12_sum_61 : decode cX12_sum 61 = .ok (.ifCond .ne 5, 3) := by decide +kernel
theorem dX12_sum_64 : decode cX12_sum 64 = .ok (.iconst 0, 1) := by decide +kernel
theorem dX12_sum_65 : decode cX12_sum 65 = .ok (.ireturn, 1) := by decide +kernel
theorem dX12_sum_66 : decode cX12_sum 66 = .ok (.aload_n 0, 1) := by decide +kernel
theorem dX12_sum_67 : decode cX12_sum 67 = .ok (.iload_n 1, 1) := by decide +kernel
theorem dX12_sum_68 : decode cX12_sum 68 = .ok (.iconst 0, 1) := by decide +kernel
theorem dX12_sum_69 : decode cX12_sum 69 = .ok (.invokevirtual 228, 3) := by decide +kernel
theorem dX12_sum_72 : decode cX12_sum 72 = .ok (.goto (-63), 3) := by decide +kernel
theorem dX12_sum_75 : decode cX12_sum 75 = .ok (.iconst 1, 1) := by decide +kernel
theorem dX12_sum_76 : decode cX12_sum 76 = .ok (.ireturn, 1) := by decide +kernel
theorem wk_619 : Cond.methodLink RX12 246 yX12_term ∈ tl_L := List.mem_filter.mpr ⟨lw_m7 (i := 129) rfl, rfl⟩
theorem wk_620 : Cond.instanceMethod yX12_term ∈ tl_L := List.mem_filter.mpr ⟨lw_m7 (i := 131) rfl, rfl⟩
theorem wk_621 : Cond.selects RX12 yX12_term yX12_term ∈ tl_L := List.mem_filter.mpr ⟨lw_s8 (i := 13) (q := (yX12_term, 49)) rfl, rfl⟩
theorem wk_622 : Cond.code yX12_term cX12_term 2 (some .boolean) ∈ tl_L := List.mem_filter.mpr ⟨lw_m7 (i := 132) rfl, rfl⟩
theorem lk_X12_246 : tl_kV RX12 246 RX12 yX12_term cX12_term 2 (some .boolean) 0 := ⟨wk_622, wk_619, wk_620, wk_621, wk_5, ⟨by decide +kernel, by decide +kernel, by decide +kernel⟩⟩
set_option maxHeartbeats 4000000 in
set_option maxRecDepth 100000 in
theorem r_X12_value (l : Launch) (D : va_G) (cy : Nat → ClassId) (sz : Nat) (L : List Nat) (K : Nat → tk_K) (Γ : tk_G) (f : Nat → va_E) (o : Nat) (τ : Nat → Int) (T0 : Int) (t0 : Int) (a : Nat) (d : Int) (ho : tp_r L K 39 (0) 0 o) (ht : Γ (41, 400, 0) = τ) (hT : Γ (39, 0, 0) 0 = T0) (hb0 : 0 ≤ Γ (39, 0, 0) 1 ∧ Γ (39, 0, 0) 1 ≤ T0 ∧ T0 ≤ 400) (h4 : Γ (39, 0, 0) 4 = t0) (hp : ps (Γ (43, 8800, 0)) t0 (Γ (44, 22, 0) t0.toNat) (Γ (39, 0, 0) 1) T0 (Γ (39, 0, 0) 5) a (d)) : Met l yX12_value (tl_w yX12_value cX12_value 3 (some .boolean)) ({ frames := 3, cells := 0, slots := 0, locals := 66 }) (va_Pc [.ref o] (tp_P D cy L K Γ f sz)) (va_Qi (fun (r : Int32) (u : (Nat → va_E) × tk_G) => tl_J r (ps (u.2 (43, 8800, 0)) t0 (u.2 (44, 22, 0) t0.toNat) (u.2 (39, 0, 0) 1) T0 (u.2 (39, 0, 0) 5) a (d + 1) ∧ Γ (39, 0, 0) 1 - Γ (44, 22, 0) t0.toNat ≤ u.2 (39, 0, 0) 1 - u.2 (44, 22, 0) t0.toNat ∧ fz (Γ (43, 8800, 0)) (u.2 (43, 8800, 0)) (Γ (44, 22, 0)) (u.2 (44, 22, 0)) t0) ∧ u.2 (39, 0, 0) 0 = Γ (39, 0, 0) 0 ∧ u.2 (39, 0, 0) 4 = Γ (39, 0, 0) 4 ∧ u.2 (39, 0, 0) 6 = Γ (39, 0, 0) 6 ∧ u.2 (39, 0, 0) 7 = Γ (39, 0, 0) 7 ∧ u.2 (39, 0, 0) 8 = Γ (39, 0, 0) 8 ∧ Γ (39, 0, 0) 1 ≤ u.2 (39, 0, 0) 1 ∧ u.2 (39, 0, 0) 1 ≤ T0 ∧ fw (Γ (43, 8800, 0)) (u.2 (43, 8800, 0)) (Γ (44, 22, 0)) (u.2 (44, 22, 0)) t0) (tp_BG D cy L K Γ f [39, 43, 44]) (tp_A L sz)) 0 0 (tp_A L sz) := by
  refine Met.ofW (cc := cX12_value) (maxL := 3) (ret := (some .boolean)) (by decide) rfl ?_
  intro p e s m args below meth c s₁ B hml hv
  obtain ⟨rfl, hsz, hP, hK, hL, hI, hN, hU⟩ := hv
  have hx := B.exec
  have hb := B.bytes
  have hr := B.returns
  have hta := tl_hta (atoms_spec (ws := tl_w yX12_value cX12_value 3 (some .boolean)) B.pre)
  have hown : s.vm.findClass RX12 = some m.cls := findClass_of_methodNamed B.named
  have hlocks := B.notSynchronized
  subst hsz
  have hI0 := hI
  generalize hAe : tp_A L s.heap.size = A
  have hA : ∀ q : Nat, s.heap.size ≤ q → A q := fun q h => by rw [← hAe]; exact Or.inr h
  have hAL : ∀ q ∈ L, A q := fun q h => by rw [← hAe]; exact Or.inl h
  have hAf : ∀ (H : Heap), s.heap.size ≤ H.size → ∀ q, tp_A L H.size q → A q := fun H h q hq => hq.elim (hAL q) (fun h2 => hA q (Nat.le_trans h h2))
  have hS : va_S A s.heap s.heap [] := va_S.rf
  have hD : va_D A (va_pl L f) := tp_D hL hAL
  have hfr : ∀ b, (K b).1 ∉ ([39, 43, 44] : List Nat) → f b = f b := fun _ _ => rfl
  have hgr : ∀ κ : tk_K, κ.1 ∉ ([39, 43, 44] : List Nat) → Γ κ = Γ κ := fun _ _ => rfl
  have hl := lv_entry ([.ref o]) (n := 3) (Nat.le_of_ble_eq_true rfl)
  rw [lg_entry_eq]
  generalize (lg_sl ([.ref o]) ++ List.replicate (3 - (lg_sl ([.ref o])).length) Slot.unset).toArray = ls at hl ⊢
  have hl : lv_has ls 3 [(0, .ref o)] := hl
  have hz : fz (Γ (43, 8800, 0)) (Γ (43, 8800, 0)) (Γ (44, 22, 0)) (Γ (44, 22, 0)) t0 := fz.rfl
  have hfw : fw (Γ (43, 8800, 0)) (Γ (43, 8800, 0)) (Γ (44, 22, 0)) (Γ (44, 22, 0)) t0 := fw.same
  have hpo := hp
  obtain ⟨hp1, hp2, hp3, hp4, _⟩ := hpo
  refine lv_aload_n hx hb dX12_value_0 rfl (lv_at hl 0 rfl) ?_
  obtain ⟨r_2, v_3, q_4, hf_1, hr_5, hv_6⟩ := (show tp_o_M L K 0 0 (Γ (39, 0, 0)) (f o) from hI.at ho)
  refine tq_ciR hS (hAf _ hS.1) (tq_rV (As := []) (rest := []) ⟨hx, hb, hml, hown, hta⟩ (tp_P.pre hK hN hL hU hI hP) (tp_recv hK hP ho.1 hf_1 rfl) lk_X12_167 (r_X12_see l D cy s.heap.size L K Γ f o τ T0 ho ht (by first | omega | (simp only [Int32.toInt_toInt64]; omega) | decide | assumption) (by first | omega | (simp only [Int32.toInt_toInt64]; omega) | decide | assumption)) rfl rfl ⟨Nat.le_of_ble_eq_true rfl, Nat.le_of_ble_eq_true rfl⟩ rfl hl.1 rfl (Nat.le_of_ble_eq_true rfl) dX12_value_1 ⟨Nat.le_of_ble_eq_true rfl, Nat.le_of_ble_eq_true rfl⟩) (fun r_16 f_17 Γ_19 H locs hw_15 hP hI hc_18 hcg_20 hS => ?_)
  have hD : va_D A (va_pl L f_17) := tp_D hL hAL
  have hfr := tp_fr2 hfr hc_18 (by decide)
  have hgr : ∀ κ : tk_K, κ.1 ∉ ([39, 43, 44] : List Nat) → Γ_19 κ = Γ κ := tg_fr2 hgr hcg_20 (by decide)
  have hw_15 : Γ_19 (39, 0, 0) 0 = Γ (39, 0, 0) 0 ∧ Γ_19 (39, 0, 0) 3 = Γ (39, 0, 0) 3 ∧ Γ_19 (39, 0, 0) 4 = Γ (39, 0, 0) 4 ∧ Γ_19 (39, 0, 0) 5 = Γ (39, 0, 0) 5 ∧ Γ_19 (39, 0, 0) 6 = Γ (39, 0, 0) 6 ∧ Γ_19 (39, 0, 0) 7 = Γ (39, 0, 0) 7 ∧ Γ_19 (39, 0, 0) 8 = Γ (39, 0, 0) 8 ∧ Γ (39, 0, 0) 1 ≤ Γ_19 (39, 0, 0) 1 ∧ Γ_19 (39, 0, 0) 1 ≤ T0 ∧ (¬ τ (Γ (39, 0, 0) 1).toNat = 32 → Γ_19 (39, 0, 0) 1 = Γ (39, 0, 0) 1) ∧ ((r_16.toInt = -1 ∧ Γ_19 (39, 0, 0) 1 = T0) ∨ (0 ≤ r_16.toInt ∧ r_16.toInt ≤ 255 ∧ Γ_19 (39, 0, 0) 1 < T0 ∧ ¬ τ (Γ_19 (39, 0, 0) 1).toNat = 32)) := hw_15
  obtain ⟨hpa, hpb, hpc, hpd, _⟩ := id hp
  have hle := congrFun (hcg_20 (44, 22, 0) (by decide)) t0.toNat
  have hp : ps (Γ_19 (43, 8800, 0)) t0 (Γ_19 (44, 22, 0) t0.toNat) (Γ_19 (39, 0, 0) 1) T0 (Γ_19 (39, 0, 0) 5) a (d) := hp.eq (hcg_20 (43, 8800, 0) (by decide)) rfl (congrFun (hcg_20 (44, 22, 0) (by decide)) _) (by omega) rfl (by omega)
  have hz : fz (Γ (43, 8800, 0)) (Γ_19 (43, 8800, 0)) (Γ (44, 22, 0)) (Γ_19 (44, 22, 0)) t0 := by rw [(hcg_20 (43, 8800, 0) (by decide)), (hcg_20 (44, 22, 0) (by decide))]; exact hz
  have hfw : fw (Γ (43, 8800, 0)) (Γ_19 (43, 8800, 0)) (Γ (44, 22, 0)) (Γ_19 (44, 22, 0)) t0 := by rw [(hcg_20 (43, 8800, 0) (by decide)), (hcg_20 (44, 22, 0) (by decide))]; exact hfw
  refine lv_pop hx hb dX12_value_4 rfl ?_
  refine lv_aload_n hx hb dX12_value_5 rfl (lv_at hl 0 rfl) ?_
  obtain ⟨r_22, v_23, q_24, hf_21, hr_25, hv_26⟩ := (show tp_o_M L K 0 0 (Γ_19 (39, 0, 0)) (f_17 o) from hI.at ho)
  have hx_28 : (v_23 1).toInt = Γ_19 (39, 0, 0) 1 := hv_26 1 (by decide)
  refine tp_get (cy := cy) (ci := 12) (v := .int (v_23 1)) (C := RX12) (T := TX12) (N := 49) hx hb hta inlX12 hown hK hP ho.1 hf_21 rfl 17 (by decide) (hta _ wk_539) (fun _ h9 => h9) rfl dX12_value_6 ?_
  refine lv_istore_n (lv' := [(1, .int (v_23 1)), (0, .ref o)]) hx hb dX12_value_9 rfl hl (by decide) rfl (fun ls hl => ?_)
  refine lv_aload_n hx hb dX12_value_10 rfl (lv_at hl 1 rfl) ?_
  refine lv_aload_n hx hb dX12_value_11 rfl (lv_at hl 1 rfl) ?_
  refine tp_get (cy := cy) (ci := 12) (v := .int (v_23 1)) (C := RX12) (T := TX12) (N := 49) hx hb hta inlX12 hown hK hP ho.1 hf_21 rfl 17 (by decide) (hta _ wk_539) (fun _ h9 => h9) rfl dX12_value_12 ?_
  refine tl_si (tq_rV (As := [.int (v_23 1)]) (rest := []) ⟨hx, hb, hml, hown, hta⟩ (tp_P.pre hK hN hL hU hI hP) (tp_recv hK hP ho.1 hf_21 rfl) lk_X12_181 (r_X12_isDigit l D cy H.size L K Γ_19 f_17 o (v_23 1) τ T0 ho ((hgr _ (by decide)).trans ht) (by first | omega | (simp only [Int32.toInt_toInt64]; omega) | decide | assumption) (by first | omega | (simp only [Int32.toInt_toInt64]; omega) | decide | assumption)) rfl rfl ⟨Nat.le_of_ble_eq_true rfl, Nat.le_of_ble_eq_true rfl⟩ rfl hl.1 rfl (Nat.le_of_ble_eq_true rfl) dX12_value_15 ⟨Nat.le_of_ble_eq_true rfl, Nat.le_of_ble_eq_true rfl⟩) (fun r_36 hw_35 => ?_)
  have hw_35 : tl_E r_36 ((v_23 1).toInt < T0 ∧ 48 ≤ τ ((v_23 1).toInt).toNat ∧ τ ((v_23 1).toInt).toNat ≤ 57) 1 0 := hw_35
  refine lv_if_eq (tgt := 52) hx hb dX12_value_18 (by decide) (fun c_37 => ?_) (fun c_37 => ?_)
  · have c_37 := hw_35.f c_37
    refine lv_aload_n hx hb dX12_value_52 rfl (lv_at hl 1 rfl) ?_
    refine tq_ciR hS (hAf _ hS.1) (tq_rV (As := []) (rest := []) ⟨hx, hb, hml, hown, hta⟩ (tp_P.pre hK hN hL hU hI hP) (tp_recv hK hP ho.1 hf_21 rfl) lk_X12_239 (r_X12_wordHere l D cy H.size L K Γ_19 f_17 o τ T0 ho ((hgr _ (by decide)).trans ht) (by first | omega | (simp only [Int32.toInt_toInt64]; omega) | decide | assumption) (by first | omega | (simp only [Int32.toInt_toInt64]; omega) | decide | assumption)) rfl rfl ⟨Nat.le_of_ble_eq_true rfl, Nat.le_of_ble_eq_true rfl⟩ rfl hl.1 rfl (Nat.le_of_ble_eq_true rfl) dX12_value_53 ⟨Nat.le_of_ble_eq_true rfl, Nat.le_of_ble_eq_true rfl⟩) (fun r_39 f_40 Γ_42 H locs hw_38 hP hI hc_41 hcg_43 hS => ?_)
    have hD : va_D A (va_pl L f_40) := tp_D hL hAL
    have hfr := tp_fr2 hfr hc_41 (by decide)
    have hgr : ∀ κ : tk_K, κ.1 ∉ ([39, 43, 44] : List Nat) → Γ_42 κ = Γ κ := tg_fr2 hgr hcg_43 (by decide)
    have hw_38 : Γ_42 (39, 0, 0) 0 = Γ_19 (39, 0, 0) 0 ∧ Γ_42 (39, 0, 0) 3 = Γ_19 (39, 0, 0) 3 ∧ Γ_42 (39, 0, 0) 4 = Γ_19 (39, 0, 0) 4 ∧ Γ_42 (39, 0, 0) 5 = Γ_19 (39, 0, 0) 5 ∧ Γ_42 (39, 0, 0) 6 = Γ_19 (39, 0, 0) 6 ∧ Γ_42 (39, 0, 0) 7 = Γ_19 (39, 0, 0) 7 ∧ Γ_42 (39, 0, 0) 8 = Γ_19 (39, 0, 0) 8 ∧ Γ_19 (39, 0, 0) 1 ≤ Γ_42 (39, 0, 0) 1 ∧ Γ_42 (39, 0, 0) 1 ≤ T0 ∧ (r_39.toInt = -1 ∨ (0 ≤ r_39.toInt ∧ r_39.toInt ≤ 4 ∧ tr_L τ T0 (Γ_42 (39, 0, 0) 1))) := hw_38
    obtain ⟨hpa, hpb, hpc, hpd, _⟩ := id hp
    have hle := congrFun (hcg_43 (44, 22, 0) (by decide)) t0.toNat
    have hp : ps (Γ_42 (43, 8800, 0)) t0 (Γ_42 (44, 22, 0) t0.toNat) (Γ_42 (39, 0, 0) 1) T0 (Γ_42 (39, 0, 0) 5) a (d) := hp.eq (hcg_43 (43, 8800, 0) (by decide)) rfl (congrFun (hcg_43 (44, 22, 0) (by decide)) _) (by omega) rfl (by omega)
    have hz : fz (Γ (43, 8800, 0)) (Γ_42 (43, 8800, 0)) (Γ (44, 22, 0)) (Γ_42 (44, 22, 0)) t0 := by rw [(hcg_43 (43, 8800, 0) (by decide)), (hcg_43 (44, 22, 0) (by decide))]; exact hz
    have hfw : fw (Γ (43, 8800, 0)) (Γ_42 (43, 8800, 0)) (Γ (44, 22, 0)) (Γ_42 (44, 22, 0)) t0 := by rw [(hcg_43 (43, 8800, 0) (by decide)), (hcg_43 (44, 22, 0) (by decide))]; exact hfw
    refine lv_istore_n (lv' := [(2, .int r_39), (1, .int (v_23 1)), (0, .ref o)]) hx hb dX12_value_56 rfl hl (by decide) rfl (fun ls hl => ?_)
    refine lv_iload_n hx hb dX12_value_57 rfl (lv_at hl 0 rfl) ?_
    refine lv_if_ge (tgt := 68) hx hb dX12_value_58 (by decide) (fun c_44 => ?_) (fun c_44 => ?_)
    · have c_44 : (0 : Int) ≤ r_39.toInt := tl_le c_44
      refine lv_aload_n hx hb dX12_value_68 rfl (lv_at hl 2 rfl) ?_
      refine lv_iload_n hx hb dX12_value_69 rfl (lv_at hl 1 rfl) ?_
      obtain ⟨r_46, v_47, q_48, hf_45, hr_49, hv_50⟩ := (show tp_o_M L K 0 0 (Γ_42 (39, 0, 0)) (f_40 o) from hI.at ho)
      refine tq_ciR hS (hAf _ hS.1) (tq_rV (As := [.int (v_23 1)]) (rest := []) ⟨hx, hb, hml, hown, hta⟩ (tp_P.pre hK hN hL hU hI hP) (tp_recv hK hP ho.1 hf_45 rfl) lk_X12_236 (r_X12_makes l D cy H.size L K Γ_42 f_40 o (v_23 1) ho (by first | omega | (simp only [Int32.toInt_toInt64]; omega) | decide | assumption)) rfl rfl ⟨Nat.le_of_ble_eq_true rfl, Nat.le_of_ble_eq_true rfl⟩ rfl hl.1 rfl (Nat.le_of_ble_eq_true rfl) dX12_value_70 ⟨Nat.le_of_ble_eq_true rfl, Nat.le_of_ble_eq_true rfl⟩) (fun r_60 f_61 Γ_63 H locs hw_59 hP hI hc_62 hcg_64 hS => ?_)
      have hD : va_D A (va_pl L f_61) := tp_D hL hAL
      have hfr := tp_fr2 hfr hc_62 (by decide)
      have hgr : ∀ κ : tk_K, κ.1 ∉ ([39, 43, 44] : List Nat) → Γ_63 κ = Γ κ := tg_fr2 hgr hcg_64 (by decide)
      obtain ⟨hE_65, hw_59⟩ := hw_59
      have hE_65 : tl_J r_60 (Γ_63 (39, 0, 0) 5 = Γ_42 (39, 0, 0) 5 + 1) := hE_65
      have hw_59 : Γ_63 (39, 0, 0) 0 = Γ_42 (39, 0, 0) 0 ∧ Γ_63 (39, 0, 0) 1 = Γ_42 (39, 0, 0) 1 ∧ Γ_63 (39, 0, 0) 3 = Γ_42 (39, 0, 0) 3 ∧ Γ_63 (39, 0, 0) 4 = Γ_42 (39, 0, 0) 4 ∧ Γ_63 (39, 0, 0) 6 = Γ_42 (39, 0, 0) 6 ∧ Γ_63 (39, 0, 0) 7 = Γ_42 (39, 0, 0) 7 ∧ Γ_63 (39, 0, 0) 8 = Γ_42 (39, 0, 0) 8 ∧ Γ_42 (39, 0, 0) 5 ≤ Γ_63 (39, 0, 0) 5 ∧ Γ_63 (39, 0, 0) 5 ≤ 60 := hw_59
      obtain ⟨hpa, hpb, hpc, hpd, _⟩ := id hp
      have hle := congrFun (hcg_64 (44, 22, 0) (by decide)) t0.toNat
      have hp : ps (Γ_63 (43, 8800, 0)) t0 (Γ_63 (44, 22, 0) t0.toNat) (Γ_63 (39, 0, 0) 1) T0 (Γ_63 (39, 0, 0) 5) a (d) := hp.eq (hcg_64 (43, 8800, 0) (by decide)) rfl (congrFun (hcg_64 (44, 22, 0) (by decide)) _) (by omega) rfl (by omega)
      have hz : fz (Γ (43, 8800, 0)) (Γ_63 (43, 8800, 0)) (Γ (44, 22, 0)) (Γ_63 (44, 22, 0)) t0 := by rw [(hcg_64 (43, 8800, 0) (by decide)), (hcg_64 (44, 22, 0) (by decide))]; exact hz
      have hfw : fw (Γ (43, 8800, 0)) (Γ_63 (43, 8800, 0)) (Γ (44, 22, 0)) (Γ_63 (44, 22, 0)) t0 := by rw [(hcg_64 (43, 8800, 0) (by decide)), (hcg_64 (44, 22, 0) (by decide))]; exact hfw
      refine lv_if_ne (tgt := 78) hx hb dX12_value_73 (by decide) (fun c_66 => ?_) (fun c_66 => ?_)
      · have c_66 := hE_65.t c_66
        refine lv_aload_n hx hb dX12_value_78 rfl (lv_at hl 2 rfl) ?_
        obtain ⟨r_68, v_69, q_70, hf_67, hr_71, hv_72⟩ := (show tp_o_M L K 0 0 (Γ_63 (39, 0, 0)) (f_61 o) from hI.at ho)
        refine tq_cvR hS (hAf _ hS.1) (tq_rV (As := []) (rest := []) ⟨hx, hb, hml, hown, hta⟩ (tp_P.pre hK hN hL hU hI hP) (tp_recv hK hP ho.1 hf_67 rfl) lk_X12_178 (r_X12_passWord l D cy H.size L K Γ_63 f_61 o τ T0 ho ((hgr _ (by decide)).trans ht) (by first | omega | (simp only [Int32.toInt_toInt64]; omega) | decide | assumption) (by first | omega | (simp only [Int32.toInt_toInt64]; omega) | decide | assumption)) rfl rfl ⟨Nat.le_of_ble_eq_true rfl, Nat.le_of_ble_eq_true rfl⟩ rfl hl.1 rfl (Nat.le_of_ble_eq_true rfl) dX12_value_79 ⟨Nat.le_of_ble_eq_true rfl, Nat.le_of_ble_eq_true rfl⟩) (fun f_83 Γ_85 H locs hw_81 hP hI hc_84 hcg_86 hS => ?_)
        have hD : va_D A (va_pl L f_83) := tp_D hL hAL
        have hfr := tp_fr2 hfr hc_84 (by decide)
        have hgr : ∀ κ : tk_K, κ.1 ∉ ([39, 43, 44] : List Nat) → Γ_85 κ = Γ κ := tg_fr2 hgr hcg_86 (by decide)
        have hw_81 : Γ_85 (39, 0, 0) 0 = Γ_63 (39, 0, 0) 0 ∧ Γ_85 (39, 0, 0) 3 = Γ_63 (39, 0, 0) 3 ∧ Γ_85 (39, 0, 0) 4 = Γ_63 (39, 0, 0) 4 ∧ Γ_85 (39, 0, 0) 5 = Γ_63 (39, 0, 0) 5 ∧ Γ_85 (39, 0, 0) 6 = Γ_63 (39, 0, 0) 6 ∧ Γ_85 (39, 0, 0) 7 = Γ_63 (39, 0, 0) 7 ∧ Γ_85 (39, 0, 0) 8 = Γ_63 (39, 0, 0) 8 ∧ Γ_63 (39, 0, 0) 1 ≤ Γ_85 (39, 0, 0) 1 ∧ Γ_85 (39, 0, 0) 1 ≤ T0 ∧ (tr_L τ T0 (Γ_63 (39, 0, 0) 1) → Γ_63 (39, 0, 0) 1 + 1 ≤ Γ_85 (39, 0, 0) 1) := hw_81
        have hpw := hw_81.2.2.2.2.2.2.2.2.2 (by rcases hw_38.2.2.2.2.2.2.2.2.2 with q9 | q9; (exfalso; omega); (rw [show Γ_63 (39, 0, 0) 1 = Γ_42 (39, 0, 0) 1 from by omega]; exact q9.2.2))
        obtain ⟨hpa, hpb, hpc, hpd, _⟩ := id hp
        have hle := congrFun (hcg_86 (44, 22, 0) (by decide)) t0.toNat
        have hp : ps (Γ_85 (43, 8800, 0)) t0 (Γ_85 (44, 22, 0) t0.toNat) (Γ_85 (39, 0, 0) 1) T0 (Γ_85 (39, 0, 0) 5) a (d) := hp.eq (hcg_86 (43, 8800, 0) (by decide)) rfl (congrFun (hcg_86 (44, 22, 0) (by decide)) _) (by omega) rfl (by omega)
        have hz : fz (Γ (43, 8800, 0)) (Γ_85 (43, 8800, 0)) (Γ (44, 22, 0)) (Γ_85 (44, 22, 0)) t0 := by rw [(hcg_86 (43, 8800, 0) (by decide)), (hcg_86 (44, 22, 0) (by decide))]; exact hz
        have hfw : fw (Γ (43, 8800, 0)) (Γ_85 (43, 8800, 0)) (Γ (44, 22, 0)) (Γ_85 (44, 22, 0)) t0 := by rw [(hcg_86 (43, 8800, 0) (by decide)), (hcg_86 (44, 22, 0) (by decide))]; exact hfw
        refine lv_aload_n hx hb dX12_value_82 rfl (lv_at hl 2 rfl) ?_
        refine lv_iconst (v := 1) hx hb dX12_value_83 (by decide) ?_
        refine lv_iload_n hx hb dX12_value_84 rfl (lv_at hl 0 rfl) ?_
        obtain ⟨hpa, hpb, hpc, hpd, _⟩ := id hp
        obtain ⟨r_88, v_89, q_90, hf_87, hr_91, hv_92⟩ := (show tp_o_M L K 0 0 (Γ_85 (39, 0, 0)) (f_83 o) from hI.at ho)
        have hx_93 : (v_89 0).toInt = Γ_85 (39, 0, 0) 0 := hv_92 0 (by decide)
        have hx_94 : (v_89 1).toInt = Γ_85 (39, 0, 0) 1 := hv_92 1 (by decide)
        have hx_95 : (v_89 3).toInt = Γ_85 (39, 0, 0) 3 := hv_92 3 (by decide)
        have hx_96 : (v_89 4).toInt = Γ_85 (39, 0, 0) 4 := hv_92 4 (by decide)
        have hx_97 : (v_89 5).toInt = Γ_85 (39, 0, 0) 5 := hv_92 5 (by decide)
        have hx_98 : (v_89 6).toInt = Γ_85 (39, 0, 0) 6 := hv_92 6 (by decide)
        have hx_99 : (v_89 7).toInt = Γ_85 (39, 0, 0) 7 := hv_92 7 (by decide)
        have hx_100 : (v_89 8).toInt = Γ_85 (39, 0, 0) 8 := hv_92 8 (by decide)
        refine tq_cvR hS (hAf _ hS.1) (tq_rV (As := [.int 1, .int r_39]) (rest := []) ⟨hx, hb, hml, hown, hta⟩ (tp_P.pre hK hN hL hU hI hP) (tp_recv hK hP ho.1 hf_87 rfl) lk_X12_228 (r_X12_puts l D cy H.size L K Γ_85 f_83 o 1 r_39 t0 ho (by first | omega | (simp only [Int32.toInt_toInt64]; omega) | decide | assumption) (by first | omega | (simp only [Int32.toInt_toInt64]; omega) | decide | assumption) (by first | omega | (simp only [Int32.toInt_toInt64]; omega) | decide | assumption) (by first | omega | (simp only [Int32.toInt_toInt64]; omega) | decide | assumption)) rfl rfl ⟨Nat.le_of_ble_eq_true rfl, Nat.le_of_ble_eq_true rfl⟩ rfl hl.1 rfl (Nat.le_of_ble_eq_true rfl) dX12_value_85 ⟨Nat.le_of_ble_eq_true rfl, Nat.le_of_ble_eq_true rfl⟩) (fun f_103 Γ_105 H locs hw_101 hP hI hc_104 hcg_106 hS => ?_)
        have hD : va_D A (va_pl L f_103) := tp_D hL hAL
        have hfr := tp_fr2 hfr hc_104 (by decide)
        have hgr : ∀ κ : tk_K, κ.1 ∉ ([39, 43, 44] : List Nat) → Γ_105 κ = Γ κ := tg_fr2 hgr hcg_106 (by decide)
        have hf_107 := (tp_un hc_104 ho (by decide)).trans hf_87
        have hv_108 : ∀ i : Nat, i < 16 → (v_89 i).toInt = Γ_105 (39, 0, 0) i := fun i hi => by rw [hcg_106 _ (by decide)]; exact hv_92 i hi
        have hx_109 : (v_89 0).toInt = Γ_105 (39, 0, 0) 0 := hv_108 0 (by decide)
        have hx_110 : (v_89 1).toInt = Γ_105 (39, 0, 0) 1 := hv_108 1 (by decide)
        have hx_111 : (v_89 3).toInt = Γ_105 (39, 0, 0) 3 := hv_108 3 (by decide)
        have hx_112 : (v_89 4).toInt = Γ_105 (39, 0, 0) 4 := hv_108 4 (by decide)
        have hx_113 : (v_89 5).toInt = Γ_105 (39, 0, 0) 5 := hv_108 5 (by decide)
        have hx_114 : (v_89 6).toInt = Γ_105 (39, 0, 0) 6 := hv_108 6 (by decide)
        have hx_115 : (v_89 7).toInt = Γ_105 (39, 0, 0) 7 := hv_108 7 (by decide)
        have hx_116 : (v_89 8).toInt = Γ_105 (39, 0, 0) 8 := hv_108 8 (by decide)
        have mk_105_0 : Γ_105 (39, 0, 0) 0 = Γ_85 (39, 0, 0) 0 := congrFun (hcg_106 (39, 0, 0) (by decide)) 0
        have mk_105_1 : Γ_105 (39, 0, 0) 1 = Γ_85 (39, 0, 0) 1 := congrFun (hcg_106 (39, 0, 0) (by decide)) 1
        have mk_105_3 : Γ_105 (39, 0, 0) 3 = Γ_85 (39, 0, 0) 3 := congrFun (hcg_106 (39, 0, 0) (by decide)) 3
        have mk_105_4 : Γ_105 (39, 0, 0) 4 = Γ_85 (39, 0, 0) 4 := congrFun (hcg_106 (39, 0, 0) (by decide)) 4
        have mk_105_5 : Γ_105 (39, 0, 0) 5 = Γ_85 (39, 0, 0) 5 := congrFun (hcg_106 (39, 0, 0) (by decide)) 5
        have mk_105_6 : Γ_105 (39, 0, 0) 6 = Γ_85 (39, 0, 0) 6 := congrFun (hcg_106 (39, 0, 0) (by decide)) 6
        have mk_105_7 : Γ_105 (39, 0, 0) 7 = Γ_85 (39, 0, 0) 7 := congrFun (hcg_106 (39, 0, 0) (by decide)) 7
        have mk_105_8 : Γ_105 (39, 0, 0) 8 = Γ_85 (39, 0, 0) 8 := congrFun (hcg_106 (39, 0, 0) (by decide)) 8
        have hw_101 : Γ_105 (43, 8800, 0) = tgu (Γ_85 (43, 8800, 0)) (400 * t0 + Γ_85 (44, 22, 0) t0.toNat).toNat ((1 : Int) + 16 * r_39.toInt) ∧ Γ_105 (44, 22, 0) = tgu (Γ_85 (44, 22, 0)) t0.toNat (Γ_85 (44, 22, 0) t0.toNat + 1) := hw_101
        obtain ⟨hpa, hpb, hpc, hpd, _⟩ := id hp
        have hlem : rp_ok ((1 : Int) + 16 * r_39.toInt) (d) ∧ rp_d ((1 : Int) + 16 * r_39.toInt) = 1 := (by have h9 : (1 : Int32).toInt = 1 := rfl; exact rp_push1 (by omega) (by omega))
        have hput := hp.put (e := ((1 : Int) + 16 * r_39.toInt)) (by omega) hlem.1 (by rw [hlem.2]; omega)
        rw [hlem.2] at hput
        have hln2 : Γ_105 (44, 22, 0) t0.toNat = Γ_85 (44, 22, 0) t0.toNat + 1 := by rw [hw_101.2, tgu_s]
        have hfz2 : fz (Γ_85 (43, 8800, 0)) (Γ_105 (43, 8800, 0)) (Γ_85 (44, 22, 0)) (Γ_105 (44, 22, 0)) t0 := by rw [hw_101.1, hw_101.2]; exact fz.put (by omega) (by omega)
        have hp : ps (Γ_105 (43, 8800, 0)) t0 (Γ_105 (44, 22, 0) t0.toNat) (Γ_105 (39, 0, 0) 1) T0 (Γ_105 (39, 0, 0) 5) a (d + 1) := by rw [hln2, hw_101.1, show Γ_105 (39, 0, 0) 1 = Γ_85 (39, 0, 0) 1 from by omega, show Γ_105 (39, 0, 0) 5 = Γ_85 (39, 0, 0) 5 from by omega]; exact hput
        have hz := hz.trans hfz2
        have hfw := hfw.trans (hfz2.fw (by omega))
        refine lv_iconst (v := 1) hx hb dX12_value_88 (by decide) ?_
        have hpo9 : tl_J (1 : Int32) (ps (Γ_105 (43, 8800, 0)) t0 (Γ_105 (44, 22, 0) t0.toNat) (Γ_105 (39, 0, 0) 1) T0 (Γ_105 (39, 0, 0) 5) a (d + 1) ∧ Γ (39, 0, 0) 1 - Γ (44, 22, 0) t0.toNat ≤ Γ_105 (39, 0, 0) 1 - Γ_105 (44, 22, 0) t0.toNat ∧ fz (Γ (43, 8800, 0)) (Γ_105 (43, 8800, 0)) (Γ (44, 22, 0)) (Γ_105 (44, 22, 0)) t0) ∧ Γ_105 (39, 0, 0) 0 = Γ (39, 0, 0) 0 ∧ Γ_105 (39, 0, 0) 4 = Γ (39, 0, 0) 4 ∧ Γ_105 (39, 0, 0) 6 = Γ (39, 0, 0) 6 ∧ Γ_105 (39, 0, 0) 7 = Γ (39, 0, 0) 7 ∧ Γ_105 (39, 0, 0) 8 = Γ (39, 0, 0) 8 ∧ Γ (39, 0, 0) 1 ≤ Γ_105 (39, 0, 0) 1 ∧ Γ_105 (39, 0, 0) 1 ≤ T0 ∧ fw (Γ (43, 8800, 0)) (Γ_105 (43, 8800, 0)) (Γ (44, 22, 0)) (Γ_105 (44, 22, 0)) t0 := ⟨(Or.inl ⟨rfl, ⟨hp, (by omega), hz⟩⟩), ⟨(by omega), (by omega), (by omega), (by omega), (by omega), (by omega), (by omega), hfw⟩⟩
        exact W.zret (ty := .boolean) (v := 1) hx hb hr rfl (fun t ht hW => ⟨⟨_, (f_103, Γ_105), rfl, hpo9, by rw [ht]; exact hP, hI, hfr, hgr⟩, hS.F ht⟩) hS.2.2 dX12_value_89
      · have c_66 := c_66
        refine lv_iconst (v := 0) hx hb dX12_value_76 (by decide) ?_
        have hpo9 : tl_J (0 : Int32) (ps (Γ_63 (43, 8800, 0)) t0 (Γ_63 (44, 22, 0) t0.toNat) (Γ_63 (39, 0, 0) 1) T0 (Γ_63 (39, 0, 0) 5) a (d + 1) ∧ Γ (39, 0, 0) 1 - Γ (44, 22, 0) t0.toNat ≤ Γ_63 (39, 0, 0) 1 - Γ_63 (44, 22, 0) t0.toNat ∧ fz (Γ (43, 8800, 0)) (Γ_63 (43, 8800, 0)) (Γ (44, 22, 0)) (Γ_63 (44, 22, 0)) t0) ∧ Γ_63 (39, 0, 0) 0 = Γ (39, 0, 0) 0 ∧ Γ_63 (39, 0, 0) 4 = Γ (39, 0, 0) 4 ∧ Γ_63 (39, 0, 0) 6 = Γ (39, 0, 0) 6 ∧ Γ_63 (39, 0, 0) 7 = Γ (39, 0, 0) 7 ∧ Γ_63 (39, 0, 0) 8 = Γ (39, 0, 0) 8 ∧ Γ (39, 0, 0) 1 ≤ Γ_63 (39, 0, 0) 1 ∧ Γ_63 (39, 0, 0) 1 ≤ T0 ∧ fw (Γ (43, 8800, 0)) (Γ_63 (43, 8800, 0)) (Γ (44, 22, 0)) (Γ_63 (44, 22, 0)) t0 := ⟨(Or.inr rfl), ⟨(by omega), (by omega), (by omega), (by omega), (by omega), (by omega), (by omega), hfw⟩⟩
        exact W.zret (ty := .boolean) (v := 0) hx hb hr rfl (fun t ht hW => ⟨⟨_, (f_61, Γ_63), rfl, hpo9, by rw [ht]; exact hP, hI, hfr, hgr⟩, hS.F ht⟩) hS.2.2 dX12_value_77
    · have c_44 : r_39.toInt < (0 : Int) := tl_nle c_44
      refine lv_aload_n hx hb dX12_value_61 rfl (lv_at hl 2 rfl) ?_
      refine lv_iconst (v := 0) hx hb dX12_value_62 (by decide) ?_
      refine lv_iload_n hx hb dX12_value_63 rfl (lv_at hl 1 rfl) ?_
      obtain ⟨r_118, v_119, q_120, hf_117, hr_121, hv_122⟩ := (show tp_o_M L K 0 0 (Γ_42 (39, 0, 0)) (f_40 o) from hI.at ho)
      refine tq_ciR hS (hAf _ hS.1) (tq_rV (As := [.int 0, .int (v_23 1)]) (rest := []) ⟨hx, hb, hml, hown, hta⟩ (tp_P.pre hK hN hL hU hI hP) (tp_recv hK hP ho.1 hf_117 rfl) lk_X12_184 (r_X12_fails l D cy H.size L K Γ_42 f_40 o 0 (v_23 1) ho) rfl rfl ⟨Nat.le_of_ble_eq_true rfl, Nat.le_of_ble_eq_true rfl⟩ rfl hl.1 rfl (Nat.le_of_ble_eq_true rfl) dX12_value_64 ⟨Nat.le_of_ble_eq_true rfl, Nat.le_of_ble_eq_true rfl⟩) (fun r_132 f_133 Γ_135 H locs hw_131 hP hI hc_134 hcg_136 hS => ?_)
      have hD : va_D A (va_pl L f_133) := tp_D hL hAL
      have hfr := tp_fr2 hfr hc_134 (by decide)
      have hgr : ∀ κ : tk_K, κ.1 ∉ ([39, 43, 44] : List Nat) → Γ_135 κ = Γ κ := tg_fr2 hgr hcg_136 (by decide)
      obtain ⟨rfl, hw_131⟩ := hw_131
      have hw_131 : Γ_135 (39, 0, 0) 0 = Γ_42 (39, 0, 0) 0 ∧ Γ_135 (39, 0, 0) 1 = Γ_42 (39, 0, 0) 1 ∧ Γ_135 (39, 0, 0) 3 = Γ_42 (39, 0, 0) 3 ∧ Γ_135 (39, 0, 0) 4 = Γ_42 (39, 0, 0) 4 ∧ Γ_135 (39, 0, 0) 5 = Γ_42 (39, 0, 0) 5 ∧ Γ_135 (39, 0, 0) 6 = Γ_42 (39, 0, 0) 6 ∧ Γ_135 (39, 0, 0) 7 = Γ_42 (39, 0, 0) 7 ∧ Γ_135 (39, 0, 0) 8 = Γ_42 (39, 0, 0) 8 := hw_131
      obtain ⟨hpa, hpb, hpc, hpd, _⟩ := id hp
      have hle := congrFun (hcg_136 (44, 22, 0) (by decide)) t0.toNat
      have hp : ps (Γ_135 (43, 8800, 0)) t0 (Γ_135 (44, 22, 0) t0.toNat) (Γ_135 (39, 0, 0) 1) T0 (Γ_135 (39, 0, 0) 5) a (d) := hp.eq (hcg_136 (43, 8800, 0) (by decide)) rfl (congrFun (hcg_136 (44, 22, 0) (by decide)) _) (by omega) rfl (by omega)
      have hz : fz (Γ (43, 8800, 0)) (Γ_135 (43, 8800, 0)) (Γ (44, 22, 0)) (Γ_135 (44, 22, 0)) t0 := by rw [(hcg_136 (43, 8800, 0) (by decide)), (hcg_136 (44, 22, 0) (by decide))]; exact hz
      have hfw : fw (Γ (43, 8800, 0)) (Γ_135 (43, 8800, 0)) (Γ (44, 22, 0)) (Γ_135 (44, 22, 0)) t0 := by rw [(hcg_136 (43, 8800, 0) (by decide)), (hcg_136 (44, 22, 0) (by decide))]; exact hfw
      have hpo9 : tl_J (0 : Int32) (ps (Γ_135 (43, 8800, 0)) t0 (Γ_135 (44, 22, 0) t0.toNat) (Γ_135 (39, 0, 0) 1) T0 (Γ_135 (39, 0, 0) 5) a (d + 1) ∧ Γ (39, 0, 0) 1 - Γ (44, 22, 0) t0.toNat ≤ Γ_135 (39, 0, 0) 1 - Γ_135 (44, 22, 0) t0.toNat ∧ fz (Γ (43, 8800, 0)) (Γ_135 (43, 8800, 0)) (Γ (44, 22, 0)) (Γ_135 (44, 22, 0)) t0) ∧ Γ_135 (39, 0, 0) 0 = Γ (39, 0, 0) 0 ∧ Γ_135 (39, 0, 0) 4 = Γ (39, 0, 0) 4 ∧ Γ_135 (39, 0, 0) 6 = Γ (39, 0, 0) 6 ∧ Γ_135 (39, 0, 0) 7 = Γ (39, 0, 0) 7 ∧ Γ_135 (39, 0, 0) 8 = Γ (39, 0, 0) 8 ∧ Γ (39, 0, 0) 1 ≤ Γ_135 (39, 0, 0) 1 ∧ Γ_135 (39, 0, 0) 1 ≤ T0 ∧ fw (Γ (43, 8800, 0)) (Γ_135 (43, 8800, 0)) (Γ (44, 22, 0)) (Γ_135 (44, 22, 0)) t0 := ⟨(Or.inr rfl), ⟨(by omega), (by omega), (by omega), (by omega), (by omega), (by omega), (by omega), hfw⟩⟩
      exact W.zret (ty := .boolean) (v := 0) hx hb hr rfl (fun t ht hW => ⟨⟨_, (f_133, Γ_135), rfl, hpo9, by rw [ht]; exact hP, hI, hfr, hgr⟩, hS.F ht⟩) hS.2.2 dX12_value_67
  · have c_37 := hw_35.t c_37
    refine lv_aload_n hx hb dX12_value_21 rfl (lv_at hl 1 rfl) ?_
    refine lv_iconst (v := 0) hx hb dX12_value_22 (by decide) ?_
    refine lv_ldc (v := 99999) hx hb hown (hta _ wk_627) dX12_value_23 ?_
    refine tq_ciR hS (hAf _ hS.1) (tq_rV (As := [.int 0, .int 99999]) (rest := []) ⟨hx, hb, hml, hown, hta⟩ (tp_P.pre hK hN hL hU hI hP) (tp_recv hK hP ho.1 hf_21 rfl) lk_X12_233 (r_X12_numberHere l D cy H.size L K Γ_19 f_17 o 0 99999 τ T0 ho ((hgr _ (by decide)).trans ht) (by first | omega | (simp only [Int32.toInt_toInt64]; omega) | decide | assumption) (by first | omega | (simp only [Int32.toInt_toInt64]; omega) | decide | assumption)) rfl rfl ⟨Nat.le_of_ble_eq_true rfl, Nat.le_of_ble_eq_true rfl⟩ rfl hl.1 rfl (Nat.le_of_ble_eq_true rfl) dX12_value_25 ⟨Nat.le_of_ble_eq_true rfl, Nat.le_of_ble_eq_true rfl⟩) (fun r_138 f_139 Γ_141 H locs hw_137 hP hI hc_140 hcg_142 hS => ?_)
    have hD : va_D A (va_pl L f_139) := tp_D hL hAL
    have hfr := tp_fr2 hfr hc_140 (by decide)
    have hgr : ∀ κ : tk_K, κ.1 ∉ ([39, 43, 44] : List Nat) → Γ_141 κ = Γ κ := tg_fr2 hgr hcg_142 (by decide)
    obtain ⟨hE_143, hw_137⟩ := hw_137
    have hE_143 : tl_J r_138 ((0 : Int) ≤ Γ_141 (39, 0, 0) 3 ∧ Γ_141 (39, 0, 0) 3 ≤ (99999 : Int) ∧ Γ_19 (39, 0, 0) 1 + 1 ≤ Γ_141 (39, 0, 0) 1) := hE_143
    have hw_137 : Γ_141 (39, 0, 0) 0 = Γ_19 (39, 0, 0) 0 ∧ Γ_141 (39, 0, 0) 4 = Γ_19 (39, 0, 0) 4 ∧ Γ_141 (39, 0, 0) 5 = Γ_19 (39, 0, 0) 5 ∧ Γ_141 (39, 0, 0) 6 = Γ_19 (39, 0, 0) 6 ∧ Γ_141 (39, 0, 0) 7 = Γ_19 (39, 0, 0) 7 ∧ Γ_141 (39, 0, 0) 8 = Γ_19 (39, 0, 0) 8 ∧ Γ_19 (39, 0, 0) 1 ≤ Γ_141 (39, 0, 0) 1 ∧ Γ_141 (39, 0, 0) 1 ≤ T0 := hw_137
    obtain ⟨hpa, hpb, hpc, hpd, _⟩ := id hp
    have hle := congrFun (hcg_142 (44, 22, 0) (by decide)) t0.toNat
    have hp : ps (Γ_141 (43, 8800, 0)) t0 (Γ_141 (44, 22, 0) t0.toNat) (Γ_141 (39, 0, 0) 1) T0 (Γ_141 (39, 0, 0) 5) a (d) := hp.eq (hcg_142 (43, 8800, 0) (by decide)) rfl (congrFun (hcg_142 (44, 22, 0) (by decide)) _) (by omega) rfl (by omega)
    have hz : fz (Γ (43, 8800, 0)) (Γ_141 (43, 8800, 0)) (Γ (44, 22, 0)) (Γ_141 (44, 22, 0)) t0 := by rw [(hcg_142 (43, 8800, 0) (by decide)), (hcg_142 (44, 22, 0) (by decide))]; exact hz
    have hfw : fw (Γ (43, 8800, 0)) (Γ_141 (43, 8800, 0)) (Γ (44, 22, 0)) (Γ_141 (44, 22, 0)) t0 := by rw [(hcg_142 (43, 8800, 0) (by decide)), (hcg_142 (44, 22, 0) (by decide))]; exact hfw
    refine lv_if_eq (tgt := 39) hx hb dX12_value_28 (by decide) (fun c_144 => ?_) (fun c_144 => ?_)
    · have c_144 := c_144
      refine lv_iconst (v := 0) hx hb dX12_value_39 (by decide) ?_
      have hpo9 : tl_J (0 : Int32) (ps (Γ_141 (43, 8800, 0)) t0 (Γ_141 (44, 22, 0) t0.toNat) (Γ_141 (39, 0, 0) 1) T0 (Γ_141 (39, 0, 0) 5) a (d + 1) ∧ Γ (39, 0, 0) 1 - Γ (44, 22, 0) t0.toNat ≤ Γ_141 (39, 0, 0) 1 - Γ_141 (44, 22, 0) t0.toNat ∧ fz (Γ (43, 8800, 0)) (Γ_141 (43, 8800, 0)) (Γ (44, 22, 0)) (Γ_141 (44, 22, 0)) t0) ∧ Γ_141 (39, 0, 0) 0 = Γ (39, 0, 0) 0 ∧ Γ_141 (39, 0, 0) 4 = Γ (39, 0, 0) 4 ∧ Γ_141 (39, 0, 0) 6 = Γ (39, 0, 0) 6 ∧ Γ_141 (39, 0, 0) 7 = Γ (39, 0, 0) 7 ∧ Γ_141 (39, 0, 0) 8 = Γ (39, 0, 0) 8 ∧ Γ (39, 0, 0) 1 ≤ Γ_141 (39, 0, 0) 1 ∧ Γ_141 (39, 0, 0) 1 ≤ T0 ∧ fw (Γ (43, 8800, 0)) (Γ_141 (43, 8800, 0)) (Γ (44, 22, 0)) (Γ_141 (44, 22, 0)) t0 := ⟨(Or.inr rfl), ⟨(by omega), (by omega), (by omega), (by omega), (by omega), (by omega), (by omega), hfw⟩⟩
      exact W.zret (ty := .boolean) (v := 0) hx hb hr rfl (fun t ht hW => ⟨⟨_, (f_139, Γ_141), rfl, hpo9, by rw [ht]; exact hP, hI, hfr, hgr⟩, hS.F ht⟩) hS.2.2 dX12_value_40
    · have c_144 := hE_143.t c_144
      refine lv_aload_n hx hb dX12_value_31 rfl (lv_at hl 1 rfl) ?_
      refine lv_iload_n hx hb dX12_value_32 rfl (lv_at hl 0 rfl) ?_
      obtain ⟨r_146, v_147, q_148, hf_145, hr_149, hv_150⟩ := (show tp_o_M L K 0 0 (Γ_141 (39, 0, 0)) (f_139 o) from hI.at ho)
      refine tq_ciR hS (hAf _ hS.1) (tq_rV (As := [.int (v_23 1)]) (rest := []) ⟨hx, hb, hml, hown, hta⟩ (tp_P.pre hK hN hL hU hI hP) (tp_recv hK hP ho.1 hf_145 rfl) lk_X12_236 (r_X12_makes l D cy H.size L K Γ_141 f_139 o (v_23 1) ho (by first | omega | (simp only [Int32.toInt_toInt64]; omega) | decide | assumption)) rfl rfl ⟨Nat.le_of_ble_eq_true rfl, Nat.le_of_ble_eq_true rfl⟩ rfl hl.1 rfl (Nat.le_of_ble_eq_true rfl) dX12_value_33 ⟨Nat.le_of_ble_eq_true rfl, Nat.le_of_ble_eq_true rfl⟩) (fun r_160 f_161 Γ_163 H locs hw_159 hP hI hc_162 hcg_164 hS => ?_)
      have hD : va_D A (va_pl L f_161) := tp_D hL hAL
      have hfr := tp_fr2 hfr hc_162 (by decide)
      have hgr : ∀ κ : tk_K, κ.1 ∉ ([39, 43, 44] : List Nat) → Γ_163 κ = Γ κ := tg_fr2 hgr hcg_164 (by decide)
      obtain ⟨hE_165, hw_159⟩ := hw_159
      have hE_165 : tl_J r_160 (Γ_163 (39, 0, 0) 5 = Γ_141 (39, 0, 0) 5 + 1) := hE_165
      have hw_159 : Γ_163 (39, 0, 0) 0 = Γ_141 (39, 0, 0) 0 ∧ Γ_163 (39, 0, 0) 1 = Γ_141 (39, 0, 0) 1 ∧ Γ_163 (39, 0, 0) 3 = Γ_141 (39, 0, 0) 3 ∧ Γ_163 (39, 0, 0) 4 = Γ_141 (39, 0, 0) 4 ∧ Γ_163 (39, 0, 0) 6 = Γ_141 (39, 0, 0) 6 ∧ Γ_163 (39, 0, 0) 7 = Γ_141 (39, 0, 0) 7 ∧ Γ_163 (39, 0, 0) 8 = Γ_141 (39, 0, 0) 8 ∧ Γ_141 (39, 0, 0) 5 ≤ Γ_163 (39, 0, 0) 5 ∧ Γ_163 (39, 0, 0) 5 ≤ 60 := hw_159
      obtain ⟨hpa, hpb, hpc, hpd, _⟩ := id hp
      have hle := congrFun (hcg_164 (44, 22, 0) (by decide)) t0.toNat
      have hp : ps (Γ_163 (43, 8800, 0)) t0 (Γ_163 (44, 22, 0) t0.toNat) (Γ_163 (39, 0, 0) 1) T0 (Γ_163 (39, 0, 0) 5) a (d) := hp.eq (hcg_164 (43, 8800, 0) (by decide)) rfl (congrFun (hcg_164 (44, 22, 0) (by decide)) _) (by omega) rfl (by omega)
      have hz : fz (Γ (43, 8800, 0)) (Γ_163 (43, 8800, 0)) (Γ (44, 22, 0)) (Γ_163 (44, 22, 0)) t0 := by rw [(hcg_164 (43, 8800, 0) (by decide)), (hcg_164 (44, 22, 0) (by decide))]; exact hz
      have hfw : fw (Γ (43, 8800, 0)) (Γ_163 (43, 8800, 0)) (Γ (44, 22, 0)) (Γ_163 (44, 22, 0)) t0 := by rw [(hcg_164 (43, 8800, 0) (by decide)), (hcg_164 (44, 22, 0) (by decide))]; exact hfw
      refine lv_if_ne (tgt := 41) hx hb dX12_value_36 (by decide) (fun c_166 => ?_) (fun c_166 => ?_)
      · have c_166 := hE_165.t c_166
        refine lv_aload_n hx hb dX12_value_41 rfl (lv_at hl 1 rfl) ?_
        refine lv_iconst (v := 0) hx hb dX12_value_42 (by decide) ?_
        refine lv_aload_n hx hb dX12_value_43 rfl (lv_at hl 1 rfl) ?_
        obtain ⟨r_168, v_169, q_170, hf_167, hr_171, hv_172⟩ := (show tp_o_M L K 0 0 (Γ_163 (39, 0, 0)) (f_161 o) from hI.at ho)
        have hx_173 : (v_169 0).toInt = Γ_163 (39, 0, 0) 0 := hv_172 0 (by decide)
        have hx_174 : (v_169 1).toInt = Γ_163 (39, 0, 0) 1 := hv_172 1 (by decide)
        have hx_175 : (v_169 3).toInt = Γ_163 (39, 0, 0) 3 := hv_172 3 (by decide)
        have hx_176 : (v_169 4).toInt = Γ_163 (39, 0, 0) 4 := hv_172 4 (by decide)
        have hx_177 : (v_169 5).toInt = Γ_163 (39, 0, 0) 5 := hv_172 5 (by decide)
        have hx_178 : (v_169 6).toInt = Γ_163 (39, 0, 0) 6 := hv_172 6 (by decide)
        have hx_179 : (v_169 7).toInt = Γ_163 (39, 0, 0) 7 := hv_172 7 (by decide)
        have hx_180 : (v_169 8).toInt = Γ_163 (39, 0, 0) 8 := hv_172 8 (by decide)
        refine tp_get (cy := cy) (ci := 12) (v := .int (v_169 3)) (C := RX12) (T := TX12) (N := 49) hx hb hta inlX12 hown hK hP ho.1 hf_167 rfl 19 (by decide) (hta _ wk_585) (fun _ h9 => h9) rfl dX12_value_44 ?_
        obtain ⟨hpa, hpb, hpc, hpd, _⟩ := id hp
        refine tq_cvR hS (hAf _ hS.1) (tq_rV (As := [.int 0, .int (v_169 3)]) (rest := []) ⟨hx, hb, hml, hown, hta⟩ (tp_P.pre hK hN hL hU hI hP) (tp_recv hK hP ho.1 hf_167 rfl) lk_X12_228 (r_X12_puts l D cy H.size L K Γ_163 f_161 o 0 (v_169 3) t0 ho (by first | omega | (simp only [Int32.toInt_toInt64]; omega) | decide | assumption) (by first | omega | (simp only [Int32.toInt_toInt64]; omega) | decide | assumption) (by first | omega | (simp only [Int32.toInt_toInt64]; omega) | decide | assumption) (by first | omega | (simp only [Int32.toInt_toInt64]; omega) | decide | assumption)) rfl rfl ⟨Nat.le_of_ble_eq_true rfl, Nat.le_of_ble_eq_true rfl⟩ rfl hl.1 rfl (Nat.le_of_ble_eq_true rfl) dX12_value_47 ⟨Nat.le_of_ble_eq_true rfl, Nat.le_of_ble_eq_true rfl⟩) (fun f_183 Γ_185 H locs hw_181 hP hI hc_184 hcg_186 hS => ?_)
        have hD : va_D A (va_pl L f_183) := tp_D hL hAL
        have hfr := tp_fr2 hfr hc_184 (by decide)
        have hgr : ∀ κ : tk_K, κ.1 ∉ ([39, 43, 44] : List Nat) → Γ_185 κ = Γ κ := tg_fr2 hgr hcg_186 (by decide)
        have hf_187 := (tp_un hc_184 ho (by decide)).trans hf_167
        have hv_188 : ∀ i : Nat, i < 16 → (v_169 i).toInt = Γ_185 (39, 0, 0) i := fun i hi => by rw [hcg_186 _ (by decide)]; exact hv_172 i hi
        have hx_189 : (v_169 0).toInt = Γ_185 (39, 0, 0) 0 := hv_188 0 (by decide)
        have hx_190 : (v_169 1).toInt = Γ_185 (39, 0, 0) 1 := hv_188 1 (by decide)
        have hx_191 : (v_169 3).toInt = Γ_185 (39, 0, 0) 3 := hv_188 3 (by decide)
        have hx_192 : (v_169 4).toInt = Γ_185 (39, 0, 0) 4 := hv_188 4 (by decide)
        have hx_193 : (v_169 5).toInt = Γ_185 (39, 0, 0) 5 := hv_188 5 (by decide)
        have hx_194 : (v_169 6).toInt = Γ_185 (39, 0, 0) 6 := hv_188 6 (by decide)
        have hx_195 : (v_169 7).toInt = Γ_185 (39, 0, 0) 7 := hv_188 7 (by decide)
        have hx_196 : (v_169 8).toInt = Γ_185 (39, 0, 0) 8 := hv_188 8 (by decide)
        have mk_185_0 : Γ_185 (39, 0, 0) 0 = Γ_163 (39, 0, 0) 0 := congrFun (hcg_186 (39, 0, 0) (by decide)) 0
        have mk_185_1 : Γ_185 (39, 0, 0) 1 = Γ_163 (39, 0, 0) 1 := congrFun (hcg_186 (39, 0, 0) (by decide)) 1
        have mk_185_3 : Γ_185 (39, 0, 0) 3 = Γ_163 (39, 0, 0) 3 := congrFun (hcg_186 (39, 0, 0) (by decide)) 3
        have mk_185_4 : Γ_185 (39, 0, 0) 4 = Γ_163 (39, 0, 0) 4 := congrFun (hcg_186 (39, 0, 0) (by decide)) 4
        have mk_185_5 : Γ_185 (39, 0, 0) 5 = Γ_163 (39, 0, 0) 5 := congrFun (hcg_186 (39, 0, 0) (by decide)) 5
        have mk_185_6 : Γ_185 (39, 0, 0) 6 = Γ_163 (39, 0, 0) 6 := congrFun (hcg_186 (39, 0, 0) (by decide)) 6
        have mk_185_7 : Γ_185 (39, 0, 0) 7 = Γ_163 (39, 0, 0) 7 := congrFun (hcg_186 (39, 0, 0) (by decide)) 7
        have mk_185_8 : Γ_185 (39, 0, 0) 8 = Γ_163 (39, 0, 0) 8 := congrFun (hcg_186 (39, 0, 0) (by decide)) 8
        have hw_181 : Γ_185 (43, 8800, 0) = tgu (Γ_163 (43, 8800, 0)) (400 * t0 + Γ_163 (44, 22, 0) t0.toNat).toNat ((0 : Int) + 16 * (v_169 3).toInt) ∧ Γ_185 (44, 22, 0) = tgu (Γ_163 (44, 22, 0)) t0.toNat (Γ_163 (44, 22, 0) t0.toNat + 1) := hw_181
        obtain ⟨hpa, hpb, hpc, hpd, _⟩ := id hp
        have hlem : rp_ok ((0 : Int) + 16 * (v_169 3).toInt) (d) ∧ rp_d ((0 : Int) + 16 * (v_169 3).toInt) = 1 := (by have h9 : (0 : Int32).toInt = 0 := rfl; exact rp_push0 (by omega) (by omega))
        have hput := hp.put (e := ((0 : Int) + 16 * (v_169 3).toInt)) (by omega) hlem.1 (by rw [hlem.2]; omega)
        rw [hlem.2] at hput
        have hln2 : Γ_185 (44, 22, 0) t0.toNat = Γ_163 (44, 22, 0) t0.toNat + 1 := by rw [hw_181.2, tgu_s]
        have hfz2 : fz (Γ_163 (43, 8800, 0)) (Γ_185 (43, 8800, 0)) (Γ_163 (44, 22, 0)) (Γ_185 (44, 22, 0)) t0 := by rw [hw_181.1, hw_181.2]; exact fz.put (by omega) (by omega)
        have hp : ps (Γ_185 (43, 8800, 0)) t0 (Γ_185 (44, 22, 0) t0.toNat) (Γ_185 (39, 0, 0) 1) T0 (Γ_185 (39, 0, 0) 5) a (d + 1) := by rw [hln2, hw_181.1, show Γ_185 (39, 0, 0) 1 = Γ_163 (39, 0, 0) 1 from by omega, show Γ_185 (39, 0, 0) 5 = Γ_163 (39, 0, 0) 5 from by omega]; exact hput
        have hz := hz.trans hfz2
        have hfw := hfw.trans (hfz2.fw (by omega))
        refine lv_iconst (v := 1) hx hb dX12_value_50 (by decide) ?_
        have hpo9 : tl_J (1 : Int32) (ps (Γ_185 (43, 8800, 0)) t0 (Γ_185 (44, 22, 0) t0.toNat) (Γ_185 (39, 0, 0) 1) T0 (Γ_185 (39, 0, 0) 5) a (d + 1) ∧ Γ (39, 0, 0) 1 - Γ (44, 22, 0) t0.toNat ≤ Γ_185 (39, 0, 0) 1 - Γ_185 (44, 22, 0) t0.toNat ∧ fz (Γ (43, 8800, 0)) (Γ_185 (43, 8800, 0)) (Γ (44, 22, 0)) (Γ_185 (44, 22, 0)) t0) ∧ Γ_185 (39, 0, 0) 0 = Γ (39, 0, 0) 0 ∧ Γ_185 (39, 0, 0) 4 = Γ (39, 0, 0) 4 ∧ Γ_185 (39, 0, 0) 6 = Γ (39, 0, 0) 6 ∧ Γ_185 (39, 0, 0) 7 = Γ (39, 0, 0) 7 ∧ Γ_185 (39, 0, 0) 8 = Γ (39, 0, 0) 8 ∧ Γ (39, 0, 0) 1 ≤ Γ_185 (39, 0, 0) 1 ∧ Γ_185 (39, 0, 0) 1 ≤ T0 ∧ fw (Γ (43, 8800, 0)) (Γ_185 (43, 8800, 0)) (Γ (44, 22, 0)) (Γ_185 (44, 22, 0)) t0 := ⟨(Or.inl ⟨rfl, ⟨hp, (by omega), hz⟩⟩), ⟨(by omega), (by omega), (by omega), (by omega), (by omega), (by omega), (by omega), hfw⟩⟩
        exact W.zret (ty := .boolean) (v := 1) hx hb hr rfl (fun t ht hW => ⟨⟨_, (f_183, Γ_185), rfl, hpo9, by rw [ht]; exact hP, hI, hfr, hgr⟩, hS.F ht⟩) hS.2.2 dX12_value_51
      · have c_166 := c_166
        refine lv_iconst (v := 0) hx hb dX12_value_39 (by decide) ?_
        have hpo9 : tl_J (0 : Int32) (ps (Γ_163 (43, 8800, 0)) t0 (Γ_163 (44, 22, 0) t0.toNat) (Γ_163 (39, 0, 0) 1) T0 (Γ_163 (39, 0, 0) 5) a (d + 1) ∧ Γ (39, 0, 0) 1 - Γ (44, 22, 0) t0.toNat ≤ Γ_163 (39, 0, 0) 1 - Γ_163 (44, 22, 0) t0.toNat ∧ fz (Γ (43, 8800, 0)) (Γ_163 (43, 8800, 0)) (Γ (44, 22, 0)) (Γ_163 (44, 22, 0)) t0) ∧ Γ_163 (39, 0, 0) 0 = Γ (39, 0, 0) 0 ∧ Γ_163 (39, 0, 0) 4 = Γ (39, 0, 0) 4 ∧ Γ_163 (39, 0, 0) 6 = Γ (39, 0, 0) 6 ∧ Γ_163 (39, 0, 0) 7 = Γ (39, 0, 0) 7 ∧ Γ_163 (39, 0, 0) 8 = Γ (39, 0, 0) 8 ∧ Γ (39, 0, 0) 1 ≤ Γ_163 (39, 0, 0) 1 ∧ Γ_163 (39, 0, 0) 1 ≤ T0 ∧ fw (Γ (43, 8800, 0)) (Γ_163 (43, 8800, 0)) (Γ (44, 22, 0)) (Γ_163 (44, 22, 0)) t0 := ⟨(Or.inr rfl), ⟨(by omega), (by omega), (by omega), (by omega), (by omega), (by omega), (by omega), hfw⟩⟩
        exact W.zret (ty := .boolean) (v := 0) hx hb hr rfl (fun t ht hW => ⟨⟨_, (f_161, Γ_163), rfl, hpo9, by rw [ht]; exact hP, hI, hfr, hgr⟩, hS.F ht⟩) hS.2.2 dX12_value_40
set_option maxHeartbeats 4000000 in
set_option maxRecDepth 100000 in
theorem r_X12_term (l : Launch) (D : va_G) (cy : Nat → ClassId) (sz : Nat) (L : List Nat) (K : Nat → tk_K) (Γ : tk_G) (f : Nat → va_E) (o : Nat) (τ : Nat → Int) (T0 : Int) (t0 : Int) (a : Nat) (d : Int) (ho : tp_r L K 39 (0) 0 o) (ht : Γ (41, 400, 0) = τ) (hT : Γ (39, 0, 0) 0 = T0) (hb0 : 0 ≤ Γ (39, 0, 0) 1 ∧ Γ (39, 0, 0) 1 ≤ T0 ∧ T0 ≤ 400) (h4 : Γ (39, 0, 0) 4 = t0) (hp : ps (Γ (43, 8800, 0)) t0 (Γ (44, 22, 0) t0.toNat) (Γ (39, 0, 0) 1) T0 (Γ (39, 0, 0) 5) a (d)) : Met l yX12_term (tl_w yX12_term cX12_term 2 (some .boolean)) ({ frames := 4, cells := 0, slots := 0, locals := 88 }) (va_Pc [.ref o] (tp_P D cy L K Γ f sz)) (va_Qi (fun (r : Int32) (u : (Nat → va_E) × tk_G) => tl_J r (ps (u.2 (43, 8800, 0)) t0 (u.2 (44, 22, 0) t0.toNat) (u.2 (39, 0, 0) 1) T0 (u.2 (39, 0, 0) 5) a (d + 1) ∧ Γ (39, 0, 0) 1 - Γ (44, 22, 0) t0.toNat ≤ u.2 (39, 0, 0) 1 - u.2 (44, 22, 0) t0.toNat ∧ fz (Γ (43, 8800, 0)) (u.2 (43, 8800, 0)) (Γ (44, 22, 0)) (u.2 (44, 22, 0)) t0) ∧ u.2 (39, 0, 0) 0 = Γ (39, 0, 0) 0 ∧ u.2 (39, 0, 0) 4 = Γ (39, 0, 0) 4 ∧ u.2 (39, 0, 0) 6 = Γ (39, 0, 0) 6 ∧ u.2 (39, 0, 0) 7 = Γ (39, 0, 0) 7 ∧ u.2 (39, 0, 0) 8 = Γ (39, 0, 0) 8 ∧ Γ (39, 0, 0) 1 ≤ u.2 (39, 0, 0) 1 ∧ u.2 (39, 0, 0) 1 ≤ T0 ∧ fw (Γ (43, 8800, 0)) (u.2 (43, 8800, 0)) (Γ (44, 22, 0)) (u.2 (44, 22, 0)) t0) (tp_BG D cy L K Γ f [39, 43, 44]) (tp_A L sz)) 0 0 (tp_A L sz) := by
  refine Met.ofW (cc := cX12_term) (maxL := 2) (ret := (some .boolean)) (by decide) rfl ?_
  intro p e s m args below meth c s₁ B hml hv
  obtain ⟨rfl, hsz, hP, hK, hL, hI, hN, hU⟩ := hv
  have hx := B.exec
  have hb := B.bytes
  have hr := B.returns
  have hta := tl_hta (atoms_spec (ws := tl_w yX12_term cX12_term 2 (some .boolean)) B.pre)
  have hown : s.vm.findClass RX12 = some m.cls := findClass_of_methodNamed B.named
  have hlocks := B.notSynchronized
  subst hsz
  have hI0 := hI
  generalize hAe : tp_A L s.heap.size = A
  have hA : ∀ q : Nat, s.heap.size ≤ q → A q := fun q h => by rw [← hAe]; exact Or.inr h
  have hAL : ∀ q ∈ L, A q := fun q h => by rw [← hAe]; exact Or.inl h
  have hAf : ∀ (H : Heap), s.heap.size ≤ H.size → ∀ q, tp_A L H.size q → A q := fun H h q hq => hq.elim (hAL q) (fun h2 => hA q (Nat.le_trans h h2))
  have hS : va_S A s.heap s.heap [] := va_S.rf
  have hD : va_D A (va_pl L f) := tp_D hL hAL
  have hfr : ∀ b, (K b).1 ∉ ([39, 43, 44] : List Nat) → f b = f b := fun _ _ => rfl
  have hgr : ∀ κ : tk_K, κ.1 ∉ ([39, 43, 44] : List Nat) → Γ κ = Γ κ := fun _ _ => rfl
  have hl := lv_entry ([.ref o]) (n := 2) (Nat.le_of_ble_eq_true rfl)
  rw [lg_entry_eq]
  generalize (lg_sl ([.ref o]) ++ List.replicate (2 - (lg_sl ([.ref o])).length) Slot.unset).toArray = ls at hl ⊢
  have hl : lv_has ls 2 [(0, .ref o)] := hl
  have hz : fz (Γ (43, 8800, 0)) (Γ (43, 8800, 0)) (Γ (44, 22, 0)) (Γ (44, 22, 0)) t0 := fz.rfl
  have hfw : fw (Γ (43, 8800, 0)) (Γ (43, 8800, 0)) (Γ (44, 22, 0)) (Γ (44, 22, 0)) t0 := fw.same
  have hpo := hp
  obtain ⟨hp1, hp2, hp3, hp4, _⟩ := hpo
  refine lv_aload_n hx hb dX12_term_0 rfl (lv_at hl 0 rfl) ?_
  obtain ⟨r_2, v_3, q_4, hf_1, hr_5, hv_6⟩ := (show tp_o_M L K 0 0 (Γ (39, 0, 0)) (f o) from hI.at ho)
  refine tq_ciR hS (hAf _ hS.1) (tq_rV (As := []) (rest := []) ⟨hx, hb, hml, hown, hta⟩ (tp_P.pre hK hN hL hU hI hP) (tp_recv hK hP ho.1 hf_1 rfl) lk_X12_242 (r_X12_value l D cy s.heap.size L K Γ f o τ T0 t0 a d ho ht (by first | omega | (simp only [Int32.toInt_toInt64]; omega) | decide | assumption) (by first | omega | (simp only [Int32.toInt_toInt64]; omega) | decide | assumption) (by first | omega | (simp only [Int32.toInt_toInt64]; omega) | decide | assumption) (by first | omega | (simp only [Int32.toInt_toInt64]; omega) | decide | assumption)) rfl rfl ⟨Nat.le_of_ble_eq_true rfl, Nat.le_of_ble_eq_true rfl⟩ rfl hl.1 rfl (Nat.le_of_ble_eq_true rfl) dX12_term_1 ⟨Nat.le_of_ble_eq_true rfl, Nat.le_of_ble_eq_true rfl⟩) (fun r_16 f_17 Γ_19 H locs hw_15 hP hI hc_18 hcg_20 hS => ?_)
  have hD : va_D A (va_pl L f_17) := tp_D hL hAL
  have hfr := tp_fr2 hfr hc_18 (by decide)
  have hgr : ∀ κ : tk_K, κ.1 ∉ ([39, 43, 44] : List Nat) → Γ_19 κ = Γ κ := tg_fr2 hgr hcg_20 (by decide)
  obtain ⟨hE_21, hw_15⟩ := hw_15
  have hE_21 : tl_J r_16 (ps (Γ_19 (43, 8800, 0)) t0 (Γ_19 (44, 22, 0) t0.toNat) (Γ_19 (39, 0, 0) 1) T0 (Γ_19 (39, 0, 0) 5) a (d + 1) ∧ Γ (39, 0, 0) 1 - Γ (44, 22, 0) t0.toNat ≤ Γ_19 (39, 0, 0) 1 - Γ_19 (44, 22, 0) t0.toNat ∧ fz (Γ (43, 8800, 0)) (Γ_19 (43, 8800, 0)) (Γ (44, 22, 0)) (Γ_19 (44, 22, 0)) t0) := hE_21
  have hw_15 : Γ_19 (39, 0, 0) 0 = Γ (39, 0, 0) 0 ∧ Γ_19 (39, 0, 0) 4 = Γ (39, 0, 0) 4 ∧ Γ_19 (39, 0, 0) 6 = Γ (39, 0, 0) 6 ∧ Γ_19 (39, 0, 0) 7 = Γ (39, 0, 0) 7 ∧ Γ_19 (39, 0, 0) 8 = Γ (39, 0, 0) 8 ∧ Γ (39, 0, 0) 1 ≤ Γ_19 (39, 0, 0) 1 ∧ Γ_19 (39, 0, 0) 1 ≤ T0 ∧ fw (Γ (43, 8800, 0)) (Γ_19 (43, 8800, 0)) (Γ (44, 22, 0)) (Γ_19 (44, 22, 0)) t0 := hw_15
  have hfw := hfw.trans hw_15.2.2.2.2.2.2.2
  refine lv_if_ne (tgt := 9) hx hb dX12_term_4 (by decide) (fun c_22 => ?_) (fun c_22 => ?_)
  · have c_22 := hE_21.t c_22
    obtain ⟨hp, hsl, hz9⟩ := c_22
    have hz := hz.trans hz9
    refine tl_ind (G := fun H locs ls => W p l e ((headSpec (tl_w yX12_term cX12_term 2 (some .boolean)) ({ frames := 4, cells := 0, slots := 0, locals := 88 })).room) s m #[.ref o] below meth c H locs 0 0 (MQ below (va_Qi (fun (r : Int32) (u : (Nat → va_E) × tk_G) => tl_J r (ps (u.2 (43, 8800, 0)) t0 (u.2 (44, 22, 0) t0.toNat) (u.2 (39, 0, 0) 1) T0 (u.2 (39, 0, 0) 5) a (d + 1) ∧ Γ (39, 0, 0) 1 - Γ (44, 22, 0) t0.toNat ≤ u.2 (39, 0, 0) 1 - u.2 (44, 22, 0) t0.toNat ∧ fz (Γ (43, 8800, 0)) (u.2 (43, 8800, 0)) (Γ (44, 22, 0)) (u.2 (44, 22, 0)) t0) ∧ u.2 (39, 0, 0) 0 = Γ (39, 0, 0) 0 ∧ u.2 (39, 0, 0) 4 = Γ (39, 0, 0) 4 ∧ u.2 (39, 0, 0) 6 = Γ (39, 0, 0) 6 ∧ u.2 (39, 0, 0) 7 = Γ (39, 0, 0) 7 ∧ u.2 (39, 0, 0) 8 = Γ (39, 0, 0) 8 ∧ Γ (39, 0, 0) 1 ≤ u.2 (39, 0, 0) 1 ∧ u.2 (39, 0, 0) 1 ≤ T0 ∧ fw (Γ (43, 8800, 0)) (u.2 (43, 8800, 0)) (Γ (44, 22, 0)) (u.2 (44, 22, 0)) t0) (tp_BG D cy L K Γ f [39, 43, 44]) A) #[.ref o] s 0 0 A) (F0 m 9 ls [])) (α := (Nat → va_E) × tk_G) (fun aq => (400 - aq.2 (39, 0, 0) 1).toNat) (fun aq H locs ls => (ps (aq.2 (43, 8800, 0)) t0 (aq.2 (44, 22, 0) t0.toNat) (aq.2 (39, 0, 0) 1) T0 (aq.2 (39, 0, 0) 5) a (d + 1)) ∧ (fz (Γ (43, 8800, 0)) (aq.2 (43, 8800, 0)) (Γ (44, 22, 0)) (aq.2 (44, 22, 0)) t0) ∧ (fw (Γ (43, 8800, 0)) (aq.2 (43, 8800, 0)) (Γ (44, 22, 0)) (aq.2 (44, 22, 0)) t0) ∧ (Γ (39, 0, 0) 1 - Γ (44, 22, 0) t0.toNat ≤ aq.2 (39, 0, 0) 1 - aq.2 (44, 22, 0) t0.toNat) ∧ (aq.2 (39, 0, 0) 0 = Γ (39, 0, 0) 0) ∧ (aq.2 (39, 0, 0) 4 = Γ (39, 0, 0) 4) ∧ (aq.2 (39, 0, 0) 6 = Γ (39, 0, 0) 6) ∧ (aq.2 (39, 0, 0) 7 = Γ (39, 0, 0) 7) ∧ (aq.2 (39, 0, 0) 8 = Γ (39, 0, 0) 8) ∧ (Γ (39, 0, 0) 1 ≤ aq.2 (39, 0, 0) 1 ∧ aq.2 (39, 0, 0) 1 ≤ T0) ∧ va_P D vwCl (va_pl L aq.1) H ∧ tp_I cy L K aq.2 aq.1 ∧ (∀ b, (K b).1 ∉ ([39, 43, 44] : List Nat) → aq.1 b = f b) ∧ (∀ κ : tk_K, κ.1 ∉ ([39, 43, 44] : List Nat) → aq.2 κ = Γ κ) ∧ va_S A s.heap H locs ∧ lv_has ls 2 [(0, .ref o)]) ?_ (f_17, Γ_19) H locs ls ⟨(show ps (Γ_19 (43, 8800, 0)) t0 (Γ_19 (44, 22, 0) t0.toNat) (Γ_19 (39, 0, 0) 1) T0 (Γ_19 (39, 0, 0) 5) a (d + 1) from hp), (show fz (Γ (43, 8800, 0)) (Γ_19 (43, 8800, 0)) (Γ (44, 22, 0)) (Γ_19 (44, 22, 0)) t0 from hz), (show fw (Γ (43, 8800, 0)) (Γ_19 (43, 8800, 0)) (Γ (44, 22, 0)) (Γ_19 (44, 22, 0)) t0 from hfw), (show Γ (39, 0, 0) 1 - Γ (44, 22, 0) t0.toNat ≤ Γ_19 (39, 0, 0) 1 - Γ_19 (44, 22, 0) t0.toNat from (by omega)), (show Γ_19 (39, 0, 0) 0 = Γ (39, 0, 0) 0 from (by omega)), (show Γ_19 (39, 0, 0) 4 = Γ (39, 0, 0) 4 from (by omega)), (show Γ_19 (39, 0, 0) 6 = Γ (39, 0, 0) 6 from (by omega)), (show Γ_19 (39, 0, 0) 7 = Γ (39, 0, 0) 7 from (by omega)), (show Γ_19 (39, 0, 0) 8 = Γ (39, 0, 0) 8 from (by omega)), (show Γ (39, 0, 0) 1 ≤ Γ_19 (39, 0, 0) 1 ∧ Γ_19 (39, 0, 0) 1 ≤ T0 from (by omega)), hP, hI, hfr, hgr, hS, lv_sub hl [0] rfl⟩
    rintro ⟨f_23, Γ_24⟩ H locs ls ⟨hp, hz, hfw, hsl, q0, q4, q6, q7, q8, h1, hP, hI, hfr, hgr, hS, hl⟩ ih9
    have hgr : ∀ κ : tk_K, κ.1 ∉ ([39, 43, 44] : List Nat) → Γ_24 κ = Γ κ := hgr
    have hP : va_P D vwCl (va_pl L f_23) H := hP
    have hI : tp_I cy L K Γ_24 f_23 := hI
    have hfr : ∀ b, (K b).1 ∉ ([39, 43, 44] : List Nat) → f_23 b = f b := hfr
    have hD : va_D A (va_pl L f_23) := tp_D hL hAL
    have hp : ps (Γ_24 (43, 8800, 0)) t0 (Γ_24 (44, 22, 0) t0.toNat) (Γ_24 (39, 0, 0) 1) T0 (Γ_24 (39, 0, 0) 5) a (d + 1) := hp
    have hz : fz (Γ (43, 8800, 0)) (Γ_24 (43, 8800, 0)) (Γ (44, 22, 0)) (Γ_24 (44, 22, 0)) t0 := hz
    have hfw : fw (Γ (43, 8800, 0)) (Γ_24 (43, 8800, 0)) (Γ (44, 22, 0)) (Γ_24 (44, 22, 0)) t0 := hfw
    have hsl : Γ (39, 0, 0) 1 - Γ (44, 22, 0) t0.toNat ≤ Γ_24 (39, 0, 0) 1 - Γ_24 (44, 22, 0) t0.toNat := hsl
    have q0 : Γ_24 (39, 0, 0) 0 = Γ (39, 0, 0) 0 := q0
    have q4 : Γ_24 (39, 0, 0) 4 = Γ (39, 0, 0) 4 := q4
    have q6 : Γ_24 (39, 0, 0) 6 = Γ (39, 0, 0) 6 := q6
    have q7 : Γ_24 (39, 0, 0) 7 = Γ (39, 0, 0) 7 := q7
    have q8 : Γ_24 (39, 0, 0) 8 = Γ (39, 0, 0) 8 := q8
    have h1 : Γ (39, 0, 0) 1 ≤ Γ_24 (39, 0, 0) 1 ∧ Γ_24 (39, 0, 0) 1 ≤ T0 := h1
    have hl : lv_has ls 2 [(0, .ref o)] := hl
    refine lv_aload_n hx hb dX12_term_9 rfl (lv_at hl 0 rfl) ?_
    obtain ⟨r_26, v_27, q_28, hf_25, hr_29, hv_30⟩ := (show tp_o_M L K 0 0 (Γ_24 (39, 0, 0)) (f_23 o) from hI.at ho)
    refine tq_ciR hS (hAf _ hS.1) (tq_rV (As := []) (rest := []) ⟨hx, hb, hml, hown, hta⟩ (tp_P.pre hK hN hL hU hI hP) (tp_recv hK hP ho.1 hf_25 rfl) lk_X12_167 (r_X12_see l D cy H.size L K Γ_24 f_23 o τ T0 ho ((hgr _ (by decide)).trans ht) (by first | omega | (simp only [Int32.toInt_toInt64]; omega) | decide | assumption) (by first | omega | (simp only [Int32.toInt_toInt64]; omega) | decide | assumption)) rfl rfl ⟨Nat.le_of_ble_eq_true rfl, Nat.le_of_ble_eq_true rfl⟩ rfl hl.1 rfl (Nat.le_of_ble_eq_true rfl) dX12_term_10 ⟨Nat.le_of_ble_eq_true rfl, Nat.le_of_ble_eq_true rfl⟩) (fun r_40 f_41 Γ_43 H locs hw_39 hP hI hc_42 hcg_44 hS => ?_)
    have hD : va_D A (va_pl L f_41) := tp_D hL hAL
    have hfr := tp_fr2 hfr hc_42 (by decide)
    have hgr : ∀ κ : tk_K, κ.1 ∉ ([39, 43, 44] : List Nat) → Γ_43 κ = Γ κ := tg_fr2 hgr hcg_44 (by decide)
    have hw_39 : Γ_43 (39, 0, 0) 0 = Γ_24 (39, 0, 0) 0 ∧ Γ_43 (39, 0, 0) 3 = Γ_24 (39, 0, 0) 3 ∧ Γ_43 (39, 0, 0) 4 = Γ_24 (39, 0, 0) 4 ∧ Γ_43 (39, 0, 0) 5 = Γ_24 (39, 0, 0) 5 ∧ Γ_43 (39, 0, 0) 6 = Γ_24 (39, 0, 0) 6 ∧ Γ_43 (39, 0, 0) 7 = Γ_24 (39, 0, 0) 7 ∧ Γ_43 (39, 0, 0) 8 = Γ_24 (39, 0, 0) 8 ∧ Γ_24 (39, 0, 0) 1 ≤ Γ_43 (39, 0, 0) 1 ∧ Γ_43 (39, 0, 0) 1 ≤ T0 ∧ (¬ τ (Γ_24 (39, 0, 0) 1).toNat = 32 → Γ_43 (39, 0, 0) 1 = Γ_24 (39, 0, 0) 1) ∧ ((r_40.toInt = -1 ∧ Γ_43 (39, 0, 0) 1 = T0) ∨ (0 ≤ r_40.toInt ∧ r_40.toInt ≤ 255 ∧ Γ_43 (39, 0, 0) 1 < T0 ∧ ¬ τ (Γ_43 (39, 0, 0) 1).toNat = 32)) := hw_39
    obtain ⟨hpa, hpb, hpc, hpd, _⟩ := id hp
    have hle := congrFun (hcg_44 (44, 22, 0) (by decide)) t0.toNat
    have hp : ps (Γ_43 (43, 8800, 0)) t0 (Γ_43 (44, 22, 0) t0.toNat) (Γ_43 (39, 0, 0) 1) T0 (Γ_43 (39, 0, 0) 5) a (d + 1) := hp.eq (hcg_44 (43, 8800, 0) (by decide)) rfl (congrFun (hcg_44 (44, 22, 0) (by decide)) _) (by omega) rfl (by omega)
    have hz : fz (Γ (43, 8800, 0)) (Γ_43 (43, 8800, 0)) (Γ (44, 22, 0)) (Γ_43 (44, 22, 0)) t0 := by rw [(hcg_44 (43, 8800, 0) (by decide)), (hcg_44 (44, 22, 0) (by decide))]; exact hz
    have hfw : fw (Γ (43, 8800, 0)) (Γ_43 (43, 8800, 0)) (Γ (44, 22, 0)) (Γ_43 (44, 22, 0)) t0 := by rw [(hcg_44 (43, 8800, 0) (by decide)), (hcg_44 (44, 22, 0) (by decide))]; exact hfw
    refine lv_bipush (v := 42) hx hb dX12_term_13 (by decide) ?_
    refine lv_icmp_eq (tgt := 27) hx hb dX12_term_15 (by decide) (fun c_45 => ?_) (fun c_45 => ?_)
    · have c_45 : r_40.toInt = (42 : Int) := tl_eq c_45
      refine lv_aload_n hx hb dX12_term_27 rfl (lv_at hl 0 rfl) ?_
      obtain ⟨r_47, v_48, q_49, hf_46, hr_50, hv_51⟩ := (show tp_o_M L K 0 0 (Γ_43 (39, 0, 0)) (f_41 o) from hI.at ho)
      have hx_52 : (v_48 0).toInt = Γ_43 (39, 0, 0) 0 := hv_51 0 (by decide)
      have hx_53 : (v_48 1).toInt = Γ_43 (39, 0, 0) 1 := hv_51 1 (by decide)
      have hx_54 : (v_48 3).toInt = Γ_43 (39, 0, 0) 3 := hv_51 3 (by decide)
      have hx_55 : (v_48 4).toInt = Γ_43 (39, 0, 0) 4 := hv_51 4 (by decide)
      have hx_56 : (v_48 5).toInt = Γ_43 (39, 0, 0) 5 := hv_51 5 (by decide)
      have hx_57 : (v_48 6).toInt = Γ_43 (39, 0, 0) 6 := hv_51 6 (by decide)
      have hx_58 : (v_48 7).toInt = Γ_43 (39, 0, 0) 7 := hv_51 7 (by decide)
      have hx_59 : (v_48 8).toInt = Γ_43 (39, 0, 0) 8 := hv_51 8 (by decide)
      refine tp_get (cy := cy) (ci := 12) (v := .ref (r_47 1)) (C := RX12) (T := TX12) (N := 49) hx hb hta inlX12 hown hK hP ho.1 hf_46 rfl 1 (by decide) (hta _ wk_151) (fun _ h9 => h9) rfl dX12_term_28 ?_
      refine lv_aload_n hx hb dX12_term_31 rfl (lv_at hl 0 rfl) ?_
      refine tp_get (cy := cy) (ci := 12) (v := .int (v_48 1)) (C := RX12) (T := TX12) (N := 49) hx hb hta inlX12 hown hK hP ho.1 hf_46 rfl 17 (by decide) (hta _ wk_539) (fun _ h9 => h9) rfl dX12_term_32 ?_
      obtain ⟨g_61, hf_60, hg_62⟩ := (show tp_g8 cy (400) (Γ (41, 400, 0)) (f (r_47 1)) from hI0.at (show tp_r L K 41 400 0 (r_47 1) from hr_50 1 (by decide)))
      have hn_63 : vp_in (v_48 1) (400) := tl_in (by omega) (by omega)
      refine tp_bald (cy := cy) hx hb hK hP (show tp_r L K 41 400 0 (r_47 1) from hr_50 1 (by decide)).1 ((tp_un hfr (show tp_r L K 41 400 0 (r_47 1) from hr_50 1 (by decide)) (by decide)).trans hf_60) hn_63 dX12_term_35 ?_
      refine lv_topi (fun z_64 ez_64 => ?_)
      have iz_64 : z_64.toInt = τ (v_48 1).toInt.toNat := by rw [ez_64, ← ht]; exact hg_62 _ (tp_pin hn_63)
      have jz_64 : z_64.toInt = τ  (Γ_43 (39, 0, 0) 1).toNat := by rw [← hx_53]; exact iz_64
      refine lv_bipush (v := 42) hx hb dX12_term_36 (by decide) ?_
      refine lv_icmp_ne (tgt := 45) hx hb dX12_term_38 (by decide) (fun c_65 => ?_) (fun c_65 => ?_)
      · have c_65 : ¬ z_64.toInt = (42 : Int) := tl_neq c_65
        refine lv_iconst (v := 5) hx hb dX12_term_45 (by decide) ?_
        refine lv_istore_n (lv' := [(1, .int 5), (0, .ref o)]) hx hb dX12_term_46 rfl hl (by decide) rfl (fun ls hl => ?_)
        refine lv_aload_n hx hb dX12_term_47 rfl (lv_at hl 1 rfl) ?_
        refine lv_dup hx hb dX12_term_48 rfl ?_
        refine tp_get (cy := cy) (ci := 12) (v := .int (v_48 1)) (C := RX12) (T := TX12) (N := 49) hx hb hta inlX12 hown hK hP ho.1 hf_46 rfl 17 (by decide) (hta _ wk_539) (fun _ h9 => h9) rfl dX12_term_49 ?_
        refine lv_iconst (v := 1) hx hb dX12_term_52 (by decide) ?_
        refine lv_iadd hx hb dX12_term_53 ?_
        refine lv_topi (fun z_66 ez_66 => ?_)
        try have iz_66 : z_66.toInt = (v_48 1).toInt + (1 : Int) := by rw [ez_66]; exact tl_addN (v_48 1) 1 rfl rfl (by omega) (by omega)
        obtain ⟨Γ_67, eΓ_67⟩ : ∃ y : tk_G, y = tg Γ_43 (39, 0, 0) 1 z_66.toInt := ⟨_, rfl⟩
        have hv_68 : ∀ i : Nat, i < 16 → ((upd v_48 1 z_66) i).toInt = Γ_67 (39, 0, 0) i := by rw [eΓ_67, tg_f]; exact tp_gi_upd hv_51
        have hI9 : tp_I cy L K Γ_67 (va_up f_41 o (.inr (12, [.ref (r_47 0), .ref (r_47 1), .int (v_48 0), .ref (r_47 2), .ref (r_47 3), .ref (r_47 4), .ref (r_47 5), .ref (r_47 6), .ref (r_47 7), .ref (r_47 8), .ref (r_47 9), .ref (r_47 10), .ref (r_47 11), .ref (r_47 12), .ref (r_47 13), .ref (r_47 14), .ref (r_47 15), .int z_66, .int (v_48 2), .int (v_48 3), .int (v_48 4), .int (v_48 5), .int (v_48 6), .int (v_48 7), .ref (r_47 16), .int (v_48 8), .ref (r_47 17), .int (v_48 9), .ref (r_47 18), .long q_49, .ref (r_47 19), .ref (r_47 20), .int (v_48 10), .int (v_48 11), .int (v_48 12), .ref (r_47 21), .ref (r_47 22), .int (v_48 13), .ref (r_47 23), .int (v_48 14), .int (v_48 15), .ref (r_47 24), .ref (r_47 25), .ref (r_47 26), .ref (r_47 27), .ref (r_47 28), .ref (r_47 29), .ref (r_47 30), .ref (r_47 31)]))) := by have q9 := hv_68; rw [eΓ_67, tg_f] at q9; rw [eΓ_67]; exact hI.setg hU rfl ho (show tp_o_M L K 0 0 (tgu (Γ_43 (39, 0, 0)) 1 z_66.toInt) _ from ⟨r_47, (upd v_48 1 z_66), q_49, rfl, hr_50, q9⟩)
        have hfr9 : ∀ b, (K b).1 ∉ ([39, 43, 44] : List Nat) → va_up f_41 o (.inr (12, [.ref (r_47 0), .ref (r_47 1), .int (v_48 0), .ref (r_47 2), .ref (r_47 3), .ref (r_47 4), .ref (r_47 5), .ref (r_47 6), .ref (r_47 7), .ref (r_47 8), .ref (r_47 9), .ref (r_47 10), .ref (r_47 11), .ref (r_47 12), .ref (r_47 13), .ref (r_47 14), .ref (r_47 15), .int z_66, .int (v_48 2), .int (v_48 3), .int (v_48 4), .int (v_48 5), .int (v_48 6), .int (v_48 7), .ref (r_47 16), .int (v_48 8), .ref (r_47 17), .int (v_48 9), .ref (r_47 18), .long q_49, .ref (r_47 19), .ref (r_47 20), .int (v_48 10), .int (v_48 11), .int (v_48 12), .ref (r_47 21), .ref (r_47 22), .int (v_48 13), .ref (r_47 23), .int (v_48 14), .int (v_48 15), .ref (r_47 24), .ref (r_47 25), .ref (r_47 26), .ref (r_47 27), .ref (r_47 28), .ref (r_47 29), .ref (r_47 30), .ref (r_47 31)])) b = f b := tp_fr hfr ho (by decide)
        refine tp_put (cy := cy) (ci := 12) (v := .int z_66) (ty := tyX12 17) (C := RX12) (T := TX12) (N := 49) hx hb hta inlX12 tyX12 tyX12_ok nmX12 hown hK hP hD hS ho.1 hf_46 rfl 17 (by decide) (hta _ wk_539) (fun _ h9 => h9) rfl (tyX12_ok 17 (by decide)) rfl rfl (Nat.le_of_ble_eq_true rfl) dX12_term_54 (fun H locs hP hD hS => ?_)
        have hP : va_P D vwCl (va_pl L (va_up f_41 o (.inr (12, [.ref (r_47 0), .ref (r_47 1), .int (v_48 0), .ref (r_47 2), .ref (r_47 3), .ref (r_47 4), .ref (r_47 5), .ref (r_47 6), .ref (r_47 7), .ref (r_47 8), .ref (r_47 9), .ref (r_47 10), .ref (r_47 11), .ref (r_47 12), .ref (r_47 13), .ref (r_47 14), .ref (r_47 15), .int z_66, .int (v_48 2), .int (v_48 3), .int (v_48 4), .int (v_48 5), .int (v_48 6), .int (v_48 7), .ref (r_47 16), .int (v_48 8), .ref (r_47 17), .int (v_48 9), .ref (r_47 18), .long q_49, .ref (r_47 19), .ref (r_47 20), .int (v_48 10), .int (v_48 11), .int (v_48 12), .ref (r_47 21), .ref (r_47 22), .int (v_48 13), .ref (r_47 23), .int (v_48 14), .int (v_48 15), .ref (r_47 24), .ref (r_47 25), .ref (r_47 26), .ref (r_47 27), .ref (r_47 28), .ref (r_47 29), .ref (r_47 30), .ref (r_47 31)])))) H := hP
        generalize hfe : va_up f_41 o (.inr (12, [.ref (r_47 0), .ref (r_47 1), .int (v_48 0), .ref (r_47 2), .ref (r_47 3), .ref (r_47 4), .ref (r_47 5), .ref (r_47 6), .ref (r_47 7), .ref (r_47 8), .ref (r_47 9), .ref (r_47 10), .ref (r_47 11), .ref (r_47 12), .ref (r_47 13), .ref (r_47 14), .ref (r_47 15), .int z_66, .int (v_48 2), .int (v_48 3), .int (v_48 4), .int (v_48 5), .int (v_48 6), .int (v_48 7), .ref (r_47 16), .int (v_48 8), .ref (r_47 17), .int (v_48 9), .ref (r_47 18), .long q_49, .ref (r_47 19), .ref (r_47 20), .int (v_48 10), .int (v_48 11), .int (v_48 12), .ref (r_47 21), .ref (r_47 22), .int (v_48 13), .ref (r_47 23), .int (v_48 14), .int (v_48 15), .ref (r_47 24), .ref (r_47 25), .ref (r_47 26), .ref (r_47 27), .ref (r_47 28), .ref (r_47 29), .ref (r_47 30), .ref (r_47 31)])) = f_69 at hP hI9 hfr9
        have hD : va_D A (va_pl L f_69) := tp_D hL hAL
        have hf_70 : f_69 o = .inr (12, [.ref (r_47 0), .ref (r_47 1), .int (v_48 0), .ref (r_47 2), .ref (r_47 3), .ref (r_47 4), .ref (r_47 5), .ref (r_47 6), .ref (r_47 7), .ref (r_47 8), .ref (r_47 9), .ref (r_47 10), .ref (r_47 11), .ref (r_47 12), .ref (r_47 13), .ref (r_47 14), .ref (r_47 15), .int z_66, .int (v_48 2), .int (v_48 3), .int (v_48 4), .int (v_48 5), .int (v_48 6), .int (v_48 7), .ref (r_47 16), .int (v_48 8), .ref (r_47 17), .int (v_48 9), .ref (r_47 18), .long q_49, .ref (r_47 19), .ref (r_47 20), .int (v_48 10), .int (v_48 11), .int (v_48 12), .ref (r_47 21), .ref (r_47 22), .int (v_48 13), .ref (r_47 23), .int (v_48 14), .int (v_48 15), .ref (r_47 24), .ref (r_47 25), .ref (r_47 26), .ref (r_47 27), .ref (r_47 28), .ref (r_47 29), .ref (r_47 30), .ref (r_47 31)]) := by rw [← hfe]; exact va_up_self _ _ _
        clear hfe
        have hI := hI9
        have hfr := hfr9
        clear hI9 hfr9
        have hgr : ∀ κ : tk_K, κ.1 ∉ ([39, 43, 44] : List Nat) → Γ_67 κ = Γ κ := tg_fr hgr eΓ_67 (by decide)
        have hx_71 : (v_48 0).toInt = Γ_67 (39, 0, 0) 0 := hv_68 0 (by decide)
        have hx_72 : z_66.toInt = Γ_67 (39, 0, 0) 1 := hv_68 1 (by decide)
        have hx_73 : (v_48 3).toInt = Γ_67 (39, 0, 0) 3 := hv_68 3 (by decide)
        have hx_74 : (v_48 4).toInt = Γ_67 (39, 0, 0) 4 := hv_68 4 (by decide)
        have hx_75 : (v_48 5).toInt = Γ_67 (39, 0, 0) 5 := hv_68 5 (by decide)
        have hx_76 : (v_48 6).toInt = Γ_67 (39, 0, 0) 6 := hv_68 6 (by decide)
        have hx_77 : (v_48 7).toInt = Γ_67 (39, 0, 0) 7 := hv_68 7 (by decide)
        have hx_78 : (v_48 8).toInt = Γ_67 (39, 0, 0) 8 := hv_68 8 (by decide)
        obtain ⟨hpa, hpb, hpc, hpd, _⟩ := id hp
        have hle := congrFun (show Γ_67 (44, 22, 0) = _ from by rw [eΓ_67, tg_rf (by decide)]) t0.toNat
        have hp : ps (Γ_67 (43, 8800, 0)) t0 (Γ_67 (44, 22, 0) t0.toNat) (Γ_67 (39, 0, 0) 1) T0 (Γ_67 (39, 0, 0) 5) a (d + 1) := hp.eq (show Γ_67 (43, 8800, 0) = _ from by rw [eΓ_67, tg_rf (by decide)]) rfl (congrFun (show Γ_67 (44, 22, 0) = _ from by rw [eΓ_67, tg_rf (by decide)]) _) (by omega) rfl (by omega)
        have hz : fz (Γ (43, 8800, 0)) (Γ_67 (43, 8800, 0)) (Γ (44, 22, 0)) (Γ_67 (44, 22, 0)) t0 := by rw [(show Γ_67 (43, 8800, 0) = _ from by rw [eΓ_67, tg_rf (by decide)]), (show Γ_67 (44, 22, 0) = _ from by rw [eΓ_67, tg_rf (by decide)])]; exact hz
        have hfw : fw (Γ (43, 8800, 0)) (Γ_67 (43, 8800, 0)) (Γ (44, 22, 0)) (Γ_67 (44, 22, 0)) t0 := by rw [(show Γ_67 (43, 8800, 0) = _ from by rw [eΓ_67, tg_rf (by decide)]), (show Γ_67 (44, 22, 0) = _ from by rw [eΓ_67, tg_rf (by decide)])]; exact hfw
        refine lv_aload_n hx hb dX12_term_57 rfl (lv_at hl 1 rfl) ?_
        refine tq_ciR hS (hAf _ hS.1) (tq_rV (As := []) (rest := []) ⟨hx, hb, hml, hown, hta⟩ (tp_P.pre hK hN hL hU hI hP) (tp_recv hK hP ho.1 hf_70 rfl) lk_X12_242 (r_X12_value l D cy H.size L K Γ_67 f_69 o τ T0 t0 a (d + 1) ho ((hgr _ (by decide)).trans ht) (by first | omega | (simp only [Int32.toInt_toInt64]; omega) | decide | assumption) (by first | omega | (simp only [Int32.toInt_toInt64]; omega) | decide | assumption) (by first | omega | (simp only [Int32.toInt_toInt64]; omega) | decide | assumption) (by first | omega | (simp only [Int32.toInt_toInt64]; omega) | decide | assumption)) rfl rfl ⟨Nat.le_of_ble_eq_true rfl, Nat.le_of_ble_eq_true rfl⟩ rfl hl.1 rfl (Nat.le_of_ble_eq_true rfl) dX12_term_58 ⟨Nat.le_of_ble_eq_true rfl, Nat.le_of_ble_eq_true rfl⟩) (fun r_80 f_81 Γ_83 H locs hw_79 hP hI hc_82 hcg_84 hS => ?_)
        have hD : va_D A (va_pl L f_81) := tp_D hL hAL
        have hfr := tp_fr2 hfr hc_82 (by decide)
        have hgr : ∀ κ : tk_K, κ.1 ∉ ([39, 43, 44] : List Nat) → Γ_83 κ = Γ κ := tg_fr2 hgr hcg_84 (by decide)
        obtain ⟨hE_85, hw_79⟩ := hw_79
        have hE_85 : tl_J r_80 (ps (Γ_83 (43, 8800, 0)) t0 (Γ_83 (44, 22, 0) t0.toNat) (Γ_83 (39, 0, 0) 1) T0 (Γ_83 (39, 0, 0) 5) a ((d + 1) + 1) ∧ Γ_67 (39, 0, 0) 1 - Γ_67 (44, 22, 0) t0.toNat ≤ Γ_83 (39, 0, 0) 1 - Γ_83 (44, 22, 0) t0.toNat ∧ fz (Γ_67 (43, 8800, 0)) (Γ_83 (43, 8800, 0)) (Γ_67 (44, 22, 0)) (Γ_83 (44, 22, 0)) t0) := hE_85
        have hw_79 : Γ_83 (39, 0, 0) 0 = Γ_67 (39, 0, 0) 0 ∧ Γ_83 (39, 0, 0) 4 = Γ_67 (39, 0, 0) 4 ∧ Γ_83 (39, 0, 0) 6 = Γ_67 (39, 0, 0) 6 ∧ Γ_83 (39, 0, 0) 7 = Γ_67 (39, 0, 0) 7 ∧ Γ_83 (39, 0, 0) 8 = Γ_67 (39, 0, 0) 8 ∧ Γ_67 (39, 0, 0) 1 ≤ Γ_83 (39, 0, 0) 1 ∧ Γ_83 (39, 0, 0) 1 ≤ T0 ∧ fw (Γ_67 (43, 8800, 0)) (Γ_83 (43, 8800, 0)) (Γ_67 (44, 22, 0)) (Γ_83 (44, 22, 0)) t0 := hw_79
        have hfw := hfw.trans hw_79.2.2.2.2.2.2.2
        refine lv_if_ne (tgt := 66) hx hb dX12_term_61 (by decide) (fun c_86 => ?_) (fun c_86 => ?_)
        · have c_86 := hE_85.t c_86
          obtain ⟨hp, hsl, hz9⟩ := c_86
          have hz := hz.trans hz9
          refine lv_aload_n hx hb dX12_term_66 rfl (lv_at hl 1 rfl) ?_
          refine lv_iload_n hx hb dX12_term_67 rfl (lv_at hl 0 rfl) ?_
          refine lv_iconst (v := 0) hx hb dX12_term_68 (by decide) ?_
          obtain ⟨hpa, hpb, hpc, hpd, _⟩ := id hp
          obtain ⟨r_88, v_89, q_90, hf_87, hr_91, hv_92⟩ := (show tp_o_M L K 0 0 (Γ_83 (39, 0, 0)) (f_81 o) from hI.at ho)
          have hx_93 : (v_89 0).toInt = Γ_83 (39, 0, 0) 0 := hv_92 0 (by decide)
          have hx_94 : (v_89 1).toInt = Γ_83 (39, 0, 0) 1 := hv_92 1 (by decide)
          have hx_95 : (v_89 3).toInt = Γ_83 (39, 0, 0) 3 := hv_92 3 (by decide)
          have hx_96 : (v_89 4).toInt = Γ_83 (39, 0, 0) 4 := hv_92 4 (by decide)
          have hx_97 : (v_89 5).toInt = Γ_83 (39, 0, 0) 5 := hv_92 5 (by decide)
          have hx_98 : (v_89 6).toInt = Γ_83 (39, 0, 0) 6 := hv_92 6 (by decide)
          have hx_99 : (v_89 7).toInt = Γ_83 (39, 0, 0) 7 := hv_92 7 (by decide)
          have hx_100 : (v_89 8).toInt = Γ_83 (39, 0, 0) 8 := hv_92 8 (by decide)
          refine tq_cvR hS (hAf _ hS.1) (tq_rV (As := [.int 5, .int 0]) (rest := []) ⟨hx, hb, hml, hown, hta⟩ (tp_P.pre hK hN hL hU hI hP) (tp_recv hK hP ho.1 hf_87 rfl) lk_X12_228 (r_X12_puts l D cy H.size L K Γ_83 f_81 o 5 0 t0 ho (by first | omega | (simp only [Int32.toInt_toInt64]; omega) | decide | assumption) (by first | omega | (simp only [Int32.toInt_toInt64]; omega) | decide | assumption) (by first | omega | (simp only [Int32.toInt_toInt64]; omega) | decide | assumption) (by first | omega | (simp only [Int32.toInt_toInt64]; omega) | decide | assumption)) rfl rfl ⟨Nat.le_of_ble_eq_true rfl, Nat.le_of_ble_eq_true rfl⟩ rfl hl.1 rfl (Nat.le_of_ble_eq_true rfl) dX12_term_69 ⟨Nat.le_of_ble_eq_true rfl, Nat.le_of_ble_eq_true rfl⟩) (fun f_103 Γ_105 H locs hw_101 hP hI hc_104 hcg_106 hS => ?_)
          have hD : va_D A (va_pl L f_103) := tp_D hL hAL
          have hfr := tp_fr2 hfr hc_104 (by decide)
          have hgr : ∀ κ : tk_K, κ.1 ∉ ([39, 43, 44] : List Nat) → Γ_105 κ = Γ κ := tg_fr2 hgr hcg_106 (by decide)
          have hf_107 := (tp_un hc_104 ho (by decide)).trans hf_87
          have hv_108 : ∀ i : Nat, i < 16 → (v_89 i).toInt = Γ_105 (39, 0, 0) i := fun i hi => by rw [hcg_106 _ (by decide)]; exact hv_92 i hi
          have hx_109 : (v_89 0).toInt = Γ_105 (39, 0, 0) 0 := hv_108 0 (by decide)
          have hx_110 : (v_89 1).toInt = Γ_105 (39, 0, 0) 1 := hv_108 1 (by decide)
          have hx_111 : (v_89 3).toInt = Γ_105 (39, 0, 0) 3 := hv_108 3 (by decide)
          have hx_112 : (v_89 4).toInt = Γ_105 (39, 0, 0) 4 := hv_108 4 (by decide)
          have hx_113 : (v_89 5).toInt = Γ_105 (39, 0, 0) 5 := hv_108 5 (by decide)
          have hx_114 : (v_89 6).toInt = Γ_105 (39, 0, 0) 6 := hv_108 6 (by decide)
          have hx_115 : (v_89 7).toInt = Γ_105 (39, 0, 0) 7 := hv_108 7 (by decide)
          have hx_116 : (v_89 8).toInt = Γ_105 (39, 0, 0) 8 := hv_108 8 (by decide)
          have mk_105_0 : Γ_105 (39, 0, 0) 0 = Γ_83 (39, 0, 0) 0 := congrFun (hcg_106 (39, 0, 0) (by decide)) 0
          have mk_105_1 : Γ_105 (39, 0, 0) 1 = Γ_83 (39, 0, 0) 1 := congrFun (hcg_106 (39, 0, 0) (by decide)) 1
          have mk_105_3 : Γ_105 (39, 0, 0) 3 = Γ_83 (39, 0, 0) 3 := congrFun (hcg_106 (39, 0, 0) (by decide)) 3
          have mk_105_4 : Γ_105 (39, 0, 0) 4 = Γ_83 (39, 0, 0) 4 := congrFun (hcg_106 (39, 0, 0) (by decide)) 4
          have mk_105_5 : Γ_105 (39, 0, 0) 5 = Γ_83 (39, 0, 0) 5 := congrFun (hcg_106 (39, 0, 0) (by decide)) 5
          have mk_105_6 : Γ_105 (39, 0, 0) 6 = Γ_83 (39, 0, 0) 6 := congrFun (hcg_106 (39, 0, 0) (by decide)) 6
          have mk_105_7 : Γ_105 (39, 0, 0) 7 = Γ_83 (39, 0, 0) 7 := congrFun (hcg_106 (39, 0, 0) (by decide)) 7
          have mk_105_8 : Γ_105 (39, 0, 0) 8 = Γ_83 (39, 0, 0) 8 := congrFun (hcg_106 (39, 0, 0) (by decide)) 8
          have hw_101 : Γ_105 (43, 8800, 0) = tgu (Γ_83 (43, 8800, 0)) (400 * t0 + Γ_83 (44, 22, 0) t0.toNat).toNat ((5 : Int) + 16 * (0 : Int)) ∧ Γ_105 (44, 22, 0) = tgu (Γ_83 (44, 22, 0)) t0.toNat (Γ_83 (44, 22, 0) t0.toNat + 1) := hw_101
          obtain ⟨hpa, hpb, hpc, hpd, _⟩ := id hp
          have hlem : rp_ok ((5 : Int) + 16 * (0 : Int)) ((d + 1) + 1) ∧ rp_d ((5 : Int) + 16 * (0 : Int)) = -1 := (rp_two (by omega) (by omega))
          have hput := hp.put (e := ((5 : Int) + 16 * (0 : Int))) (by omega) hlem.1 (by rw [hlem.2]; omega)
          rw [hlem.2] at hput
          have hln2 : Γ_105 (44, 22, 0) t0.toNat = Γ_83 (44, 22, 0) t0.toNat + 1 := by rw [hw_101.2, tgu_s]
          have hfz2 : fz (Γ_83 (43, 8800, 0)) (Γ_105 (43, 8800, 0)) (Γ_83 (44, 22, 0)) (Γ_105 (44, 22, 0)) t0 := by rw [hw_101.1, hw_101.2]; exact fz.put (by omega) (by omega)
          have hp : ps (Γ_105 (43, 8800, 0)) t0 (Γ_105 (44, 22, 0) t0.toNat) (Γ_105 (39, 0, 0) 1) T0 (Γ_105 (39, 0, 0) 5) a ((d + 1) + 1 + -1) := by rw [hln2, hw_101.1, show Γ_105 (39, 0, 0) 1 = Γ_83 (39, 0, 0) 1 from by omega, show Γ_105 (39, 0, 0) 5 = Γ_83 (39, 0, 0) 5 from by omega]; exact hput
          have hz := hz.trans hfz2
          have hfw := hfw.trans (hfz2.fw (by omega))
          refine lv_goto (tgt := 9) hx hb dX12_term_72 (by decide) ?_
          exact ih9 (f_103, Γ_105) H locs ls (by show (400 - Γ_105 (39, 0, 0) 1).toNat < (400 - Γ_24 (39, 0, 0) 1).toNat; omega) ⟨(show ps (Γ_105 (43, 8800, 0)) t0 (Γ_105 (44, 22, 0) t0.toNat) (Γ_105 (39, 0, 0) 1) T0 (Γ_105 (39, 0, 0) 5) a (d + 1) from (by have h9 := hp; rw [show (d + 1) + 1 + -1 = d + 1 from by omega] at h9; exact h9)), (show fz (Γ (43, 8800, 0)) (Γ_105 (43, 8800, 0)) (Γ (44, 22, 0)) (Γ_105 (44, 22, 0)) t0 from hz), (show fw (Γ (43, 8800, 0)) (Γ_105 (43, 8800, 0)) (Γ (44, 22, 0)) (Γ_105 (44, 22, 0)) t0 from hfw), (show Γ (39, 0, 0) 1 - Γ (44, 22, 0) t0.toNat ≤ Γ_105 (39, 0, 0) 1 - Γ_105 (44, 22, 0) t0.toNat from (by omega)), (show Γ_105 (39, 0, 0) 0 = Γ (39, 0, 0) 0 from (by omega)), (show Γ_105 (39, 0, 0) 4 = Γ (39, 0, 0) 4 from (by omega)), (show Γ_105 (39, 0, 0) 6 = Γ (39, 0, 0) 6 from (by omega)), (show Γ_105 (39, 0, 0) 7 = Γ (39, 0, 0) 7 from (by omega)), (show Γ_105 (39, 0, 0) 8 = Γ (39, 0, 0) 8 from (by omega)), (show Γ (39, 0, 0) 1 ≤ Γ_105 (39, 0, 0) 1 ∧ Γ_105 (39, 0, 0) 1 ≤ T0 from (by omega)), hP, hI, hfr, hgr, hS, lv_sub hl [1] rfl⟩
        · have c_86 := c_86
          refine lv_iconst (v := 0) hx hb dX12_term_64 (by decide) ?_
          have hpo9 : tl_J (0 : Int32) (ps (Γ_83 (43, 8800, 0)) t0 (Γ_83 (44, 22, 0) t0.toNat) (Γ_83 (39, 0, 0) 1) T0 (Γ_83 (39, 0, 0) 5) a (d + 1) ∧ Γ (39, 0, 0) 1 - Γ (44, 22, 0) t0.toNat ≤ Γ_83 (39, 0, 0) 1 - Γ_83 (44, 22, 0) t0.toNat ∧ fz (Γ (43, 8800, 0)) (Γ_83 (43, 8800, 0)) (Γ (44, 22, 0)) (Γ_83 (44, 22, 0)) t0) ∧ Γ_83 (39, 0, 0) 0 = Γ (39, 0, 0) 0 ∧ Γ_83 (39, 0, 0) 4 = Γ (39, 0, 0) 4 ∧ Γ_83 (39, 0, 0) 6 = Γ (39, 0, 0) 6 ∧ Γ_83 (39, 0, 0) 7 = Γ (39, 0, 0) 7 ∧ Γ_83 (39, 0, 0) 8 = Γ (39, 0, 0) 8 ∧ Γ (39, 0, 0) 1 ≤ Γ_83 (39, 0, 0) 1 ∧ Γ_83 (39, 0, 0) 1 ≤ T0 ∧ fw (Γ (43, 8800, 0)) (Γ_83 (43, 8800, 0)) (Γ (44, 22, 0)) (Γ_83 (44, 22, 0)) t0 := ⟨(Or.inr rfl), ⟨(by omega), (by omega), (by omega), (by omega), (by omega), (by omega), (by omega), hfw⟩⟩
          exact W.zret (ty := .boolean) (v := 0) hx hb hr rfl (fun t ht hW => ⟨⟨_, (f_81, Γ_83), rfl, hpo9, by rw [ht]; exact hP, hI, hfr, hgr⟩, hS.F ht⟩) hS.2.2 dX12_term_65
      · have c_65 : z_64.toInt = (42 : Int) := tl_eq c_65
        refine lv_iconst (v := 4) hx hb dX12_term_41 (by decide) ?_
        refine lv_goto (tgt := 46) hx hb dX12_term_42 (by decide) ?_
        refine lv_istore_n (lv' := [(1, .int 4), (0, .ref o)]) hx hb dX12_term_46 rfl hl (by decide) rfl (fun ls hl => ?_)
        refine lv_aload_n hx hb dX12_term_47 rfl (lv_at hl 1 rfl) ?_
        refine lv_dup hx hb dX12_term_48 rfl ?_
        refine tp_get (cy := cy) (ci := 12) (v := .int (v_48 1)) (C := RX12) (T := TX12) (N := 49) hx hb hta inlX12 hown hK hP ho.1 hf_46 rfl 17 (by decide) (hta _ wk_539) (fun _ h9 => h9) rfl dX12_term_49 ?_
        refine lv_iconst (v := 1) hx hb dX12_term_52 (by decide) ?_
        refine lv_iadd hx hb dX12_term_53 ?_
        refine lv_topi (fun z_117 ez_117 => ?_)
        try have iz_117 : z_117.toInt = (v_48 1).toInt + (1 : Int) := by rw [ez_117]; exact tl_addN (v_48 1) 1 rfl rfl (by omega) (by omega)
        obtain ⟨Γ_118, eΓ_118⟩ : ∃ y : tk_G, y = tg Γ_43 (39, 0, 0) 1 z_117.toInt := ⟨_, rfl⟩
        have hv_119 : ∀ i : Nat, i < 16 → ((upd v_48 1 z_117) i).toInt = Γ_118 (39, 0, 0) i := by rw [eΓ_118, tg_f]; exact tp_gi_upd hv_51
        have hI9 : tp_I cy L K Γ_118 (va_up f_41 o (.inr (12, [.ref (r_47 0), .ref (r_47 1), .int (v_48 0), .ref (r_47 2), .ref (r_47 3), .ref (r_47 4), .ref (r_47 5), .ref (r_47 6), .ref (r_47 7), .ref (r_47 8), .ref (r_47 9), .ref (r_47 10), .ref (r_47 11), .ref (r_47 12), .ref (r_47 13), .ref (r_47 14), .ref (r_47 15), .int z_117, .int (v_48 2), .int (v_48 3), .int (v_48 4), .int (v_48 5), .int (v_48 6), .int (v_48 7), .ref (r_47 16), .int (v_48 8), .ref (r_47 17), .int (v_48 9), .ref (r_47 18), .long q_49, .ref (r_47 19), .ref (r_47 20), .int (v_48 10), .int (v_48 11), .int (v_48 12), .ref (r_47 21), .ref (r_47 22), .int (v_48 13), .ref (r_47 23), .int (v_48 14), .int (v_48 15), .ref (r_47 24), .ref (r_47 25), .ref (r_47 26), .ref (r_47 27), .ref (r_47 28), .ref (r_47 29), .ref (r_47 30), .ref (r_47 31)]))) := by have q9 := hv_119; rw [eΓ_118, tg_f] at q9; rw [eΓ_118]; exact hI.setg hU rfl ho (show tp_o_M L K 0 0 (tgu (Γ_43 (39, 0, 0)) 1 z_117.toInt) _ from ⟨r_47, (upd v_48 1 z_117), q_49, rfl, hr_50, q9⟩)
        have hfr9 : ∀ b, (K b).1 ∉ ([39, 43, 44] : List Nat) → va_up f_41 o (.inr (12, [.ref (r_47 0), .ref (r_47 1), .int (v_48 0), .ref (r_47 2), .ref (r_47 3), .ref (r_47 4), .ref (r_47 5), .ref (r_47 6), .ref (r_47 7), .ref (r_47 8), .ref (r_47 9), .ref (r_47 10), .ref (r_47 11), .ref (r_47 12), .ref (r_47 13), .ref (r_47 14), .ref (r_47 15), .int z_117, .int (v_48 2), .int (v_48 3), .int (v_48 4), .int (v_48 5), .int (v_48 6), .int (v_48 7), .ref (r_47 16), .int (v_48 8), .ref (r_47 17), .int (v_48 9), .ref (r_47 18), .long q_49, .ref (r_47 19), .ref (r_47 20), .int (v_48 10), .int (v_48 11), .int (v_48 12), .ref (r_47 21), .ref (r_47 22), .int (v_48 13), .ref (r_47 23), .int (v_48 14), .int (v_48 15), .ref (r_47 24), .ref (r_47 25), .ref (r_47 26), .ref (r_47 27), .ref (r_47 28), .ref (r_47 29), .ref (r_47 30), .ref (r_47 31)])) b = f b := tp_fr hfr ho (by decide)
        refine tp_put (cy := cy) (ci := 12) (v := .int z_117) (ty := tyX12 17) (C := RX12) (T := TX12) (N := 49) hx hb hta inlX12 tyX12 tyX12_ok nmX12 hown hK hP hD hS ho.1 hf_46 rfl 17 (by decide) (hta _ wk_539) (fun _ h9 => h9) rfl (tyX12_ok 17 (by decide)) rfl rfl (Nat.le_of_ble_eq_true rfl) dX12_term_54 (fun H locs hP hD hS => ?_)
        have hP : va_P D vwCl (va_pl L (va_up f_41 o (.inr (12, [.ref (r_47 0), .ref (r_47 1), .int (v_48 0), .ref (r_47 2), .ref (r_47 3), .ref (r_47 4), .ref (r_47 5), .ref (r_47 6), .ref (r_47 7), .ref (r_47 8), .ref (r_47 9), .ref (r_47 10), .ref (r_47 11), .ref (r_47 12), .ref (r_47 13), .ref (r_47 14), .ref (r_47 15), .int z_117, .int (v_48 2), .int (v_48 3), .int (v_48 4), .int (v_48 5), .int (v_48 6), .int (v_48 7), .ref (r_47 16), .int (v_48 8), .ref (r_47 17), .int (v_48 9), .ref (r_47 18), .long q_49, .ref (r_47 19), .ref (r_47 20), .int (v_48 10), .int (v_48 11), .int (v_48 12), .ref (r_47 21), .ref (r_47 22), .int (v_48 13), .ref (r_47 23), .int (v_48 14), .int (v_48 15), .ref (r_47 24), .ref (r_47 25), .ref (r_47 26), .ref (r_47 27), .ref (r_47 28), .ref (r_47 29), .ref (r_47 30), .ref (r_47 31)])))) H := hP
        generalize hfe : va_up f_41 o (.inr (12, [.ref (r_47 0), .ref (r_47 1), .int (v_48 0), .ref (r_47 2), .ref (r_47 3), .ref (r_47 4), .ref (r_47 5), .ref (r_47 6), .ref (r_47 7), .ref (r_47 8), .ref (r_47 9), .ref (r_47 10), .ref (r_47 11), .ref (r_47 12), .ref (r_47 13), .ref (r_47 14), .ref (r_47 15), .int z_117, .int (v_48 2), .int (v_48 3), .int (v_48 4), .int (v_48 5), .int (v_48 6), .int (v_48 7), .ref (r_47 16), .int (v_48 8), .ref (r_47 17), .int (v_48 9), .ref (r_47 18), .long q_49, .ref (r_47 19), .ref (r_47 20), .int (v_48 10), .int (v_48 11), .int (v_48 12), .ref (r_47 21), .ref (r_47 22), .int (v_48 13), .ref (r_47 23), .int (v_48 14), .int (v_48 15), .ref (r_47 24), .ref (r_47 25), .ref (r_47 26), .ref (r_47 27), .ref (r_47 28), .ref (r_47 29), .ref (r_47 30), .ref (r_47 31)])) = f_120 at hP hI9 hfr9
        have hD : va_D A (va_pl L f_120) := tp_D hL hAL
        have hf_121 : f_120 o = .inr (12, [.ref (r_47 0), .ref (r_47 1), .int (v_48 0), .ref (r_47 2), .ref (r_47 3), .ref (r_47 4), .ref (r_47 5), .ref (r_47 6), .ref (r_47 7), .ref (r_47 8), .ref (r_47 9), .ref (r_47 10), .ref (r_47 11), .ref (r_47 12), .ref (r_47 13), .ref (r_47 14), .ref (r_47 15), .int z_117, .int (v_48 2), .int (v_48 3), .int (v_48 4), .int (v_48 5), .int (v_48 6), .int (v_48 7), .ref (r_47 16), .int (v_48 8), .ref (r_47 17), .int (v_48 9), .ref (r_47 18), .long q_49, .ref (r_47 19), .ref (r_47 20), .int (v_48 10), .int (v_48 11), .int (v_48 12), .ref (r_47 21), .ref (r_47 22), .int (v_48 13), .ref (r_47 23), .int (v_48 14), .int (v_48 15), .ref (r_47 24), .ref (r_47 25), .ref (r_47 26), .ref (r_47 27), .ref (r_47 28), .ref (r_47 29), .ref (r_47 30), .ref (r_47 31)]) := by rw [← hfe]; exact va_up_self _ _ _
        clear hfe
        have hI := hI9
        have hfr := hfr9
        clear hI9 hfr9
        have hgr : ∀ κ : tk_K, κ.1 ∉ ([39, 43, 44] : List Nat) → Γ_118 κ = Γ κ := tg_fr hgr eΓ_118 (by decide)
        have hx_122 : (v_48 0).toInt = Γ_118 (39, 0, 0) 0 := hv_119 0 (by decide)
        have hx_123 : z_117.toInt = Γ_118 (39, 0, 0) 1 := hv_119 1 (by decide)
        have hx_124 : (v_48 3).toInt = Γ_118 (39, 0, 0) 3 := hv_119 3 (by decide)
        have hx_125 : (v_48 4).toInt = Γ_118 (39, 0, 0) 4 := hv_119 4 (by decide)
        have hx_126 : (v_48 5).toInt = Γ_118 (39, 0, 0) 5 := hv_119 5 (by decide)
        have hx_127 : (v_48 6).toInt = Γ_118 (39, 0, 0) 6 := hv_119 6 (by decide)
        have hx_128 : (v_48 7).toInt = Γ_118 (39, 0, 0) 7 := hv_119 7 (by decide)
        have hx_129 : (v_48 8).toInt = Γ_118 (39, 0, 0) 8 := hv_119 8 (by decide)
        obtain ⟨hpa, hpb, hpc, hpd, _⟩ := id hp
        have hle := congrFun (show Γ_118 (44, 22, 0) = _ from by rw [eΓ_118, tg_rf (by decide)]) t0.toNat
        have hp : ps (Γ_118 (43, 8800, 0)) t0 (Γ_118 (44, 22, 0) t0.toNat) (Γ_118 (39, 0, 0) 1) T0 (Γ_118 (39, 0, 0) 5) a (d + 1) := hp.eq (show Γ_118 (43, 8800, 0) = _ from by rw [eΓ_118, tg_rf (by decide)]) rfl (congrFun (show Γ_118 (44, 22, 0) = _ from by rw [eΓ_118, tg_rf (by decide)]) _) (by omega) rfl (by omega)
        have hz : fz (Γ (43, 8800, 0)) (Γ_118 (43, 8800, 0)) (Γ (44, 22, 0)) (Γ_118 (44, 22, 0)) t0 := by rw [(show Γ_118 (43, 8800, 0) = _ from by rw [eΓ_118, tg_rf (by decide)]), (show Γ_118 (44, 22, 0) = _ from by rw [eΓ_118, tg_rf (by decide)])]; exact hz
        have hfw : fw (Γ (43, 8800, 0)) (Γ_118 (43, 8800, 0)) (Γ (44, 22, 0)) (Γ_118 (44, 22, 0)) t0 := by rw [(show Γ_118 (43, 8800, 0) = _ from by rw [eΓ_118, tg_rf (by decide)]), (show Γ_118 (44, 22, 0) = _ from by rw [eΓ_118, tg_rf (by decide)])]; exact hfw
        refine lv_aload_n hx hb dX12_term_57 rfl (lv_at hl 1 rfl) ?_
        refine tq_ciR hS (hAf _ hS.1) (tq_rV (As := []) (rest := []) ⟨hx, hb, hml, hown, hta⟩ (tp_P.pre hK hN hL hU hI hP) (tp_recv hK hP ho.1 hf_121 rfl) lk_X12_242 (r_X12_value l D cy H.size L K Γ_118 f_120 o τ T0 t0 a (d + 1) ho ((hgr _ (by decide)).trans ht) (by first | omega | (simp only [Int32.toInt_toInt64]; omega) | decide | assumption) (by first | omega | (simp only [Int32.toInt_toInt64]; omega) | decide | assumption) (by first | omega | (simp only [Int32.toInt_toInt64]; omega) | decide | assumption) (by first | omega | (simp only [Int32.toInt_toInt64]; omega) | decide | assumption)) rfl rfl ⟨Nat.le_of_ble_eq_true rfl, Nat.le_of_ble_eq_true rfl⟩ rfl hl.1 rfl (Nat.le_of_ble_eq_true rfl) dX12_term_58 ⟨Nat.le_of_ble_eq_true rfl, Nat.le_of_ble_eq_true rfl⟩) (fun r_131 f_132 Γ_134 H locs hw_130 hP hI hc_133 hcg_135 hS => ?_)
        have hD : va_D A (va_pl L f_132) := tp_D hL hAL
        have hfr := tp_fr2 hfr hc_133 (by decide)
        have hgr : ∀ κ : tk_K, κ.1 ∉ ([39, 43, 44] : List Nat) → Γ_134 κ = Γ κ := tg_fr2 hgr hcg_135 (by decide)
        obtain ⟨hE_136, hw_130⟩ := hw_130
        have hE_136 : tl_J r_131 (ps (Γ_134 (43, 8800, 0)) t0 (Γ_134 (44, 22, 0) t0.toNat) (Γ_134 (39, 0, 0) 1) T0 (Γ_134 (39, 0, 0) 5) a ((d + 1) + 1) ∧ Γ_118 (39, 0, 0) 1 - Γ_118 (44, 22, 0) t0.toNat ≤ Γ_134 (39, 0, 0) 1 - Γ_134 (44, 22, 0) t0.toNat ∧ fz (Γ_118 (43, 8800, 0)) (Γ_134 (43, 8800, 0)) (Γ_118 (44, 22, 0)) (Γ_134 (44, 22, 0)) t0) := hE_136
        have hw_130 : Γ_134 (39, 0, 0) 0 = Γ_118 (39, 0, 0) 0 ∧ Γ_134 (39, 0, 0) 4 = Γ_118 (39, 0, 0) 4 ∧ Γ_134 (39, 0, 0) 6 = Γ_118 (39, 0, 0) 6 ∧ Γ_134 (39, 0, 0) 7 = Γ_118 (39, 0, 0) 7 ∧ Γ_134 (39, 0, 0) 8 = Γ_118 (39, 0, 0) 8 ∧ Γ_118 (39, 0, 0) 1 ≤ Γ_134 (39, 0, 0) 1 ∧ Γ_134 (39, 0, 0) 1 ≤ T0 ∧ fw (Γ_118 (43, 8800, 0)) (Γ_134 (43, 8800, 0)) (Γ_118 (44, 22, 0)) (Γ_134 (44, 22, 0)) t0 := hw_130
        have hfw := hfw.trans hw_130.2.2.2.2.2.2.2
        refine lv_if_ne (tgt := 66) hx hb dX12_term_61 (by decide) (fun c_137 => ?_) (fun c_137 => ?_)
        · have c_137 := hE_136.t c_137
          obtain ⟨hp, hsl, hz9⟩ := c_137
          have hz := hz.trans hz9
          refine lv_aload_n hx hb dX12_term_66 rfl (lv_at hl 1 rfl) ?_
          refine lv_iload_n hx hb dX12_term_67 rfl (lv_at hl 0 rfl) ?_
          refine lv_iconst (v := 0) hx hb dX12_term_68 (by decide) ?_
          obtain ⟨hpa, hpb, hpc, hpd, _⟩ := id hp
          obtain ⟨r_139, v_140, q_141, hf_138, hr_142, hv_143⟩ := (show tp_o_M L K 0 0 (Γ_134 (39, 0, 0)) (f_132 o) from hI.at ho)
          have hx_144 : (v_140 0).toInt = Γ_134 (39, 0, 0) 0 := hv_143 0 (by decide)
          have hx_145 : (v_140 1).toInt = Γ_134 (39, 0, 0) 1 := hv_143 1 (by decide)
          have hx_146 : (v_140 3).toInt = Γ_134 (39, 0, 0) 3 := hv_143 3 (by decide)
          have hx_147 : (v_140 4).toInt = Γ_134 (39, 0, 0) 4 := hv_143 4 (by decide)
          have hx_148 : (v_140 5).toInt = Γ_134 (39, 0, 0) 5 := hv_143 5 (by decide)
          have hx_149 : (v_140 6).toInt = Γ_134 (39, 0, 0) 6 := hv_143 6 (by decide)
          have hx_150 : (v_140 7).toInt = Γ_134 (39, 0, 0) 7 := hv_143 7 (by decide)
          have hx_151 : (v_140 8).toInt = Γ_134 (39, 0, 0) 8 := hv_143 8 (by decide)
          refine tq_cvR hS (hAf _ hS.1) (tq_rV (As := [.int 4, .int 0]) (rest := []) ⟨hx, hb, hml, hown, hta⟩ (tp_P.pre hK hN hL hU hI hP) (tp_recv hK hP ho.1 hf_138 rfl) lk_X12_228 (r_X12_puts l D cy H.size L K Γ_134 f_132 o 4 0 t0 ho (by first | omega | (simp only [Int32.toInt_toInt64]; omega) | decide | assumption) (by first | omega | (simp only [Int32.toInt_toInt64]; omega) | decide | assumption) (by first | omega | (simp only [Int32.toInt_toInt64]; omega) | decide | assumption) (by first | omega | (simp only [Int32.toInt_toInt64]; omega) | decide | assumption)) rfl rfl ⟨Nat.le_of_ble_eq_true rfl, Nat.le_of_ble_eq_true rfl⟩ rfl hl.1 rfl (Nat.le_of_ble_eq_true rfl) dX12_term_69 ⟨Nat.le_of_ble_eq_true rfl, Nat.le_of_ble_eq_true rfl⟩) (fun f_154 Γ_156 H locs hw_152 hP hI hc_155 hcg_157 hS => ?_)
          have hD : va_D A (va_pl L f_154) := tp_D hL hAL
          have hfr := tp_fr2 hfr hc_155 (by decide)
          have hgr : ∀ κ : tk_K, κ.1 ∉ ([39, 43, 44] : List Nat) → Γ_156 κ = Γ κ := tg_fr2 hgr hcg_157 (by decide)
          have hf_158 := (tp_un hc_155 ho (by decide)).trans hf_138
          have hv_159 : ∀ i : Nat, i < 16 → (v_140 i).toInt = Γ_156 (39, 0, 0) i := fun i hi => by rw [hcg_157 _ (by decide)]; exact hv_143 i hi
          have hx_160 : (v_140 0).toInt = Γ_156 (39, 0, 0) 0 := hv_159 0 (by decide)
          have hx_161 : (v_140 1).toInt = Γ_156 (39, 0, 0) 1 := hv_159 1 (by decide)
          have hx_162 : (v_140 3).toInt = Γ_156 (39, 0, 0) 3 := hv_159 3 (by decide)
          have hx_163 : (v_140 4).toInt = Γ_156 (39, 0, 0) 4 := hv_159 4 (by decide)
          have hx_164 : (v_140 5).toInt = Γ_156 (39, 0, 0) 5 := hv_159 5 (by decide)
          have hx_165 : (v_140 6).toInt = Γ_156 (39, 0, 0) 6 := hv_159 6 (by decide)
          have hx_166 : (v_140 7).toInt = Γ_156 (39, 0, 0) 7 := hv_159 7 (by decide)
          have hx_167 : (v_140 8).toInt = Γ_156 (39, 0, 0) 8 := hv_159 8 (by decide)
          have mk_156_0 : Γ_156 (39, 0, 0) 0 = Γ_134 (39, 0, 0) 0 := congrFun (hcg_157 (39, 0, 0) (by decide)) 0
          have mk_156_1 : Γ_156 (39, 0, 0) 1 = Γ_134 (39, 0, 0) 1 := congrFun (hcg_157 (39, 0, 0) (by decide)) 1
          have mk_156_3 : Γ_156 (39, 0, 0) 3 = Γ_134 (39, 0, 0) 3 := congrFun (hcg_157 (39, 0, 0) (by decide)) 3
          have mk_156_4 : Γ_156 (39, 0, 0) 4 = Γ_134 (39, 0, 0) 4 := congrFun (hcg_157 (39, 0, 0) (by decide)) 4
          have mk_156_5 : Γ_156 (39, 0, 0) 5 = Γ_134 (39, 0, 0) 5 := congrFun (hcg_157 (39, 0, 0) (by decide)) 5
          have mk_156_6 : Γ_156 (39, 0, 0) 6 = Γ_134 (39, 0, 0) 6 := congrFun (hcg_157 (39, 0, 0) (by decide)) 6
          have mk_156_7 : Γ_156 (39, 0, 0) 7 = Γ_134 (39, 0, 0) 7 := congrFun (hcg_157 (39, 0, 0) (by decide)) 7
          have mk_156_8 : Γ_156 (39, 0, 0) 8 = Γ_134 (39, 0, 0) 8 := congrFun (hcg_157 (39, 0, 0) (by decide)) 8
          have hw_152 : Γ_156 (43, 8800, 0) = tgu (Γ_134 (43, 8800, 0)) (400 * t0 + Γ_134 (44, 22, 0) t0.toNat).toNat ((4 : Int) + 16 * (0 : Int)) ∧ Γ_156 (44, 22, 0) = tgu (Γ_134 (44, 22, 0)) t0.toNat (Γ_134 (44, 22, 0) t0.toNat + 1) := hw_152
          obtain ⟨hpa, hpb, hpc, hpd, _⟩ := id hp
          have hlem : rp_ok ((4 : Int) + 16 * (0 : Int)) ((d + 1) + 1) ∧ rp_d ((4 : Int) + 16 * (0 : Int)) = -1 := (rp_two (by omega) (by omega))
          have hput := hp.put (e := ((4 : Int) + 16 * (0 : Int))) (by omega) hlem.1 (by rw [hlem.2]; omega)
          rw [hlem.2] at hput
          have hln2 : Γ_156 (44, 22, 0) t0.toNat = Γ_134 (44, 22, 0) t0.toNat + 1 := by rw [hw_152.2, tgu_s]
          have hfz2 : fz (Γ_134 (43, 8800, 0)) (Γ_156 (43, 8800, 0)) (Γ_134 (44, 22, 0)) (Γ_156 (44, 22, 0)) t0 := by rw [hw_152.1, hw_152.2]; exact fz.put (by omega) (by omega)
          have hp : ps (Γ_156 (43, 8800, 0)) t0 (Γ_156 (44, 22, 0) t0.toNat) (Γ_156 (39, 0, 0) 1) T0 (Γ_156 (39, 0, 0) 5) a ((d + 1) + 1 + -1) := by rw [hln2, hw_152.1, show Γ_156 (39, 0, 0) 1 = Γ_134 (39, 0, 0) 1 from by omega, show Γ_156 (39, 0, 0) 5 = Γ_134 (39, 0, 0) 5 from by omega]; exact hput
          have hz := hz.trans hfz2
          have hfw := hfw.trans (hfz2.fw (by omega))
          refine lv_goto (tgt := 9) hx hb dX12_term_72 (by decide) ?_
          exact ih9 (f_154, Γ_156) H locs ls (by show (400 - Γ_156 (39, 0, 0) 1).toNat < (400 - Γ_24 (39, 0, 0) 1).toNat; omega) ⟨(show ps (Γ_156 (43, 8800, 0)) t0 (Γ_156 (44, 22, 0) t0.toNat) (Γ_156 (39, 0, 0) 1) T0 (Γ_156 (39, 0, 0) 5) a (d + 1) from (by have h9 := hp; rw [show (d + 1) + 1 + -1 = d + 1 from by omega] at h9; exact h9)), (show fz (Γ (43, 8800, 0)) (Γ_156 (43, 8800, 0)) (Γ (44, 22, 0)) (Γ_156 (44, 22, 0)) t0 from hz), (show fw (Γ (43, 8800, 0)) (Γ_156 (43, 8800, 0)) (Γ (44, 22, 0)) (Γ_156 (44, 22, 0)) t0 from hfw), (show Γ (39, 0, 0) 1 - Γ (44, 22, 0) t0.toNat ≤ Γ_156 (39, 0, 0) 1 - Γ_156 (44, 22, 0) t0.toNat from (by omega)), (show Γ_156 (39, 0, 0) 0 = Γ (39, 0, 0) 0 from (by omega)), (show Γ_156 (39, 0, 0) 4 = Γ (39, 0, 0) 4 from (by omega)), (show Γ_156 (39, 0, 0) 6 = Γ (39, 0, 0) 6 from (by omega)), (show Γ_156 (39, 0, 0) 7 = Γ (39, 0, 0) 7 from (by omega)), (show Γ_156 (39, 0, 0) 8 = Γ (39, 0, 0) 8 from (by omega)), (show Γ (39, 0, 0) 1 ≤ Γ_156 (39, 0, 0) 1 ∧ Γ_156 (39, 0, 0) 1 ≤ T0 from (by omega)), hP, hI, hfr, hgr, hS, lv_sub hl [1] rfl⟩
        · have c_137 := c_137
          refine lv_iconst (v := 0) hx hb dX12_term_64 (by decide) ?_
          have hpo9 : tl_J (0 : Int32) (ps (Γ_134 (43, 8800, 0)) t0 (Γ_134 (44, 22, 0) t0.toNat) (Γ_134 (39, 0, 0) 1) T0 (Γ_134 (39, 0, 0) 5) a (d + 1) ∧ Γ (39, 0, 0) 1 - Γ (44, 22, 0) t0.toNat ≤ Γ_134 (39, 0, 0) 1 - Γ_134 (44, 22, 0) t0.toNat ∧ fz (Γ (43, 8800, 0)) (Γ_134 (43, 8800, 0)) (Γ (44, 22, 0)) (Γ_134 (44, 22, 0)) t0) ∧ Γ_134 (39, 0, 0) 0 = Γ (39, 0, 0) 0 ∧ Γ_134 (39, 0, 0) 4 = Γ (39, 0, 0) 4 ∧ Γ_134 (39, 0, 0) 6 = Γ (39, 0, 0) 6 ∧ Γ_134 (39, 0, 0) 7 = Γ (39, 0, 0) 7 ∧ Γ_134 (39, 0, 0) 8 = Γ (39, 0, 0) 8 ∧ Γ (39, 0, 0) 1 ≤ Γ_134 (39, 0, 0) 1 ∧ Γ_134 (39, 0, 0) 1 ≤ T0 ∧ fw (Γ (43, 8800, 0)) (Γ_134 (43, 8800, 0)) (Γ (44, 22, 0)) (Γ_134 (44, 22, 0)) t0 := ⟨(Or.inr rfl), ⟨(by omega), (by omega), (by omega), (by omega), (by omega), (by omega), (by omega), hfw⟩⟩
          exact W.zret (ty := .boolean) (v := 0) hx hb hr rfl (fun t ht hW => ⟨⟨_, (f_132, Γ_134), rfl, hpo9, by rw [ht]; exact hP, hI, hfr, hgr⟩, hS.F ht⟩) hS.2.2 dX12_term_65
    · have c_45 : ¬ r_40.toInt = (42 : Int) := tl_neq c_45
      refine lv_aload_n hx hb dX12_term_18 rfl (lv_at hl 0 rfl) ?_
      obtain ⟨r_169, v_170, q_171, hf_168, hr_172, hv_173⟩ := (show tp_o_M L K 0 0 (Γ_43 (39, 0, 0)) (f_41 o) from hI.at ho)
      refine tq_ciR hS (hAf _ hS.1) (tq_rV (As := []) (rest := []) ⟨hx, hb, hml, hown, hta⟩ (tp_P.pre hK hN hL hU hI hP) (tp_recv hK hP ho.1 hf_168 rfl) lk_X12_167 (r_X12_see l D cy H.size L K Γ_43 f_41 o τ T0 ho ((hgr _ (by decide)).trans ht) (by first | omega | (simp only [Int32.toInt_toInt64]; omega) | decide | assumption) (by first | omega | (simp only [Int32.toInt_toInt64]; omega) | decide | assumption)) rfl rfl ⟨Nat.le_of_ble_eq_true rfl, Nat.le_of_ble_eq_true rfl⟩ rfl hl.1 rfl (Nat.le_of_ble_eq_true rfl) dX12_term_19 ⟨Nat.le_of_ble_eq_true rfl, Nat.le_of_ble_eq_true rfl⟩) (fun r_183 f_184 Γ_186 H locs hw_182 hP hI hc_185 hcg_187 hS => ?_)
      have hD : va_D A (va_pl L f_184) := tp_D hL hAL
      have hfr := tp_fr2 hfr hc_185 (by decide)
      have hgr : ∀ κ : tk_K, κ.1 ∉ ([39, 43, 44] : List Nat) → Γ_186 κ = Γ κ := tg_fr2 hgr hcg_187 (by decide)
      have hw_182 : Γ_186 (39, 0, 0) 0 = Γ_43 (39, 0, 0) 0 ∧ Γ_186 (39, 0, 0) 3 = Γ_43 (39, 0, 0) 3 ∧ Γ_186 (39, 0, 0) 4 = Γ_43 (39, 0, 0) 4 ∧ Γ_186 (39, 0, 0) 5 = Γ_43 (39, 0, 0) 5 ∧ Γ_186 (39, 0, 0) 6 = Γ_43 (39, 0, 0) 6 ∧ Γ_186 (39, 0, 0) 7 = Γ_43 (39, 0, 0) 7 ∧ Γ_186 (39, 0, 0) 8 = Γ_43 (39, 0, 0) 8 ∧ Γ_43 (39, 0, 0) 1 ≤ Γ_186 (39, 0, 0) 1 ∧ Γ_186 (39, 0, 0) 1 ≤ T0 ∧ (¬ τ (Γ_43 (39, 0, 0) 1).toNat = 32 → Γ_186 (39, 0, 0) 1 = Γ_43 (39, 0, 0) 1) ∧ ((r_183.toInt = -1 ∧ Γ_186 (39, 0, 0) 1 = T0) ∨ (0 ≤ r_183.toInt ∧ r_183.toInt ≤ 255 ∧ Γ_186 (39, 0, 0) 1 < T0 ∧ ¬ τ (Γ_186 (39, 0, 0) 1).toNat = 32)) := hw_182
      obtain ⟨hpa, hpb, hpc, hpd, _⟩ := id hp
      have hle := congrFun (hcg_187 (44, 22, 0) (by decide)) t0.toNat
      have hp : ps (Γ_186 (43, 8800, 0)) t0 (Γ_186 (44, 22, 0) t0.toNat) (Γ_186 (39, 0, 0) 1) T0 (Γ_186 (39, 0, 0) 5) a (d + 1) := hp.eq (hcg_187 (43, 8800, 0) (by decide)) rfl (congrFun (hcg_187 (44, 22, 0) (by decide)) _) (by omega) rfl (by omega)
      have hz : fz (Γ (43, 8800, 0)) (Γ_186 (43, 8800, 0)) (Γ (44, 22, 0)) (Γ_186 (44, 22, 0)) t0 := by rw [(hcg_187 (43, 8800, 0) (by decide)), (hcg_187 (44, 22, 0) (by decide))]; exact hz
      have hfw : fw (Γ (43, 8800, 0)) (Γ_186 (43, 8800, 0)) (Γ (44, 22, 0)) (Γ_186 (44, 22, 0)) t0 := by rw [(hcg_187 (43, 8800, 0) (by decide)), (hcg_187 (44, 22, 0) (by decide))]; exact hfw
      refine lv_bipush (v := 47) hx hb dX12_term_22 (by decide) ?_
      refine lv_icmp_ne (tgt := 75) hx hb dX12_term_24 (by decide) (fun c_188 => ?_) (fun c_188 => ?_)
      · have c_188 : ¬ r_183.toInt = (47 : Int) := tl_neq c_188
        refine lv_iconst (v := 1) hx hb dX12_term_75 (by decide) ?_
        have hpo9 : tl_J (1 : Int32) (ps (Γ_186 (43, 8800, 0)) t0 (Γ_186 (44, 22, 0) t0.toNat) (Γ_186 (39, 0, 0) 1) T0 (Γ_186 (39, 0, 0) 5) a (d + 1) ∧ Γ (39, 0, 0) 1 - Γ (44, 22, 0) t0.toNat ≤ Γ_186 (39, 0, 0) 1 - Γ_186 (44, 22, 0) t0.toNat ∧ fz (Γ (43, 8800, 0)) (Γ_186 (43, 8800, 0)) (Γ (44, 22, 0)) (Γ_186 (44, 22, 0)) t0) ∧ Γ_186 (39, 0, 0) 0 = Γ (39, 0, 0) 0 ∧ Γ_186 (39, 0, 0) 4 = Γ (39, 0, 0) 4 ∧ Γ_186 (39, 0, 0) 6 = Γ (39, 0, 0) 6 ∧ Γ_186 (39, 0, 0) 7 = Γ (39, 0, 0) 7 ∧ Γ_186 (39, 0, 0) 8 = Γ (39, 0, 0) 8 ∧ Γ (39, 0, 0) 1 ≤ Γ_186 (39, 0, 0) 1 ∧ Γ_186 (39, 0, 0) 1 ≤ T0 ∧ fw (Γ (43, 8800, 0)) (Γ_186 (43, 8800, 0)) (Γ (44, 22, 0)) (Γ_186 (44, 22, 0)) t0 := ⟨(Or.inl ⟨rfl, ⟨hp, (by omega), hz⟩⟩), ⟨(by omega), (by omega), (by omega), (by omega), (by omega), (by omega), (by omega), hfw⟩⟩
        exact W.zret (ty := .boolean) (v := 1) hx hb hr rfl (fun t ht hW => ⟨⟨_, (f_184, Γ_186), rfl, hpo9, by rw [ht]; exact hP, hI, hfr, hgr⟩, hS.F ht⟩) hS.2.2 dX12_term_76
      · have c_188 : r_183.toInt = (47 : Int) := tl_eq c_188
        refine lv_aload_n hx hb dX12_term_27 rfl (lv_at hl 0 rfl) ?_
        obtain ⟨r_190, v_191, q_192, hf_189, hr_193, hv_194⟩ := (show tp_o_M L K 0 0 (Γ_186 (39, 0, 0)) (f_184 o) from hI.at ho)
        have hx_195 : (v_191 0).toInt = Γ_186 (39, 0, 0) 0 := hv_194 0 (by decide)
        have hx_196 : (v_191 1).toInt = Γ_186 (39, 0, 0) 1 := hv_194 1 (by decide)
        have hx_197 : (v_191 3).toInt = Γ_186 (39, 0, 0) 3 := hv_194 3 (by decide)
        have hx_198 : (v_191 4).toInt = Γ_186 (39, 0, 0) 4 := hv_194 4 (by decide)
        have hx_199 : (v_191 5).toInt = Γ_186 (39, 0, 0) 5 := hv_194 5 (by decide)
        have hx_200 : (v_191 6).toInt = Γ_186 (39, 0, 0) 6 := hv_194 6 (by decide)
        have hx_201 : (v_191 7).toInt = Γ_186 (39, 0, 0) 7 := hv_194 7 (by decide)
        have hx_202 : (v_191 8).toInt = Γ_186 (39, 0, 0) 8 := hv_194 8 (by decide)
        refine tp_get (cy := cy) (ci := 12) (v := .ref (r_190 1)) (C := RX12) (T := TX12) (N := 49) hx hb hta inlX12 hown hK hP ho.1 hf_189 rfl 1 (by decide) (hta _ wk_151) (fun _ h9 => h9) rfl dX12_term_28 ?_
        refine lv_aload_n hx hb dX12_term_31 rfl (lv_at hl 0 rfl) ?_
        refine tp_get (cy := cy) (ci := 12) (v := .int (v_191 1)) (C := RX12) (T := TX12) (N := 49) hx hb hta inlX12 hown hK hP ho.1 hf_189 rfl 17 (by decide) (hta _ wk_539) (fun _ h9 => h9) rfl dX12_term_32 ?_
        obtain ⟨g_204, hf_203, hg_205⟩ := (show tp_g8 cy (400) (Γ (41, 400, 0)) (f (r_190 1)) from hI0.at (show tp_r L K 41 400 0 (r_190 1) from hr_193 1 (by decide)))
        have hn_206 : vp_in (v_191 1) (400) := tl_in (by omega) (by omega)
        refine tp_bald (cy := cy) hx hb hK hP (show tp_r L K 41 400 0 (r_190 1) from hr_193 1 (by decide)).1 ((tp_un hfr (show tp_r L K 41 400 0 (r_190 1) from hr_193 1 (by decide)) (by decide)).trans hf_203) hn_206 dX12_term_35 ?_
        refine lv_topi (fun z_207 ez_207 => ?_)
        have iz_207 : z_207.toInt = τ (v_191 1).toInt.toNat := by rw [ez_207, ← ht]; exact hg_205 _ (tp_pin hn_206)
        have jz_207 : z_207.toInt = τ  (Γ_186 (39, 0, 0) 1).toNat := by rw [← hx_196]; exact iz_207
        refine lv_bipush (v := 42) hx hb dX12_term_36 (by decide) ?_
        refine lv_icmp_ne (tgt := 45) hx hb dX12_term_38 (by decide) (fun c_208 => ?_) (fun c_208 => ?_)
        · have c_208 : ¬ z_207.toInt = (42 : Int) := tl_neq c_208
          refine lv_iconst (v := 5) hx hb dX12_term_45 (by decide) ?_
          refine lv_istore_n (lv' := [(1, .int 5), (0, .ref o)]) hx hb dX12_term_46 rfl hl (by decide) rfl (fun ls hl => ?_)
          refine lv_aload_n hx hb dX12_term_47 rfl (lv_at hl 1 rfl) ?_
          refine lv_dup hx hb dX12_term_48 rfl ?_
          refine tp_get (cy := cy) (ci := 12) (v := .int (v_191 1)) (C := RX12) (T := TX12) (N := 49) hx hb hta inlX12 hown hK hP ho.1 hf_189 rfl 17 (by decide) (hta _ wk_539) (fun _ h9 => h9) rfl dX12_term_49 ?_
          refine lv_iconst (v := 1) hx hb dX12_term_52 (by decide) ?_
          refine lv_iadd hx hb dX12_term_53 ?_
          refine lv_topi (fun z_209 ez_209 => ?_)
          try have iz_209 : z_209.toInt = (v_191 1).toInt + (1 : Int) := by rw [ez_209]; exact tl_addN (v_191 1) 1 rfl rfl (by omega) (by omega)
          obtain ⟨Γ_210, eΓ_210⟩ : ∃ y : tk_G, y = tg Γ_186 (39, 0, 0) 1 z_209.toInt := ⟨_, rfl⟩
          have hv_211 : ∀ i : Nat, i < 16 → ((upd v_191 1 z_209) i).toInt = Γ_210 (39, 0, 0) i := by rw [eΓ_210, tg_f]; exact tp_gi_upd hv_194
          have hI9 : tp_I cy L K Γ_210 (va_up f_184 o (.inr (12, [.ref (r_190 0), .ref (r_190 1), .int (v_191 0), .ref (r_190 2), .ref (r_190 3), .ref (r_190 4), .ref (r_190 5), .ref (r_190 6), .ref (r_190 7), .ref (r_190 8), .ref (r_190 9), .ref (r_190 10), .ref (r_190 11), .ref (r_190 12), .ref (r_190 13), .ref (r_190 14), .ref (r_190 15), .int z_209, .int (v_191 2), .int (v_191 3), .int (v_191 4), .int (v_191 5), .int (v_191 6), .int (v_191 7), .ref (r_190 16), .int (v_191 8), .ref (r_190 17), .int (v_191 9), .ref (r_190 18), .long q_192, .ref (r_190 19), .ref (r_190 20), .int (v_191 10), .int (v_191 11), .int (v_191 12), .ref (r_190 21), .ref (r_190 22), .int (v_191 13), .ref (r_190 23), .int (v_191 14), .int (v_191 15), .ref (r_190 24), .ref (r_190 25), .ref (r_190 26), .ref (r_190 27), .ref (r_190 28), .ref (r_190 29), .ref (r_190 30), .ref (r_190 31)]))) := by have q9 := hv_211; rw [eΓ_210, tg_f] at q9; rw [eΓ_210]; exact hI.setg hU rfl ho (show tp_o_M L K 0 0 (tgu (Γ_186 (39, 0, 0)) 1 z_209.toInt) _ from ⟨r_190, (upd v_191 1 z_209), q_192, rfl, hr_193, q9⟩)
          have hfr9 : ∀ b, (K b).1 ∉ ([39, 43, 44] : List Nat) → va_up f_184 o (.inr (12, [.ref (r_190 0), .ref (r_190 1), .int (v_191 0), .ref (r_190 2), .ref (r_190 3), .ref (r_190 4), .ref (r_190 5), .ref (r_190 6), .ref (r_190 7), .ref (r_190 8), .ref (r_190 9), .ref (r_190 10), .ref (r_190 11), .ref (r_190 12), .ref (r_190 13), .ref (r_190 14), .ref (r_190 15), .int z_209, .int (v_191 2), .int (v_191 3), .int (v_191 4), .int (v_191 5), .int (v_191 6), .int (v_191 7), .ref (r_190 16), .int (v_191 8), .ref (r_190 17), .int (v_191 9), .ref (r_190 18), .long q_192, .ref (r_190 19), .ref (r_190 20), .int (v_191 10), .int (v_191 11), .int (v_191 12), .ref (r_190 21), .ref (r_190 22), .int (v_191 13), .ref (r_190 23), .int (v_191 14), .int (v_191 15), .ref (r_190 24), .ref (r_190 25), .ref (r_190 26), .ref (r_190 27), .ref (r_190 28), .ref (r_190 29), .ref (r_190 30), .ref (r_190 31)])) b = f b := tp_fr hfr ho (by decide)
          refine tp_put (cy := cy) (ci := 12) (v := .int z_209) (ty := tyX12 17) (C := RX12) (T := TX12) (N := 49) hx hb hta inlX12 tyX12 tyX12_ok nmX12 hown hK hP hD hS ho.1 hf_189 rfl 17 (by decide) (hta _ wk_539) (fun _ h9 => h9) rfl (tyX12_ok 17 (by decide)) rfl rfl (Nat.le_of_ble_eq_true rfl) dX12_term_54 (fun H locs hP hD hS => ?_)
          have hP : va_P D vwCl (va_pl L (va_up f_184 o (.inr (12, [.ref (r_190 0), .ref (r_190 1), .int (v_191 0), .ref (r_190 2), .ref (r_190 3), .ref (r_190 4), .ref (r_190 5), .ref (r_190 6), .ref (r_190 7), .ref (r_190 8), .ref (r_190 9), .ref (r_190 10), .ref (r_190 11), .ref (r_190 12), .ref (r_190 13), .ref (r_190 14), .ref (r_190 15), .int z_209, .int (v_191 2), .int (v_191 3), .int (v_191 4), .int (v_191 5), .int (v_191 6), .int (v_191 7), .ref (r_190 16), .int (v_191 8), .ref (r_190 17), .int (v_191 9), .ref (r_190 18), .long q_192, .ref (r_190 19), .ref (r_190 20), .int (v_191 10), .int (v_191 11), .int (v_191 12), .ref (r_190 21), .ref (r_190 22), .int (v_191 13), .ref (r_190 23), .int (v_191 14), .int (v_191 15), .ref (r_190 24), .ref (r_190 25), .ref (r_190 26), .ref (r_190 27), .ref (r_190 28), .ref (r_190 29), .ref (r_190 30), .ref (r_190 31)])))) H := hP
          generalize hfe : va_up f_184 o (.inr (12, [.ref (r_190 0), .ref (r_190 1), .int (v_191 0), .ref (r_190 2), .ref (r_190 3), .ref (r_190 4), .ref (r_190 5), .ref (r_190 6), .ref (r_190 7), .ref (r_190 8), .ref (r_190 9), .ref (r_190 10), .ref (r_190 11), .ref (r_190 12), .ref (r_190 13), .ref (r_190 14), .ref (r_190 15), .int z_209, .int (v_191 2), .int (v_191 3), .int (v_191 4), .int (v_191 5), .int (v_191 6), .int (v_191 7), .ref (r_190 16), .int (v_191 8), .ref (r_190 17), .int (v_191 9), .ref (r_190 18), .long q_192, .ref (r_190 19), .ref (r_190 20), .int (v_191 10), .int (v_191 11), .int (v_191 12), .ref (r_190 21), .ref (r_190 22), .int (v_191 13), .ref (r_190 23), .int (v_191 14), .int (v_191 15), .ref (r_190 24), .ref (r_190 25), .ref (r_190 26), .ref (r_190 27), .ref (r_190 28), .ref (r_190 29), .ref (r_190 30), .ref (r_190 31)])) = f_212 at hP hI9 hfr9
          have hD : va_D A (va_pl L f_212) := tp_D hL hAL
          have hf_213 : f_212 o = .inr (12, [.ref (r_190 0), .ref (r_190 1), .int (v_191 0), .ref (r_190 2), .ref (r_190 3), .ref (r_190 4), .ref (r_190 5), .ref (r_190 6), .ref (r_190 7), .ref (r_190 8), .ref (r_190 9), .ref (r_190 10), .ref (r_190 11), .ref (r_190 12), .ref (r_190 13), .ref (r_190 14), .ref (r_190 15), .int z_209, .int (v_191 2), .int (v_191 3), .int (v_191 4), .int (v_191 5), .int (v_191 6), .int (v_191 7), .ref (r_190 16), .int (v_191 8), .ref (r_190 17), .int (v_191 9), .ref (r_190 18), .long q_192, .ref (r_190 19), .ref (r_190 20), .int (v_191 10), .int (v_191 11), .int (v_191 12), .ref (r_190 21), .ref (r_190 22), .int (v_191 13), .ref (r_190 23), .int (v_191 14), .int (v_191 15), .ref (r_190 24), .ref (r_190 25), .ref (r_190 26), .ref (r_190 27), .ref (r_190 28), .ref (r_190 29), .ref (r_190 30), .ref (r_190 31)]) := by rw [← hfe]; exact va_up_self _ _ _
          clear hfe
          have hI := hI9
          have hfr := hfr9
          clear hI9 hfr9
          have hgr : ∀ κ : tk_K, κ.1 ∉ ([39, 43, 44] : List Nat) → Γ_210 κ = Γ κ := tg_fr hgr eΓ_210 (by decide)
          have hx_214 : (v_191 0).toInt = Γ_210 (39, 0, 0) 0 := hv_211 0 (by decide)
          have hx_215 : z_209.toInt = Γ_210 (39, 0, 0) 1 := hv_211 1 (by decide)
          have hx_216 : (v_191 3).toInt = Γ_210 (39, 0, 0) 3 := hv_211 3 (by decide)
          have hx_217 : (v_191 4).toInt = Γ_210 (39, 0, 0) 4 := hv_211 4 (by decide)
          have hx_218 : (v_191 5).toInt = Γ_210 (39, 0, 0) 5 := hv_211 5 (by decide)
          have hx_219 : (v_191 6).toInt = Γ_210 (39, 0, 0) 6 := hv_211 6 (by decide)
          have hx_220 : (v_191 7).toInt = Γ_210 (39, 0, 0) 7 := hv_211 7 (by decide)
          have hx_221 : (v_191 8).toInt = Γ_210 (39, 0, 0) 8 := hv_211 8 (by decide)
          obtain ⟨hpa, hpb, hpc, hpd, _⟩ := id hp
          have hle := congrFun (show Γ_210 (44, 22, 0) = _ from by rw [eΓ_210, tg_rf (by decide)]) t0.toNat
          have hp : ps (Γ_210 (43, 8800, 0)) t0 (Γ_210 (44, 22, 0) t0.toNat) (Γ_210 (39, 0, 0) 1) T0 (Γ_210 (39, 0, 0) 5) a (d + 1) := hp.eq (show Γ_210 (43, 8800, 0) = _ from by rw [eΓ_210, tg_rf (by decide)]) rfl (congrFun (show Γ_210 (44, 22, 0) = _ from by rw [eΓ_210, tg_rf (by decide)]) _) (by omega) rfl (by omega)
          have hz : fz (Γ (43, 8800, 0)) (Γ_210 (43, 8800, 0)) (Γ (44, 22, 0)) (Γ_210 (44, 22, 0)) t0 := by rw [(show Γ_210 (43, 8800, 0) = _ from by rw [eΓ_210, tg_rf (by decide)]), (show Γ_210 (44, 22, 0) = _ from by rw [eΓ_210, tg_rf (by decide)])]; exact hz
          have hfw : fw (Γ (43, 8800, 0)) (Γ_210 (43, 8800, 0)) (Γ (44, 22, 0)) (Γ_210 (44, 22, 0)) t0 := by rw [(show Γ_210 (43, 8800, 0) = _ from by rw [eΓ_210, tg_rf (by decide)]), (show Γ_210 (44, 22, 0) = _ from by rw [eΓ_210, tg_rf (by decide)])]; exact hfw
          refine lv_aload_n hx hb dX12_term_57 rfl (lv_at hl 1 rfl) ?_
          refine tq_ciR hS (hAf _ hS.1) (tq_rV (As := []) (rest := []) ⟨hx, hb, hml, hown, hta⟩ (tp_P.pre hK hN hL hU hI hP) (tp_recv hK hP ho.1 hf_213 rfl) lk_X12_242 (r_X12_value l D cy H.size L K Γ_210 f_212 o τ T0 t0 a (d + 1) ho ((hgr _ (by decide)).trans ht) (by first | omega | (simp only [Int32.toInt_toInt64]; omega) | decide | assumption) (by first | omega | (simp only [Int32.toInt_toInt64]; omega) | decide | assumption) (by first | omega | (simp only [Int32.toInt_toInt64]; omega) | decide | assumption) (by first | omega | (simp only [Int32.toInt_toInt64]; omega) | decide | assumption)) rfl rfl ⟨Nat.le_of_ble_eq_true rfl, Nat.le_of_ble_eq_true rfl⟩ rfl hl.1 rfl (Nat.le_of_ble_eq_true rfl) dX12_term_58 ⟨Nat.le_of_ble_eq_true rfl, Nat.le_of_ble_eq_true rfl⟩) (fun r_223 f_224 Γ_226 H locs hw_222 hP hI hc_225 hcg_227 hS => ?_)
          have hD : va_D A (va_pl L f_224) := tp_D hL hAL
          have hfr := tp_fr2 hfr hc_225 (by decide)
          have hgr : ∀ κ : tk_K, κ.1 ∉ ([39, 43, 44] : List Nat) → Γ_226 κ = Γ κ := tg_fr2 hgr hcg_227 (by decide)
          obtain ⟨hE_228, hw_222⟩ := hw_222
          have hE_228 : tl_J r_223 (ps (Γ_226 (43, 8800, 0)) t0 (Γ_226 (44, 22, 0) t0.toNat) (Γ_226 (39, 0, 0) 1) T0 (Γ_226 (39, 0, 0) 5) a ((d + 1) + 1) ∧ Γ_210 (39, 0, 0) 1 - Γ_210 (44, 22, 0) t0.toNat ≤ Γ_226 (39, 0, 0) 1 - Γ_226 (44, 22, 0) t0.toNat ∧ fz (Γ_210 (43, 8800, 0)) (Γ_226 (43, 8800, 0)) (Γ_210 (44, 22, 0)) (Γ_226 (44, 22, 0)) t0) := hE_228
          have hw_222 : Γ_226 (39, 0, 0) 0 = Γ_210 (39, 0, 0) 0 ∧ Γ_226 (39, 0, 0) 4 = Γ_210 (39, 0, 0) 4 ∧ Γ_226 (39, 0, 0) 6 = Γ_210 (39, 0, 0) 6 ∧ Γ_226 (39, 0, 0) 7 = Γ_210 (39, 0, 0) 7 ∧ Γ_226 (39, 0, 0) 8 = Γ_210 (39, 0, 0) 8 ∧ Γ_210 (39, 0, 0) 1 ≤ Γ_226 (39, 0, 0) 1 ∧ Γ_226 (39, 0, 0) 1 ≤ T0 ∧ fw (Γ_210 (43, 8800, 0)) (Γ_226 (43, 8800, 0)) (Γ_210 (44, 22, 0)) (Γ_226 (44, 22, 0)) t0 := hw_222
          have hfw := hfw.trans hw_222.2.2.2.2.2.2.2
          refine lv_if_ne (tgt := 66) hx hb dX12_term_61 (by decide) (fun c_229 => ?_) (fun c_229 => ?_)
          · have c_229 := hE_228.t c_229
            obtain ⟨hp, hsl, hz9⟩ := c_229
            have hz := hz.trans hz9
            refine lv_aload_n hx hb dX12_term_66 rfl (lv_at hl 1 rfl) ?_
            refine lv_iload_n hx hb dX12_term_67 rfl (lv_at hl 0 rfl) ?_
            refine lv_iconst (v := 0) hx hb dX12_term_68 (by decide) ?_
            obtain ⟨hpa, hpb, hpc, hpd, _⟩ := id hp
            obtain ⟨r_231, v_232, q_233, hf_230, hr_234, hv_235⟩ := (show tp_o_M L K 0 0 (Γ_226 (39, 0, 0)) (f_224 o) from hI.at ho)
            have hx_236 : (v_232 0).toInt = Γ_226 (39, 0, 0) 0 := hv_235 0 (by decide)
            have hx_237 : (v_232 1).toInt = Γ_226 (39, 0, 0) 1 := hv_235 1 (by decide)
            have hx_238 : (v_232 3).toInt = Γ_226 (39, 0, 0) 3 := hv_235 3 (by decide)
            have hx_239 : (v_232 4).toInt = Γ_226 (39, 0, 0) 4 := hv_235 4 (by decide)
            have hx_240 : (v_232 5).toInt = Γ_226 (39, 0, 0) 5 := hv_235 5 (by decide)
            have hx_241 : (v_232 6).toInt = Γ_226 (39, 0, 0) 6 := hv_235 6 (by decide)
            have hx_242 : (v_232 7).toInt = Γ_226 (39, 0, 0) 7 := hv_235 7 (by decide)
            have hx_243 : (v_232 8).toInt = Γ_226 (39, 0, 0) 8 := hv_235 8 (by decide)
            refine tq_cvR hS (hAf _ hS.1) (tq_rV (As := [.int 5, .int 0]) (rest := []) ⟨hx, hb, hml, hown, hta⟩ (tp_P.pre hK hN hL hU hI hP) (tp_recv hK hP ho.1 hf_230 rfl) lk_X12_228 (r_X12_puts l D cy H.size L K Γ_226 f_224 o 5 0 t0 ho (by first | omega | (simp only [Int32.toInt_toInt64]; omega) | decide | assumption) (by first | omega | (simp only [Int32.toInt_toInt64]; omega) | decide | assumption) (by first | omega | (simp only [Int32.toInt_toInt64]; omega) | decide | assumption) (by first | omega | (simp only [Int32.toInt_toInt64]; omega) | decide | assumption)) rfl rfl ⟨Nat.le_of_ble_eq_true rfl, Nat.le_of_ble_eq_true rfl⟩ rfl hl.1 rfl (Nat.le_of_ble_eq_true rfl) dX12_term_69 ⟨Nat.le_of_ble_eq_true rfl, Nat.le_of_ble_eq_true rfl⟩) (fun f_246 Γ_248 H locs hw_244 hP hI hc_247 hcg_249 hS => ?_)
            have hD : va_D A (va_pl L f_246) := tp_D hL hAL
            have hfr := tp_fr2 hfr hc_247 (by decide)
            have hgr : ∀ κ : tk_K, κ.1 ∉ ([39, 43, 44] : List Nat) → Γ_248 κ = Γ κ := tg_fr2 hgr hcg_249 (by decide)
            have hf_250 := (tp_un hc_247 ho (by decide)).trans hf_230
            have hv_251 : ∀ i : Nat, i < 16 → (v_232 i).toInt = Γ_248 (39, 0, 0) i := fun i hi => by rw [hcg_249 _ (by decide)]; exact hv_235 i hi
            have hx_252 : (v_232 0).toInt = Γ_248 (39, 0, 0) 0 := hv_251 0 (by decide)
            have hx_253 : (v_232 1).toInt = Γ_248 (39, 0, 0) 1 := hv_251 1 (by decide)
            have hx_254 : (v_232 3).toInt = Γ_248 (39, 0, 0) 3 := hv_251 3 (by decide)
            have hx_255 : (v_232 4).toInt = Γ_248 (39, 0, 0) 4 := hv_251 4 (by decide)
            have hx_256 : (v_232 5).toInt = Γ_248 (39, 0, 0) 5 := hv_251 5 (by decide)
            have hx_257 : (v_232 6).toInt = Γ_248 (39, 0, 0) 6 := hv_251 6 (by decide)
            have hx_258 : (v_232 7).toInt = Γ_248 (39, 0, 0) 7 := hv_251 7 (by decide)
            have hx_259 : (v_232 8).toInt = Γ_248 (39, 0, 0) 8 := hv_251 8 (by decide)
            have mk_248_0 : Γ_248 (39, 0, 0) 0 = Γ_226 (39, 0, 0) 0 := congrFun (hcg_249 (39, 0, 0) (by decide)) 0
            have mk_248_1 : Γ_248 (39, 0, 0) 1 = Γ_226 (39, 0, 0) 1 := congrFun (hcg_249 (39, 0, 0) (by decide)) 1
            have mk_248_3 : Γ_248 (39, 0, 0) 3 = Γ_226 (39, 0, 0) 3 := congrFun (hcg_249 (39, 0, 0) (by decide)) 3
            have mk_248_4 : Γ_248 (39, 0, 0) 4 = Γ_226 (39, 0, 0) 4 := congrFun (hcg_249 (39, 0, 0) (by decide)) 4
            have mk_248_5 : Γ_248 (39, 0, 0) 5 = Γ_226 (39, 0, 0) 5 := congrFun (hcg_249 (39, 0, 0) (by decide)) 5
            have mk_248_6 : Γ_248 (39, 0, 0) 6 = Γ_226 (39, 0, 0) 6 := congrFun (hcg_249 (39, 0, 0) (by decide)) 6
            have mk_248_7 : Γ_248 (39, 0, 0) 7 = Γ_226 (39, 0, 0) 7 := congrFun (hcg_249 (39, 0, 0) (by decide)) 7
            have mk_248_8 : Γ_248 (39, 0, 0) 8 = Γ_226 (39, 0, 0) 8 := congrFun (hcg_249 (39, 0, 0) (by decide)) 8
            have hw_244 : Γ_248 (43, 8800, 0) = tgu (Γ_226 (43, 8800, 0)) (400 * t0 + Γ_226 (44, 22, 0) t0.toNat).toNat ((5 : Int) + 16 * (0 : Int)) ∧ Γ_248 (44, 22, 0) = tgu (Γ_226 (44, 22, 0)) t0.toNat (Γ_226 (44, 22, 0) t0.toNat + 1) := hw_244
            obtain ⟨hpa, hpb, hpc, hpd, _⟩ := id hp
            have hlem : rp_ok ((5 : Int) + 16 * (0 : Int)) ((d + 1) + 1) ∧ rp_d ((5 : Int) + 16 * (0 : Int)) = -1 := (rp_two (by omega) (by omega))
            have hput := hp.put (e := ((5 : Int) + 16 * (0 : Int))) (by omega) hlem.1 (by rw [hlem.2]; omega)
            rw [hlem.2] at hput
            have hln2 : Γ_248 (44, 22, 0) t0.toNat = Γ_226 (44, 22, 0) t0.toNat + 1 := by rw [hw_244.2, tgu_s]
            have hfz2 : fz (Γ_226 (43, 8800, 0)) (Γ_248 (43, 8800, 0)) (Γ_226 (44, 22, 0)) (Γ_248 (44, 22, 0)) t0 := by rw [hw_244.1, hw_244.2]; exact fz.put (by omega) (by omega)
            have hp : ps (Γ_248 (43, 8800, 0)) t0 (Γ_248 (44, 22, 0) t0.toNat) (Γ_248 (39, 0, 0) 1) T0 (Γ_248 (39, 0, 0) 5) a ((d + 1) + 1 + -1) := by rw [hln2, hw_244.1, show Γ_248 (39, 0, 0) 1 = Γ_226 (39, 0, 0) 1 from by omega, show Γ_248 (39, 0, 0) 5 = Γ_226 (39, 0, 0) 5 from by omega]; exact hput
            have hz := hz.trans hfz2
            have hfw := hfw.trans (hfz2.fw (by omega))
            refine lv_goto (tgt := 9) hx hb dX12_term_72 (by decide) ?_
            exact ih9 (f_246, Γ_248) H locs ls (by show (400 - Γ_248 (39, 0, 0) 1).toNat < (400 - Γ_24 (39, 0, 0) 1).toNat; omega) ⟨(show ps (Γ_248 (43, 8800, 0)) t0 (Γ_248 (44, 22, 0) t0.toNat) (Γ_248 (39, 0, 0) 1) T0 (Γ_248 (39, 0, 0) 5) a (d + 1) from (by have h9 := hp; rw [show (d + 1) + 1 + -1 = d + 1 from by omega] at h9; exact h9)), (show fz (Γ (43, 8800, 0)) (Γ_248 (43, 8800, 0)) (Γ (44, 22, 0)) (Γ_248 (44, 22, 0)) t0 from hz), (show fw (Γ (43, 8800, 0)) (Γ_248 (43, 8800, 0)) (Γ (44, 22, 0)) (Γ_248 (44, 22, 0)) t0 from hfw), (show Γ (39, 0, 0) 1 - Γ (44, 22, 0) t0.toNat ≤ Γ_248 (39, 0, 0) 1 - Γ_248 (44, 22, 0) t0.toNat from (by omega)), (show Γ_248 (39, 0, 0) 0 = Γ (39, 0, 0) 0 from (by omega)), (show Γ_248 (39, 0, 0) 4 = Γ (39, 0, 0) 4 from (by omega)), (show Γ_248 (39, 0, 0) 6 = Γ (39, 0, 0) 6 from (by omega)), (show Γ_248 (39, 0, 0) 7 = Γ (39, 0, 0) 7 from (by omega)), (show Γ_248 (39, 0, 0) 8 = Γ (39, 0, 0) 8 from (by omega)), (show Γ (39, 0, 0) 1 ≤ Γ_248 (39, 0, 0) 1 ∧ Γ_248 (39, 0, 0) 1 ≤ T0 from (by omega)), hP, hI, hfr, hgr, hS, lv_sub hl [1] rfl⟩
          · have c_229 := c_229
            refine lv_iconst (v := 0) hx hb dX12_term_64 (by decide) ?_
            have hpo9 : tl_J (0 : Int32) (ps (Γ_226 (43, 8800, 0)) t0 (Γ_226 (44, 22, 0) t0.toNat) (Γ_226 (39, 0, 0) 1) T0 (Γ_226 (39, 0, 0) 5) a (d + 1) ∧ Γ (39, 0, 0) 1 - Γ (44, 22, 0) t0.toNat ≤ Γ_226 (39, 0, 0) 1 - Γ_226 (44, 22, 0) t0.toNat ∧ fz (Γ (43, 8800, 0)) (Γ_226 (43, 8800, 0)) (Γ (44, 22, 0)) (Γ_226 (44, 22, 0)) t0) ∧ Γ_226 (39, 0, 0) 0 = Γ (39, 0, 0) 0 ∧ Γ_226 (39, 0, 0) 4 = Γ (39, 0, 0) 4 ∧ Γ_226 (39, 0, 0) 6 = Γ (39, 0, 0) 6 ∧ Γ_226 (39, 0, 0) 7 = Γ (39, 0, 0) 7 ∧ Γ_226 (39, 0, 0) 8 = Γ (39, 0, 0) 8 ∧ Γ (39, 0, 0) 1 ≤ Γ_226 (39, 0, 0) 1 ∧ Γ_226 (39, 0, 0) 1 ≤ T0 ∧ fw (Γ (43, 8800, 0)) (Γ_226 (43, 8800, 0)) (Γ (44, 22, 0)) (Γ_226 (44, 22, 0)) t0 := ⟨(Or.inr rfl), ⟨(by omega), (by omega), (by omega), (by omega), (by omega), (by omega), (by omega), hfw⟩⟩
            exact W.zret (ty := .boolean) (v := 0) hx hb hr rfl (fun t ht hW => ⟨⟨_, (f_224, Γ_226), rfl, hpo9, by rw [ht]; exact hP, hI, hfr, hgr⟩, hS.F ht⟩) hS.2.2 dX12_term_65
        · have c_208 : z_207.toInt = (42 : Int) := tl_eq c_208
          refine lv_iconst (v := 4) hx hb dX12_term_41 (by decide) ?_
          refine lv_goto (tgt := 46) hx hb dX12_term_42 (by decide) ?_
          refine lv_istore_n (lv' := [(1, .int 4), (0, .ref o)]) hx hb dX12_term_46 rfl hl (by decide) rfl (fun ls hl => ?_)
          refine lv_aload_n hx hb dX12_term_47 rfl (lv_at hl 1 rfl) ?_
          refine lv_dup hx hb dX12_term_48 rfl ?_
          refine tp_get (cy := cy) (ci := 12) (v := .int (v_191 1)) (C := RX12) (T := TX12) (N := 49) hx hb hta inlX12 hown hK hP ho.1 hf_189 rfl 17 (by decide) (hta _ wk_539) (fun _ h9 => h9) rfl dX12_term_49 ?_
          refine lv_iconst (v := 1) hx hb dX12_term_52 (by decide) ?_
          refine lv_iadd hx hb dX12_term_53 ?_
          refine lv_topi (fun z_260 ez_260 => ?_)
          try have iz_260 : z_260.toInt = (v_191 1).toInt + (1 : Int) := by rw [ez_260]; exact tl_addN (v_191 1) 1 rfl rfl (by omega) (by omega)
          obtain ⟨Γ_261, eΓ_261⟩ : ∃ y : tk_G, y = tg Γ_186 (39, 0, 0) 1 z_260.toInt := ⟨_, rfl⟩
          have hv_262 : ∀ i : Nat, i < 16 → ((upd v_191 1 z_260) i).toInt = Γ_261 (39, 0, 0) i := by rw [eΓ_261, tg_f]; exact tp_gi_upd hv_194
          have hI9 : tp_I cy L K Γ_261 (va_up f_184 o (.inr (12, [.ref (r_190 0), .ref (r_190 1), .int (v_191 0), .ref (r_190 2), .ref (r_190 3), .ref (r_190 4), .ref (r_190 5), .ref (r_190 6), .ref (r_190 7), .ref (r_190 8), .ref (r_190 9), .ref (r_190 10), .ref (r_190 11), .ref (r_190 12), .ref (r_190 13), .ref (r_190 14), .ref (r_190 15), .int z_260, .int (v_191 2), .int (v_191 3), .int (v_191 4), .int (v_191 5), .int (v_191 6), .int (v_191 7), .ref (r_190 16), .int (v_191 8), .ref (r_190 17), .int (v_191 9), .ref (r_190 18), .long q_192, .ref (r_190 19), .ref (r_190 20), .int (v_191 10), .int (v_191 11), .int (v_191 12), .ref (r_190 21), .ref (r_190 22), .int (v_191 13), .ref (r_190 23), .int (v_191 14), .int (v_191 15), .ref (r_190 24), .ref (r_190 25), .ref (r_190 26), .ref (r_190 27), .ref (r_190 28), .ref (r_190 29), .ref (r_190 30), .ref (r_190 31)]))) := by have q9 := hv_262; rw [eΓ_261, tg_f] at q9; rw [eΓ_261]; exact hI.setg hU rfl ho (show tp_o_M L K 0 0 (tgu (Γ_186 (39, 0, 0)) 1 z_260.toInt) _ from ⟨r_190, (upd v_191 1 z_260), q_192, rfl, hr_193, q9⟩)
          have hfr9 : ∀ b, (K b).1 ∉ ([39, 43, 44] : List Nat) → va_up f_184 o (.inr (12, [.ref (r_190 0), .ref (r_190 1), .int (v_191 0), .ref (r_190 2), .ref (r_190 3), .ref (r_190 4), .ref (r_190 5), .ref (r_190 6), .ref (r_190 7), .ref (r_190 8), .ref (r_190 9), .ref (r_190 10), .ref (r_190 11), .ref (r_190 12), .ref (r_190 13), .ref (r_190 14), .ref (r_190 15), .int z_260, .int (v_191 2), .int (v_191 3), .int (v_191 4), .int (v_191 5), .int (v_191 6), .int (v_191 7), .ref (r_190 16), .int (v_191 8), .ref (r_190 17), .int (v_191 9), .ref (r_190 18), .long q_192, .ref (r_190 19), .ref (r_190 20), .int (v_191 10), .int (v_191 11), .int (v_191 12), .ref (r_190 21), .ref (r_190 22), .int (v_191 13), .ref (r_190 23), .int (v_191 14), .int (v_191 15), .ref (r_190 24), .ref (r_190 25), .ref (r_190 26), .ref (r_190 27), .ref (r_190 28), .ref (r_190 29), .ref (r_190 30), .ref (r_190 31)])) b = f b := tp_fr hfr ho (by decide)
          refine tp_put (cy := cy) (ci := 12) (v := .int z_260) (ty := tyX12 17) (C := RX12) (T := TX12) (N := 49) hx hb hta inlX12 tyX12 tyX12_ok nmX12 hown hK hP hD hS ho.1 hf_189 rfl 17 (by decide) (hta _ wk_539) (fun _ h9 => h9) rfl (tyX12_ok 17 (by decide)) rfl rfl (Nat.le_of_ble_eq_true rfl) dX12_term_54 (fun H locs hP hD hS => ?_)
          have hP : va_P D vwCl (va_pl L (va_up f_184 o (.inr (12, [.ref (r_190 0), .ref (r_190 1), .int (v_191 0), .ref (r_190 2), .ref (r_190 3), .ref (r_190 4), .ref (r_190 5), .ref (r_190 6), .ref (r_190 7), .ref (r_190 8), .ref (r_190 9), .ref (r_190 10), .ref (r_190 11), .ref (r_190 12), .ref (r_190 13), .ref (r_190 14), .ref (r_190 15), .int z_260, .int (v_191 2), .int (v_191 3), .int (v_191 4), .int (v_191 5), .int (v_191 6), .int (v_191 7), .ref (r_190 16), .int (v_191 8), .ref (r_190 17), .int (v_191 9), .ref (r_190 18), .long q_192, .ref (r_190 19), .ref (r_190 20), .int (v_191 10), .int (v_191 11), .int (v_191 12), .ref (r_190 21), .ref (r_190 22), .int (v_191 13), .ref (r_190 23), .int (v_191 14), .int (v_191 15), .ref (r_190 24), .ref (r_190 25), .ref (r_190 26), .ref (r_190 27), .ref (r_190 28), .ref (r_190 29), .ref (r_190 30), .ref (r_190 31)])))) H := hP
          generalize hfe : va_up f_184 o (.inr (12, [.ref (r_190 0), .ref (r_190 1), .int (v_191 0), .ref (r_190 2), .ref (r_190 3), .ref (r_190 4), .ref (r_190 5), .ref (r_190 6), .ref (r_190 7), .ref (r_190 8), .ref (r_190 9), .ref (r_190 10), .ref (r_190 11), .ref (r_190 12), .ref (r_190 13), .ref (r_190 14), .ref (r_190 15), .int z_260, .int (v_191 2), .int (v_191 3), .int (v_191 4), .int (v_191 5), .int (v_191 6), .int (v_191 7), .ref (r_190 16), .int (v_191 8), .ref (r_190 17), .int (v_191 9), .ref (r_190 18), .long q_192, .ref (r_190 19), .ref (r_190 20), .int (v_191 10), .int (v_191 11), .int (v_191 12), .ref (r_190 21), .ref (r_190 22), .int (v_191 13), .ref (r_190 23), .int (v_191 14), .int (v_191 15), .ref (r_190 24), .ref (r_190 25), .ref (r_190 26), .ref (r_190 27), .ref (r_190 28), .ref (r_190 29), .ref (r_190 30), .ref (r_190 31)])) = f_263 at hP hI9 hfr9
          have hD : va_D A (va_pl L f_263) := tp_D hL hAL
          have hf_264 : f_263 o = .inr (12, [.ref (r_190 0), .ref (r_190 1), .int (v_191 0), .ref (r_190 2), .ref (r_190 3), .ref (r_190 4), .ref (r_190 5), .ref (r_190 6), .ref (r_190 7), .ref (r_190 8), .ref (r_190 9), .ref (r_190 10), .ref (r_190 11), .ref (r_190 12), .ref (r_190 13), .ref (r_190 14), .ref (r_190 15), .int z_260, .int (v_191 2), .int (v_191 3), .int (v_191 4), .int (v_191 5), .int (v_191 6), .int (v_191 7), .ref (r_190 16), .int (v_191 8), .ref (r_190 17), .int (v_191 9), .ref (r_190 18), .long q_192, .ref (r_190 19), .ref (r_190 20), .int (v_191 10), .int (v_191 11), .int (v_191 12), .ref (r_190 21), .ref (r_190 22), .int (v_191 13), .ref (r_190 23), .int (v_191 14), .int (v_191 15), .ref (r_190 24), .ref (r_190 25), .ref (r_190 26), .ref (r_190 27), .ref (r_190 28), .ref (r_190 29), .ref (r_190 30), .ref (r_190 31)]) := by rw [← hfe]; exact va_up_self _ _ _
          clear hfe
          have hI := hI9
          have hfr := hfr9
          clear hI9 hfr9
          have hgr : ∀ κ : tk_K, κ.1 ∉ ([39, 43, 44] : List Nat) → Γ_261 κ = Γ κ := tg_fr hgr eΓ_261 (by decide)
          have hx_265 : (v_191 0).toInt = Γ_261 (39, 0, 0) 0 := hv_262 0 (by decide)
          have hx_266 : z_260.toInt = Γ_261 (39, 0, 0) 1 := hv_262 1 (by decide)
          have hx_267 : (v_191 3).toInt = Γ_261 (39, 0, 0) 3 := hv_262 3 (by decide)
          have hx_268 : (v_191 4).toInt = Γ_261 (39, 0, 0) 4 := hv_262 4 (by decide)
          have hx_269 : (v_191 5).toInt = Γ_261 (39, 0, 0) 5 := hv_262 5 (by decide)
          have hx_270 : (v_191 6).toInt = Γ_261 (39, 0, 0) 6 := hv_262 6 (by decide)
          have hx_271 : (v_191 7).toInt = Γ_261 (39, 0, 0) 7 := hv_262 7 (by decide)
          have hx_272 : (v_191 8).toInt = Γ_261 (39, 0, 0) 8 := hv_262 8 (by decide)
          obtain ⟨hpa, hpb, hpc, hpd, _⟩ := id hp
          have hle := congrFun (show Γ_261 (44, 22, 0) = _ from by rw [eΓ_261, tg_rf (by decide)]) t0.toNat
          have hp : ps (Γ_261 (43, 8800, 0)) t0 (Γ_261 (44, 22, 0) t0.toNat) (Γ_261 (39, 0, 0) 1) T0 (Γ_261 (39, 0, 0) 5) a (d + 1) := hp.eq (show Γ_261 (43, 8800, 0) = _ from by rw [eΓ_261, tg_rf (by decide)]) rfl (congrFun (show Γ_261 (44, 22, 0) = _ from by rw [eΓ_261, tg_rf (by decide)]) _) (by omega) rfl (by omega)
          have hz : fz (Γ (43, 8800, 0)) (Γ_261 (43, 8800, 0)) (Γ (44, 22, 0)) (Γ_261 (44, 22, 0)) t0 := by rw [(show Γ_261 (43, 8800, 0) = _ from by rw [eΓ_261, tg_rf (by decide)]), (show Γ_261 (44, 22, 0) = _ from by rw [eΓ_261, tg_rf (by decide)])]; exact hz
          have hfw : fw (Γ (43, 8800, 0)) (Γ_261 (43, 8800, 0)) (Γ (44, 22, 0)) (Γ_261 (44, 22, 0)) t0 := by rw [(show Γ_261 (43, 8800, 0) = _ from by rw [eΓ_261, tg_rf (by decide)]), (show Γ_261 (44, 22, 0) = _ from by rw [eΓ_261, tg_rf (by decide)])]; exact hfw
          refine lv_aload_n hx hb dX12_term_57 rfl (lv_at hl 1 rfl) ?_
          refine tq_ciR hS (hAf _ hS.1) (tq_rV (As := []) (rest := []) ⟨hx, hb, hml, hown, hta⟩ (tp_P.pre hK hN hL hU hI hP) (tp_recv hK hP ho.1 hf_264 rfl) lk_X12_242 (r_X12_value l D cy H.size L K Γ_261 f_263 o τ T0 t0 a (d + 1) ho ((hgr _ (by decide)).trans ht) (by first | omega | (simp only [Int32.toInt_toInt64]; omega) | decide | assumption) (by first | omega | (simp only [Int32.toInt_toInt64]; omega) | decide | assumption) (by first | omega | (simp only [Int32.toInt_toInt64]; omega) | decide | assumption) (by first | omega | (simp only [Int32.toInt_toInt64]; omega) | decide | assumption)) rfl rfl ⟨Nat.le_of_ble_eq_true rfl, Nat.le_of_ble_eq_true rfl⟩ rfl hl.1 rfl (Nat.le_of_ble_eq_true rfl) dX12_term_58 ⟨Nat.le_of_ble_eq_true rfl, Nat.le_of_ble_eq_true rfl⟩) (fun r_274 f_275 Γ_277 H locs hw_273 hP hI hc_276 hcg_278 hS => ?_)
          have hD : va_D A (va_pl L f_275) := tp_D hL hAL
          have hfr := tp_fr2 hfr hc_276 (by decide)
          have hgr : ∀ κ : tk_K, κ.1 ∉ ([39, 43, 44] : List Nat) → Γ_277 κ = Γ κ := tg_fr2 hgr hcg_278 (by decide)
          obtain ⟨hE_279, hw_273⟩ := hw_273
          have hE_279 : tl_J r_274 (ps (Γ_277 (43, 8800, 0)) t0 (Γ_277 (44, 22, 0) t0.toNat) (Γ_277 (39, 0, 0) 1) T0 (Γ_277 (39, 0, 0) 5) a ((d + 1) + 1) ∧ Γ_261 (39, 0, 0) 1 - Γ_261 (44, 22, 0) t0.toNat ≤ Γ_277 (39, 0, 0) 1 - Γ_277 (44, 22, 0) t0.toNat ∧ fz (Γ_261 (43, 8800, 0)) (Γ_277 (43, 8800, 0)) (Γ_261 (44, 22, 0)) (Γ_277 (44, 22, 0)) t0) := hE_279
          have hw_273 : Γ_277 (39, 0, 0) 0 = Γ_261 (39, 0, 0) 0 ∧ Γ_277 (39, 0, 0) 4 = Γ_261 (39, 0, 0) 4 ∧ Γ_277 (39, 0, 0) 6 = Γ_261 (39, 0, 0) 6 ∧ Γ_277 (39, 0, 0) 7 = Γ_261 (39, 0, 0) 7 ∧ Γ_277 (39, 0, 0) 8 = Γ_261 (39, 0, 0) 8 ∧ Γ_261 (39, 0, 0) 1 ≤ Γ_277 (39, 0, 0) 1 ∧ Γ_277 (39, 0, 0) 1 ≤ T0 ∧ fw (Γ_261 (43, 8800, 0)) (Γ_277 (43, 8800, 0)) (Γ_261 (44, 22, 0)) (Γ_277 (44, 22, 0)) t0 := hw_273
          have hfw := hfw.trans hw_273.2.2.2.2.2.2.2
          refine lv_if_ne (tgt := 66) hx hb dX12_term_61 (by decide) (fun c_280 => ?_) (fun c_280 => ?_)
          · have c_280 := hE_279.t c_280
            obtain ⟨hp, hsl, hz9⟩ := c_280
            have hz := hz.trans hz9
            refine lv_aload_n hx hb dX12_term_66 rfl (lv_at hl 1 rfl) ?_
            refine lv_iload_n hx hb dX12_term_67 rfl (lv_at hl 0 rfl) ?_
            refine lv_iconst (v := 0) hx hb dX12_term_68 (by decide) ?_
            obtain ⟨hpa, hpb, hpc, hpd, _⟩ := id hp
            obtain ⟨r_282, v_283, q_284, hf_281, hr_285, hv_286⟩ := (show tp_o_M L K 0 0 (Γ_277 (39, 0, 0)) (f_275 o) from hI.at ho)
            have hx_287 : (v_283 0).toInt = Γ_277 (39, 0, 0) 0 := hv_286 0 (by decide)
            have hx_288 : (v_283 1).toInt = Γ_277 (39, 0, 0) 1 := hv_286 1 (by decide)
            have hx_289 : (v_283 3).toInt = Γ_277 (39, 0, 0) 3 := hv_286 3 (by decide)
            have hx_290 : (v_283 4).toInt = Γ_277 (39, 0, 0) 4 := hv_286 4 (by decide)
            have hx_291 : (v_283 5).toInt = Γ_277 (39, 0, 0) 5 := hv_286 5 (by decide)
            have hx_292 : (v_283 6).toInt = Γ_277 (39, 0, 0) 6 := hv_286 6 (by decide)
            have hx_293 : (v_283 7).toInt = Γ_277 (39, 0, 0) 7 := hv_286 7 (by decide)
            have hx_294 : (v_283 8).toInt = Γ_277 (39, 0, 0) 8 := hv_286 8 (by decide)
            refine tq_cvR hS (hAf _ hS.1) (tq_rV (As := [.int 4, .int 0]) (rest := []) ⟨hx, hb, hml, hown, hta⟩ (tp_P.pre hK hN hL hU hI hP) (tp_recv hK hP ho.1 hf_281 rfl) lk_X12_228 (r_X12_puts l D cy H.size L K Γ_277 f_275 o 4 0 t0 ho (by first | omega | (simp only [Int32.toInt_toInt64]; omega) | decide | assumption) (by first | omega | (simp only [Int32.toInt_toInt64]; omega) | decide | assumption) (by first | omega | (simp only [Int32.toInt_toInt64]; omega) | decide | assumption) (by first | omega | (simp only [Int32.toInt_toInt64]; omega) | decide | assumption)) rfl rfl ⟨Nat.le_of_ble_eq_true rfl, Nat.le_of_ble_eq_true rfl⟩ rfl hl.1 rfl (Nat.le_of_ble_eq_true rfl) dX12_term_69 ⟨Nat.le_of_ble_eq_true rfl, Nat.le_of_ble_eq_true rfl⟩) (fun f_297 Γ_299 H locs hw_295 hP hI hc_298 hcg_300 hS => ?_)
            have hD : va_D A (va_pl L f_297) := tp_D hL hAL
            have hfr := tp_fr2 hfr hc_298 (by decide)
            have hgr : ∀ κ : tk_K, κ.1 ∉ ([39, 43, 44] : List Nat) → Γ_299 κ = Γ κ := tg_fr2 hgr hcg_300 (by decide)
            have hf_301 := (tp_un hc_298 ho (by decide)).trans hf_281
            have hv_302 : ∀ i : Nat, i < 16 → (v_283 i).toInt = Γ_299 (39, 0, 0) i := fun i hi => by rw [hcg_300 _ (by decide)]; exact hv_286 i hi
            have hx_303 : (v_283 0).toInt = Γ_299 (39, 0, 0) 0 := hv_302 0 (by decide)
            have hx_304 : (v_283 1).toInt = Γ_299 (39, 0, 0) 1 := hv_302 1 (by decide)
            have hx_305 : (v_283 3).toInt = Γ_299 (39, 0, 0) 3 := hv_302 3 (by decide)
            have hx_306 : (v_283 4).toInt = Γ_299 (39, 0, 0) 4 := hv_302 4 (by decide)
            have hx_307 : (v_283 5).toInt = Γ_299 (39, 0, 0) 5 := hv_302 5 (by decide)
            have hx_308 : (v_283 6).toInt = Γ_299 (39, 0, 0) 6 := hv_302 6 (by decide)
            have hx_309 : (v_283 7).toInt = Γ_299 (39, 0, 0) 7 := hv_302 7 (by decide)
            have hx_310 : (v_283 8).toInt = Γ_299 (39, 0, 0) 8 := hv_302 8 (by decide)
            have mk_299_0 : Γ_299 (39, 0, 0) 0 = Γ_277 (39, 0, 0) 0 := congrFun (hcg_300 (39, 0, 0) (by decide)) 0
            have mk_299_1 : Γ_299 (39, 0, 0) 1 = Γ_277 (39, 0, 0) 1 := congrFun (hcg_300 (39, 0, 0) (by decide)) 1
            have mk_299_3 : Γ_299 (39, 0, 0) 3 = Γ_277 (39, 0, 0) 3 := congrFun (hcg_300 (39, 0, 0) (by decide)) 3
            have mk_299_4 : Γ_299 (39, 0, 0) 4 = Γ_277 (39, 0, 0) 4 := congrFun (hcg_300 (39, 0, 0) (by decide)) 4
            have mk_299_5 : Γ_299 (39, 0, 0) 5 = Γ_277 (39, 0, 0) 5 := congrFun (hcg_300 (39, 0, 0) (by decide)) 5
            have mk_299_6 : Γ_299 (39, 0, 0) 6 = Γ_277 (39, 0, 0) 6 := congrFun (hcg_300 (39, 0, 0) (by decide)) 6
            have mk_299_7 : Γ_299 (39, 0, 0) 7 = Γ_277 (39, 0, 0) 7 := congrFun (hcg_300 (39, 0, 0) (by decide)) 7
            have mk_299_8 : Γ_299 (39, 0, 0) 8 = Γ_277 (39, 0, 0) 8 := congrFun (hcg_300 (39, 0, 0) (by decide)) 8
            have hw_295 : Γ_299 (43, 8800, 0) = tgu (Γ_277 (43, 8800, 0)) (400 * t0 + Γ_277 (44, 22, 0) t0.toNat).toNat ((4 : Int) + 16 * (0 : Int)) ∧ Γ_299 (44, 22, 0) = tgu (Γ_277 (44, 22, 0)) t0.toNat (Γ_277 (44, 22, 0) t0.toNat + 1) := hw_295
            obtain ⟨hpa, hpb, hpc, hpd, _⟩ := id hp
            have hlem : rp_ok ((4 : Int) + 16 * (0 : Int)) ((d + 1) + 1) ∧ rp_d ((4 : Int) + 16 * (0 : Int)) = -1 := (rp_two (by omega) (by omega))
            have hput := hp.put (e := ((4 : Int) + 16 * (0 : Int))) (by omega) hlem.1 (by rw [hlem.2]; omega)
            rw [hlem.2] at hput
            have hln2 : Γ_299 (44, 22, 0) t0.toNat = Γ_277 (44, 22, 0) t0.toNat + 1 := by rw [hw_295.2, tgu_s]
            have hfz2 : fz (Γ_277 (43, 8800, 0)) (Γ_299 (43, 8800, 0)) (Γ_277 (44, 22, 0)) (Γ_299 (44, 22, 0)) t0 := by rw [hw_295.1, hw_295.2]; exact fz.put (by omega) (by omega)
            have hp : ps (Γ_299 (43, 8800, 0)) t0 (Γ_299 (44, 22, 0) t0.toNat) (Γ_299 (39, 0, 0) 1) T0 (Γ_299 (39, 0, 0) 5) a ((d + 1) + 1 + -1) := by rw [hln2, hw_295.1, show Γ_299 (39, 0, 0) 1 = Γ_277 (39, 0, 0) 1 from by omega, show Γ_299 (39, 0, 0) 5 = Γ_277 (39, 0, 0) 5 from by omega]; exact hput
            have hz := hz.trans hfz2
            have hfw := hfw.trans (hfz2.fw (by omega))
            refine lv_goto (tgt := 9) hx hb dX12_term_72 (by decide) ?_
            exact ih9 (f_297, Γ_299) H locs ls (by show (400 - Γ_299 (39, 0, 0) 1).toNat < (400 - Γ_24 (39, 0, 0) 1).toNat; omega) ⟨(show ps (Γ_299 (43, 8800, 0)) t0 (Γ_299 (44, 22, 0) t0.toNat) (Γ_299 (39, 0, 0) 1) T0 (Γ_299 (39, 0, 0) 5) a (d + 1) from (by have h9 := hp; rw [show (d + 1) + 1 + -1 = d + 1 from by omega] at h9; exact h9)), (show fz (Γ (43, 8800, 0)) (Γ_299 (43, 8800, 0)) (Γ (44, 22, 0)) (Γ_299 (44, 22, 0)) t0 from hz), (show fw (Γ (43, 8800, 0)) (Γ_299 (43, 8800, 0)) (Γ (44, 22, 0)) (Γ_299 (44, 22, 0)) t0 from hfw), (show Γ (39, 0, 0) 1 - Γ (44, 22, 0) t0.toNat ≤ Γ_299 (39, 0, 0) 1 - Γ_299 (44, 22, 0) t0.toNat from (by omega)), (show Γ_299 (39, 0, 0) 0 = Γ (39, 0, 0) 0 from (by omega)), (show Γ_299 (39, 0, 0) 4 = Γ (39, 0, 0) 4 from (by omega)), (show Γ_299 (39, 0, 0) 6 = Γ (39, 0, 0) 6 from (by omega)), (show Γ_299 (39, 0, 0) 7 = Γ (39, 0, 0) 7 from (by omega)), (show Γ_299 (39, 0, 0) 8 = Γ (39, 0, 0) 8 from (by omega)), (show Γ (39, 0, 0) 1 ≤ Γ_299 (39, 0, 0) 1 ∧ Γ_299 (39, 0, 0) 1 ≤ T0 from (by omega)), hP, hI, hfr, hgr, hS, lv_sub hl [1] rfl⟩
          · have c_280 := c_280
            refine lv_iconst (v := 0) hx hb dX12_term_64 (by decide) ?_
            have hpo9 : tl_J (0 : Int32) (ps (Γ_277 (43, 8800, 0)) t0 (Γ_277 (44, 22, 0) t0.toNat) (Γ_277 (39, 0, 0) 1) T0 (Γ_277 (39, 0, 0) 5) a (d + 1) ∧ Γ (39, 0, 0) 1 - Γ (44, 22, 0) t0.toNat ≤ Γ_277 (39, 0, 0) 1 - Γ_277 (44, 22, 0) t0.toNat ∧ fz (Γ (43, 8800, 0)) (Γ_277 (43, 8800, 0)) (Γ (44, 22, 0)) (Γ_277 (44, 22, 0)) t0) ∧ Γ_277 (39, 0, 0) 0 = Γ (39, 0, 0) 0 ∧ Γ_277 (39, 0, 0) 4 = Γ (39, 0, 0) 4 ∧ Γ_277 (39, 0, 0) 6 = Γ (39, 0, 0) 6 ∧ Γ_277 (39, 0, 0) 7 = Γ (39, 0, 0) 7 ∧ Γ_277 (39, 0, 0) 8 = Γ (39, 0, 0) 8 ∧ Γ (39, 0, 0) 1 ≤ Γ_277 (39, 0, 0) 1 ∧ Γ_277 (39, 0, 0) 1 ≤ T0 ∧ fw (Γ (43, 8800, 0)) (Γ_277 (43, 8800, 0)) (Γ (44, 22, 0)) (Γ_277 (44, 22, 0)) t0 := ⟨(Or.inr rfl), ⟨(by omega), (by omega), (by omega), (by omega), (by omega), (by omega), (by omega), hfw⟩⟩
            exact W.zret (ty := .boolean) (v := 0) hx hb hr rfl (fun t ht hW => ⟨⟨_, (f_275, Γ_277), rfl, hpo9, by rw [ht]; exact hP, hI, hfr, hgr⟩, hS.F ht⟩) hS.2.2 dX12_term_65
  · have c_22 := c_22
    refine lv_iconst (v := 0) hx hb dX12_term_7 (by decide) ?_
    have hpo9 : tl_J (0 : Int32) (ps (Γ_19 (43, 8800, 0)) t0 (Γ_19 (44, 22, 0) t0.toNat) (Γ_19 (39, 0, 0) 1) T0 (Γ_19 (39, 0, 0) 5) a (d + 1) ∧ Γ (39, 0, 0) 1 - Γ (44, 22, 0) t0.toNat ≤ Γ_19 (39, 0, 0) 1 - Γ_19 (44, 22, 0) t0.toNat ∧ fz (Γ (43, 8800, 0)) (Γ_19 (43, 8800, 0)) (Γ (44, 22, 0)) (Γ_19 (44, 22, 0)) t0) ∧ Γ_19 (39, 0, 0) 0 = Γ (39, 0, 0) 0 ∧ Γ_19 (39, 0, 0) 4 = Γ (39, 0, 0) 4 ∧ Γ_19 (39, 0, 0) 6 = Γ (39, 0, 0) 6 ∧ Γ_19 (39, 0, 0) 7 = Γ (39, 0, 0) 7 ∧ Γ_19 (39, 0, 0) 8 = Γ (39, 0, 0) 8 ∧ Γ (39, 0, 0) 1 ≤ Γ_19 (39, 0, 0) 1 ∧ Γ_19 (39, 0, 0) 1 ≤ T0 ∧ fw (Γ (43, 8800, 0)) (Γ_19 (43, 8800, 0)) (Γ (44, 22, 0)) (Γ_19 (44, 22, 0)) t0 := ⟨(Or.inr rfl), ⟨(by omega), (by omega), (by omega), (by omega), (by omega), (by omega), (by omega), hfw⟩⟩
    exact W.zret (ty := .boolean) (v := 0) hx hb hr rfl (fun t ht hW => ⟨⟨_, (f_17, Γ_19), rfl, hpo9, by rw [ht]; exact hP, hI, hfr, hgr⟩, hS.F ht⟩) hS.2.2 dX12_term_8
set_option maxHeartbeats 4000000 in
set_option maxRecDepth 100000 in
theorem r_X12_sum (l : Launch) (D : va_G) (cy : Nat → ClassId) (sz : Nat) (L : List Nat) (K : Nat → tk_K) (Γ : tk_G) (f : Nat → va_E) (o : Nat) (τ : Nat → Int) (T0 : Int) (t0 : Int) (a : Nat) (d : Int) (ho : tp_r L K 39 (0) 0 o) (ht : Γ (41, 400, 0) = τ) (hT : Γ (39, 0, 0) 0 = T0) (hb0 : 0 ≤ Γ (39, 0, 0) 1 ∧ Γ (39, 0, 0) 1 ≤ T0 ∧ T0 ≤ 400) (h4 : Γ (39, 0, 0) 4 = t0) (hp : ps (Γ (43, 8800, 0)) t0 (Γ (44, 22, 0) t0.toNat) (Γ (39, 0, 0) 1) T0 (Γ (39, 0, 0) 5) a (d)) : Met l yX12_sum (tl_w yX12_sum cX12_sum 2 (some .boolean)) ({ frames := 5, cells := 0, slots := 0, locals := 109 }) (va_Pc [.ref o] (tp_P D cy L K Γ f sz)) (va_Qi (fun (r : Int32) (u : (Nat → va_E) × tk_G) => tl_J r (ps (u.2 (43, 8800, 0)) t0 (u.2 (44, 22, 0) t0.toNat) (u.2 (39, 0, 0) 1) T0 (u.2 (39, 0, 0) 5) a (d + 1) ∧ Γ (39, 0, 0) 1 - Γ (44, 22, 0) t0.toNat ≤ u.2 (39, 0, 0) 1 - u.2 (44, 22, 0) t0.toNat ∧ fz (Γ (43, 8800, 0)) (u.2 (43, 8800, 0)) (Γ (44, 22, 0)) (u.2 (44, 22, 0)) t0) ∧ u.2 (39, 0, 0) 0 = Γ (39, 0, 0) 0 ∧ u.2 (39, 0, 0) 4 = Γ (39, 0, 0) 4 ∧ u.2 (39, 0, 0) 6 = Γ (39, 0, 0) 6 ∧ u.2 (39, 0, 0) 7 = Γ (39, 0, 0) 7 ∧ u.2 (39, 0, 0) 8 = Γ (39, 0, 0) 8 ∧ Γ (39, 0, 0) 1 ≤ u.2 (39, 0, 0) 1 ∧ u.2 (39, 0, 0) 1 ≤ T0 ∧ fw (Γ (43, 8800, 0)) (u.2 (43, 8800, 0)) (Γ (44, 22, 0)) (u.2 (44, 22, 0)) t0) (tp_BG D cy L K Γ f [39, 43, 44]) (tp_A L sz)) 0 0 (tp_A L sz) := by
  refine Met.ofW (cc := cX12_sum) (maxL := 2) (ret := (some .boolean)) (by decide) rfl ?_
  intro p e s m args below meth c s₁ B hml hv
  obtain ⟨rfl, hsz, hP, hK, hL, hI, hN, hU⟩ := hv
  have hx := B.exec
  have hb := B.bytes
  have hr := B.returns
  have hta := tl_hta (atoms_spec (ws := tl_w yX12_sum cX12_sum 2 (some .boolean)) B.pre)
  have hown : s.vm.findClass RX12 = some m.cls := findClass_of_methodNamed B.named
  have hlocks := B.notSynchronized
  subst hsz
  have hI0 := hI
  generalize hAe : tp_A L s.heap.size = A
  have hA : ∀ q : Nat, s.heap.size ≤ q → A q := fun q h => by rw [← hAe]; exact Or.inr h
  have hAL : ∀ q ∈ L, A q := fun q h => by rw [← hAe]; exact Or.inl h
  have hAf : ∀ (H : Heap), s.heap.size ≤ H.size → ∀ q, tp_A L H.size q → A q := fun H h q hq => hq.elim (hAL q) (fun h2 => hA q (Nat.le_trans h h2))
  have hS : va_S A s.heap s.heap [] := va_S.rf
  have hD : va_D A (va_pl L f) := tp_D hL hAL
  have hfr : ∀ b, (K b).1 ∉ ([39, 43, 44] : List Nat) → f b = f b := fun _ _ => rfl
  have hgr : ∀ κ : tk_K, κ.1 ∉ ([39, 43, 44] : List Nat) → Γ κ = Γ κ := fun _ _ => rfl
  have hl := lv_entry ([.ref o]) (n := 2) (Nat.le_of_ble_eq_true rfl)
  rw [lg_entry_eq]
  generalize (lg_sl ([.ref o]) ++ List.replicate (2 - (lg_sl ([.ref o])).length) Slot.unset).toArray = ls at hl ⊢
  have hl : lv_has ls 2 [(0, .ref o)] := hl
  have hz : fz (Γ (43, 8800, 0)) (Γ (43, 8800, 0)) (Γ (44, 22, 0)) (Γ (44, 22, 0)) t0 := fz.rfl
  have hfw : fw (Γ (43, 8800, 0)) (Γ (43, 8800, 0)) (Γ (44, 22, 0)) (Γ (44, 22, 0)) t0 := fw.same
  have hpo := hp
  obtain ⟨hp1, hp2, hp3, hp4, _⟩ := hpo
  refine lv_aload_n hx hb dX12_sum_0 rfl (lv_at hl 0 rfl) ?_
  obtain ⟨r_2, v_3, q_4, hf_1, hr_5, hv_6⟩ := (show tp_o_M L K 0 0 (Γ (39, 0, 0)) (f o) from hI.at ho)
  refine tq_ciR hS (hAf _ hS.1) (tq_rV (As := []) (rest := []) ⟨hx, hb, hml, hown, hta⟩ (tp_P.pre hK hN hL hU hI hP) (tp_recv hK hP ho.1 hf_1 rfl) lk_X12_246 (r_X12_term l D cy s.heap.size L K Γ f o τ T0 t0 a d ho ht (by first | omega | (simp only [Int32.toInt_toInt64]; omega) | decide | assumption) (by first | omega | (simp only [Int32.toInt_toInt64]; omega) | decide | assumption) (by first | omega | (simp only [Int32.toInt_toInt64]; omega) | decide | assumption) (by first | omega | (simp only [Int32.toInt_toInt64]; omega) | decide | assumption)) rfl rfl ⟨Nat.le_of_ble_eq_true rfl, Nat.le_of_ble_eq_true rfl⟩ rfl hl.1 rfl (Nat.le_of_ble_eq_true rfl) dX12_sum_1 ⟨Nat.le_of_ble_eq_true rfl, Nat.le_of_ble_eq_true rfl⟩) (fun r_16 f_17 Γ_19 H locs hw_15 hP hI hc_18 hcg_20 hS => ?_)
  have hD : va_D A (va_pl L f_17) := tp_D hL hAL
  have hfr := tp_fr2 hfr hc_18 (by decide)
  have hgr : ∀ κ : tk_K, κ.1 ∉ ([39, 43, 44] : List Nat) → Γ_19 κ = Γ κ := tg_fr2 hgr hcg_20 (by decide)
  obtain ⟨hE_21, hw_15⟩ := hw_15
  have hE_21 : tl_J r_16 (ps (Γ_19 (43, 8800, 0)) t0 (Γ_19 (44, 22, 0) t0.toNat) (Γ_19 (39, 0, 0) 1) T0 (Γ_19 (39, 0, 0) 5) a (d + 1) ∧ Γ (39, 0, 0) 1 - Γ (44, 22, 0) t0.toNat ≤ Γ_19 (39, 0, 0) 1 - Γ_19 (44, 22, 0) t0.toNat ∧ fz (Γ (43, 8800, 0)) (Γ_19 (43, 8800, 0)) (Γ (44, 22, 0)) (Γ_19 (44, 22, 0)) t0) := hE_21
  have hw_15 : Γ_19 (39, 0, 0) 0 = Γ (39, 0, 0) 0 ∧ Γ_19 (39, 0, 0) 4 = Γ (39, 0, 0) 4 ∧ Γ_19 (39, 0, 0) 6 = Γ (39, 0, 0) 6 ∧ Γ_19 (39, 0, 0) 7 = Γ (39, 0, 0) 7 ∧ Γ_19 (39, 0, 0) 8 = Γ (39, 0, 0) 8 ∧ Γ (39, 0, 0) 1 ≤ Γ_19 (39, 0, 0) 1 ∧ Γ_19 (39, 0, 0) 1 ≤ T0 ∧ fw (Γ (43, 8800, 0)) (Γ_19 (43, 8800, 0)) (Γ (44, 22, 0)) (Γ_19 (44, 22, 0)) t0 := hw_15
  have hfw := hfw.trans hw_15.2.2.2.2.2.2.2
  refine lv_if_ne (tgt := 9) hx hb dX12_sum_4 (by decide) (fun c_22 => ?_) (fun c_22 => ?_)
  · have c_22 := hE_21.t c_22
    obtain ⟨hp, hsl, hz9⟩ := c_22
    have hz := hz.trans hz9
    refine tl_ind (G := fun H locs ls => W p l e ((headSpec (tl_w yX12_sum cX12_sum 2 (some .boolean)) ({ frames := 5, cells := 0, slots := 0, locals := 109 })).room) s m #[.ref o] below meth c H locs 0 0 (MQ below (va_Qi (fun (r : Int32) (u : (Nat → va_E) × tk_G) => tl_J r (ps (u.2 (43, 8800, 0)) t0 (u.2 (44, 22, 0) t0.toNat) (u.2 (39, 0, 0) 1) T0 (u.2 (39, 0, 0) 5) a (d + 1) ∧ Γ (39, 0, 0) 1 - Γ (44, 22, 0) t0.toNat ≤ u.2 (39, 0, 0) 1 - u.2 (44, 22, 0) t0.toNat ∧ fz (Γ (43, 8800, 0)) (u.2 (43, 8800, 0)) (Γ (44, 22, 0)) (u.2 (44, 22, 0)) t0) ∧ u.2 (39, 0, 0) 0 = Γ (39, 0, 0) 0 ∧ u.2 (39, 0, 0) 4 = Γ (39, 0, 0) 4 ∧ u.2 (39, 0, 0) 6 = Γ (39, 0, 0) 6 ∧ u.2 (39, 0, 0) 7 = Γ (39, 0, 0) 7 ∧ u.2 (39, 0, 0) 8 = Γ (39, 0, 0) 8 ∧ Γ (39, 0, 0) 1 ≤ u.2 (39, 0, 0) 1 ∧ u.2 (39, 0, 0) 1 ≤ T0 ∧ fw (Γ (43, 8800, 0)) (u.2 (43, 8800, 0)) (Γ (44, 22, 0)) (u.2 (44, 22, 0)) t0) (tp_BG D cy L K Γ f [39, 43, 44]) A) #[.ref o] s 0 0 A) (F0 m 9 ls [])) (α := (Nat → va_E) × tk_G) (fun aq => (400 - aq.2 (39, 0, 0) 1).toNat) (fun aq H locs ls => (ps (aq.2 (43, 8800, 0)) t0 (aq.2 (44, 22, 0) t0.toNat) (aq.2 (39, 0, 0) 1) T0 (aq.2 (39, 0, 0) 5) a (d + 1)) ∧ (fz (Γ (43, 8800, 0)) (aq.2 (43, 8800, 0)) (Γ (44, 22, 0)) (aq.2 (44, 22, 0)) t0) ∧ (fw (Γ (43, 8800, 0)) (aq.2 (43, 8800, 0)) (Γ (44, 22, 0)) (aq.2 (44, 22, 0)) t0) ∧ (Γ (39, 0, 0) 1 - Γ (44, 22, 0) t0.toNat ≤ aq.2 (39, 0, 0) 1 - aq.2 (44, 22, 0) t0.toNat) ∧ (aq.2 (39, 0, 0) 0 = Γ (39, 0, 0) 0) ∧ (aq.2 (39, 0, 0) 4 = Γ (39, 0, 0) 4) ∧ (aq.2 (39, 0, 0) 6 = Γ (39, 0, 0) 6) ∧ (aq.2 (39, 0, 0) 7 = Γ (39, 0, 0) 7) ∧ (aq.2 (39, 0, 0) 8 = Γ (39, 0, 0) 8) ∧ (Γ (39, 0, 0) 1 ≤ aq.2 (39, 0, 0) 1 ∧ aq.2 (39, 0, 0) 1 ≤ T0) ∧ va_P D vwCl (va_pl L aq.1) H ∧ tp_I cy L K aq.2 aq.1 ∧ (∀ b, (K b).1 ∉ ([39, 43, 44] : List Nat) → aq.1 b = f b) ∧ (∀ κ : tk_K, κ.1 ∉ ([39, 43, 44] : List Nat) → aq.2 κ = Γ κ) ∧ va_S A s.heap H locs ∧ lv_has ls 2 [(0, .ref o)]) ?_ (f_17, Γ_19) H locs ls ⟨(show ps (Γ_19 (43, 8800, 0)) t0 (Γ_19 (44, 22, 0) t0.toNat) (Γ_19 (39, 0, 0) 1) T0 (Γ_19 (39, 0, 0) 5) a (d + 1) from hp), (show fz (Γ (43, 8800, 0)) (Γ_19 (43, 8800, 0)) (Γ (44, 22, 0)) (Γ_19 (44, 22, 0)) t0 from hz), (show fw (Γ (43, 8800, 0)) (Γ_19 (43, 8800, 0)) (Γ (44, 22, 0)) (Γ_19 (44, 22, 0)) t0 from hfw), (show Γ (39, 0, 0) 1 - Γ (44, 22, 0) t0.toNat ≤ Γ_19 (39, 0, 0) 1 - Γ_19 (44, 22, 0) t0.toNat from (by omega)), (show Γ_19 (39, 0, 0) 0 = Γ (39, 0, 0) 0 from (by omega)), (show Γ_19 (39, 0, 0) 4 = Γ (39, 0, 0) 4 from (by omega)), (show Γ_19 (39, 0, 0) 6 = Γ (39, 0, 0) 6 from (by omega)), (show Γ_19 (39, 0, 0) 7 = Γ (39, 0, 0) 7 from (by omega)), (show Γ_19 (39, 0, 0) 8 = Γ (39, 0, 0) 8 from (by omega)), (show Γ (39, 0, 0) 1 ≤ Γ_19 (39, 0, 0) 1 ∧ Γ_19 (39, 0, 0) 1 ≤ T0 from (by omega)), hP, hI, hfr, hgr, hS, lv_sub hl [0] rfl⟩
    rintro ⟨f_23, Γ_24⟩ H locs ls ⟨hp, hz, hfw, hsl, q0, q4, q6, q7, q8, h1, hP, hI, hfr, hgr, hS, hl⟩ ih9
    have hgr : ∀ κ : tk_K, κ.1 ∉ ([39, 43, 44] : List Nat) → Γ_24 κ = Γ κ := hgr
    have hP : va_P D vwCl (va_pl L f_23) H := hP
    have hI : tp_I cy L K Γ_24 f_23 := hI
    have hfr : ∀ b, (K b).1 ∉ ([39, 43, 44] : List Nat) → f_23 b = f b := hfr
    have hD : va_D A (va_pl L f_23) := tp_D hL hAL
    have hp : ps (Γ_24 (43, 8800, 0)) t0 (Γ_24 (44, 22, 0) t0.toNat) (Γ_24 (39, 0, 0) 1) T0 (Γ_24 (39, 0, 0) 5) a (d + 1) := hp
    have hz : fz (Γ (43, 8800, 0)) (Γ_24 (43, 8800, 0)) (Γ (44, 22, 0)) (Γ_24 (44, 22, 0)) t0 := hz
    have hfw : fw (Γ (43, 8800, 0)) (Γ_24 (43, 8800, 0)) (Γ (44, 22, 0)) (Γ_24 (44, 22, 0)) t0 := hfw
    have hsl : Γ (39, 0, 0) 1 - Γ (44, 22, 0) t0.toNat ≤ Γ_24 (39, 0, 0) 1 - Γ_24 (44, 22, 0) t0.toNat := hsl
    have q0 : Γ_24 (39, 0, 0) 0 = Γ (39, 0, 0) 0 := q0
    have q4 : Γ_24 (39, 0, 0) 4 = Γ (39, 0, 0) 4 := q4
    have q6 : Γ_24 (39, 0, 0) 6 = Γ (39, 0, 0) 6 := q6
    have q7 : Γ_24 (39, 0, 0) 7 = Γ (39, 0, 0) 7 := q7
    have q8 : Γ_24 (39, 0, 0) 8 = Γ (39, 0, 0) 8 := q8
    have h1 : Γ (39, 0, 0) 1 ≤ Γ_24 (39, 0, 0) 1 ∧ Γ_24 (39, 0, 0) 1 ≤ T0 := h1
    have hl : lv_has ls 2 [(0, .ref o)] := hl
    refine lv_aload_n hx hb dX12_sum_9 rfl (lv_at hl 0 rfl) ?_
    obtain ⟨r_26, v_27, q_28, hf_25, hr_29, hv_30⟩ := (show tp_o_M L K 0 0 (Γ_24 (39, 0, 0)) (f_23 o) from hI.at ho)
    refine tq_ciR hS (hAf _ hS.1) (tq_rV (As := []) (rest := []) ⟨hx, hb, hml, hown, hta⟩ (tp_P.pre hK hN hL hU hI hP) (tp_recv hK hP ho.1 hf_25 rfl) lk_X12_167 (r_X12_see l D cy H.size L K Γ_24 f_23 o τ T0 ho ((hgr _ (by decide)).trans ht) (by first | omega | (simp only [Int32.toInt_toInt64]; omega) | decide | assumption) (by first | omega | (simp only [Int32.toInt_toInt64]; omega) | decide | assumption)) rfl rfl ⟨Nat.le_of_ble_eq_true rfl, Nat.le_of_ble_eq_true rfl⟩ rfl hl.1 rfl (Nat.le_of_ble_eq_true rfl) dX12_sum_10 ⟨Nat.le_of_ble_eq_true rfl, Nat.le_of_ble_eq_true rfl⟩) (fun r_40 f_41 Γ_43 H locs hw_39 hP hI hc_42 hcg_44 hS => ?_)
    have hD : va_D A (va_pl L f_41) := tp_D hL hAL
    have hfr := tp_fr2 hfr hc_42 (by decide)
    have hgr : ∀ κ : tk_K, κ.1 ∉ ([39, 43, 44] : List Nat) → Γ_43 κ = Γ κ := tg_fr2 hgr hcg_44 (by decide)
    have hw_39 : Γ_43 (39, 0, 0) 0 = Γ_24 (39, 0, 0) 0 ∧ Γ_43 (39, 0, 0) 3 = Γ_24 (39, 0, 0) 3 ∧ Γ_43 (39, 0, 0) 4 = Γ_24 (39, 0, 0) 4 ∧ Γ_43 (39, 0, 0) 5 = Γ_24 (39, 0, 0) 5 ∧ Γ_43 (39, 0, 0) 6 = Γ_24 (39, 0, 0) 6 ∧ Γ_43 (39, 0, 0) 7 = Γ_24 (39, 0, 0) 7 ∧ Γ_43 (39, 0, 0) 8 = Γ_24 (39, 0, 0) 8 ∧ Γ_24 (39, 0, 0) 1 ≤ Γ_43 (39, 0, 0) 1 ∧ Γ_43 (39, 0, 0) 1 ≤ T0 ∧ (¬ τ (Γ_24 (39, 0, 0) 1).toNat = 32 → Γ_43 (39, 0, 0) 1 = Γ_24 (39, 0, 0) 1) ∧ ((r_40.toInt = -1 ∧ Γ_43 (39, 0, 0) 1 = T0) ∨ (0 ≤ r_40.toInt ∧ r_40.toInt ≤ 255 ∧ Γ_43 (39, 0, 0) 1 < T0 ∧ ¬ τ (Γ_43 (39, 0, 0) 1).toNat = 32)) := hw_39
    obtain ⟨hpa, hpb, hpc, hpd, _⟩ := id hp
    have hle := congrFun (hcg_44 (44, 22, 0) (by decide)) t0.toNat
    have hp : ps (Γ_43 (43, 8800, 0)) t0 (Γ_43 (44, 22, 0) t0.toNat) (Γ_43 (39, 0, 0) 1) T0 (Γ_43 (39, 0, 0) 5) a (d + 1) := hp.eq (hcg_44 (43, 8800, 0) (by decide)) rfl (congrFun (hcg_44 (44, 22, 0) (by decide)) _) (by omega) rfl (by omega)
    have hz : fz (Γ (43, 8800, 0)) (Γ_43 (43, 8800, 0)) (Γ (44, 22, 0)) (Γ_43 (44, 22, 0)) t0 := by rw [(hcg_44 (43, 8800, 0) (by decide)), (hcg_44 (44, 22, 0) (by decide))]; exact hz
    have hfw : fw (Γ (43, 8800, 0)) (Γ_43 (43, 8800, 0)) (Γ (44, 22, 0)) (Γ_43 (44, 22, 0)) t0 := by rw [(hcg_44 (43, 8800, 0) (by decide)), (hcg_44 (44, 22, 0) (by decide))]; exact hfw
    refine lv_bipush (v := 43) hx hb dX12_sum_13 (by decide) ?_
    refine lv_icmp_eq (tgt := 27) hx hb dX12_sum_15 (by decide) (fun c_45 => ?_) (fun c_45 => ?_)
    · have c_45 : r_40.toInt = (43 : Int) := tl_eq c_45
      refine lv_aload_n hx hb dX12_sum_27 rfl (lv_at hl 0 rfl) ?_
      obtain ⟨r_47, v_48, q_49, hf_46, hr_50, hv_51⟩ := (show tp_o_M L K 0 0 (Γ_43 (39, 0, 0)) (f_41 o) from hI.at ho)
      have hx_52 : (v_48 0).toInt = Γ_43 (39, 0, 0) 0 := hv_51 0 (by decide)
      have hx_53 : (v_48 1).toInt = Γ_43 (39, 0, 0) 1 := hv_51 1 (by decide)
      have hx_54 : (v_48 3).toInt = Γ_43 (39, 0, 0) 3 := hv_51 3 (by decide)
      have hx_55 : (v_48 4).toInt = Γ_43 (39, 0, 0) 4 := hv_51 4 (by decide)
      have hx_56 : (v_48 5).toInt = Γ_43 (39, 0, 0) 5 := hv_51 5 (by decide)
      have hx_57 : (v_48 6).toInt = Γ_43 (39, 0, 0) 6 := hv_51 6 (by decide)
      have hx_58 : (v_48 7).toInt = Γ_43 (39, 0, 0) 7 := hv_51 7 (by decide)
      have hx_59 : (v_48 8).toInt = Γ_43 (39, 0, 0) 8 := hv_51 8 (by decide)
      refine tp_get (cy := cy) (ci := 12) (v := .ref (r_47 1)) (C := RX12) (T := TX12) (N := 49) hx hb hta inlX12 hown hK hP ho.1 hf_46 rfl 1 (by decide) (hta _ wk_151) (fun _ h9 => h9) rfl dX12_sum_28 ?_
      refine lv_aload_n hx hb dX12_sum_31 rfl (lv_at hl 0 rfl) ?_
      refine tp_get (cy := cy) (ci := 12) (v := .int (v_48 1)) (C := RX12) (T := TX12) (N := 49) hx hb hta inlX12 hown hK hP ho.1 hf_46 rfl 17 (by decide) (hta _ wk_539) (fun _ h9 => h9) rfl dX12_sum_32 ?_
      obtain ⟨g_61, hf_60, hg_62⟩ := (show tp_g8 cy (400) (Γ (41, 400, 0)) (f (r_47 1)) from hI0.at (show tp_r L K 41 400 0 (r_47 1) from hr_50 1 (by decide)))
      have hn_63 : vp_in (v_48 1) (400) := tl_in (by omega) (by omega)
      refine tp_bald (cy := cy) hx hb hK hP (show tp_r L K 41 400 0 (r_47 1) from hr_50 1 (by decide)).1 ((tp_un hfr (show tp_r L K 41 400 0 (r_47 1) from hr_50 1 (by decide)) (by decide)).trans hf_60) hn_63 dX12_sum_35 ?_
      refine lv_topi (fun z_64 ez_64 => ?_)
      have iz_64 : z_64.toInt = τ (v_48 1).toInt.toNat := by rw [ez_64, ← ht]; exact hg_62 _ (tp_pin hn_63)
      have jz_64 : z_64.toInt = τ  (Γ_43 (39, 0, 0) 1).toNat := by rw [← hx_53]; exact iz_64
      refine lv_bipush (v := 43) hx hb dX12_sum_36 (by decide) ?_
      refine lv_icmp_ne (tgt := 45) hx hb dX12_sum_38 (by decide) (fun c_65 => ?_) (fun c_65 => ?_)
      · have c_65 : ¬ z_64.toInt = (43 : Int) := tl_neq c_65
        refine lv_iconst (v := 3) hx hb dX12_sum_45 (by decide) ?_
        refine lv_istore_n (lv' := [(1, .int 3), (0, .ref o)]) hx hb dX12_sum_46 rfl hl (by decide) rfl (fun ls hl => ?_)
        refine lv_aload_n hx hb dX12_sum_47 rfl (lv_at hl 1 rfl) ?_
        refine lv_dup hx hb dX12_sum_48 rfl ?_
        refine tp_get (cy := cy) (ci := 12) (v := .int (v_48 1)) (C := RX12) (T := TX12) (N := 49) hx hb hta inlX12 hown hK hP ho.1 hf_46 rfl 17 (by decide) (hta _ wk_539) (fun _ h9 => h9) rfl dX12_sum_49 ?_
        refine lv_iconst (v := 1) hx hb dX12_sum_52 (by decide) ?_
        refine lv_iadd hx hb dX12_sum_53 ?_
        refine lv_topi (fun z_66 ez_66 => ?_)
        try have iz_66 : z_66.toInt = (v_48 1).toInt + (1 : Int) := by rw [ez_66]; exact tl_addN (v_48 1) 1 rfl rfl (by omega) (by omega)
        obtain ⟨Γ_67, eΓ_67⟩ : ∃ y : tk_G, y = tg Γ_43 (39, 0, 0) 1 z_66.toInt := ⟨_, rfl⟩
        have hv_68 : ∀ i : Nat, i < 16 → ((upd v_48 1 z_66) i).toInt = Γ_67 (39, 0, 0) i := by rw [eΓ_67, tg_f]; exact tp_gi_upd hv_51
        have hI9 : tp_I cy L K Γ_67 (va_up f_41 o (.inr (12, [.ref (r_47 0), .ref (r_47 1), .int (v_48 0), .ref (r_47 2), .ref (r_47 3), .ref (r_47 4), .ref (r_47 5), .ref (r_47 6), .ref (r_47 7), .ref (r_47 8), .ref (r_47 9), .ref (r_47 10), .ref (r_47 11), .ref (r_47 12), .ref (r_47 13), .ref (r_47 14), .ref (r_47 15), .int z_66, .int (v_48 2), .int (v_48 3), .int (v_48 4), .int (v_48 5), .int (v_48 6), .int (v_48 7), .ref (r_47 16), .int (v_48 8), .ref (r_47 17), .int (v_48 9), .ref (r_47 18), .long q_49, .ref (r_47 19), .ref (r_47 20), .int (v_48 10), .int (v_48 11), .int (v_48 12), .ref (r_47 21), .ref (r_47 22), .int (v_48 13), .ref (r_47 23), .int (v_48 14), .int (v_48 15), .ref (r_47 24), .ref (r_47 25), .ref (r_47 26), .ref (r_47 27), .ref (r_47 28), .ref (r_47 29), .ref (r_47 30), .ref (r_47 31)]))) := by have q9 := hv_68; rw [eΓ_67, tg_f] at q9; rw [eΓ_67]; exact hI.setg hU rfl ho (show tp_o_M L K 0 0 (tgu (Γ_43 (39, 0, 0)) 1 z_66.toInt) _ from ⟨r_47, (upd v_48 1 z_66), q_49, rfl, hr_50, q9⟩)
        have hfr9 : ∀ b, (K b).1 ∉ ([39, 43, 44] : List Nat) → va_up f_41 o (.inr (12, [.ref (r_47 0), .ref (r_47 1), .int (v_48 0), .ref (r_47 2), .ref (r_47 3), .ref (r_47 4), .ref (r_47 5), .ref (r_47 6), .ref (r_47 7), .ref (r_47 8), .ref (r_47 9), .ref (r_47 10), .ref (r_47 11), .ref (r_47 12), .ref (r_47 13), .ref (r_47 14), .ref (r_47 15), .int z_66, .int (v_48 2), .int (v_48 3), .int (v_48 4), .int (v_48 5), .int (v_48 6), .int (v_48 7), .ref (r_47 16), .int (v_48 8), .ref (r_47 17), .int (v_48 9), .ref (r_47 18), .long q_49, .ref (r_47 19), .ref (r_47 20), .int (v_48 10), .int (v_48 11), .int (v_48 12), .ref (r_47 21), .ref (r_47 22), .int (v_48 13), .ref (r_47 23), .int (v_48 14), .int (v_48 15), .ref (r_47 24), .ref (r_47 25), .ref (r_47 26), .ref (r_47 27), .ref (r_47 28), .ref (r_47 29), .ref (r_47 30), .ref (r_47 31)])) b = f b := tp_fr hfr ho (by decide)
        refine tp_put (cy := cy) (ci := 12) (v := .int z_66) (ty := tyX12 17) (C := RX12) (T := TX12) (N := 49) hx hb hta inlX12 tyX12 tyX12_ok nmX12 hown hK hP hD hS ho.1 hf_46 rfl 17 (by decide) (hta _ wk_539) (fun _ h9 => h9) rfl (tyX12_ok 17 (by decide)) rfl rfl (Nat.le_of_ble_eq_true rfl) dX12_sum_54 (fun H locs hP hD hS => ?_)
        have hP : va_P D vwCl (va_pl L (va_up f_41 o (.inr (12, [.ref (r_47 0), .ref (r_47 1), .int (v_48 0), .ref (r_47 2), .ref (r_47 3), .ref (r_47 4), .ref (r_47 5), .ref (r_47 6), .ref (r_47 7), .ref (r_47 8), .ref (r_47 9), .ref (r_47 10), .ref (r_47 11), .ref (r_47 12), .ref (r_47 13), .ref (r_47 14), .ref (r_47 15), .int z_66, .int (v_48 2), .int (v_48 3), .int (v_48 4), .int (v_48 5), .int (v_48 6), .int (v_48 7), .ref (r_47 16), .int (v_48 8), .ref (r_47 17), .int (v_48 9), .ref (r_47 18), .long q_49, .ref (r_47 19), .ref (r_47 20), .int (v_48 10), .int (v_48 11), .int (v_48 12), .ref (r_47 21), .ref (r_47 22), .int (v_48 13), .ref (r_47 23), .int (v_48 14), .int (v_48 15), .ref (r_47 24), .ref (r_47 25), .ref (r_47 26), .ref (r_47 27), .ref (r_47 28), .ref (r_47 29), .ref (r_47 30), .ref (r_47 31)])))) H := hP
        generalize hfe : va_up f_41 o (.inr (12, [.ref (r_47 0), .ref (r_47 1), .int (v_48 0), .ref (r_47 2), .ref (r_47 3), .ref (r_47 4), .ref (r_47 5), .ref (r_47 6), .ref (r_47 7), .ref (r_47 8), .ref (r_47 9), .ref (r_47 10), .ref (r_47 11), .ref (r_47 12), .ref (r_47 13), .ref (r_47 14), .ref (r_47 15), .int z_66, .int (v_48 2), .int (v_48 3), .int (v_48 4), .int (v_48 5), .int (v_48 6), .int (v_48 7), .ref (r_47 16), .int (v_48 8), .ref (r_47 17), .int (v_48 9), .ref (r_47 18), .long q_49, .ref (r_47 19), .ref (r_47 20), .int (v_48 10), .int (v_48 11), .int (v_48 12), .ref (r_47 21), .ref (r_47 22), .int (v_48 13), .ref (r_47 23), .int (v_48 14), .int (v_48 15), .ref (r_47 24), .ref (r_47 25), .ref (r_47 26), .ref (r_47 27), .ref (r_47 28), .ref (r_47 29), .ref (r_47 30), .ref (r_47 31)])) = f_69 at hP hI9 hfr9
        have hD : va_D A (va_pl L f_69) := tp_D hL hAL
        have hf_70 : f_69 o = .inr (12, [.ref (r_47 0), .ref (r_47 1), .int (v_48 0), .ref (r_47 2), .ref (r_47 3), .ref (r_47 4), .ref (r_47 5), .ref (r_47 6), .ref (r_47 7), .ref (r_47 8), .ref (r_47 9), .ref (r_47 10), .ref (r_47 11), .ref (r_47 12), .ref (r_47 13), .ref (r_47 14), .ref (r_47 15), .int z_66, .int (v_48 2), .int (v_48 3), .int (v_48 4), .int (v_48 5), .int (v_48 6), .int (v_48 7), .ref (r_47 16), .int (v_48 8), .ref (r_47 17), .int (v_48 9), .ref (r_47 18), .long q_49, .ref (r_47 19), .ref (r_47 20), .int (v_48 10), .int (v_48 11), .int (v_48 12), .ref (r_47 21), .ref (r_47 22), .int (v_48 13), .ref (r_47 23), .int (v_48 14), .int (v_48 15), .ref (r_47 24), .ref (r_47 25), .ref (r_47 26), .ref (r_47 27), .ref (r_47 28), .ref (r_47 29), .ref (r_47 30), .ref (r_47 31)]) := by rw [← hfe]; exact va_up_self _ _ _
        clear hfe
        have hI := hI9
        have hfr := hfr9
        clear hI9 hfr9
        have hgr : ∀ κ : tk_K, κ.1 ∉ ([39, 43, 44] : List Nat) → Γ_67 κ = Γ κ := tg_fr hgr eΓ_67 (by decide)
        have hx_71 : (v_48 0).toInt = Γ_67 (39, 0, 0) 0 := hv_68 0 (by decide)
        have hx_72 : z_66.toInt = Γ_67 (39, 0, 0) 1 := hv_68 1 (by decide)
        have hx_73 : (v_48 3).toInt = Γ_67 (39, 0, 0) 3 := hv_68 3 (by decide)
        have hx_74 : (v_48 4).toInt = Γ_67 (39, 0, 0) 4 := hv_68 4 (by decide)
        have hx_75 : (v_48 5).toInt = Γ_67 (39, 0, 0) 5 := hv_68 5 (by decide)
        have hx_76 : (v_48 6).toInt = Γ_67 (39, 0, 0) 6 := hv_68 6 (by decide)
        have hx_77 : (v_48 7).toInt = Γ_67 (39, 0, 0) 7 := hv_68 7 (by decide)
        have hx_78 : (v_48 8).toInt = Γ_67 (39, 0, 0) 8 := hv_68 8 (by decide)
        obtain ⟨hpa, hpb, hpc, hpd, _⟩ := id hp
        have hle := congrFun (show Γ_67 (44, 22, 0) = _ from by rw [eΓ_67, tg_rf (by decide)]) t0.toNat
        have hp : ps (Γ_67 (43, 8800, 0)) t0 (Γ_67 (44, 22, 0) t0.toNat) (Γ_67 (39, 0, 0) 1) T0 (Γ_67 (39, 0, 0) 5) a (d + 1) := hp.eq (show Γ_67 (43, 8800, 0) = _ from by rw [eΓ_67, tg_rf (by decide)]) rfl (congrFun (show Γ_67 (44, 22, 0) = _ from by rw [eΓ_67, tg_rf (by decide)]) _) (by omega) rfl (by omega)
        have hz : fz (Γ (43, 8800, 0)) (Γ_67 (43, 8800, 0)) (Γ (44, 22, 0)) (Γ_67 (44, 22, 0)) t0 := by rw [(show Γ_67 (43, 8800, 0) = _ from by rw [eΓ_67, tg_rf (by decide)]), (show Γ_67 (44, 22, 0) = _ from by rw [eΓ_67, tg_rf (by decide)])]; exact hz
        have hfw : fw (Γ (43, 8800, 0)) (Γ_67 (43, 8800, 0)) (Γ (44, 22, 0)) (Γ_67 (44, 22, 0)) t0 := by rw [(show Γ_67 (43, 8800, 0) = _ from by rw [eΓ_67, tg_rf (by decide)]), (show Γ_67 (44, 22, 0) = _ from by rw [eΓ_67, tg_rf (by decide)])]; exact hfw
        refine lv_aload_n hx hb dX12_sum_57 rfl (lv_at hl 1 rfl) ?_
        refine tq_ciR hS (hAf _ hS.1) (tq_rV (As := []) (rest := []) ⟨hx, hb, hml, hown, hta⟩ (tp_P.pre hK hN hL hU hI hP) (tp_recv hK hP ho.1 hf_70 rfl) lk_X12_246 (r_X12_term l D cy H.size L K Γ_67 f_69 o τ T0 t0 a (d + 1) ho ((hgr _ (by decide)).trans ht) (by first | omega | (simp only [Int32.toInt_toInt64]; omega) | decide | assumption) (by first | omega | (simp only [Int32.toInt_toInt64]; omega) | decide | assumption) (by first | omega | (simp only [Int32.toInt_toInt64]; omega) | decide | assumption) (by first | omega | (simp only [Int32.toInt_toInt64]; omega) | decide | assumption)) rfl rfl ⟨Nat.le_of_ble_eq_true rfl, Nat.le_of_ble_eq_true rfl⟩ rfl hl.1 rfl (Nat.le_of_ble_eq_true rfl) dX12_sum_58 ⟨Nat.le_of_ble_eq_true rfl, Nat.le_of_ble_eq_true rfl⟩) (fun r_80 f_81 Γ_83 H locs hw_79 hP hI hc_82 hcg_84 hS => ?_)
        have hD : va_D A (va_pl L f_81) := tp_D hL hAL
        have hfr := tp_fr2 hfr hc_82 (by decide)
        have hgr : ∀ κ : tk_K, κ.1 ∉ ([39, 43, 44] : List Nat) → Γ_83 κ = Γ κ := tg_fr2 hgr hcg_84 (by decide)
        obtain ⟨hE_85, hw_79⟩ := hw_79
        have hE_85 : tl_J r_80 (ps (Γ_83 (43, 8800, 0)) t0 (Γ_83 (44, 22, 0) t0.toNat) (Γ_83 (39, 0, 0) 1) T0 (Γ_83 (39, 0, 0) 5) a ((d + 1) + 1) ∧ Γ_67 (39, 0, 0) 1 - Γ_67 (44, 22, 0) t0.toNat ≤ Γ_83 (39, 0, 0) 1 - Γ_83 (44, 22, 0) t0.toNat ∧ fz (Γ_67 (43, 8800, 0)) (Γ_83 (43, 8800, 0)) (Γ_67 (44, 22, 0)) (Γ_83 (44, 22, 0)) t0) := hE_85
        have hw_79 : Γ_83 (39, 0, 0) 0 = Γ_67 (39, 0, 0) 0 ∧ Γ_83 (39, 0, 0) 4 = Γ_67 (39, 0, 0) 4 ∧ Γ_83 (39, 0, 0) 6 = Γ_67 (39, 0, 0) 6 ∧ Γ_83 (39, 0, 0) 7 = Γ_67 (39, 0, 0) 7 ∧ Γ_83 (39, 0, 0) 8 = Γ_67 (39, 0, 0) 8 ∧ Γ_67 (39, 0, 0) 1 ≤ Γ_83 (39, 0, 0) 1 ∧ Γ_83 (39, 0, 0) 1 ≤ T0 ∧ fw (Γ_67 (43, 8800, 0)) (Γ_83 (43, 8800, 0)) (Γ_67 (44, 22, 0)) (Γ_83 (44, 22, 0)) t0 := hw_79
        have hfw := hfw.trans hw_79.2.2.2.2.2.2.2
        refine lv_if_ne (tgt := 66) hx hb dX12_sum_61 (by decide) (fun c_86 => ?_) (fun c_86 => ?_)
        · have c_86 := hE_85.t c_86
          obtain ⟨hp, hsl, hz9⟩ := c_86
          have hz := hz.trans hz9
          refine lv_aload_n hx hb dX12_sum_66 rfl (lv_at hl 1 rfl) ?_
          refine lv_iload_n hx hb dX12_sum_67 rfl (lv_at hl 0 rfl) ?_
          refine lv_iconst (v := 0) hx hb dX12_sum_68 (by decide) ?_
          obtain ⟨hpa, hpb, hpc, hpd, _⟩ := id hp
          obtain ⟨r_88, v_89, q_90, hf_87, hr_91, hv_92⟩ := (show tp_o_M L K 0 0 (Γ_83 (39, 0, 0)) (f_81 o) from hI.at ho)
          have hx_93 : (v_89 0).toInt = Γ_83 (39, 0, 0) 0 := hv_92 0 (by decide)
          have hx_94 : (v_89 1).toInt = Γ_83 (39, 0, 0) 1 := hv_92 1 (by decide)
          have hx_95 : (v_89 3).toInt = Γ_83 (39, 0, 0) 3 := hv_92 3 (by decide)
          have hx_96 : (v_89 4).toInt = Γ_83 (39, 0, 0) 4 := hv_92 4 (by decide)
          have hx_97 : (v_89 5).toInt = Γ_83 (39, 0, 0) 5 := hv_92 5 (by decide)
          have hx_98 : (v_89 6).toInt = Γ_83 (39, 0, 0) 6 := hv_92 6 (by decide)
          have hx_99 : (v_89 7).toInt = Γ_83 (39, 0, 0) 7 := hv_92 7 (by decide)
          have hx_100 : (v_89 8).toInt = Γ_83 (39, 0, 0) 8 := hv_92 8 (by decide)
          refine tq_cvR hS (hAf _ hS.1) (tq_rV (As := [.int 3, .int 0]) (rest := []) ⟨hx, hb, hml, hown, hta⟩ (tp_P.pre hK hN hL hU hI hP) (tp_recv hK hP ho.1 hf_87 rfl) lk_X12_228 (r_X12_puts l D cy H.size L K Γ_83 f_81 o 3 0 t0 ho (by first | omega | (simp only [Int32.toInt_toInt64]; omega) | decide | assumption) (by first | omega | (simp only [Int32.toInt_toInt64]; omega) | decide | assumption) (by first | omega | (simp only [Int32.toInt_toInt64]; omega) | decide | assumption) (by first | omega | (simp only [Int32.toInt_toInt64]; omega) | decide | assumption)) rfl rfl ⟨Nat.le_of_ble_eq_true rfl, Nat.le_of_ble_eq_true rfl⟩ rfl hl.1 rfl (Nat.le_of_ble_eq_true rfl) dX12_sum_69 ⟨Nat.le_of_ble_eq_true rfl, Nat.le_of_ble_eq_true rfl⟩) (fun f_103 Γ_105 H locs hw_101 hP hI hc_104 hcg_106 hS => ?_)
          have hD : va_D A (va_pl L f_103) := tp_D hL hAL
          have hfr := tp_fr2 hfr hc_104 (by decide)
          have hgr : ∀ κ : tk_K, κ.1 ∉ ([39, 43, 44] : List Nat) → Γ_105 κ = Γ κ := tg_fr2 hgr hcg_106 (by decide)
          have hf_107 := (tp_un hc_104 ho (by decide)).trans hf_87
          have hv_108 : ∀ i : Nat, i < 16 → (v_89 i).toInt = Γ_105 (39, 0, 0) i := fun i hi => by rw [hcg_106 _ (by decide)]; exact hv_92 i hi
          have hx_109 : (v_89 0).toInt = Γ_105 (39, 0, 0) 0 := hv_108 0 (by decide)
          have hx_110 : (v_89 1).toInt = Γ_105 (39, 0, 0) 1 := hv_108 1 (by decide)
          have hx_111 : (v_89 3).toInt = Γ_105 (39, 0, 0) 3 := hv_108 3 (by decide)
          have hx_112 : (v_89 4).toInt = Γ_105 (39, 0, 0) 4 := hv_108 4 (by decide)
          have hx_113 : (v_89 5).toInt = Γ_105 (39, 0, 0) 5 := hv_108 5 (by decide)
          have hx_114 : (v_89 6).toInt = Γ_105 (39, 0, 0) 6 := hv_108 6 (by decide)
          have hx_115 : (v_89 7).toInt = Γ_105 (39, 0, 0) 7 := hv_108 7 (by decide)
          have hx_116 : (v_89 8).toInt = Γ_105 (39, 0, 0) 8 := hv_108 8 (by decide)
          have mk_105_0 : Γ_105 (39, 0, 0) 0 = Γ_83 (39, 0, 0) 0 := congrFun (hcg_106 (39, 0, 0) (by decide)) 0
          have mk_105_1 : Γ_105 (39, 0, 0) 1 = Γ_83 (39, 0, 0) 1 := congrFun (hcg_106 (39, 0, 0) (by decide)) 1
          have mk_105_3 : Γ_105 (39, 0, 0) 3 = Γ_83 (39, 0, 0) 3 := congrFun (hcg_106 (39, 0, 0) (by decide)) 3
          have mk_105_4 : Γ_105 (39, 0, 0) 4 = Γ_83 (39, 0, 0) 4 := congrFun (hcg_106 (39, 0, 0) (by decide)) 4
          have mk_105_5 : Γ_105 (39, 0, 0) 5 = Γ_83 (39, 0, 0) 5 := congrFun (hcg_106 (39, 0, 0) (by decide)) 5
          have mk_105_6 : Γ_105 (39, 0, 0) 6 = Γ_83 (39, 0, 0) 6 := congrFun (hcg_106 (39, 0, 0) (by decide)) 6
          have mk_105_7 : Γ_105 (39, 0, 0) 7 = Γ_83 (39, 0, 0) 7 := congrFun (hcg_106 (39, 0, 0) (by decide)) 7
          have mk_105_8 : Γ_105 (39, 0, 0) 8 = Γ_83 (39, 0, 0) 8 := congrFun (hcg_106 (39, 0, 0) (by decide)) 8
          have hw_101 : Γ_105 (43, 8800, 0) = tgu (Γ_83 (43, 8800, 0)) (400 * t0 + Γ_83 (44, 22, 0) t0.toNat).toNat ((3 : Int) + 16 * (0 : Int)) ∧ Γ_105 (44, 22, 0) = tgu (Γ_83 (44, 22, 0)) t0.toNat (Γ_83 (44, 22, 0) t0.toNat + 1) := hw_101
          obtain ⟨hpa, hpb, hpc, hpd, _⟩ := id hp
          have hlem : rp_ok ((3 : Int) + 16 * (0 : Int)) ((d + 1) + 1) ∧ rp_d ((3 : Int) + 16 * (0 : Int)) = -1 := (rp_two (by omega) (by omega))
          have hput := hp.put (e := ((3 : Int) + 16 * (0 : Int))) (by omega) hlem.1 (by rw [hlem.2]; omega)
          rw [hlem.2] at hput
          have hln2 : Γ_105 (44, 22, 0) t0.toNat = Γ_83 (44, 22, 0) t0.toNat + 1 := by rw [hw_101.2, tgu_s]
          have hfz2 : fz (Γ_83 (43, 8800, 0)) (Γ_105 (43, 8800, 0)) (Γ_83 (44, 22, 0)) (Γ_105 (44, 22, 0)) t0 := by rw [hw_101.1, hw_101.2]; exact fz.put (by omega) (by omega)
          have hp : ps (Γ_105 (43, 8800, 0)) t0 (Γ_105 (44, 22, 0) t0.toNat) (Γ_105 (39, 0, 0) 1) T0 (Γ_105 (39, 0, 0) 5) a ((d + 1) + 1 + -1) := by rw [hln2, hw_101.1, show Γ_105 (39, 0, 0) 1 = Γ_83 (39, 0, 0) 1 from by omega, show Γ_105 (39, 0, 0) 5 = Γ_83 (39, 0, 0) 5 from by omega]; exact hput
          have hz := hz.trans hfz2
          have hfw := hfw.trans (hfz2.fw (by omega))
          refine lv_goto (tgt := 9) hx hb dX12_sum_72 (by decide) ?_
          exact ih9 (f_103, Γ_105) H locs ls (by show (400 - Γ_105 (39, 0, 0) 1).toNat < (400 - Γ_24 (39, 0, 0) 1).toNat; omega) ⟨(show ps (Γ_105 (43, 8800, 0)) t0 (Γ_105 (44, 22, 0) t0.toNat) (Γ_105 (39, 0, 0) 1) T0 (Γ_105 (39, 0, 0) 5) a (d + 1) from (by have h9 := hp; rw [show (d + 1) + 1 + -1 = d + 1 from by omega] at h9; exact h9)), (show fz (Γ (43, 8800, 0)) (Γ_105 (43, 8800, 0)) (Γ (44, 22, 0)) (Γ_105 (44, 22, 0)) t0 from hz), (show fw (Γ (43, 8800, 0)) (Γ_105 (43, 8800, 0)) (Γ (44, 22, 0)) (Γ_105 (44, 22, 0)) t0 from hfw), (show Γ (39, 0, 0) 1 - Γ (44, 22, 0) t0.toNat ≤ Γ_105 (39, 0, 0) 1 - Γ_105 (44, 22, 0) t0.toNat from (by omega)), (show Γ_105 (39, 0, 0) 0 = Γ (39, 0, 0) 0 from (by omega)), (show Γ_105 (39, 0, 0) 4 = Γ (39, 0, 0) 4 from (by omega)), (show Γ_105 (39, 0, 0) 6 = Γ (39, 0, 0) 6 from (by omega)), (show Γ_105 (39, 0, 0) 7 = Γ (39, 0, 0) 7 from (by omega)), (show Γ_105 (39, 0, 0) 8 = Γ (39, 0, 0) 8 from (by omega)), (show Γ (39, 0, 0) 1 ≤ Γ_105 (39, 0, 0) 1 ∧ Γ_105 (39, 0, 0) 1 ≤ T0 from (by omega)), hP, hI, hfr, hgr, hS, lv_sub hl [1] rfl⟩
        · have c_86 := c_86
          refine lv_iconst (v := 0) hx hb dX12_sum_64 (by decide) ?_
          have hpo9 : tl_J (0 : Int32) (ps (Γ_83 (43, 8800, 0)) t0 (Γ_83 (44, 22, 0) t0.toNat) (Γ_83 (39, 0, 0) 1) T0 (Γ_83 (39, 0, 0) 5) a (d + 1) ∧ Γ (39, 0, 0) 1 - Γ (44, 22, 0) t0.toNat ≤ Γ_83 (39, 0, 0) 1 - Γ_83 (44, 22, 0) t0.toNat ∧ fz (Γ (43, 8800, 0)) (Γ_83 (43, 8800, 0)) (Γ (44, 22, 0)) (Γ_83 (44, 22, 0)) t0) ∧ Γ_83 (39, 0, 0) 0 = Γ (39, 0, 0) 0 ∧ Γ_83 (39, 0, 0) 4 = Γ (39, 0, 0) 4 ∧ Γ_83 (39, 0, 0) 6 = Γ (39, 0, 0) 6 ∧ Γ_83 (39, 0, 0) 7 = Γ (39, 0, 0) 7 ∧ Γ_83 (39, 0, 0) 8 = Γ (39, 0, 0) 8 ∧ Γ (39, 0, 0) 1 ≤ Γ_83 (39, 0, 0) 1 ∧ Γ_83 (39, 0, 0) 1 ≤ T0 ∧ fw (Γ (43, 8800, 0)) (Γ_83 (43, 8800, 0)) (Γ (44, 22, 0)) (Γ_83 (44, 22, 0)) t0 := ⟨(Or.inr rfl), ⟨(by omega), (by omega), (by omega), (by omega), (by omega), (by omega), (by omega), hfw⟩⟩
          exact W.zret (ty := .boolean) (v := 0) hx hb hr rfl (fun t ht hW => ⟨⟨_, (f_81, Γ_83), rfl, hpo9, by rw [ht]; exact hP, hI, hfr, hgr⟩, hS.F ht⟩) hS.2.2 dX12_sum_65
      · have c_65 : z_64.toInt = (43 : Int) := tl_eq c_65
        refine lv_iconst (v := 2) hx hb dX12_sum_41 (by decide) ?_
        refine lv_goto (tgt := 46) hx hb dX12_sum_42 (by decide) ?_
        refine lv_istore_n (lv' := [(1, .int 2), (0, .ref o)]) hx hb dX12_sum_46 rfl hl (by decide) rfl (fun ls hl => ?_)
        refine lv_aload_n hx hb dX12_sum_47 rfl (lv_at hl 1 rfl) ?_
        refine lv_dup hx hb dX12_sum_48 rfl ?_
        refine tp_get (cy := cy) (ci := 12) (v := .int (v_48 1)) (C := RX12) (T := TX12) (N := 49) hx hb hta inlX12 hown hK hP ho.1 hf_46 rfl 17 (by decide) (hta _ wk_539) (fun _ h9 => h9) rfl dX12_sum_49 ?_
        refine lv_iconst (v := 1) hx hb dX12_sum_52 (by decide) ?_
        refine lv_iadd hx hb dX12_sum_53 ?_
        refine lv_topi (fun z_117 ez_117 => ?_)
        try have iz_117 : z_117.toInt = (v_48 1).toInt + (1 : Int) := by rw [ez_117]; exact tl_addN (v_48 1) 1 rfl rfl (by omega) (by omega)
        obtain ⟨Γ_118, eΓ_118⟩ : ∃ y : tk_G, y = tg Γ_43 (39, 0, 0) 1 z_117.toInt := ⟨_, rfl⟩
        have hv_119 : ∀ i : Nat, i < 16 → ((upd v_48 1 z_117) i).toInt = Γ_118 (39, 0, 0) i := by rw [eΓ_118, tg_f]; exact tp_gi_upd hv_51
        have hI9 : tp_I cy L K Γ_118 (va_up f_41 o (.inr (12, [.ref (r_47 0), .ref (r_47 1), .int (v_48 0), .ref (r_47 2), .ref (r_47 3), .ref (r_47 4), .ref (r_47 5), .ref (r_47 6), .ref (r_47 7), .ref (r_47 8), .ref (r_47 9), .ref (r_47 10), .ref (r_47 11), .ref (r_47 12), .ref (r_47 13), .ref (r_47 14), .ref (r_47 15), .int z_117, .int (v_48 2), .int (v_48 3), .int (v_48 4), .int (v_48 5), .int (v_48 6), .int (v_48 7), .ref (r_47 16), .int (v_48 8), .ref (r_47 17), .int (v_48 9), .ref (r_47 18), .long q_49, .ref (r_47 19), .ref (r_47 20), .int (v_48 10), .int (v_48 11), .int (v_48 12), .ref (r_47 21), .ref (r_47 22), .int (v_48 13), .ref (r_47 23), .int (v_48 14), .int (v_48 15), .ref (r_47 24), .ref (r_47 25), .ref (r_47 26), .ref (r_47 27), .ref (r_47 28), .ref (r_47 29), .ref (r_47 30), .ref (r_47 31)]))) := by have q9 := hv_119; rw [eΓ_118, tg_f] at q9; rw [eΓ_118]; exact hI.setg hU rfl ho (show tp_o_M L K 0 0 (tgu (Γ_43 (39, 0, 0)) 1 z_117.toInt) _ from ⟨r_47, (upd v_48 1 z_117), q_49, rfl, hr_50, q9⟩)
        have hfr9 : ∀ b, (K b).1 ∉ ([39, 43, 44] : List Nat) → va_up f_41 o (.inr (12, [.ref (r_47 0), .ref (r_47 1), .int (v_48 0), .ref (r_47 2), .ref (r_47 3), .ref (r_47 4), .ref (r_47 5), .ref (r_47 6), .ref (r_47 7), .ref (r_47 8), .ref (r_47 9), .ref (r_47 10), .ref (r_47 11), .ref (r_47 12), .ref (r_47 13), .ref (r_47 14), .ref (r_47 15), .int z_117, .int (v_48 2), .int (v_48 3), .int (v_48 4), .int (v_48 5), .int (v_48 6), .int (v_48 7), .ref (r_47 16), .int (v_48 8), .ref (r_47 17), .int (v_48 9), .ref (r_47 18), .long q_49, .ref (r_47 19), .ref (r_47 20), .int (v_48 10), .int (v_48 11), .int (v_48 12), .ref (r_47 21), .ref (r_47 22), .int (v_48 13), .ref (r_47 23), .int (v_48 14), .int (v_48 15), .ref (r_47 24), .ref (r_47 25), .ref (r_47 26), .ref (r_47 27), .ref (r_47 28), .ref (r_47 29), .ref (r_47 30), .ref (r_47 31)])) b = f b := tp_fr hfr ho (by decide)
        refine tp_put (cy := cy) (ci := 12) (v := .int z_117) (ty := tyX12 17) (C := RX12) (T := TX12) (N := 49) hx hb hta inlX12 tyX12 tyX12_ok nmX12 hown hK hP hD hS ho.1 hf_46 rfl 17 (by decide) (hta _ wk_539) (fun _ h9 => h9) rfl (tyX12_ok 17 (by decide)) rfl rfl (Nat.le_of_ble_eq_true rfl) dX12_sum_54 (fun H locs hP hD hS => ?_)
        have hP : va_P D vwCl (va_pl L (va_up f_41 o (.inr (12, [.ref (r_47 0), .ref (r_47 1), .int (v_48 0), .ref (r_47 2), .ref (r_47 3), .ref (r_47 4), .ref (r_47 5), .ref (r_47 6), .ref (r_47 7), .ref (r_47 8), .ref (r_47 9), .ref (r_47 10), .ref (r_47 11), .ref (r_47 12), .ref (r_47 13), .ref (r_47 14), .ref (r_47 15), .int z_117, .int (v_48 2), .int (v_48 3), .int (v_48 4), .int (v_48 5), .int (v_48 6), .int (v_48 7), .ref (r_47 16), .int (v_48 8), .ref (r_47 17), .int (v_48 9), .ref (r_47 18), .long q_49, .ref (r_47 19), .ref (r_47 20), .int (v_48 10), .int (v_48 11), .int (v_48 12), .ref (r_47 21), .ref (r_47 22), .int (v_48 13), .ref (r_47 23), .int (v_48 14), .int (v_48 15), .ref (r_47 24), .ref (r_47 25), .ref (r_47 26), .ref (r_47 27), .ref (r_47 28), .ref (r_47 29), .ref (r_47 30), .ref (r_47 31)])))) H := hP
        generalize hfe : va_up f_41 o (.inr (12, [.ref (r_47 0), .ref (r_47 1), .int (v_48 0), .ref (r_47 2), .ref (r_47 3), .ref (r_47 4), .ref (r_47 5), .ref (r_47 6), .ref (r_47 7), .ref (r_47 8), .ref (r_47 9), .ref (r_47 10), .ref (r_47 11), .ref (r_47 12), .ref (r_47 13), .ref (r_47 14), .ref (r_47 15), .int z_117, .int (v_48 2), .int (v_48 3), .int (v_48 4), .int (v_48 5), .int (v_48 6), .int (v_48 7), .ref (r_47 16), .int (v_48 8), .ref (r_47 17), .int (v_48 9), .ref (r_47 18), .long q_49, .ref (r_47 19), .ref (r_47 20), .int (v_48 10), .int (v_48 11), .int (v_48 12), .ref (r_47 21), .ref (r_47 22), .int (v_48 13), .ref (r_47 23), .int (v_48 14), .int (v_48 15), .ref (r_47 24), .ref (r_47 25), .ref (r_47 26), .ref (r_47 27), .ref (r_47 28), .ref (r_47 29), .ref (r_47 30), .ref (r_47 31)])) = f_120 at hP hI9 hfr9
        have hD : va_D A (va_pl L f_120) := tp_D hL hAL
        have hf_121 : f_120 o = .inr (12, [.ref (r_47 0), .ref (r_47 1), .int (v_48 0), .ref (r_47 2), .ref (r_47 3), .ref (r_47 4), .ref (r_47 5), .ref (r_47 6), .ref (r_47 7), .ref (r_47 8), .ref (r_47 9), .ref (r_47 10), .ref (r_47 11), .ref (r_47 12), .ref (r_47 13), .ref (r_47 14), .ref (r_47 15), .int z_117, .int (v_48 2), .int (v_48 3), .int (v_48 4), .int (v_48 5), .int (v_48 6), .int (v_48 7), .ref (r_47 16), .int (v_48 8), .ref (r_47 17), .int (v_48 9), .ref (r_47 18), .long q_49, .ref (r_47 19), .ref (r_47 20), .int (v_48 10), .int (v_48 11), .int (v_48 12), .ref (r_47 21), .ref (r_47 22), .int (v_48 13), .ref (r_47 23), .int (v_48 14), .int (v_48 15), .ref (r_47 24), .ref (r_47 25), .ref (r_47 26), .ref (r_47 27), .ref (r_47 28), .ref (r_47 29), .ref (r_47 30), .ref (r_47 31)]) := by rw [← hfe]; exact va_up_self _ _ _
        clear hfe
        have hI := hI9
        have hfr := hfr9
        clear hI9 hfr9
        have hgr : ∀ κ : tk_K, κ.1 ∉ ([39, 43, 44] : List Nat) → Γ_118 κ = Γ κ := tg_fr hgr eΓ_118 (by decide)
        have hx_122 : (v_48 0).toInt = Γ_118 (39, 0, 0) 0 := hv_119 0 (by decide)
        have hx_123 : z_117.toInt = Γ_118 (39, 0, 0) 1 := hv_119 1 (by decide)
        have hx_124 : (v_48 3).toInt = Γ_118 (39, 0, 0) 3 := hv_119 3 (by decide)
        have hx_125 : (v_48 4).toInt = Γ_118 (39, 0, 0) 4 := hv_119 4 (by decide)
        have hx_126 : (v_48 5).toInt = Γ_118 (39, 0, 0) 5 := hv_119 5 (by decide)
        have hx_127 : (v_48 6).toInt = Γ_118 (39, 0, 0) 6 := hv_119 6 (by decide)
        have hx_128 : (v_48 7).toInt = Γ_118 (39, 0, 0) 7 := hv_119 7 (by decide)
        have hx_129 : (v_48 8).toInt = Γ_118 (39, 0, 0) 8 := hv_119 8 (by decide)
        obtain ⟨hpa, hpb, hpc, hpd, _⟩ := id hp
        have hle := congrFun (show Γ_118 (44, 22, 0) = _ from by rw [eΓ_118, tg_rf (by decide)]) t0.toNat
        have hp : ps (Γ_118 (43, 8800, 0)) t0 (Γ_118 (44, 22, 0) t0.toNat) (Γ_118 (39, 0, 0) 1) T0 (Γ_118 (39, 0, 0) 5) a (d + 1) := hp.eq (show Γ_118 (43, 8800, 0) = _ from by rw [eΓ_118, tg_rf (by decide)]) rfl (congrFun (show Γ_118 (44, 22, 0) = _ from by rw [eΓ_118, tg_rf (by decide)]) _) (by omega) rfl (by omega)
        have hz : fz (Γ (43, 8800, 0)) (Γ_118 (43, 8800, 0)) (Γ (44, 22, 0)) (Γ_118 (44, 22, 0)) t0 := by rw [(show Γ_118 (43, 8800, 0) = _ from by rw [eΓ_118, tg_rf (by decide)]), (show Γ_118 (44, 22, 0) = _ from by rw [eΓ_118, tg_rf (by decide)])]; exact hz
        have hfw : fw (Γ (43, 8800, 0)) (Γ_118 (43, 8800, 0)) (Γ (44, 22, 0)) (Γ_118 (44, 22, 0)) t0 := by rw [(show Γ_118 (43, 8800, 0) = _ from by rw [eΓ_118, tg_rf (by decide)]), (show Γ_118 (44, 22, 0) = _ from by rw [eΓ_118, tg_rf (by decide)])]; exact hfw
        refine lv_aload_n hx hb dX12_sum_57 rfl (lv_at hl 1 rfl) ?_
        refine tq_ciR hS (hAf _ hS.1) (tq_rV (As := []) (rest := []) ⟨hx, hb, hml, hown, hta⟩ (tp_P.pre hK hN hL hU hI hP) (tp_recv hK hP ho.1 hf_121 rfl) lk_X12_246 (r_X12_term l D cy H.size L K Γ_118 f_120 o τ T0 t0 a (d + 1) ho ((hgr _ (by decide)).trans ht) (by first | omega | (simp only [Int32.toInt_toInt64]; omega) | decide | assumption) (by first | omega | (simp only [Int32.toInt_toInt64]; omega) | decide | assumption) (by first | omega | (simp only [Int32.toInt_toInt64]; omega) | decide | assumption) (by first | omega | (simp only [Int32.toInt_toInt64]; omega) | decide | assumption)) rfl rfl ⟨Nat.le_of_ble_eq_true rfl, Nat.le_of_ble_eq_true rfl⟩ rfl hl.1 rfl (Nat.le_of_ble_eq_true rfl) dX12_sum_58 ⟨Nat.le_of_ble_eq_true rfl, Nat.le_of_ble_eq_true rfl⟩) (fun r_131 f_132 Γ_134 H locs hw_130 hP hI hc_133 hcg_135 hS => ?_)
        have hD : va_D A (va_pl L f_132) := tp_D hL hAL
        have hfr := tp_fr2 hfr hc_133 (by decide)
        have hgr : ∀ κ : tk_K, κ.1 ∉ ([39, 43, 44] : List Nat) → Γ_134 κ = Γ κ := tg_fr2 hgr hcg_135 (by decide)
        obtain ⟨hE_136, hw_130⟩ := hw_130
        have hE_136 : tl_J r_131 (ps (Γ_134 (43, 8800, 0)) t0 (Γ_134 (44, 22, 0) t0.toNat) (Γ_134 (39, 0, 0) 1) T0 (Γ_134 (39, 0, 0) 5) a ((d + 1) + 1) ∧ Γ_118 (39, 0, 0) 1 - Γ_118 (44, 22, 0) t0.toNat ≤ Γ_134 (39, 0, 0) 1 - Γ_134 (44, 22, 0) t0.toNat ∧ fz (Γ_118 (43, 8800, 0)) (Γ_134 (43, 8800, 0)) (Γ_118 (44, 22, 0)) (Γ_134 (44, 22, 0)) t0) := hE_136
        have hw_130 : Γ_134 (39, 0, 0) 0 = Γ_118 (39, 0, 0) 0 ∧ Γ_134 (39, 0, 0) 4 = Γ_118 (39, 0, 0) 4 ∧ Γ_134 (39, 0, 0) 6 = Γ_118 (39, 0, 0) 6 ∧ Γ_134 (39, 0, 0) 7 = Γ_118 (39, 0, 0) 7 ∧ Γ_134 (39, 0, 0) 8 = Γ_118 (39, 0, 0) 8 ∧ Γ_118 (39, 0, 0) 1 ≤ Γ_134 (39, 0, 0) 1 ∧ Γ_134 (39, 0, 0) 1 ≤ T0 ∧ fw (Γ_118 (43, 8800, 0)) (Γ_134 (43, 8800, 0)) (Γ_118 (44, 22, 0)) (Γ_134 (44, 22, 0)) t0 := hw_130
        have hfw := hfw.trans hw_130.2.2.2.2.2.2.2
        refine lv_if_ne (tgt := 66) hx hb dX12_sum_61 (by decide) (fun c_137 => ?_) (fun c_137 => ?_)
        · have c_137 := hE_136.t c_137
          obtain ⟨hp, hsl, hz9⟩ := c_137
          have hz := hz.trans hz9
          refine lv_aload_n hx hb dX12_sum_66 rfl (lv_at hl 1 rfl) ?_
          refine lv_iload_n hx hb dX12_sum_67 rfl (lv_at hl 0 rfl) ?_
          refine lv_iconst (v := 0) hx hb dX12_sum_68 (by decide) ?_
          obtain ⟨hpa, hpb, hpc, hpd, _⟩ := id hp
          obtain ⟨r_139, v_140, q_141, hf_138, hr_142, hv_143⟩ := (show tp_o_M L K 0 0 (Γ_134 (39, 0, 0)) (f_132 o) from hI.at ho)
          have hx_144 : (v_140 0).toInt = Γ_134 (39, 0, 0) 0 := hv_143 0 (by decide)
          have hx_145 : (v_140 1).toInt = Γ_134 (39, 0, 0) 1 := hv_143 1 (by decide)
          have hx_146 : (v_140 3).toInt = Γ_134 (39, 0, 0) 3 := hv_143 3 (by decide)
          have hx_147 : (v_140 4).toInt = Γ_134 (39, 0, 0) 4 := hv_143 4 (by decide)
          have hx_148 : (v_140 5).toInt = Γ_134 (39, 0, 0) 5 := hv_143 5 (by decide)
          have hx_149 : (v_140 6).toInt = Γ_134 (39, 0, 0) 6 := hv_143 6 (by decide)
          have hx_150 : (v_140 7).toInt = Γ_134 (39, 0, 0) 7 := hv_143 7 (by decide)
          have hx_151 : (v_140 8).toInt = Γ_134 (39, 0, 0) 8 := hv_143 8 (by decide)
          refine tq_cvR hS (hAf _ hS.1) (tq_rV (As := [.int 2, .int 0]) (rest := []) ⟨hx, hb, hml, hown, hta⟩ (tp_P.pre hK hN hL hU hI hP) (tp_recv hK hP ho.1 hf_138 rfl) lk_X12_228 (r_X12_puts l D cy H.size L K Γ_134 f_132 o 2 0 t0 ho (by first | omega | (simp only [Int32.toInt_toInt64]; omega) | decide | assumption) (by first | omega | (simp only [Int32.toInt_toInt64]; omega) | decide | assumption) (by first | omega | (simp only [Int32.toInt_toInt64]; omega) | decide | assumption) (by first | omega | (simp only [Int32.toInt_toInt64]; omega) | decide | assumption)) rfl rfl ⟨Nat.le_of_ble_eq_true rfl, Nat.le_of_ble_eq_true rfl⟩ rfl hl.1 rfl (Nat.le_of_ble_eq_true rfl) dX12_sum_69 ⟨Nat.le_of_ble_eq_true rfl, Nat.le_of_ble_eq_true rfl⟩) (fun f_154 Γ_156 H locs hw_152 hP hI hc_155 hcg_157 hS => ?_)
          have hD : va_D A (va_pl L f_154) := tp_D hL hAL
          have hfr := tp_fr2 hfr hc_155 (by decide)
          have hgr : ∀ κ : tk_K, κ.1 ∉ ([39, 43, 44] : List Nat) → Γ_156 κ = Γ κ := tg_fr2 hgr hcg_157 (by decide)
          have hf_158 := (tp_un hc_155 ho (by decide)).trans hf_138
          have hv_159 : ∀ i : Nat, i < 16 → (v_140 i).toInt = Γ_156 (39, 0, 0) i := fun i hi => by rw [hcg_157 _ (by decide)]; exact hv_143 i hi
          have hx_160 : (v_140 0).toInt = Γ_156 (39, 0, 0) 0 := hv_159 0 (by decide)
          have hx_161 : (v_140 1).toInt = Γ_156 (39, 0, 0) 1 := hv_159 1 (by decide)
          have hx_162 : (v_140 3).toInt = Γ_156 (39, 0, 0) 3 := hv_159 3 (by decide)
          have hx_163 : (v_140 4).toInt = Γ_156 (39, 0, 0) 4 := hv_159 4 (by decide)
          have hx_164 : (v_140 5).toInt = Γ_156 (39, 0, 0) 5 := hv_159 5 (by decide)
          have hx_165 : (v_140 6).toInt = Γ_156 (39, 0, 0) 6 := hv_159 6 (by decide)
          have hx_166 : (v_140 7).toInt = Γ_156 (39, 0, 0) 7 := hv_159 7 (by decide)
          have hx_167 : (v_140 8).toInt = Γ_156 (39, 0, 0) 8 := hv_159 8 (by decide)
          have mk_156_0 : Γ_156 (39, 0, 0) 0 = Γ_134 (39, 0, 0) 0 := congrFun (hcg_157 (39, 0, 0) (by decide)) 0
          have mk_156_1 : Γ_156 (39, 0, 0) 1 = Γ_134 (39, 0, 0) 1 := congrFun (hcg_157 (39, 0, 0) (by decide)) 1
          have mk_156_3 : Γ_156 (39, 0, 0) 3 = Γ_134 (39, 0, 0) 3 := congrFun (hcg_157 (39, 0, 0) (by decide)) 3
          have mk_156_4 : Γ_156 (39, 0, 0) 4 = Γ_134 (39, 0, 0) 4 := congrFun (hcg_157 (39, 0, 0) (by decide)) 4
          have mk_156_5 : Γ_156 (39, 0, 0) 5 = Γ_134 (39, 0, 0) 5 := congrFun (hcg_157 (39, 0, 0) (by decide)) 5
          have mk_156_6 : Γ_156 (39, 0, 0) 6 = Γ_134 (39, 0, 0) 6 := congrFun (hcg_157 (39, 0, 0) (by decide)) 6
          have mk_156_7 : Γ_156 (39, 0, 0) 7 = Γ_134 (39, 0, 0) 7 := congrFun (hcg_157 (39, 0, 0) (by decide)) 7
          have mk_156_8 : Γ_156 (39, 0, 0) 8 = Γ_134 (39, 0, 0) 8 := congrFun (hcg_157 (39, 0, 0) (by decide)) 8
          have hw_152 : Γ_156 (43, 8800, 0) = tgu (Γ_134 (43, 8800, 0)) (400 * t0 + Γ_134 (44, 22, 0) t0.toNat).toNat ((2 : Int) + 16 * (0 : Int)) ∧ Γ_156 (44, 22, 0) = tgu (Γ_134 (44, 22, 0)) t0.toNat (Γ_134 (44, 22, 0) t0.toNat + 1) := hw_152
          obtain ⟨hpa, hpb, hpc, hpd, _⟩ := id hp
          have hlem : rp_ok ((2 : Int) + 16 * (0 : Int)) ((d + 1) + 1) ∧ rp_d ((2 : Int) + 16 * (0 : Int)) = -1 := (rp_two (by omega) (by omega))
          have hput := hp.put (e := ((2 : Int) + 16 * (0 : Int))) (by omega) hlem.1 (by rw [hlem.2]; omega)
          rw [hlem.2] at hput
          have hln2 : Γ_156 (44, 22, 0) t0.toNat = Γ_134 (44, 22, 0) t0.toNat + 1 := by rw [hw_152.2, tgu_s]
          have hfz2 : fz (Γ_134 (43, 8800, 0)) (Γ_156 (43, 8800, 0)) (Γ_134 (44, 22, 0)) (Γ_156 (44, 22, 0)) t0 := by rw [hw_152.1, hw_152.2]; exact fz.put (by omega) (by omega)
          have hp : ps (Γ_156 (43, 8800, 0)) t0 (Γ_156 (44, 22, 0) t0.toNat) (Γ_156 (39, 0, 0) 1) T0 (Γ_156 (39, 0, 0) 5) a ((d + 1) + 1 + -1) := by rw [hln2, hw_152.1, show Γ_156 (39, 0, 0) 1 = Γ_134 (39, 0, 0) 1 from by omega, show Γ_156 (39, 0, 0) 5 = Γ_134 (39, 0, 0) 5 from by omega]; exact hput
          have hz := hz.trans hfz2
          have hfw := hfw.trans (hfz2.fw (by omega))
          refine lv_goto (tgt := 9) hx hb dX12_sum_72 (by decide) ?_
          exact ih9 (f_154, Γ_156) H locs ls (by show (400 - Γ_156 (39, 0, 0) 1).toNat < (400 - Γ_24 (39, 0, 0) 1).toNat; omega) ⟨(show ps (Γ_156 (43, 8800, 0)) t0 (Γ_156 (44, 22, 0) t0.toNat) (Γ_156 (39, 0, 0) 1) T0 (Γ_156 (39, 0, 0) 5) a (d + 1) from (by have h9 := hp; rw [show (d + 1) + 1 + -1 = d + 1 from by omega] at h9; exact h9)), (show fz (Γ (43, 8800, 0)) (Γ_156 (43, 8800, 0)) (Γ (44, 22, 0)) (Γ_156 (44, 22, 0)) t0 from hz), (show fw (Γ (43, 8800, 0)) (Γ_156 (43, 8800, 0)) (Γ (44, 22, 0)) (Γ_156 (44, 22, 0)) t0 from hfw), (show Γ (39, 0, 0) 1 - Γ (44, 22, 0) t0.toNat ≤ Γ_156 (39, 0, 0) 1 - Γ_156 (44, 22, 0) t0.toNat from (by omega)), (show Γ_156 (39, 0, 0) 0 = Γ (39, 0, 0) 0 from (by omega)), (show Γ_156 (39, 0, 0) 4 = Γ (39, 0, 0) 4 from (by omega)), (show Γ_156 (39, 0, 0) 6 = Γ (39, 0, 0) 6 from (by omega)), (show Γ_156 (39, 0, 0) 7 = Γ (39, 0, 0) 7 from (by omega)), (show Γ_156 (39, 0, 0) 8 = Γ (39, 0, 0) 8 from (by omega)), (show Γ (39, 0, 0) 1 ≤ Γ_156 (39, 0, 0) 1 ∧ Γ_156 (39, 0, 0) 1 ≤ T0 from (by omega)), hP, hI, hfr, hgr, hS, lv_sub hl [1] rfl⟩
        · have c_137 := c_137
          refine lv_iconst (v := 0) hx hb dX12_sum_64 (by decide) ?_
          have hpo9 : tl_J (0 : Int32) (ps (Γ_134 (43, 8800, 0)) t0 (Γ_134 (44, 22, 0) t0.toNat) (Γ_134 (39, 0, 0) 1) T0 (Γ_134 (39, 0, 0) 5) a (d + 1) ∧ Γ (39, 0, 0) 1 - Γ (44, 22, 0) t0.toNat ≤ Γ_134 (39, 0, 0) 1 - Γ_134 (44, 22, 0) t0.toNat ∧ fz (Γ (43, 8800, 0)) (Γ_134 (43, 8800, 0)) (Γ (44, 22, 0)) (Γ_134 (44, 22, 0)) t0) ∧ Γ_134 (39, 0, 0) 0 = Γ (39, 0, 0) 0 ∧ Γ_134 (39, 0, 0) 4 = Γ (39, 0, 0) 4 ∧ Γ_134 (39, 0, 0) 6 = Γ (39, 0, 0) 6 ∧ Γ_134 (39, 0, 0) 7 = Γ (39, 0, 0) 7 ∧ Γ_134 (39, 0, 0) 8 = Γ (39, 0, 0) 8 ∧ Γ (39, 0, 0) 1 ≤ Γ_134 (39, 0, 0) 1 ∧ Γ_134 (39, 0, 0) 1 ≤ T0 ∧ fw (Γ (43, 8800, 0)) (Γ_134 (43, 8800, 0)) (Γ (44, 22, 0)) (Γ_134 (44, 22, 0)) t0 := ⟨(Or.inr rfl), ⟨(by omega), (by omega), (by omega), (by omega), (by omega), (by omega), (by omega), hfw⟩⟩
          exact W.zret (ty := .boolean) (v := 0) hx hb hr rfl (fun t ht hW => ⟨⟨_, (f_132, Γ_134), rfl, hpo9, by rw [ht]; exact hP, hI, hfr, hgr⟩, hS.F ht⟩) hS.2.2 dX12_sum_65
    · have c_45 : ¬ r_40.toInt = (43 : Int) := tl_neq c_45
      refine lv_aload_n hx hb dX12_sum_18 rfl (lv_at hl 0 rfl) ?_
      obtain ⟨r_169, v_170, q_171, hf_168, hr_172, hv_173⟩ := (show tp_o_M L K 0 0 (Γ_43 (39, 0, 0)) (f_41 o) from hI.at ho)
      refine tq_ciR hS (hAf _ hS.1) (tq_rV (As := []) (rest := []) ⟨hx, hb, hml, hown, hta⟩ (tp_P.pre hK hN hL hU hI hP) (tp_recv hK hP ho.1 hf_168 rfl) lk_X12_167 (r_X12_see l D cy H.size L K Γ_43 f_41 o τ T0 ho ((hgr _ (by decide)).trans ht) (by first | omega | (simp only [Int32.toInt_toInt64]; omega) | decide | assumption) (by first | omega | (simp only [Int32.toInt_toInt64]; omega) | decide | assumption)) rfl rfl ⟨Nat.le_of_ble_eq_true rfl, Nat.le_of_ble_eq_true rfl⟩ rfl hl.1 rfl (Nat.le_of_ble_eq_true rfl) dX12_sum_19 ⟨Nat.le_of_ble_eq_true rfl, Nat.le_of_ble_eq_true rfl⟩) (fun r_183 f_184 Γ_186 H locs hw_182 hP hI hc_185 hcg_187 hS => ?_)
      have hD : va_D A (va_pl L f_184) := tp_D hL hAL
      have hfr := tp_fr2 hfr hc_185 (by decide)
      have hgr : ∀ κ : tk_K, κ.1 ∉ ([39, 43, 44] : List Nat) → Γ_186 κ = Γ κ := tg_fr2 hgr hcg_187 (by decide)
      have hw_182 : Γ_186 (39, 0, 0) 0 = Γ_43 (39, 0, 0) 0 ∧ Γ_186 (39, 0, 0) 3 = Γ_43 (39, 0, 0) 3 ∧ Γ_186 (39, 0, 0) 4 = Γ_43 (39, 0, 0) 4 ∧ Γ_186 (39, 0, 0) 5 = Γ_43 (39, 0, 0) 5 ∧ Γ_186 (39, 0, 0) 6 = Γ_43 (39, 0, 0) 6 ∧ Γ_186 (39, 0, 0) 7 = Γ_43 (39, 0, 0) 7 ∧ Γ_186 (39, 0, 0) 8 = Γ_43 (39, 0, 0) 8 ∧ Γ_43 (39, 0, 0) 1 ≤ Γ_186 (39, 0, 0) 1 ∧ Γ_186 (39, 0, 0) 1 ≤ T0 ∧ (¬ τ (Γ_43 (39, 0, 0) 1).toNat = 32 → Γ_186 (39, 0, 0) 1 = Γ_43 (39, 0, 0) 1) ∧ ((r_183.toInt = -1 ∧ Γ_186 (39, 0, 0) 1 = T0) ∨ (0 ≤ r_183.toInt ∧ r_183.toInt ≤ 255 ∧ Γ_186 (39, 0, 0) 1 < T0 ∧ ¬ τ (Γ_186 (39, 0, 0) 1).toNat = 32)) := hw_182
      obtain ⟨hpa, hpb, hpc, hpd, _⟩ := id hp
      have hle := congrFun (hcg_187 (44, 22, 0) (by decide)) t0.toNat
      have hp : ps (Γ_186 (43, 8800, 0)) t0 (Γ_186 (44, 22, 0) t0.toNat) (Γ_186 (39, 0, 0) 1) T0 (Γ_186 (39, 0, 0) 5) a (d + 1) := hp.eq (hcg_187 (43, 8800, 0) (by decide)) rfl (congrFun (hcg_187 (44, 22, 0) (by decide)) _) (by omega) rfl (by omega)
      have hz : fz (Γ (43, 8800, 0)) (Γ_186 (43, 8800, 0)) (Γ (44, 22, 0)) (Γ_186 (44, 22, 0)) t0 := by rw [(hcg_187 (43, 8800, 0) (by decide)), (hcg_187 (44, 22, 0) (by decide))]; exact hz
      have hfw : fw (Γ (43, 8800, 0)) (Γ_186 (43, 8800, 0)) (Γ (44, 22, 0)) (Γ_186 (44, 22, 0)) t0 := by rw [(hcg_187 (43, 8800, 0) (by decide)), (hcg_187 (44, 22, 0) (by decide))]; exact hfw
      refine lv_bipush (v := 45) hx hb dX12_sum_22 (by decide) ?_
      refine lv_icmp_ne (tgt := 75) hx hb dX12_sum_24 (by decide) (fun c_188 => ?_) (fun c_188 => ?_)
      · have c_188 : ¬ r_183.toInt = (45 : Int) := tl_neq c_188
        refine lv_iconst (v := 1) hx hb dX12_sum_75 (by decide) ?_
        have hpo9 : tl_J (1 : Int32) (ps (Γ_186 (43, 8800, 0)) t0 (Γ_186 (44, 22, 0) t0.toNat) (Γ_186 (39, 0, 0) 1) T0 (Γ_186 (39, 0, 0) 5) a (d + 1) ∧ Γ (39, 0, 0) 1 - Γ (44, 22, 0) t0.toNat ≤ Γ_186 (39, 0, 0) 1 - Γ_186 (44, 22, 0) t0.toNat ∧ fz (Γ (43, 8800, 0)) (Γ_186 (43, 8800, 0)) (Γ (44, 22, 0)) (Γ_186 (44, 22, 0)) t0) ∧ Γ_186 (39, 0, 0) 0 = Γ (39, 0, 0) 0 ∧ Γ_186 (39, 0, 0) 4 = Γ (39, 0, 0) 4 ∧ Γ_186 (39, 0, 0) 6 = Γ (39, 0, 0) 6 ∧ Γ_186 (39, 0, 0) 7 = Γ (39, 0, 0) 7 ∧ Γ_186 (39, 0, 0) 8 = Γ (39, 0, 0) 8 ∧ Γ (39, 0, 0) 1 ≤ Γ_186 (39, 0, 0) 1 ∧ Γ_186 (39, 0, 0) 1 ≤ T0 ∧ fw (Γ (43, 8800, 0)) (Γ_186 (43, 8800, 0)) (Γ (44, 22, 0)) (Γ_186 (44, 22, 0)) t0 := ⟨(Or.inl ⟨rfl, ⟨hp, (by omega), hz⟩⟩), ⟨(by omega), (by omega), (by omega), (by omega), (by omega), (by omega), (by omega), hfw⟩⟩
        exact W.zret (ty := .boolean) (v := 1) hx hb hr rfl (fun t ht hW => ⟨⟨_, (f_184, Γ_186), rfl, hpo9, by rw [ht]; exact hP, hI, hfr, hgr⟩, hS.F ht⟩) hS.2.2 dX12_sum_76
      · have c_188 : r_183.toInt = (45 : Int) := tl_eq c_188
        refine lv_aload_n hx hb dX12_sum_27 rfl (lv_at hl 0 rfl) ?_
        obtain ⟨r_190, v_191, q_192, hf_189, hr_193, hv_194⟩ := (show tp_o_M L K 0 0 (Γ_186 (39, 0, 0)) (f_184 o) from hI.at ho)
        have hx_195 : (v_191 0).toInt = Γ_186 (39, 0, 0) 0 := hv_194 0 (by decide)
        have hx_196 : (v_191 1).toInt = Γ_186 (39, 0, 0) 1 := hv_194 1 (by decide)
        have hx_197 : (v_191 3).toInt = Γ_186 (39, 0, 0) 3 := hv_194 3 (by decide)
        have hx_198 : (v_191 4).toInt = Γ_186 (39, 0, 0) 4 := hv_194 4 (by decide)
        have hx_199 : (v_191 5).toInt = Γ_186 (39, 0, 0) 5 := hv_194 5 (by decide)
        have hx_200 : (v_191 6).toInt = Γ_186 (39, 0, 0) 6 := hv_194 6 (by decide)
        have hx_201 : (v_191 7).toInt = Γ_186 (39, 0, 0) 7 := hv_194 7 (by decide)
        have hx_202 : (v_191 8).toInt = Γ_186 (39, 0, 0) 8 := hv_194 8 (by decide)
        refine tp_get (cy := cy) (ci := 12) (v := .ref (r_190 1)) (C := RX12) (T := TX12) (N := 49) hx hb hta inlX12 hown hK hP ho.1 hf_189 rfl 1 (by decide) (hta _ wk_151) (fun _ h9 => h9) rfl dX12_sum_28 ?_
        refine lv_aload_n hx hb dX12_sum_31 rfl (lv_at hl 0 rfl) ?_
        refine tp_get (cy := cy) (ci := 12) (v := .int (v_191 1)) (C := RX12) (T := TX12) (N := 49) hx hb hta inlX12 hown hK hP ho.1 hf_189 rfl 17 (by decide) (hta _ wk_539) (fun _ h9 => h9) rfl dX12_sum_32 ?_
        obtain ⟨g_204, hf_203, hg_205⟩ := (show tp_g8 cy (400) (Γ (41, 400, 0)) (f (r_190 1)) from hI0.at (show tp_r L K 41 400 0 (r_190 1) from hr_193 1 (by decide)))
        have hn_206 : vp_in (v_191 1) (400) := tl_in (by omega) (by omega)
        refine tp_bald (cy := cy) hx hb hK hP (show tp_r L K 41 400 0 (r_190 1) from hr_193 1 (by decide)).1 ((tp_un hfr (show tp_r L K 41 400 0 (r_190 1) from hr_193 1 (by decide)) (by decide)).trans hf_203) hn_206 dX12_sum_35 ?_
        refine lv_topi (fun z_207 ez_207 => ?_)
        have iz_207 : z_207.toInt = τ (v_191 1).toInt.toNat := by rw [ez_207, ← ht]; exact hg_205 _ (tp_pin hn_206)
        have jz_207 : z_207.toInt = τ  (Γ_186 (39, 0, 0) 1).toNat := by rw [← hx_196]; exact iz_207
        refine lv_bipush (v := 43) hx hb dX12_sum_36 (by decide) ?_
        refine lv_icmp_ne (tgt := 45) hx hb dX12_sum_38 (by decide) (fun c_208 => ?_) (fun c_208 => ?_)
        · have c_208 : ¬ z_207.toInt = (43 : Int) := tl_neq c_208
          refine lv_iconst (v := 3) hx hb dX12_sum_45 (by decide) ?_
          refine lv_istore_n (lv' := [(1, .int 3), (0, .ref o)]) hx hb dX12_sum_46 rfl hl (by decide) rfl (fun ls hl => ?_)
          refine lv_aload_n hx hb dX12_sum_47 rfl (lv_at hl 1 rfl) ?_
          refine lv_dup hx hb dX12_sum_48 rfl ?_
          refine tp_get (cy := cy) (ci := 12) (v := .int (v_191 1)) (C := RX12) (T := TX12) (N := 49) hx hb hta inlX12 hown hK hP ho.1 hf_189 rfl 17 (by decide) (hta _ wk_539) (fun _ h9 => h9) rfl dX12_sum_49 ?_
          refine lv_iconst (v := 1) hx hb dX12_sum_52 (by decide) ?_
          refine lv_iadd hx hb dX12_sum_53 ?_
          refine lv_topi (fun z_209 ez_209 => ?_)
          try have iz_209 : z_209.toInt = (v_191 1).toInt + (1 : Int) := by rw [ez_209]; exact tl_addN (v_191 1) 1 rfl rfl (by omega) (by omega)
          obtain ⟨Γ_210, eΓ_210⟩ : ∃ y : tk_G, y = tg Γ_186 (39, 0, 0) 1 z_209.toInt := ⟨_, rfl⟩
          have hv_211 : ∀ i : Nat, i < 16 → ((upd v_191 1 z_209) i).toInt = Γ_210 (39, 0, 0) i := by rw [eΓ_210, tg_f]; exact tp_gi_upd hv_194
          have hI9 : tp_I cy L K Γ_210 (va_up f_184 o (.inr (12, [.ref (r_190 0), .ref (r_190 1), .int (v_191 0), .ref (r_190 2), .ref (r_190 3), .ref (r_190 4), .ref (r_190 5), .ref (r_190 6), .ref (r_190 7), .ref (r_190 8), .ref (r_190 9), .ref (r_190 10), .ref (r_190 11), .ref (r_190 12), .ref (r_190 13), .ref (r_190 14), .ref (r_190 15), .int z_209, .int (v_191 2), .int (v_191 3), .int (v_191 4), .int (v_191 5), .int (v_191 6), .int (v_191 7), .ref (r_190 16), .int (v_191 8), .ref (r_190 17), .int (v_191 9), .ref (r_190 18), .long q_192, .ref (r_190 19), .ref (r_190 20), .int (v_191 10), .int (v_191 11), .int (v_191 12), .ref (r_190 21), .ref (r_190 22), .int (v_191 13), .ref (r_190 23), .int (v_191 14), .int (v_191 15), .ref (r_190 24), .ref (r_190 25), .ref (r_190 26), .ref (r_190 27), .ref (r_190 28), .ref (r_190 29), .ref (r_190 30), .ref (r_190 31)]))) := by have q9 := hv_211; rw [eΓ_210, tg_f] at q9; rw [eΓ_210]; exact hI.setg hU rfl ho (show tp_o_M L K 0 0 (tgu (Γ_186 (39, 0, 0)) 1 z_209.toInt) _ from ⟨r_190, (upd v_191 1 z_209), q_192, rfl, hr_193, q9⟩)
          have hfr9 : ∀ b, (K b).1 ∉ ([39, 43, 44] : List Nat) → va_up f_184 o (.inr (12, [.ref (r_190 0), .ref (r_190 1), .int (v_191 0), .ref (r_190 2), .ref (r_190 3), .ref (r_190 4), .ref (r_190 5), .ref (r_190 6), .ref (r_190 7), .ref (r_190 8), .ref (r_190 9), .ref (r_190 10), .ref (r_190 11), .ref (r_190 12), .ref (r_190 13), .ref (r_190 14), .ref (r_190 15), .int z_209, .int (v_191 2), .int (v_191 3), .int (v_191 4), .int (v_191 5), .int (v_191 6), .int (v_191 7), .ref (r_190 16), .int (v_191 8), .ref (r_190 17), .int (v_191 9), .ref (r_190 18), .long q_192, .ref (r_190 19), .ref (r_190 20), .int (v_191 10), .int (v_191 11), .int (v_191 12), .ref (r_190 21), .ref (r_190 22), .int (v_191 13), .ref (r_190 23), .int (v_191 14), .int (v_191 15), .ref (r_190 24), .ref (r_190 25), .ref (r_190 26), .ref (r_190 27), .ref (r_190 28), .ref (r_190 29), .ref (r_190 30), .ref (r_190 31)])) b = f b := tp_fr hfr ho (by decide)
          refine tp_put (cy := cy) (ci := 12) (v := .int z_209) (ty := tyX12 17) (C := RX12) (T := TX12) (N := 49) hx hb hta inlX12 tyX12 tyX12_ok nmX12 hown hK hP hD hS ho.1 hf_189 rfl 17 (by decide) (hta _ wk_539) (fun _ h9 => h9) rfl (tyX12_ok 17 (by decide)) rfl rfl (Nat.le_of_ble_eq_true rfl) dX12_sum_54 (fun H locs hP hD hS => ?_)
          have hP : va_P D vwCl (va_pl L (va_up f_184 o (.inr (12, [.ref (r_190 0), .ref (r_190 1), .int (v_191 0), .ref (r_190 2), .ref (r_190 3), .ref (r_190 4), .ref (r_190 5), .ref (r_190 6), .ref (r_190 7), .ref (r_190 8), .ref (r_190 9), .ref (r_190 10), .ref (r_190 11), .ref (r_190 12), .ref (r_190 13), .ref (r_190 14), .ref (r_190 15), .int z_209, .int (v_191 2), .int (v_191 3), .int (v_191 4), .int (v_191 5), .int (v_191 6), .int (v_191 7), .ref (r_190 16), .int (v_191 8), .ref (r_190 17), .int (v_191 9), .ref (r_190 18), .long q_192, .ref (r_190 19), .ref (r_190 20), .int (v_191 10), .int (v_191 11), .int (v_191 12), .ref (r_190 21), .ref (r_190 22), .int (v_191 13), .ref (r_190 23), .int (v_191 14), .int (v_191 15), .ref (r_190 24), .ref (r_190 25), .ref (r_190 26), .ref (r_190 27), .ref (r_190 28), .ref (r_190 29), .ref (r_190 30), .ref (r_190 31)])))) H := hP
          generalize hfe : va_up f_184 o (.inr (12, [.ref (r_190 0), .ref (r_190 1), .int (v_191 0), .ref (r_190 2), .ref (r_190 3), .ref (r_190 4), .ref (r_190 5), .ref (r_190 6), .ref (r_190 7), .ref (r_190 8), .ref (r_190 9), .ref (r_190 10), .ref (r_190 11), .ref (r_190 12), .ref (r_190 13), .ref (r_190 14), .ref (r_190 15), .int z_209, .int (v_191 2), .int (v_191 3), .int (v_191 4), .int (v_191 5), .int (v_191 6), .int (v_191 7), .ref (r_190 16), .int (v_191 8), .ref (r_190 17), .int (v_191 9), .ref (r_190 18), .long q_192, .ref (r_190 19), .ref (r_190 20), .int (v_191 10), .int (v_191 11), .int (v_191 12), .ref (r_190 21), .ref (r_190 22), .int (v_191 13), .ref (r_190 23), .int (v_191 14), .int (v_191 15), .ref (r_190 24), .ref (r_190 25), .ref (r_190 26), .ref (r_190 27), .ref (r_190 28), .ref (r_190 29), .ref (r_190 30), .ref (r_190 31)])) = f_212 at hP hI9 hfr9
          have hD : va_D A (va_pl L f_212) := tp_D hL hAL
          have hf_213 : f_212 o = .inr (12, [.ref (r_190 0), .ref (r_190 1), .int (v_191 0), .ref (r_190 2), .ref (r_190 3), .ref (r_190 4), .ref (r_190 5), .ref (r_190 6), .ref (r_190 7), .ref (r_190 8), .ref (r_190 9), .ref (r_190 10), .ref (r_190 11), .ref (r_190 12), .ref (r_190 13), .ref (r_190 14), .ref (r_190 15), .int z_209, .int (v_191 2), .int (v_191 3), .int (v_191 4), .int (v_191 5), .int (v_191 6), .int (v_191 7), .ref (r_190 16), .int (v_191 8), .ref (r_190 17), .int (v_191 9), .ref (r_190 18), .long q_192, .ref (r_190 19), .ref (r_190 20), .int (v_191 10), .int (v_191 11), .int (v_191 12), .ref (r_190 21), .ref (r_190 22), .int (v_191 13), .ref (r_190 23), .int (v_191 14), .int (v_191 15), .ref (r_190 24), .ref (r_190 25), .ref (r_190 26), .ref (r_190 27), .ref (r_190 28), .ref (r_190 29), .ref (r_190 30), .ref (r_190 31)]) := by rw [← hfe]; exact va_up_self _ _ _
          clear hfe
          have hI := hI9
          have hfr := hfr9
          clear hI9 hfr9
          have hgr : ∀ κ : tk_K, κ.1 ∉ ([39, 43, 44] : List Nat) → Γ_210 κ = Γ κ := tg_fr hgr eΓ_210 (by decide)
          have hx_214 : (v_191 0).toInt = Γ_210 (39, 0, 0) 0 := hv_211 0 (by decide)
          have hx_215 : z_209.toInt = Γ_210 (39, 0, 0) 1 := hv_211 1 (by decide)
          have hx_216 : (v_191 3).toInt = Γ_210 (39, 0, 0) 3 := hv_211 3 (by decide)
          have hx_217 : (v_191 4).toInt = Γ_210 (39, 0, 0) 4 := hv_211 4 (by decide)
          have hx_218 : (v_191 5).toInt = Γ_210 (39, 0, 0) 5 := hv_211 5 (by decide)
          have hx_219 : (v_191 6).toInt = Γ_210 (39, 0, 0) 6 := hv_211 6 (by decide)
          have hx_220 : (v_191 7).toInt = Γ_210 (39, 0, 0) 7 := hv_211 7 (by decide)
          have hx_221 : (v_191 8).toInt = Γ_210 (39, 0, 0) 8 := hv_211 8 (by decide)
          obtain ⟨hpa, hpb, hpc, hpd, _⟩ := id hp
          have hle := congrFun (show Γ_210 (44, 22, 0) = _ from by rw [eΓ_210, tg_rf (by decide)]) t0.toNat
          have hp : ps (Γ_210 (43, 8800, 0)) t0 (Γ_210 (44, 22, 0) t0.toNat) (Γ_210 (39, 0, 0) 1) T0 (Γ_210 (39, 0, 0) 5) a (d + 1) := hp.eq (show Γ_210 (43, 8800, 0) = _ from by rw [eΓ_210, tg_rf (by decide)]) rfl (congrFun (show Γ_210 (44, 22, 0) = _ from by rw [eΓ_210, tg_rf (by decide)]) _) (by omega) rfl (by omega)
          have hz : fz (Γ (43, 8800, 0)) (Γ_210 (43, 8800, 0)) (Γ (44, 22, 0)) (Γ_210 (44, 22, 0)) t0 := by rw [(show Γ_210 (43, 8800, 0) = _ from by rw [eΓ_210, tg_rf (by decide)]), (show Γ_210 (44, 22, 0) = _ from by rw [eΓ_210, tg_rf (by decide)])]; exact hz
          have hfw : fw (Γ (43, 8800, 0)) (Γ_210 (43, 8800, 0)) (Γ (44, 22, 0)) (Γ_210 (44, 22, 0)) t0 := by rw [(show Γ_210 (43, 8800, 0) = _ from by rw [eΓ_210, tg_rf (by decide)]), (show Γ_210 (44, 22, 0) = _ from by rw [eΓ_210, tg_rf (by decide)])]; exact hfw
          refine lv_aload_n hx hb dX12_sum_57 rfl (lv_at hl 1 rfl) ?_
          refine tq_ciR hS (hAf _ hS.1) (tq_rV (As := []) (rest := []) ⟨hx, hb, hml, hown, hta⟩ (tp_P.pre hK hN hL hU hI hP) (tp_recv hK hP ho.1 hf_213 rfl) lk_X12_246 (r_X12_term l D cy H.size L K Γ_210 f_212 o τ T0 t0 a (d + 1) ho ((hgr _ (by decide)).trans ht) (by first | omega | (simp only [Int32.toInt_toInt64]; omega) | decide | assumption) (by first | omega | (simp only [Int32.toInt_toInt64]; omega) | decide | assumption) (by first | omega | (simp only [Int32.toInt_toInt64]; omega) | decide | assumption) (by first | omega | (simp only [Int32.toInt_toInt64]; omega) | decide | assumption)) rfl rfl ⟨Nat.le_of_ble_eq_true rfl, Nat.le_of_ble_eq_true rfl⟩ rfl hl.1 rfl (Nat.le_of_ble_eq_true rfl) dX12_sum_58 ⟨Nat.le_of_ble_eq_true rfl, Nat.le_of_ble_eq_true rfl⟩) (fun r_223 f_224 Γ_226 H locs hw_222 hP hI hc_225 hcg_227 hS => ?_)
          have hD : va_D A (va_pl L f_224) := tp_D hL hAL
          have hfr := tp_fr2 hfr hc_225 (by decide)
          have hgr : ∀ κ : tk_K, κ.1 ∉ ([39, 43, 44] : List Nat) → Γ_226 κ = Γ κ := tg_fr2 hgr hcg_227 (by decide)
          obtain ⟨hE_228, hw_222⟩ := hw_222
          have hE_228 : tl_J r_223 (ps (Γ_226 (43, 8800, 0)) t0 (Γ_226 (44, 22, 0) t0.toNat) (Γ_226 (39, 0, 0) 1) T0 (Γ_226 (39, 0, 0) 5) a ((d + 1) + 1) ∧ Γ_210 (39, 0, 0) 1 - Γ_210 (44, 22, 0) t0.toNat ≤ Γ_226 (39, 0, 0) 1 - Γ_226 (44, 22, 0) t0.toNat ∧ fz (Γ_210 (43, 8800, 0)) (Γ_226 (43, 8800, 0)) (Γ_210 (44, 22, 0)) (Γ_226 (44, 22, 0)) t0) := hE_228
          have hw_222 : Γ_226 (39, 0, 0) 0 = Γ_210 (39, 0, 0) 0 ∧ Γ_226 (39, 0, 0) 4 = Γ_210 (39, 0, 0) 4 ∧ Γ_226 (39, 0, 0) 6 = Γ_210 (39, 0, 0) 6 ∧ Γ_226 (39, 0, 0) 7 = Γ_210 (39, 0, 0) 7 ∧ Γ_226 (39, 0, 0) 8 = Γ_210 (39, 0, 0) 8 ∧ Γ_210 (39, 0, 0) 1 ≤ Γ_226 (39, 0, 0) 1 ∧ Γ_226 (39, 0, 0) 1 ≤ T0 ∧ fw (Γ_210 (43, 8800, 0)) (Γ_226 (43, 8800, 0)) (Γ_210 (44, 22, 0)) (Γ_226 (44, 22, 0)) t0 := hw_222
          have hfw := hfw.trans hw_222.2.2.2.2.2.2.2
          refine lv_if_ne (tgt := 66) hx hb dX12_sum_61 (by decide) (fun c_229 => ?_) (fun c_229 => ?_)
          · have c_229 := hE_228.t c_229
            obtain ⟨hp, hsl, hz9⟩ := c_229
            have hz := hz.trans hz9
            refine lv_aload_n hx hb dX12_sum_66 rfl (lv_at hl 1 rfl) ?_
            refine lv_iload_n hx hb dX12_sum_67 rfl (lv_at hl 0 rfl) ?_
            refine lv_iconst (v := 0) hx hb dX12_sum_68 (by decide) ?_
            obtain ⟨hpa, hpb, hpc, hpd, _⟩ := id hp
            obtain ⟨r_231, v_232, q_233, hf_230, hr_234, hv_235⟩ := (show tp_o_M L K 0 0 (Γ_226 (39, 0, 0)) (f_224 o) from hI.at ho)
            have hx_236 : (v_232 0).toInt = Γ_226 (39, 0, 0) 0 := hv_235 0 (by decide)
            have hx_237 : (v_232 1).toInt = Γ_226 (39, 0, 0) 1 := hv_235 1 (by decide)
            have hx_238 : (v_232 3).toInt = Γ_226 (39, 0, 0) 3 := hv_235 3 (by decide)
            have hx_239 : (v_232 4).toInt = Γ_226 (39, 0, 0) 4 := hv_235 4 (by decide)
            have hx_240 : (v_232 5).toInt = Γ_226 (39, 0, 0) 5 := hv_235 5 (by decide)
            have hx_241 : (v_232 6).toInt = Γ_226 (39, 0, 0) 6 := hv_235 6 (by decide)
            have hx_242 : (v_232 7).toInt = Γ_226 (39, 0, 0) 7 := hv_235 7 (by decide)
            have hx_243 : (v_232 8).toInt = Γ_226 (39, 0, 0) 8 := hv_235 8 (by decide)
            refine tq_cvR hS (hAf _ hS.1) (tq_rV (As := [.int 3, .int 0]) (rest := []) ⟨hx, hb, hml, hown, hta⟩ (tp_P.pre hK hN hL hU hI hP) (tp_recv hK hP ho.1 hf_230 rfl) lk_X12_228 (r_X12_puts l D cy H.size L K Γ_226 f_224 o 3 0 t0 ho (by first | omega | (simp only [Int32.toInt_toInt64]; omega) | decide | assumption) (by first | omega | (simp only [Int32.toInt_toInt64]; omega) | decide | assumption) (by first | omega | (simp only [Int32.toInt_toInt64]; omega) | decide | assumption) (by first | omega | (simp only [Int32.toInt_toInt64]; omega) | decide | assumption)) rfl rfl ⟨Nat.le_of_ble_eq_true rfl, Nat.le_of_ble_eq_true rfl⟩ rfl hl.1 rfl (Nat.le_of_ble_eq_true rfl) dX12_sum_69 ⟨Nat.le_of_ble_eq_true rfl, Nat.le_of_ble_eq_true rfl⟩) (fun f_246 Γ_248 H locs hw_244 hP hI hc_247 hcg_249 hS => ?_)
            have hD : va_D A (va_pl L f_246) := tp_D hL hAL
            have hfr := tp_fr2 hfr hc_247 (by decide)
            have hgr : ∀ κ : tk_K, κ.1 ∉ ([39, 43, 44] : List Nat) → Γ_248 κ = Γ κ := tg_fr2 hgr hcg_249 (by decide)
            have hf_250 := (tp_un hc_247 ho (by decide)).trans hf_230
            have hv_251 : ∀ i : Nat, i < 16 → (v_232 i).toInt = Γ_248 (39, 0, 0) i := fun i hi => by rw [hcg_249 _ (by decide)]; exact hv_235 i hi
            have hx_252 : (v_232 0).toInt = Γ_248 (39, 0, 0) 0 := hv_251 0 (by decide)
            have hx_253 : (v_232 1).toInt = Γ_248 (39, 0, 0) 1 := hv_251 1 (by decide)
            have hx_254 : (v_232 3).toInt = Γ_248 (39, 0, 0) 3 := hv_251 3 (by decide)
            have hx_255 : (v_232 4).toInt = Γ_248 (39, 0, 0) 4 := hv_251 4 (by decide)
            have hx_256 : (v_232 5).toInt = Γ_248 (39, 0, 0) 5 := hv_251 5 (by decide)
            have hx_257 : (v_232 6).toInt = Γ_248 (39, 0, 0) 6 := hv_251 6 (by decide)
            have hx_258 : (v_232 7).toInt = Γ_248 (39, 0, 0) 7 := hv_251 7 (by decide)
            have hx_259 : (v_232 8).toInt = Γ_248 (39, 0, 0) 8 := hv_251 8 (by decide)
            have mk_248_0 : Γ_248 (39, 0, 0) 0 = Γ_226 (39, 0, 0) 0 := congrFun (hcg_249 (39, 0, 0) (by decide)) 0
            have mk_248_1 : Γ_248 (39, 0, 0) 1 = Γ_226 (39, 0, 0) 1 := congrFun (hcg_249 (39, 0, 0) (by decide)) 1
            have mk_248_3 : Γ_248 (39, 0, 0) 3 = Γ_226 (39, 0, 0) 3 := congrFun (hcg_249 (39, 0, 0) (by decide)) 3
            have mk_248_4 : Γ_248 (39, 0, 0) 4 = Γ_226 (39, 0, 0) 4 := congrFun (hcg_249 (39, 0, 0) (by decide)) 4
            have mk_248_5 : Γ_248 (39, 0, 0) 5 = Γ_226 (39, 0, 0) 5 := congrFun (hcg_249 (39, 0, 0) (by decide)) 5
            have mk_248_6 : Γ_248 (39, 0, 0) 6 = Γ_226 (39, 0, 0) 6 := congrFun (hcg_249 (39, 0, 0) (by decide)) 6
            have mk_248_7 : Γ_248 (39, 0, 0) 7 = Γ_226 (39, 0, 0) 7 := congrFun (hcg_249 (39, 0, 0) (by decide)) 7
            have mk_248_8 : Γ_248 (39, 0, 0) 8 = Γ_226 (39, 0, 0) 8 := congrFun (hcg_249 (39, 0, 0) (by decide)) 8
            have hw_244 : Γ_248 (43, 8800, 0) = tgu (Γ_226 (43, 8800, 0)) (400 * t0 + Γ_226 (44, 22, 0) t0.toNat).toNat ((3 : Int) + 16 * (0 : Int)) ∧ Γ_248 (44, 22, 0) = tgu (Γ_226 (44, 22, 0)) t0.toNat (Γ_226 (44, 22, 0) t0.toNat + 1) := hw_244
            obtain ⟨hpa, hpb, hpc, hpd, _⟩ := id hp
            have hlem : rp_ok ((3 : Int) + 16 * (0 : Int)) ((d + 1) + 1) ∧ rp_d ((3 : Int) + 16 * (0 : Int)) = -1 := (rp_two (by omega) (by omega))
            have hput := hp.put (e := ((3 : Int) + 16 * (0 : Int))) (by omega) hlem.1 (by rw [hlem.2]; omega)
            rw [hlem.2] at hput
            have hln2 : Γ_248 (44, 22, 0) t0.toNat = Γ_226 (44, 22, 0) t0.toNat + 1 := by rw [hw_244.2, tgu_s]
            have hfz2 : fz (Γ_226 (43, 8800, 0)) (Γ_248 (43, 8800, 0)) (Γ_226 (44, 22, 0)) (Γ_248 (44, 22, 0)) t0 := by rw [hw_244.1, hw_244.2]; exact fz.put (by omega) (by omega)
            have hp : ps (Γ_248 (43, 8800, 0)) t0 (Γ_248 (44, 22, 0) t0.toNat) (Γ_248 (39, 0, 0) 1) T0 (Γ_248 (39, 0, 0) 5) a ((d + 1) + 1 + -1) := by rw [hln2, hw_244.1, show Γ_248 (39, 0, 0) 1 = Γ_226 (39, 0, 0) 1 from by omega, show Γ_248 (39, 0, 0) 5 = Γ_226 (39, 0, 0) 5 from by omega]; exact hput
            have hz := hz.trans hfz2
            have hfw := hfw.trans (hfz2.fw (by omega))
            refine lv_goto (tgt := 9) hx hb dX12_sum_72 (by decide) ?_
            exact ih9 (f_246, Γ_248) H locs ls (by show (400 - Γ_248 (39, 0, 0) 1).toNat < (400 - Γ_24 (39, 0, 0) 1).toNat; omega) ⟨(show ps (Γ_248 (43, 8800, 0)) t0 (Γ_248 (44, 22, 0) t0.toNat) (Γ_248 (39, 0, 0) 1) T0 (Γ_248 (39, 0, 0) 5) a (d + 1) from (by have h9 := hp; rw [show (d + 1) + 1 + -1 = d + 1 from by omega] at h9; exact h9)), (show fz (Γ (43, 8800, 0)) (Γ_248 (43, 8800, 0)) (Γ (44, 22, 0)) (Γ_248 (44, 22, 0)) t0 from hz), (show fw (Γ (43, 8800, 0)) (Γ_248 (43, 8800, 0)) (Γ (44, 22, 0)) (Γ_248 (44, 22, 0)) t0 from hfw), (show Γ (39, 0, 0) 1 - Γ (44, 22, 0) t0.toNat ≤ Γ_248 (39, 0, 0) 1 - Γ_248 (44, 22, 0) t0.toNat from (by omega)), (show Γ_248 (39, 0, 0) 0 = Γ (39, 0, 0) 0 from (by omega)), (show Γ_248 (39, 0, 0) 4 = Γ (39, 0, 0) 4 from (by omega)), (show Γ_248 (39, 0, 0) 6 = Γ (39, 0, 0) 6 from (by omega)), (show Γ_248 (39, 0, 0) 7 = Γ (39, 0, 0) 7 from (by omega)), (show Γ_248 (39, 0, 0) 8 = Γ (39, 0, 0) 8 from (by omega)), (show Γ (39, 0, 0) 1 ≤ Γ_248 (39, 0, 0) 1 ∧ Γ_248 (39, 0, 0) 1 ≤ T0 from (by omega)), hP, hI, hfr, hgr, hS, lv_sub hl [1] rfl⟩
          · have c_229 := c_229
            refine lv_iconst (v := 0) hx hb dX12_sum_64 (by decide) ?_
            have hpo9 : tl_J (0 : Int32) (ps (Γ_226 (43, 8800, 0)) t0 (Γ_226 (44, 22, 0) t0.toNat) (Γ_226 (39, 0, 0) 1) T0 (Γ_226 (39, 0, 0) 5) a (d + 1) ∧ Γ (39, 0, 0) 1 - Γ (44, 22, 0) t0.toNat ≤ Γ_226 (39, 0, 0) 1 - Γ_226 (44, 22, 0) t0.toNat ∧ fz (Γ (43, 8800, 0)) (Γ_226 (43, 8800, 0)) (Γ (44, 22, 0)) (Γ_226 (44, 22, 0)) t0) ∧ Γ_226 (39, 0, 0) 0 = Γ (39, 0, 0) 0 ∧ Γ_226 (39, 0, 0) 4 = Γ (39, 0, 0) 4 ∧ Γ_226 (39, 0, 0) 6 = Γ (39, 0, 0) 6 ∧ Γ_226 (39, 0, 0) 7 = Γ (39, 0, 0) 7 ∧ Γ_226 (39, 0, 0) 8 = Γ (39, 0, 0) 8 ∧ Γ (39, 0, 0) 1 ≤ Γ_226 (39, 0, 0) 1 ∧ Γ_226 (39, 0, 0) 1 ≤ T0 ∧ fw (Γ (43, 8800, 0)) (Γ_226 (43, 8800, 0)) (Γ (44, 22, 0)) (Γ_226 (44, 22, 0)) t0 := ⟨(Or.inr rfl), ⟨(by omega), (by omega), (by omega), (by omega), (by omega), (by omega), (by omega), hfw⟩⟩
            exact W.zret (ty := .boolean) (v := 0) hx hb hr rfl (fun t ht hW => ⟨⟨_, (f_224, Γ_226), rfl, hpo9, by rw [ht]; exact hP, hI, hfr, hgr⟩, hS.F ht⟩) hS.2.2 dX12_sum_65
        · have c_208 : z_207.toInt = (43 : Int) := tl_eq c_208
          refine lv_iconst (v := 2) hx hb dX12_sum_41 (by decide) ?_
          refine lv_goto (tgt := 46) hx hb dX12_sum_42 (by decide) ?_
          refine lv_istore_n (lv' := [(1, .int 2), (0, .ref o)]) hx hb dX12_sum_46 rfl hl (by decide) rfl (fun ls hl => ?_)
          refine lv_aload_n hx hb dX12_sum_47 rfl (lv_at hl 1 rfl) ?_
          refine lv_dup hx hb dX12_sum_48 rfl ?_
          refine tp_get (cy := cy) (ci := 12) (v := .int (v_191 1)) (C := RX12) (T := TX12) (N := 49) hx hb hta inlX12 hown hK hP ho.1 hf_189 rfl 17 (by decide) (hta _ wk_539) (fun _ h9 => h9) rfl dX12_sum_49 ?_
          refine lv_iconst (v := 1) hx hb dX12_sum_52 (by decide) ?_
          refine lv_iadd hx hb dX12_sum_53 ?_
          refine lv_topi (fun z_260 ez_260 => ?_)
          try have iz_260 : z_260.toInt = (v_191 1).toInt + (1 : Int) := by rw [ez_260]; exact tl_addN (v_191 1) 1 rfl rfl (by omega) (by omega)
          obtain ⟨Γ_261, eΓ_261⟩ : ∃ y : tk_G, y = tg Γ_186 (39, 0, 0) 1 z_260.toInt := ⟨_, rfl⟩
          have hv_262 : ∀ i : Nat, i < 16 → ((upd v_191 1 z_260) i).toInt = Γ_261 (39, 0, 0) i := by rw [eΓ_261, tg_f]; exact tp_gi_upd hv_194
          have hI9 : tp_I cy L K Γ_261 (va_up f_184 o (.inr (12, [.ref (r_190 0), .ref (r_190 1), .int (v_191 0), .ref (r_190 2), .ref (r_190 3), .ref (r_190 4), .ref (r_190 5), .ref (r_190 6), .ref (r_190 7), .ref (r_190 8), .ref (r_190 9), .ref (r_190 10), .ref (r_190 11), .ref (r_190 12), .ref (r_190 13), .ref (r_190 14), .ref (r_190 15), .int z_260, .int (v_191 2), .int (v_191 3), .int (v_191 4), .int (v_191 5), .int (v_191 6), .int (v_191 7), .ref (r_190 16), .int (v_191 8), .ref (r_190 17), .int (v_191 9), .ref (r_190 18), .long q_192, .ref (r_190 19), .ref (r_190 20), .int (v_191 10), .int (v_191 11), .int (v_191 12), .ref (r_190 21), .ref (r_190 22), .int (v_191 13), .ref (r_190 23), .int (v_191 14), .int (v_191 15), .ref (r_190 24), .ref (r_190 25), .ref (r_190 26), .ref (r_190 27), .ref (r_190 28), .ref (r_190 29), .ref (r_190 30), .ref (r_190 31)]))) := by have q9 := hv_262; rw [eΓ_261, tg_f] at q9; rw [eΓ_261]; exact hI.setg hU rfl ho (show tp_o_M L K 0 0 (tgu (Γ_186 (39, 0, 0)) 1 z_260.toInt) _ from ⟨r_190, (upd v_191 1 z_260), q_192, rfl, hr_193, q9⟩)
          have hfr9 : ∀ b, (K b).1 ∉ ([39, 43, 44] : List Nat) → va_up f_184 o (.inr (12, [.ref (r_190 0), .ref (r_190 1), .int (v_191 0), .ref (r_190 2), .ref (r_190 3), .ref (r_190 4), .ref (r_190 5), .ref (r_190 6), .ref (r_190 7), .ref (r_190 8), .ref (r_190 9), .ref (r_190 10), .ref (r_190 11), .ref (r_190 12), .ref (r_190 13), .ref (r_190 14), .ref (r_190 15), .int z_260, .int (v_191 2), .int (v_191 3), .int (v_191 4), .int (v_191 5), .int (v_191 6), .int (v_191 7), .ref (r_190 16), .int (v_191 8), .ref (r_190 17), .int (v_191 9), .ref (r_190 18), .long q_192, .ref (r_190 19), .ref (r_190 20), .int (v_191 10), .int (v_191 11), .int (v_191 12), .ref (r_190 21), .ref (r_190 22), .int (v_191 13), .ref (r_190 23), .int (v_191 14), .int (v_191 15), .ref (r_190 24), .ref (r_190 25), .ref (r_190 26), .ref (r_190 27), .ref (r_190 28), .ref (r_190 29), .ref (r_190 30), .ref (r_190 31)])) b = f b := tp_fr hfr ho (by decide)
          refine tp_put (cy := cy) (ci := 12) (v := .int z_260) (ty := tyX12 17) (C := RX12) (T := TX12) (N := 49) hx hb hta inlX12 tyX12 tyX12_ok nmX12 hown hK hP hD hS ho.1 hf_189 rfl 17 (by decide) (hta _ wk_539) (fun _ h9 => h9) rfl (tyX12_ok 17 (by decide)) rfl rfl (Nat.le_of_ble_eq_true rfl) dX12_sum_54 (fun H locs hP hD hS => ?_)
          have hP : va_P D vwCl (va_pl L (va_up f_184 o (.inr (12, [.ref (r_190 0), .ref (r_190 1), .int (v_191 0), .ref (r_190 2), .ref (r_190 3), .ref (r_190 4), .ref (r_190 5), .ref (r_190 6), .ref (r_190 7), .ref (r_190 8), .ref (r_190 9), .ref (r_190 10), .ref (r_190 11), .ref (r_190 12), .ref (r_190 13), .ref (r_190 14), .ref (r_190 15), .int z_260, .int (v_191 2), .int (v_191 3), .int (v_191 4), .int (v_191 5), .int (v_191 6), .int (v_191 7), .ref (r_190 16), .int (v_191 8), .ref (r_190 17), .int (v_191 9), .ref (r_190 18), .long q_192, .ref (r_190 19), .ref (r_190 20), .int (v_191 10), .int (v_191 11), .int (v_191 12), .ref (r_190 21), .ref (r_190 22), .int (v_191 13), .ref (r_190 23), .int (v_191 14), .int (v_191 15), .ref (r_190 24), .ref (r_190 25), .ref (r_190 26), .ref (r_190 27), .ref (r_190 28), .ref (r_190 29), .ref (r_190 30), .ref (r_190 31)])))) H := hP
          generalize hfe : va_up f_184 o (.inr (12, [.ref (r_190 0), .ref (r_190 1), .int (v_191 0), .ref (r_190 2), .ref (r_190 3), .ref (r_190 4), .ref (r_190 5), .ref (r_190 6), .ref (r_190 7), .ref (r_190 8), .ref (r_190 9), .ref (r_190 10), .ref (r_190 11), .ref (r_190 12), .ref (r_190 13), .ref (r_190 14), .ref (r_190 15), .int z_260, .int (v_191 2), .int (v_191 3), .int (v_191 4), .int (v_191 5), .int (v_191 6), .int (v_191 7), .ref (r_190 16), .int (v_191 8), .ref (r_190 17), .int (v_191 9), .ref (r_190 18), .long q_192, .ref (r_190 19), .ref (r_190 20), .int (v_191 10), .int (v_191 11), .int (v_191 12), .ref (r_190 21), .ref (r_190 22), .int (v_191 13), .ref (r_190 23), .int (v_191 14), .int (v_191 15), .ref (r_190 24), .ref (r_190 25), .ref (r_190 26), .ref (r_190 27), .ref (r_190 28), .ref (r_190 29), .ref (r_190 30), .ref (r_190 31)])) = f_263 at hP hI9 hfr9
          have hD : va_D A (va_pl L f_263) := tp_D hL hAL
          have hf_264 : f_263 o = .inr (12, [.ref (r_190 0), .ref (r_190 1), .int (v_191 0), .ref (r_190 2), .ref (r_190 3), .ref (r_190 4), .ref (r_190 5), .ref (r_190 6), .ref (r_190 7), .ref (r_190 8), .ref (r_190 9), .ref (r_190 10), .ref (r_190 11), .ref (r_190 12), .ref (r_190 13), .ref (r_190 14), .ref (r_190 15), .int z_260, .int (v_191 2), .int (v_191 3), .int (v_191 4), .int (v_191 5), .int (v_191 6), .int (v_191 7), .ref (r_190 16), .int (v_191 8), .ref (r_190 17), .int (v_191 9), .ref (r_190 18), .long q_192, .ref (r_190 19), .ref (r_190 20), .int (v_191 10), .int (v_191 11), .int (v_191 12), .ref (r_190 21), .ref (r_190 22), .int (v_191 13), .ref (r_190 23), .int (v_191 14), .int (v_191 15), .ref (r_190 24), .ref (r_190 25), .ref (r_190 26), .ref (r_190 27), .ref (r_190 28), .ref (r_190 29), .ref (r_190 30), .ref (r_190 31)]) := by rw [← hfe]; exact va_up_self _ _ _
          clear hfe
          have hI := hI9
          have hfr := hfr9
          clear hI9 hfr9
          have hgr : ∀ κ : tk_K, κ.1 ∉ ([39, 43, 44] : List Nat) → Γ_261 κ = Γ κ := tg_fr hgr eΓ_261 (by decide)
          have hx_265 : (v_191 0).toInt = Γ_261 (39, 0, 0) 0 := hv_262 0 (by decide)
          have hx_266 : z_260.toInt = Γ_261 (39, 0, 0) 1 := hv_262 1 (by decide)
          have hx_267 : (v_191 3).toInt = Γ_261 (39, 0, 0) 3 := hv_262 3 (by decide)
          have hx_268 : (v_191 4).toInt = Γ_261 (39, 0, 0) 4 := hv_262 4 (by decide)
          have hx_269 : (v_191 5).toInt = Γ_261 (39, 0, 0) 5 := hv_262 5 (by decide)
          have hx_270 : (v_191 6).toInt = Γ_261 (39, 0, 0) 6 := hv_262 6 (by decide)
          have hx_271 : (v_191 7).toInt = Γ_261 (39, 0, 0) 7 := hv_262 7 (by decide)
          have hx_272 : (v_191 8).toInt = Γ_261 (39, 0, 0) 8 := hv_262 8 (by decide)
          obtain ⟨hpa, hpb, hpc, hpd, _⟩ := id hp
          have hle := congrFun (show Γ_261 (44, 22, 0) = _ from by rw [eΓ_261, tg_rf (by decide)]) t0.toNat
          have hp : ps (Γ_261 (43, 8800, 0)) t0 (Γ_261 (44, 22, 0) t0.toNat) (Γ_261 (39, 0, 0) 1) T0 (Γ_261 (39, 0, 0) 5) a (d + 1) := hp.eq (show Γ_261 (43, 8800, 0) = _ from by rw [eΓ_261, tg_rf (by decide)]) rfl (congrFun (show Γ_261 (44, 22, 0) = _ from by rw [eΓ_261, tg_rf (by decide)]) _) (by omega) rfl (by omega)
          have hz : fz (Γ (43, 8800, 0)) (Γ_261 (43, 8800, 0)) (Γ (44, 22, 0)) (Γ_261 (44, 22, 0)) t0 := by rw [(show Γ_261 (43, 8800, 0) = _ from by rw [eΓ_261, tg_rf (by decide)]), (show Γ_261 (44, 22, 0) = _ from by rw [eΓ_261, tg_rf (by decide)])]; exact hz
          have hfw : fw (Γ (43, 8800, 0)) (Γ_261 (43, 8800, 0)) (Γ (44, 22, 0)) (Γ_261 (44, 22, 0)) t0 := by rw [(show Γ_261 (43, 8800, 0) = _ from by rw [eΓ_261, tg_rf (by decide)]), (show Γ_261 (44, 22, 0) = _ from by rw [eΓ_261, tg_rf (by decide)])]; exact hfw
          refine lv_aload_n hx hb dX12_sum_57 rfl (lv_at hl 1 rfl) ?_
          refine tq_ciR hS (hAf _ hS.1) (tq_rV (As := []) (rest := []) ⟨hx, hb, hml, hown, hta⟩ (tp_P.pre hK hN hL hU hI hP) (tp_recv hK hP ho.1 hf_264 rfl) lk_X12_246 (r_X12_term l D cy H.size L K Γ_261 f_263 o τ T0 t0 a (d + 1) ho ((hgr _ (by decide)).trans ht) (by first | omega | (simp only [Int32.toInt_toInt64]; omega) | decide | assumption) (by first | omega | (simp only [Int32.toInt_toInt64]; omega) | decide | assumption) (by first | omega | (simp only [Int32.toInt_toInt64]; omega) | decide | assumption) (by first | omega | (simp only [Int32.toInt_toInt64]; omega) | decide | assumption)) rfl rfl ⟨Nat.le_of_ble_eq_true rfl, Nat.le_of_ble_eq_true rfl⟩ rfl hl.1 rfl (Nat.le_of_ble_eq_true rfl) dX12_sum_58 ⟨Nat.le_of_ble_eq_true rfl, Nat.le_of_ble_eq_true rfl⟩) (fun r_274 f_275 Γ_277 H locs hw_273 hP hI hc_276 hcg_278 hS => ?_)
          have hD : va_D A (va_pl L f_275) := tp_D hL hAL
          have hfr := tp_fr2 hfr hc_276 (by decide)
          have hgr : ∀ κ : tk_K, κ.1 ∉ ([39, 43, 44] : List Nat) → Γ_277 κ = Γ κ := tg_fr2 hgr hcg_278 (by decide)
          obtain ⟨hE_279, hw_273⟩ := hw_273
          have hE_279 : tl_J r_274 (ps (Γ_277 (43, 8800, 0)) t0 (Γ_277 (44, 22, 0) t0.toNat) (Γ_277 (39, 0, 0) 1) T0 (Γ_277 (39, 0, 0) 5) a ((d + 1) + 1) ∧ Γ_261 (39, 0, 0) 1 - Γ_261 (44, 22, 0) t0.toNat ≤ Γ_277 (39, 0, 0) 1 - Γ_277 (44, 22, 0) t0.toNat ∧ fz (Γ_261 (43, 8800, 0)) (Γ_277 (43, 8800, 0)) (Γ_261 (44, 22, 0)) (Γ_277 (44, 22, 0)) t0) := hE_279
          have hw_273 : Γ_277 (39, 0, 0) 0 = Γ_261 (39, 0, 0) 0 ∧ Γ_277 (39, 0, 0) 4 = Γ_261 (39, 0, 0) 4 ∧ Γ_277 (39, 0, 0) 6 = Γ_261 (39, 0, 0) 6 ∧ Γ_277 (39, 0, 0) 7 = Γ_261 (39, 0, 0) 7 ∧ Γ_277 (39, 0, 0) 8 = Γ_261 (39, 0, 0) 8 ∧ Γ_261 (39, 0, 0) 1 ≤ Γ_277 (39, 0, 0) 1 ∧ Γ_277 (39, 0, 0) 1 ≤ T0 ∧ fw (Γ_261 (43, 8800, 0)) (Γ_277 (43, 8800, 0)) (Γ_261 (44, 22, 0)) (Γ_277 (44, 22, 0)) t0 := hw_273
          have hfw := hfw.trans hw_273.2.2.2.2.2.2.2
          refine lv_if_ne (tgt := 66) hx hb dX12_sum_61 (by decide) (fun c_280 => ?_) (fun c_280 => ?_)
          · have c_280 := hE_279.t c_280
            obtain ⟨hp, hsl, hz9⟩ := c_280
            have hz := hz.trans hz9
            refine lv_aload_n hx hb dX12_sum_66 rfl (lv_at hl 1 rfl) ?_
            refine lv_iload_n hx hb dX12_sum_67 rfl (lv_at hl 0 rfl) ?_
            refine lv_iconst (v := 0) hx hb dX12_sum_68 (by decide) ?_
            obtain ⟨hpa, hpb, hpc, hpd, _⟩ := id hp
            obtain ⟨r_282, v_283, q_284, hf_281, hr_285, hv_286⟩ := (show tp_o_M L K 0 0 (Γ_277 (39, 0, 0)) (f_275 o) from hI.at ho)
            have hx_287 : (v_283 0).toInt = Γ_277 (39, 0, 0) 0 := hv_286 0 (by decide)
            have hx_288 : (v_283 1).toInt = Γ_277 (39, 0, 0) 1 := hv_286 1 (by decide)
            have hx_289 : (v_283 3).toInt = Γ_277 (39, 0, 0) 3 := hv_286 3 (by decide)
            have hx_290 : (v_283 4).toInt = Γ_277 (39, 0, 0) 4 := hv_286 4 (by decide)
            have hx_291 : (v_283 5).toInt = Γ_277 (39, 0, 0) 5 := hv_286 5 (by decide)
            have hx_292 : (v_283 6).toInt = Γ_277 (39, 0, 0) 6 := hv_286 6 (by decide)
            have hx_293 : (v_283 7).toInt = Γ_277 (39, 0, 0) 7 := hv_286 7 (by decide)
            have hx_294 : (v_283 8).toInt = Γ_277 (39, 0, 0) 8 := hv_286 8 (by decide)
            refine tq_cvR hS (hAf _ hS.1) (tq_rV (As := [.int 2, .int 0]) (rest := []) ⟨hx, hb, hml, hown, hta⟩ (tp_P.pre hK hN hL hU hI hP) (tp_recv hK hP ho.1 hf_281 rfl) lk_X12_228 (r_X12_puts l D cy H.size L K Γ_277 f_275 o 2 0 t0 ho (by first | omega | (simp only [Int32.toInt_toInt64]; omega) | decide | assumption) (by first | omega | (simp only [Int32.toInt_toInt64]; omega) | decide | assumption) (by first | omega | (simp only [Int32.toInt_toInt64]; omega) | decide | assumption) (by first | omega | (simp only [Int32.toInt_toInt64]; omega) | decide | assumption)) rfl rfl ⟨Nat.le_of_ble_eq_true rfl, Nat.le_of_ble_eq_true rfl⟩ rfl hl.1 rfl (Nat.le_of_ble_eq_true rfl) dX12_sum_69 ⟨Nat.le_of_ble_eq_true rfl, Nat.le_of_ble_eq_true rfl⟩) (fun f_297 Γ_299 H locs hw_295 hP hI hc_298 hcg_300 hS => ?_)
            have hD : va_D A (va_pl L f_297) := tp_D hL hAL
            have hfr := tp_fr2 hfr hc_298 (by decide)
            have hgr : ∀ κ : tk_K, κ.1 ∉ ([39, 43, 44] : List Nat) → Γ_299 κ = Γ κ := tg_fr2 hgr hcg_300 (by decide)
            have hf_301 := (tp_un hc_298 ho (by decide)).trans hf_281
            have hv_302 : ∀ i : Nat, i < 16 → (v_283 i).toInt = Γ_299 (39, 0, 0) i := fun i hi => by rw [hcg_300 _ (by decide)]; exact hv_286 i hi
            have hx_303 : (v_283 0).toInt = Γ_299 (39, 0, 0) 0 := hv_302 0 (by decide)
            have hx_304 : (v_283 1).toInt = Γ_299 (39, 0, 0) 1 := hv_302 1 (by decide)
            have hx_305 : (v_283 3).toInt = Γ_299 (39, 0, 0) 3 := hv_302 3 (by decide)
            have hx_306 : (v_283 4).toInt = Γ_299 (39, 0, 0) 4 := hv_302 4 (by decide)
            have hx_307 : (v_283 5).toInt = Γ_299 (39, 0, 0) 5 := hv_302 5 (by decide)
            have hx_308 : (v_283 6).toInt = Γ_299 (39, 0, 0) 6 := hv_302 6 (by decide)
            have hx_309 : (v_283 7).toInt = Γ_299 (39, 0, 0) 7 := hv_302 7 (by decide)
            have hx_310 : (v_283 8).toInt = Γ_299 (39, 0, 0) 8 := hv_302 8 (by decide)
            have mk_299_0 : Γ_299 (39, 0, 0) 0 = Γ_277 (39, 0, 0) 0 := congrFun (hcg_300 (39, 0, 0) (by decide)) 0
            have mk_299_1 : Γ_299 (39, 0, 0) 1 = Γ_277 (39, 0, 0) 1 := congrFun (hcg_300 (39, 0, 0) (by decide)) 1
            have mk_299_3 : Γ_299 (39, 0, 0) 3 = Γ_277 (39, 0, 0) 3 := congrFun (hcg_300 (39, 0, 0) (by decide)) 3
            have mk_299_4 : Γ_299 (39, 0, 0) 4 = Γ_277 (39, 0, 0) 4 := congrFun (hcg_300 (39, 0, 0) (by decide)) 4
            have mk_299_5 : Γ_299 (39, 0, 0) 5 = Γ_277 (39, 0, 0) 5 := congrFun (hcg_300 (39, 0, 0) (by decide)) 5
            have mk_299_6 : Γ_299 (39, 0, 0) 6 = Γ_277 (39, 0, 0) 6 := congrFun (hcg_300 (39, 0, 0) (by decide)) 6
            have mk_299_7 : Γ_299 (39, 0, 0) 7 = Γ_277 (39, 0, 0) 7 := congrFun (hcg_300 (39, 0, 0) (by decide)) 7
            have mk_299_8 : Γ_299 (39, 0, 0) 8 = Γ_277 (39, 0, 0) 8 := congrFun (hcg_300 (39, 0, 0) (by decide)) 8
            have hw_295 : Γ_299 (43, 8800, 0) = tgu (Γ_277 (43, 8800, 0)) (400 * t0 + Γ_277 (44, 22, 0) t0.toNat).toNat ((2 : Int) + 16 * (0 : Int)) ∧ Γ_299 (44, 22, 0) = tgu (Γ_277 (44, 22, 0)) t0.toNat (Γ_277 (44, 22, 0) t0.toNat + 1) := hw_295
            obtain ⟨hpa, hpb, hpc, hpd, _⟩ := id hp
            have hlem : rp_ok ((2 : Int) + 16 * (0 : Int)) ((d + 1) + 1) ∧ rp_d ((2 : Int) + 16 * (0 : Int)) = -1 := (rp_two (by omega) (by omega))
            have hput := hp.put (e := ((2 : Int) + 16 * (0 : Int))) (by omega) hlem.1 (by rw [hlem.2]; omega)
            rw [hlem.2] at hput
            have hln2 : Γ_299 (44, 22, 0) t0.toNat = Γ_277 (44, 22, 0) t0.toNat + 1 := by rw [hw_295.2, tgu_s]
            have hfz2 : fz (Γ_277 (43, 8800, 0)) (Γ_299 (43, 8800, 0)) (Γ_277 (44, 22, 0)) (Γ_299 (44, 22, 0)) t0 := by rw [hw_295.1, hw_295.2]; exact fz.put (by omega) (by omega)
            have hp : ps (Γ_299 (43, 8800, 0)) t0 (Γ_299 (44, 22, 0) t0.toNat) (Γ_299 (39, 0, 0) 1) T0 (Γ_299 (39, 0, 0) 5) a ((d + 1) + 1 + -1) := by rw [hln2, hw_295.1, show Γ_299 (39, 0, 0) 1 = Γ_277 (39, 0, 0) 1 from by omega, show Γ_299 (39, 0, 0) 5 = Γ_277 (39, 0, 0) 5 from by omega]; exact hput
            have hz := hz.trans hfz2
            have hfw := hfw.trans (hfz2.fw (by omega))
            refine lv_goto (tgt := 9) hx hb dX12_sum_72 (by decide) ?_
            exact ih9 (f_297, Γ_299) H locs ls (by show (400 - Γ_299 (39, 0, 0) 1).toNat < (400 - Γ_24 (39, 0, 0) 1).toNat; omega) ⟨(show ps (Γ_299 (43, 8800, 0)) t0 (Γ_299 (44, 22, 0) t0.toNat) (Γ_299 (39, 0, 0) 1) T0 (Γ_299 (39, 0, 0) 5) a (d + 1) from (by have h9 := hp; rw [show (d + 1) + 1 + -1 = d + 1 from by omega] at h9; exact h9)), (show fz (Γ (43, 8800, 0)) (Γ_299 (43, 8800, 0)) (Γ (44, 22, 0)) (Γ_299 (44, 22, 0)) t0 from hz), (show fw (Γ (43, 8800, 0)) (Γ_299 (43, 8800, 0)) (Γ (44, 22, 0)) (Γ_299 (44, 22, 0)) t0 from hfw), (show Γ (39, 0, 0) 1 - Γ (44, 22, 0) t0.toNat ≤ Γ_299 (39, 0, 0) 1 - Γ_299 (44, 22, 0) t0.toNat from (by omega)), (show Γ_299 (39, 0, 0) 0 = Γ (39, 0, 0) 0 from (by omega)), (show Γ_299 (39, 0, 0) 4 = Γ (39, 0, 0) 4 from (by omega)), (show Γ_299 (39, 0, 0) 6 = Γ (39, 0, 0) 6 from (by omega)), (show Γ_299 (39, 0, 0) 7 = Γ (39, 0, 0) 7 from (by omega)), (show Γ_299 (39, 0, 0) 8 = Γ (39, 0, 0) 8 from (by omega)), (show Γ (39, 0, 0) 1 ≤ Γ_299 (39, 0, 0) 1 ∧ Γ_299 (39, 0, 0) 1 ≤ T0 from (by omega)), hP, hI, hfr, hgr, hS, lv_sub hl [1] rfl⟩
          · have c_280 := c_280
            refine lv_iconst (v := 0) hx hb dX12_sum_64 (by decide) ?_
            have hpo9 : tl_J (0 : Int32) (ps (Γ_277 (43, 8800, 0)) t0 (Γ_277 (44, 22, 0) t0.toNat) (Γ_277 (39, 0, 0) 1) T0 (Γ_277 (39, 0, 0) 5) a (d + 1) ∧ Γ (39, 0, 0) 1 - Γ (44, 22, 0) t0.toNat ≤ Γ_277 (39, 0, 0) 1 - Γ_277 (44, 22, 0) t0.toNat ∧ fz (Γ (43, 8800, 0)) (Γ_277 (43, 8800, 0)) (Γ (44, 22, 0)) (Γ_277 (44, 22, 0)) t0) ∧ Γ_277 (39, 0, 0) 0 = Γ (39, 0, 0) 0 ∧ Γ_277 (39, 0, 0) 4 = Γ (39, 0, 0) 4 ∧ Γ_277 (39, 0, 0) 6 = Γ (39, 0, 0) 6 ∧ Γ_277 (39, 0, 0) 7 = Γ (39, 0, 0) 7 ∧ Γ_277 (39, 0, 0) 8 = Γ (39, 0, 0) 8 ∧ Γ (39, 0, 0) 1 ≤ Γ_277 (39, 0, 0) 1 ∧ Γ_277 (39, 0, 0) 1 ≤ T0 ∧ fw (Γ (43, 8800, 0)) (Γ_277 (43, 8800, 0)) (Γ (44, 22, 0)) (Γ_277 (44, 22, 0)) t0 := ⟨(Or.inr rfl), ⟨(by omega), (by omega), (by omega), (by omega), (by omega), (by omega), (by omega), hfw⟩⟩
            exact W.zret (ty := .boolean) (v := 0) hx hb hr rfl (fun t ht hW => ⟨⟨_, (f_275, Γ_277), rfl, hpo9, by rw [ht]; exact hP, hI, hfr, hgr⟩, hS.F ht⟩) hS.2.2 dX12_sum_65
  · have c_22 := c_22
    refine lv_iconst (v := 0) hx hb dX12_sum_7 (by decide) ?_
    have hpo9 : tl_J (0 : Int32) (ps (Γ_19 (43, 8800, 0)) t0 (Γ_19 (44, 22, 0) t0.toNat) (Γ_19 (39, 0, 0) 1) T0 (Γ_19 (39, 0, 0) 5) a (d + 1) ∧ Γ (39, 0, 0) 1 - Γ (44, 22, 0) t0.toNat ≤ Γ_19 (39, 0, 0) 1 - Γ_19 (44, 22, 0) t0.toNat ∧ fz (Γ (43, 8800, 0)) (Γ_19 (43, 8800, 0)) (Γ (44, 22, 0)) (Γ_19 (44, 22, 0)) t0) ∧ Γ_19 (39, 0, 0) 0 = Γ (39, 0, 0) 0 ∧ Γ_19 (39, 0, 0) 4 = Γ (39, 0, 0) 4 ∧ Γ_19 (39, 0, 0) 6 = Γ (39, 0, 0) 6 ∧ Γ_19 (39, 0, 0) 7 = Γ (39, 0, 0) 7 ∧ Γ_19 (39, 0, 0) 8 = Γ (39, 0, 0) 8 ∧ Γ (39, 0, 0) 1 ≤ Γ_19 (39, 0, 0) 1 ∧ Γ_19 (39, 0, 0) 1 ≤ T0 ∧ fw (Γ (43, 8800, 0)) (Γ_19 (43, 8800, 0)) (Γ (44, 22, 0)) (Γ_19 (44, 22, 0)) t0 := ⟨(Or.inr rfl), ⟨(by omega), (by omega), (by omega), (by omega), (by omega), (by omega), (by omega), hfw⟩⟩
    exact W.zret (ty := .boolean) (v := 0) hx hb hr rfl (fun t ht hW => ⟨⟨_, (f_17, Γ_19), rfl, hpo9, by rw [ht]; exact hP, hI, hfr, hgr⟩, hS.F ht⟩) hS.2.2 dX12_sum_8
