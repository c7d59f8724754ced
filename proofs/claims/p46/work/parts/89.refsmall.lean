theorem dX12_four_0 : decode cX12_four 0 = .ok (.bipush 24, 2) := by decide +kernel
theorem dX12_four_2 : decode cX12_four 2 = .ok (.istore_n 2, 1) := by decide +kernel
theorem dX12_four_3 : decode cX12_four 3 = .ok (.iload_n 2, 1) := by decide +kernel
theorem dX12_four_4 : decode cX12_four 4 = .ok (.ifCond .lt 32, 3) := by decide +kernel
theorem dX12_four_7 : decode cX12_four 7 = .ok (.aload_n 0, 1) := by decide +kernel
theorem dX12_four_8 : decode cX12_four 8 = .ok (.getfield 13, 3) := by decide +kernel
theorem dX12_four_11 : decode cX12_four 11 = .ok (.aload_n 0, 1) := by decide +kernel
theorem dX12_four_12 : decode cX12_four 12 = .ok (.getfield 153, 3) := by decide +kernel
theorem dX12_four_15 : decode cX12_four 15 = .ok (.iload_n 1, 1) := by decide +kernel
theorem dX12_four_16 : decode cX12_four 16 = .ok (.iload_n 2, 1) := by decide +kernel
theorem dX12_four_17 : decode cX12_four 17 = .ok (.ishr, 1) := by decide +kernel
theorem dX12_four_18 : decode cX12_four 18 = .ok (.i2b, 1) := by decide +kernel
theorem dX12_four_19 : decode cX12_four 19 = .ok (.bastore, 1) := by decide +kernel
theorem dX12_four_20 : decode cX12_four 20 = .ok (.aload_n 0, 1) := by decide +kernel
theorem dX12_four_21 : decode cX12_four 21 = .ok (.dup, 1) := by decide +kernel
theorem dX12_four_22 : decode cX12_four 22 = .ok (.getfield 153, 3) := by decide +kernel
theorem dX12_four_25 : decode cX12_four 25 = .ok (.iconst 1, 1) := by decide +kernel
theorem dX12_four_26 : decode cX12_four 26 = .ok (.iadd, 1) := by decide +kernel
theorem dX12_four_27 : decode cX12_four 27 = .ok (.putfield 153, 3) := by decide +kernel
theorem dX12_four_30 : decode cX12_four 30 = .ok (.iinc 2 (-8), 3) := by decide +kernel
theorem dX12_four_33 : decode cX12_four 33 = .ok (.goto (-30), 3) := by decide +kernel
theorem dX12_four_36 : decode cX12_four 36 = .ok (.return_, 1) := by decide +kernel
theorem dX12_feed_0 : decode cX12_feed 0 = .ok (.aload_n 0, 1) := by decide +kernel
theorem dX12_feed_1 : decode cX12_feed 1 = .ok (.getfield 153, 3) := by decide +kernel
theorem dX12_feed_4 : decode cX12_feed 4 = .ok (.bipush 20, 2) := by decide +kernel
theorem dX12_feed_6 : decode cX12_feed 6 = .ok (.iadd, 1) := by decide +kernel
theorem dX12_feed_7 : decode cX12_feed 7 = .ok (.sipush 400, 3) := by decide +kernel
theorem dX12_feed_10 : decode cX12_feed 10 = .ok (.if_icmp .le 5, 3) := by decide +kernel
theorem dX12_feed_13 : decode cX12_feed 13 = .ok (.iconst (-1), 1) := by decide +kernel
theorem dX12_feed_14 : decode cX12_feed 14 = .ok (.ireturn, 1) := by decide +kernel
theorem dX12_feed_15 : decode cX12_feed 15 = .ok (.aload_n 0, 1) := by decide +kernel
theorem dX12_feed_16 : decode cX12_feed 16 = .ok (.iload_n 1, 1) := by decide +kernel
theorem dX12_feed_17 : decode cX12_feed 17 = .ok (.invokevirtual 157, 3) := by decide +kernel
theorem dX12_feed_20 : decode cX12_feed 20 = .ok (.aload_n 0, 1) := by decide +kernel
theorem dX12_feed_21 : decode cX12_feed 21 = .ok (.iload_n 2, 1) := by decide +kernel
theorem dX12_feed_22 : decode cX12_feed 22 = .ok (.invokevirtual 157, 3) := by decide +kernel
theorem dX12_feed_25 : decode cX12_feed 25 = .ok (.aload_n 0, 1) := by decide +kernel
theorem dX12_feed_26 : decode cX12_feed 26 = .ok (.iload_n 3, 1) := by decide +kernel
theorem dX12_feed_27 : decode cX12_feed 27 = .ok (.invokevirtual 157, 3) := by decide +kernel
theorem dX12_feed_30 : decode cX12_feed 30 = .ok (.aload_n 0, 1) := by decide +kernel
theorem dX12_feed_31 : decode cX12_feed 31 = .ok (.iload 4, 2) := by decide +kernel
theorem dX12_feed_33 : decode cX12_feed 33 = .ok (.invokevirtual 157, 3) := by decide +kernel
theorem dX12_feed_36 : decode cX12_feed 36 = .ok (.aload_n 0, 1) := by decide +kernel
theorem dX12_feed_37 : decode cX12_feed 37 = .ok (.iload 5, 2) := by decide +kernel
theorem dX12_feed_39 : decode cX12_feed 39 = .ok (.invokevirtual 157, 3) := by decide +kernel
theorem dX12_feed_42 : decode cX12_feed 42 = .ok (.aload_n 0, 1) := by decide +kernel
theorem dX12_feed_43 : decode cX12_feed 43 = .ok (.getfield 153, 3) := by decide +kernel
theorem dX12_feed_46 : decode cX12_feed 46 = .ok (.ireturn, 1) := by decide +kernel
theorem wk_348 : Cond.methodLink RX12 157 yX12_four ∈ tl_L := List.mem_filter.mpr ⟨lw_m7 (i := 41) rfl, rfl⟩
theorem wk_349 : Cond.instanceMethod yX12_four ∈ tl_L := List.mem_filter.mpr ⟨lw_m7 (i := 43) rfl, rfl⟩
theorem wk_350 : Cond.selects RX12 yX12_four yX12_four ∈ tl_L := List.mem_filter.mpr ⟨lw_s7 (i := 13) (q := (yX12_four, 49)) rfl, rfl⟩
theorem wk_351 : Cond.code yX12_four cX12_four 3 none ∈ tl_L := List.mem_filter.mpr ⟨lw_m7 (i := 44) rfl, rfl⟩
theorem lk_X12_157 : tl_kV RX12 157 RX12 yX12_four cX12_four 3 none 1 := ⟨wk_351, wk_348, wk_349, wk_350, wk_5, ⟨by decide +kernel, by decide +kernel, by decide +kernel⟩⟩
theorem dX12_end_0 : decode cX12_end 0 = .ok (.iload_n 1, 1) := by decide +kernel
theorem dX12_end_1 : decode cX12_end 1 = .ok (.ifCond .lt 11, 3) := by decide +kernel
theorem dX12_end_4 : decode cX12_end 4 = .ok (.iload_n 1, 1) := by decide +kernel
theorem dX12_end_5 : decode cX12_end 5 = .ok (.aload_n 0, 1) := by decide +kernel
theorem dX12_end_6 : decode cX12_end 6 = .ok (.getfield 153, 3) := by decide +kernel
theorem dX12_end_9 : decode cX12_end 9 = .ok (.if_icmp .le 5, 3) := by decide +kernel
theorem dX12_end_12 : decode cX12_end 12 = .ok (.iconst (-1), 1) := by decide +kernel
theorem dX12_end_13 : decode cX12_end 13 = .ok (.ireturn, 1) := by decide +kernel
theorem dX12_end_14 : decode cX12_end 14 = .ok (.aload_n 0, 1) := by decide +kernel
theorem dX12_end_15 : decode cX12_end 15 = .ok (.iload_n 1, 1) := by decide +kernel
theorem dX12_end_16 : decode cX12_end 16 = .ok (.putfield 153, 3) := by decide +kernel
theorem dX12_end_19 : decode cX12_end 19 = .ok (.iload_n 1, 1) := by decide +kernel
theorem dX12_end_20 : decode cX12_end 20 = .ok (.ireturn, 1) := by decide +kernel
theorem dX12_depthOf_0 : decode cX12_depthOf 0 = .ok (.iconst 0, 1) := by decide +kernel
theorem dX12_depthOf_1 : decode cX12_depthOf 1 = .ok (.istore_n 3, 1) := by decide +kernel
theorem dX12_depthOf_2 : decode cX12_depthOf 2 = .ok (.iload_n 3, 1) := by decide +kernel
theorem dX12_depthOf_3 : decode cX12_depthOf 3 = .ok (.aload_n 0, 1) := by decide +kernel
theorem dX12_depthOf_4 : decode cX12_depthOf 4 = .ok (.getfield 7, 3) := by decide +kernel
theorem dX12_depthOf_7 : decode cX12_depthOf 7 = .ok (.iconst 3, 1) := by decide +kernel
theorem dX12_depthOf_8 : decode cX12_depthOf 8 = .ok (.iaload, 1) := by decide +kernel
theorem dX12_depthOf_9 : decode cX12_depthOf 9 = .ok (.if_icmp .ge 36, 3) := by decide +kernel
theorem dX12_depthOf_12 : decode cX12_depthOf 12 = .ok (.aload_n 0, 1) := by decide +kernel
theorem dX12_depthOf_13 : decode cX12_depthOf 13 = .ok (.iload_n 3, 1) := by decide +kernel
theorem dX12_depthOf_14 : decode cX12_depthOf 14 = .ok (.iconst 0, 1) := by decide +kernel
theorem dX12_depthOf_15 : decode cX12_depthOf 15 = .ok (.invokevirtual 143, 3) := by decide +kernel
theorem dX12_depthOf_18 : decode cX12_depthOf 18 = .ok (.iload_n 1, 1) := by decide +kernel
theorem dX12_depthOf_19 : decode cX12_depthOf 19 = .ok (.if_icmp .ne 20, 3) := by decide +kernel
theorem dX12_depthOf_22 : decode cX12_depthOf 22 = .ok (.aload_n 0, 1) := by decide +kernel
theorem dX12_depthOf_23 : decode cX12_depthOf 23 = .ok (.iload_n 3, 1) := by decide +kernel
theorem dX12_depthOf_24 : decode cX12_depthOf 24 = .ok (.iconst 1, 1) := by decide +kernel
theorem dX12_depthOf_25 : decode cX12_depthOf 25 = .ok (.invokevirtual 143, 3) := by decide +kernel
theorem dX12_depthOf_28 : decode cX12_depthOf 28 = .ok (.iload_n 2, 1) := by decide +kernel
theorem dX12_depthOf_29 : decode cX12_depthOf 29 = .ok (.if_icmp .ne 10, 3) := by decide +kernel
theorem dX12_depthOf_32 : decode cX12_depthOf 32 = .ok (.aload_n 0, 1) := by decide +kernel
theorem dX12_depthOf_33 : decode cX12_depthOf 33 = .ok (.iload_n 3, 1) := by decide +kernel
theorem dX12_depthOf_34 : decode cX12_depthOf 34 = .ok (.iconst 2, 1) := by decide +kernel
theorem dX12_depthOf_35 : decode cX12_depthOf 35 = .ok (.invokevirtual 143, 3) := by decide +kernel
theorem dX12_depthOf_38 : decode cX12_depthOf 38 = .ok (.ireturn, 1) := by decide +kernel
theorem dX12_depthOf_39 : decode cX12_depthOf 39 = .ok (.iinc 3 1, 3) := by decide +kernel
theorem dX12_depthOf_42 : decode cX12_depthOf 42 = .ok (.goto (-40), 3) := by decide +kernel
theorem dX12_depthOf_45 : decode cX12_depthOf 45 = .ok (.iconst 0, 1) := by decide +kernel
theorem dX12_depthOf_46 : decode cX12_depthOf 46 = .ok (.ireturn, 1) := by decide +kernel
theorem wk_331 : Cond.methodLink RX12 143 yX12_lineOf ∈ tl_L := List.mem_filter.mpr ⟨lw_m7 (i := 33) rfl, rfl⟩
theorem wk_332 : Cond.instanceMethod yX12_lineOf ∈ tl_L := List.mem_filter.mpr ⟨lw_m7 (i := 35) rfl, rfl⟩
theorem wk_333 : Cond.selects RX12 yX12_lineOf yX12_lineOf ∈ tl_L := List.mem_filter.mpr ⟨lw_s7 (i := 12) (q := (yX12_lineOf, 49)) rfl, rfl⟩
theorem wk_334 : Cond.code yX12_lineOf cX12_lineOf 3 (some .int) ∈ tl_L := List.mem_filter.mpr ⟨lw_m7 (i := 36) rfl, rfl⟩
theorem lk_X12_143 : tl_kV RX12 143 RX12 yX12_lineOf cX12_lineOf 3 (some .int) 2 := ⟨wk_334, wk_331, wk_332, wk_333, wk_5, ⟨by decide +kernel, by decide +kernel, by decide +kernel⟩⟩
theorem dX12_words_0 : decode cX12_words 0 = .ok (.aload_n 0, 1) := by decide +kernel
theorem dX12_words_1 : decode cX12_words 1 = .ok (.getfield 66, 3) := by decide +kernel
theorem dX12_words_4 : decode cX12_words 4 = .ok (.iconst 0, 1) := by decide +kernel
theorem dX12_words_5 : decode cX12_words 5 = .ok (.iload_n 2, 1) := by decide +kernel
theorem dX12_words_6 : decode cX12_words 6 = .ok (.i2l, 1) := by decide +kernel
theorem dX12_words_7 : decode cX12_words 7 = .ok (.lastore, 1) := by decide +kernel
theorem dX12_words_8 : decode cX12_words 8 = .ok (.aload_n 0, 1) := by decide +kernel
theorem dX12_words_9 : decode cX12_words 9 = .ok (.getfield 66, 3) := by decide +kernel
theorem dX12_words_12 : decode cX12_words 12 = .ok (.iconst 1, 1) := by decide +kernel
theorem dX12_words_13 : decode cX12_words 13 = .ok (.aload_n 0, 1) := by decide +kernel
theorem dX12_words_14 : decode cX12_words 14 = .ok (.iload_n 1, 1) := by decide +kernel
theorem dX12_words_15 : decode cX12_words 15 = .ok (.iconst 0, 1) := by decide +kernel
theorem dX12_words_16 : decode cX12_words 16 = .ok (.invokevirtual 132, 3) := by decide +kernel
theorem dX12_words_19 : decode cX12_words 19 = .ok (.i2l, 1) := by decide +kernel
theorem dX12_words_20 : decode cX12_words 20 = .ok (.lastore, 1) := by decide +kernel
theorem dX12_words_21 : decode cX12_words 21 = .ok (.aload_n 0, 1) := by decide +kernel
theorem dX12_words_22 : decode cX12_words 22 = .ok (.getfield 66, 3) := by decide +kernel
theorem dX12_words_25 : decode cX12_words 25 = .ok (.iconst 2, 1) := by decide +kernel
theorem dX12_words_26 : decode cX12_words 26 = .ok (.aload_n 0, 1) := by decide +kernel
theorem dX12_words_27 : decode cX12_words 27 = .ok (.iload_n 1, 1) := by decide +kernel
theorem dX12_words_28 : decode cX12_words 28 = .ok (.iconst 1, 1) := by decide +kernel
theorem dX12_words_29 : decode cX12_words 29 = .ok (.invokevirtual 132, 3) := by decide +kernel
theorem dX12_words_32 : decode cX12_words 32 = .ok (.i2l, 1) := by decide +kernel
theorem dX12_words_33 : decode cX12_words 33 = .ok (.lastore, 1) := by decide +kernel
theorem dX12_words_34 : decode cX12_words 34 = .ok (.aload_n 0, 1) := by decide +kernel
theorem dX12_words_35 : decode cX12_words 35 = .ok (.getfield 66, 3) := by decide +kernel
theorem dX12_words_38 : decode cX12_words 38 = .ok (.iconst 3, 1) := by decide +kernel
theorem dX12_words_39 : decode cX12_words 39 = .ok (.iload_n 1, 1) := by decide +kernel
theorem dX12_words_40 : decode cX12_words 40 = .ok (.i2l, 1) := by decide +kernel
theorem dX12_words_41 : decode cX12_words 41 = .ok (.lastore, 1) := by decide +kernel
theorem dX12_words_42 : decode cX12_words 42 = .ok (.return_, 1) := by decide +kernel
theorem wk_168 : Cond.fieldLink RX12 66 "ThinLineModel" "word" "[J" ∈ tl_L := List.mem_filter.mpr ⟨lw_m6 (i := 93) rfl, rfl⟩
theorem dX12_push_0 : decode cX12_push 0 = .ok (.aload_n 0, 1) := by decide +kernel
theorem dX12_push_1 : decode cX12_push 1 = .ok (.getfield 62, 3) := by decide +kernel
theorem dX12_push_4 : decode cX12_push 4 = .ok (.aload_n 0, 1) := by decide +kernel
theorem dX12_push_5 : decode cX12_push 5 = .ok (.getfield 333, 3) := by decide +kernel
theorem dX12_push_8 : decode cX12_push 8 = .ok (.lload_n 1, 1) := by decide +kernel
theorem dX12_push_9 : decode cX12_push 9 = .ok (.lastore, 1) := by decide +kernel
theorem dX12_push_10 : decode cX12_push 10 = .ok (.aload_n 0, 1) := by decide +kernel
theorem dX12_push_11 : decode cX12_push 11 = .ok (.dup, 1) := by decide +kernel
theorem dX12_push_12 : decode cX12_push 12 = .ok (.getfield 333, 3) := by decide +kernel
theorem dX12_push_15 : decode cX12_push 15 = .ok (.iconst 1, 1) := by decide +kernel
theorem dX12_push_16 : decode cX12_push 16 = .ok (.iadd, 1) := by decide +kernel
theorem dX12_push_17 : decode cX12_push 17 = .ok (.putfield 333, 3) := by decide +kernel
theorem dX12_push_20 : decode cX12_push 20 = .ok (.return_, 1) := by decide +kernel
theorem wk_167 : Cond.fieldLink RX12 62 "ThinLineModel" "stack" "[J" ∈ tl_L := List.mem_filter.mpr ⟨lw_m6 (i := 91) rfl, rfl⟩
theorem wk_803 : Cond.fieldLink RX12 333 "ThinLineModel" "top" "I" ∈ tl_L := List.mem_filter.mpr ⟨lw_m6 (i := 92) rfl, rfl⟩
theorem dX12_pop_0 : decode cX12_pop 0 = .ok (.aload_n 0, 1) := by decide +kernel
theorem dX12_pop_1 : decode cX12_pop 1 = .ok (.dup, 1) := by decide +kernel
theorem dX12_pop_2 : decode cX12_pop 2 = .ok (.getfield 333, 3) := by decide +kernel
theorem dX12_pop_5 : decode cX12_pop 5 = .ok (.iconst 1, 1) := by decide +kernel
theorem dX12_pop_6 : decode cX12_pop 6 = .ok (.isub, 1) := by decide +kernel
theorem dX12_pop_7 : decode cX12_pop 7 = .ok (.putfield 333, 3) := by decide +kernel
theorem dX12_pop_10 : decode cX12_pop 10 = .ok (.aload_n 0, 1) := by decide +kernel
theorem dX12_pop_11 : decode cX12_pop 11 = .ok (.getfield 62, 3) := by decide +kernel
theorem dX12_pop_14 : decode cX12_pop 14 = .ok (.aload_n 0, 1) := by decide +kernel
theorem dX12_pop_15 : decode cX12_pop 15 = .ok (.getfield 333, 3) := by decide +kernel
theorem dX12_pop_18 : decode cX12_pop 18 = .ok (.laload, 1) := by decide +kernel
theorem dX12_pop_19 : decode cX12_pop 19 = .ok (.lreturn, 1) := by decide +kernel
theorem dX12_reckons_0 : decode cX12_reckons 0 = .ok (.aload_n 0, 1) := by decide +kernel
theorem dX12_reckons_1 : decode cX12_reckons 1 = .ok (.iconst 0, 1) := by decide +kernel
theorem dX12_reckons_2 : decode cX12_reckons 2 = .ok (.putfield 333, 3) := by decide +kernel
theorem dX12_reckons_5 : decode cX12_reckons 5 = .ok (.iload_n 2, 1) := by decide +kernel
theorem dX12_reckons_6 : decode cX12_reckons 6 = .ok (.istore 4, 2) := by decide +kernel
theorem dX12_reckons_8 : decode cX12_reckons 8 = .ok (.iload 4, 2) := by decide +kernel
theorem dX12_reckons_10 : decode cX12_reckons 10 = .ok (.iload_n 3, 1) := by decide +kernel
theorem dX12_reckons_11 : decode cX12_reckons 11 = .ok (.if_icmp .ge 124, 3) := by decide +kernel
theorem dX12_reckons_14 : decode cX12_reckons 14 = .ok (.aload_n 0, 1) := by decide +kernel
theorem dX12_reckons_15 : decode cX12_reckons 15 = .ok (.getfield 20, 3) := by decide +kernel
theorem dX12_reckons_18 : decode cX12_reckons 18 = .ok (.sipush 400, 3) := by decide +kernel
theorem dX12_reckons_21 : decode cX12_reckons 21 = .ok (.iload_n 1, 1) := by decide +kernel
theorem dX12_reckons_22 : decode cX12_reckons 22 = .ok (.imul, 1) := by decide +kernel
theorem dX12_reckons_23 : decode cX12_reckons 23 = .ok (.iload 4, 2) := by decide +kernel
theorem dX12_reckons_25 : decode cX12_reckons 25 = .ok (.iadd, 1) := by decide +kernel
theorem dX12_reckons_26 : decode cX12_reckons 26 = .ok (.iaload, 1) := by decide +kernel
theorem dX12_reckons_27 : decode cX12_reckons 27 = .ok (.bipush 15, 2) := by decide +kernel
theorem dX12_reckons_29 : decode cX12_reckons 29 = .ok (.iand, 1) := by decide +kernel
theorem dX12_reckons_30 : decode cX12_reckons 30 = .ok (.istore 5, 2) := by decide +kernel
theorem dX12_reckons_32 : decode cX12_reckons 32 = .ok (.aload_n 0, 1) := by decide +kernel
theorem dX12_reckons_33 : decode cX12_reckons 33 = .ok (.getfield 20, 3) := by decide +kernel
theorem dX12_reckons_36 : decode cX12_reckons 36 = .ok (.sipush 400, 3) := by decide +kernel
theorem dX12_reckons_39 : decode cX12_reckons 39 = .ok (.iload_n 1, 1) := by decide +kernel
theorem dX12_reckons_40 : decode cX12_reckons 40 = .ok (.imul, 1) := by decide +kernel
theorem dX12_reckons_41 : decode cX12_reckons 41 = .ok (.iload 4, 2) := by decide +kernel
theorem dX12_reckons_43 : decode cX12_reckons 43 = .ok (.iadd, 1) := by decide +kernel
theorem dX12_reckons_44 : decode cX12_reckons 44 = .ok (.iaload, 1) := by decide +kernel
theorem dX12_reckons_45 : decode cX12_reckons 45 = .ok (.iconst 4, 1) := by decide +kernel
theorem dX12_reckons_46 : decode cX12_reckons 46 = .ok (.ishr, 1) := by decide +kernel
theorem dX12_reckons_47 : decode cX12_reckons 47 = .ok (.istore 6, 2) := by decide +kernel
theorem dX12_reckons_49 : decode cX12_reckons 49 = .ok (.iload 5, 2) := by decide +kernel
theorem dX12_reckons_51 : decode cX12_reckons 51 = .ok (.ifCond .ne 13, 3) := by decide +kernel
theorem dX12_reckons_54 : decode cX12_reckons 54 = .ok (.aload_n 0, 1) := by decide +kernel
theorem dX12_reckons_55 : decode cX12_reckons 55 = .ok (.iload 6, 2) := by decide +kernel
theorem dX12_reckons_57 : decode cX12_reckons 57 = .ok (.i2l, 1) := by decide +kernel
theorem dX12_reckons_58 : decode cX12_reckons 58 = .ok (.invokevirtual 336, 3) := by decide +kernel
theorem dX12_reckons_61 : decode cX12_reckons 61 = .ok (.goto 68, 3) := by decide +kernel
theorem dX12_reckons_64 : decode cX12_reckons 64 = .ok (.iload 5, 2) := by decide +kernel
theorem dX12_reckons_66 : decode cX12_reckons 66 = .ok (.iconst 1, 1) := by decide +kernel
theorem dX12_reckons_67 : decode cX12_reckons 67 = .ok (.if_icmp .ne 17, 3) := by decide +kernel
theorem dX12_reckons_70 : decode cX12_reckons 70 = .ok (.aload_n 0, 1) := by decide +kernel
theorem dX12_reckons_71 : decode cX12_reckons 71 = .ok (.aload_n 0, 1) := by decide +kernel
theorem dX12_reckons_72 : decode cX12_reckons 72 = .ok (.getfield 66, 3) := by decide +kernel
theorem dX12_reckons_75 : decode cX12_reckons 75 = .ok (.iload 6, 2) := by decide +kernel
theorem dX12_reckons_77 : decode cX12_reckons 77 = .ok (.laload, 1) := by decide +kernel
theorem dX12_reckons_78 : decode cX12_reckons 78 = .ok (.invokevirtual 336, 3) := by decide +kernel
theorem dX12_reckons_81 : decode cX12_reckons 81 = .ok (.goto 48, 3) := by decide +kernel
theorem dX12_reckons_84 : decode cX12_reckons 84 = .ok (.iload 5, 2) := by decide +kernel
theorem dX12_reckons_86 : decode cX12_reckons 86 = .ok (.bipush 11, 2) := by decide +kernel
theorem dX12_reckons_88 : decode cX12_reckons 88 = .ok (.if_icmp .ne 16, 3) := by decide +kernel
theorem dX12_reckons_91 : decode cX12_reckons 91 = .ok (.aload_n 0, 1) := by decide +kernel
theorem dX12_reckons_92 : decode cX12_reckons 92 = .ok (.lconst 1, 1) := by decide +kernel
theorem dX12_reckons_93 : decode cX12_reckons 93 = .ok (.aload_n 0, 1) := by decide +kernel
theorem dX12_reckons_94 : decode cX12_reckons 94 = .ok (.invokevirtual 340, 3) := by decide +kernel
theorem dX12_reckons_97 : decode cX12_reckons 97 = .ok (.lsub, 1) := by decide +kernel
theorem dX12_reckons_98 : decode cX12_reckons 98 = .ok (.invokevirtual 336, 3) := by decide +kernel
theorem dX12_reckons_101 : decode cX12_reckons 101 = .ok (.goto 28, 3) := by decide +kernel
theorem dX12_reckons_104 : decode cX12_reckons 104 = .ok (.aload_n 0, 1) := by decide +kernel
theorem dX12_reckons_105 : decode cX12_reckons 105 = .ok (.invokevirtual 340, 3) := by decide +kernel
theorem dX12_reckons_108 : decode cX12_reckons 108 = .ok (.lstore 7, 2) := by decide +kernel
theorem dX12_reckons_110 : decode cX12_reckons 110 = .ok (.aload_n 0, 1) := by decide +kernel
theorem dX12_reckons_111 : decode cX12_reckons 111 = .ok (.invokevirtual 340, 3) := by decide +kernel
theorem dX12_reckons_114 : decode cX12_reckons 114 = .ok (.lstore 9, 2) := by decide +kernel
theorem dX12_reckons_116 : decode cX12_reckons 116 = .ok (.aload_n 0, 1) := by decide +kernel
theorem dX12_reckons_117 : decode cX12_reckons 117 = .ok (.iload 5, 2) := by decide +kernel
theorem dX12_reckons_119 : decode cX12_reckons 119 = .ok (.lload 9, 2) := by decide +kernel
theorem dX12_reckons_121 : decode cX12_reckons 121 = .ok (.lload 7, 2) := by decide +kernel
theorem dX12_reckons_123 : decode cX12_reckons 123 = .ok (.invokestatic 344, 3) := by decide +kernel
theorem dX12_reckons_126 : decode cX12_reckons 126 = .ok (.invokevirtual 336, 3) := by decide +kernel
theorem dX12_reckons_129 : decode cX12_reckons 129 = .ok (.iinc 4 1, 3) := by decide +kernel
theorem dX12_reckons_132 : decode cX12_reckons 132 = .ok (.goto (-124), 3) := by decide +kernel
theorem dX12_reckons_135 : decode cX12_reckons 135 = .ok (.aload_n 0, 1) := by decide +kernel
theorem dX12_reckons_136 : decode cX12_reckons 136 = .ok (.invokevirtual 340, 3) := by decide +kernel
theorem dX12_reckons_139 : decode cX12_reckons 139 = .ok (.lreturn, 1) := by decide +kernel
theorem wk_804 : Cond.methodLink RX12 336 yX12_push ∈ tl_L := List.mem_filter.mpr ⟨lw_m7 (i := 222) rfl, rfl⟩
theorem wk_805 : Cond.instanceMethod yX12_push ∈ tl_L := List.mem_filter.mpr ⟨lw_m7 (i := 224) rfl, rfl⟩
theorem wk_806 : Cond.selects RX12 yX12_push yX12_push ∈ tl_L := List.mem_filter.mpr ⟨lw_s9 (i := 15) (q := (yX12_push, 49)) rfl, rfl⟩
theorem wk_807 : Cond.code yX12_push cX12_push 3 none ∈ tl_L := List.mem_filter.mpr ⟨lw_m7 (i := 225) rfl, rfl⟩
theorem wk_808 : Cond.methodLink RX12 340 yX12_pop ∈ tl_L := List.mem_filter.mpr ⟨lw_m7 (i := 226) rfl, rfl⟩
theorem wk_809 : Cond.instanceMethod yX12_pop ∈ tl_L := List.mem_filter.mpr ⟨lw_m7 (i := 228) rfl, rfl⟩
theorem wk_810 : Cond.selects RX12 yX12_pop yX12_pop ∈ tl_L := List.mem_filter.mpr ⟨lw_s10 (i := 0) (q := (yX12_pop, 49)) rfl, rfl⟩
theorem wk_811 : Cond.code yX12_pop cX12_pop 1 (some .long) ∈ tl_L := List.mem_filter.mpr ⟨lw_m7 (i := 229) rfl, rfl⟩
theorem wk_812 : Cond.methodLink RX12 344 yX12_one ∈ tl_L := List.mem_filter.mpr ⟨lw_m7 (i := 230) rfl, rfl⟩
theorem wk_813 : Cond.static yX12_one ∈ tl_L := List.mem_filter.mpr ⟨lw_m7 (i := 231) rfl, rfl⟩
theorem wk_814 : Cond.code yX12_one cX12_one 5 (some .long) ∈ tl_L := List.mem_filter.mpr ⟨lw_m7 (i := 232) rfl, rfl⟩
theorem lk_X12_336 : tl_kV RX12 336 RX12 yX12_push cX12_push 3 none 1 := ⟨wk_807, wk_804, wk_805, wk_806, wk_5, ⟨by decide +kernel, by decide +kernel, by decide +kernel⟩⟩
theorem lk_X12_340 : tl_kV RX12 340 RX12 yX12_pop cX12_pop 1 (some .long) 0 := ⟨wk_811, wk_808, wk_809, wk_810, wk_5, ⟨by decide +kernel, by decide +kernel, by decide +kernel⟩⟩
theorem lk_X12_344 : tl_kS RX12 344 yX12_one cX12_one 5 (some .long) 3 := ⟨wk_814, wk_812, wk_813, wk_5, ⟨by decide +kernel, by decide +kernel, by decide +kernel⟩⟩
/-! ===== how the reference reckons ===== -/
theorem rp_dv {e : Int} : (e % 16 ≤ 1 ∧ rp_d e = 1) ∨ (e % 16 = 11 ∧ rp_d e = 0) ∨ (¬ e % 16 ≤ 1 ∧ ¬ e % 16 = 11 ∧ rp_d e = -1) := by
  unfold rp_d
  by_cases h : e % 16 ≤ 1
  · rw [if_pos h]; exact Or.inl ⟨h, rfl⟩
  · rw [if_neg h]
    by_cases h2 : e % 16 = 11
    · rw [if_pos h2]; exact Or.inr (Or.inl ⟨h2, rfl⟩)
    · rw [if_neg h2]; exact Or.inr (Or.inr ⟨h, h2, rfl⟩)
theorem tl_asN {x : Int32} (h : 0 ≤ x.toInt) : x = nI x.toInt.toNat ∧ x.toInt.toNat < 2 ^ 31 := by
  have h2 := Int32.toInt_lt x
  refine ⟨Int32.toInt_inj.mp ?_, by omega⟩
  rw [nI_toInt (by omega)]; omega
theorem tl_and15x {x z : Int32} (h : 0 ≤ x.toInt) (e : z = x &&& 15) : z.toInt = x.toInt % 16 := by
  obtain ⟨h1, h2⟩ := tl_asN h
  have h3 : z = nI (x.toInt.toNat % 2 ^ 4) := by
    rw [e]
    conv => lhs; rw [h1]
    exact pk_andN (by omega) 4 (by decide)
  rw [h3, nI_toInt (by omega)]; omega
theorem tl_shr4x {x z : Int32} (h : 0 ≤ x.toInt) (e : z = x >>> ((4 : Int32) &&& 31)) : z.toInt = x.toInt / 16 := by
  obtain ⟨h1, h2⟩ := tl_asN h
  have h3 : z = nI (x.toInt.toNat / 2 ^ 4) := by
    rw [e]
    conv => lhs; rw [h1]
    exact pk_shrN h2 _ 4 (by decide)
  rw [h3, nI_toInt (by omega)]; omega
theorem rd1 {σ : Nat → Int} {a n : Nat} : rd σ a (n + 1) = rd σ a n + rp_d (σ (a + n)) := rfl
set_option maxHeartbeats 4000000 in
set_option maxRecDepth 100000 in
theorem r_X12_four (l : Launch) (D : va_G) (cy : Nat → ClassId) (sz : Nat) (L : List Nat) (K : Nat → tk_K) (Γ : tk_G) (f : Nat → va_E) (o : Nat) (p0 : Int32) (ho : tp_r L K 39 (0) 0 o) (h0 : 0 ≤ Γ (39, 0, 0) 0 ∧ Γ (39, 0, 0) 0 + 4 ≤ 400) : Met l yX12_four (tl_w yX12_four cX12_four 3 none) ({ frames := 0, cells := 0, slots := 0, locals := 0 }) (va_Pc [.ref o, .int p0] (tp_P D cy L K Γ f sz)) (va_Qv (fun (u : (Nat → va_E) × tk_G) => u.2 (39, 0, 0) 0 = Γ (39, 0, 0) 0 + 4) (tp_BG D cy L K Γ f [39, 41]) (tp_A L sz)) 0 0 (tp_A L sz) := by
  refine Met.ofW (cc := cX12_four) (maxL := 3) (ret := none) (by decide) rfl ?_
  intro p e s m args below meth c s₁ B hml hv
  obtain ⟨rfl, hsz, hP, hK, hL, hI, hN, hU⟩ := hv
  have hx := B.exec
  have hb := B.bytes
  have hr := B.returns
  have hta := tl_hta (atoms_spec (ws := tl_w yX12_four cX12_four 3 none) B.pre)
  have hown : s.vm.findClass RX12 = some m.cls := findClass_of_methodNamed B.named
  have hlocks := B.notSynchronized
  subst hsz
  have hI0 := hI
  generalize hAe : tp_A L s.heap.size = A
  have hA : ∀ q : Nat, s.heap.size ≤ q → A q := fun q h => by rw [← hAe]; exact Or.inr h
  have hAL : ∀ q ∈ L, A q := fun q h => by rw [← hAe]; exact Or.inl h
  have hAf : ∀ (H : Heap), s.heap.size ≤ H.size → ∀ q, tp_A L H.size q → A q := fun H h q hq => hq.elim (hAL q) (fun h2 => hA q (Nat.le_trans h h2))
  have hS : va_S A s.heap s.heap [] := va_S.rf
  have hD : va_D A (va_pl L f) := tp_D hL hAL
  have hfr : ∀ b, (K b).1 ∉ ([39, 41] : List Nat) → f b = f b := fun _ _ => rfl
  have hgr : ∀ κ : tk_K, κ.1 ∉ ([39, 41] : List Nat) → Γ κ = Γ κ := fun _ _ => rfl
  have hl := lv_entry ([.ref o, .int p0]) (n := 3) (Nat.le_of_ble_eq_true rfl)
  rw [lg_entry_eq]
  generalize (lg_sl ([.ref o, .int p0]) ++ List.replicate (3 - (lg_sl ([.ref o, .int p0])).length) Slot.unset).toArray = ls at hl ⊢
  have hl : lv_has ls 3 [(0, .ref o), (1, .int p0)] := hl
  refine lv_bipush (v := 24) hx hb dX12_four_0 (by decide) ?_
  refine lv_istore_n (lv' := [(2, .int 24), (0, .ref o), (1, .int p0)]) hx hb dX12_four_2 rfl hl (by decide) rfl (fun ls hl => ?_)
  refine tq_start hP hS (fun H locs hP hS => ?_)
  refine tl_ind (G := fun H locs ls => W p l e ((headSpec (tl_w yX12_four cX12_four 3 none) ({ frames := 0, cells := 0, slots := 0, locals := 0 })).room) s m #[.ref o, .int p0] below meth c H locs 0 0 (MQ below (va_Qv (fun (u : (Nat → va_E) × tk_G) => u.2 (39, 0, 0) 0 = Γ (39, 0, 0) 0 + 4) (tp_BG D cy L K Γ f [39, 41]) A) #[.ref o, .int p0] s 0 0 A) (F0 m 3 ls [])) (α := (Nat → va_E) × tk_G × Int32) (fun aq => (aq.2.2.toInt + 8).toNat) (fun aq H locs ls => (-8 ≤ aq.2.2.toInt ∧ aq.2.2.toInt ≤ 24) ∧ (8 * (aq.2.1 (39, 0, 0) 0 - Γ (39, 0, 0) 0) = 24 - aq.2.2.toInt) ∧ va_P D vwCl (va_pl L aq.1) H ∧ tp_I cy L K aq.2.1 aq.1 ∧ (∀ b, (K b).1 ∉ ([39, 41] : List Nat) → aq.1 b = f b) ∧ (∀ κ : tk_K, κ.1 ∉ ([39, 41] : List Nat) → aq.2.1 κ = Γ κ) ∧ va_S A s.heap H locs ∧ lv_has ls 3 [(2, .int aq.2.2), (0, .ref o), (1, .int p0)]) ?_ (f, Γ, (24 : Int32)) H locs ls ⟨(show -8 ≤ (24 : Int) ∧ (24 : Int) ≤ 24 from (by omega)), (show 8 * (Γ (39, 0, 0) 0 - Γ (39, 0, 0) 0) = 24 - (24 : Int) from (by omega)), hP, hI, hfr, hgr, hS, lv_sub hl [0, 1, 2] rfl⟩
  rintro ⟨f_1, Γ_2, v2⟩ H locs ls ⟨h2, h3, hP, hI, hfr, hgr, hS, hl⟩ ih3
  have hgr : ∀ κ : tk_K, κ.1 ∉ ([39, 41] : List Nat) → Γ_2 κ = Γ κ := hgr
  have hP : va_P D vwCl (va_pl L f_1) H := hP
  have hI : tp_I cy L K Γ_2 f_1 := hI
  have hfr : ∀ b, (K b).1 ∉ ([39, 41] : List Nat) → f_1 b = f b := hfr
  have hD : va_D A (va_pl L f_1) := tp_D hL hAL
  have h2 : -8 ≤ v2.toInt ∧ v2.toInt ≤ 24 := h2
  have h3 : 8 * (Γ_2 (39, 0, 0) 0 - Γ (39, 0, 0) 0) = 24 - v2.toInt := h3
  have hl : lv_has ls 3 [(2, .int v2), (0, .ref o), (1, .int p0)] := hl
  refine lv_iload_n hx hb dX12_four_3 rfl (lv_at hl 0 rfl) ?_
  refine lv_if_lt (tgt := 36) hx hb dX12_four_4 (by decide) (fun c_3 => ?_) (fun c_3 => ?_)
  · have c_3 : v2.toInt < (0 : Int) := tl_lt c_3
    have hpo9 : Γ_2 (39, 0, 0) 0 = Γ (39, 0, 0) 0 + 4 := (by omega)
    exact W.vret hx hb hr (fun t ht hW => ⟨⟨(f_1, Γ_2), rfl, hpo9, by rw [ht]; exact hP, hI, hfr, hgr⟩, hS.F ht⟩) hS.2.2 dX12_four_36
  · have c_3 : (0 : Int) ≤ v2.toInt := tl_nlt c_3
    refine lv_aload_n hx hb dX12_four_7 rfl (lv_at hl 1 rfl) ?_
    obtain ⟨r_5, v_6, q_7, hf_4, hr_8, hv_9⟩ := (show tp_o_M L K 0 0 (Γ_2 (39, 0, 0)) (f_1 o) from hI.at ho)
    have hx_10 : (v_6 0).toInt = Γ_2 (39, 0, 0) 0 := hv_9 0 (by decide)
    refine tp_get (cy := cy) (ci := 12) (v := .ref (r_5 1)) (C := RX12) (T := TX12) (N := 49) hx hb hta inlX12 hown hK hP ho.1 hf_4 rfl 1 (by decide) (hta _ wk_151) (fun _ h9 => h9) rfl dX12_four_8 ?_
    refine lv_aload_n hx hb dX12_four_11 rfl (lv_at hl 1 rfl) ?_
    refine tp_get (cy := cy) (ci := 12) (v := .int (v_6 0)) (C := RX12) (T := TX12) (N := 49) hx hb hta inlX12 hown hK hP ho.1 hf_4 rfl 2 (by decide) (hta _ wk_347) (fun _ h9 => h9) rfl dX12_four_12 ?_
    refine lv_iload_n hx hb dX12_four_15 rfl (lv_at hl 2 rfl) ?_
    refine lv_iload_n hx hb dX12_four_16 rfl (lv_at hl 0 rfl) ?_
    refine lv_ishr hx hb dX12_four_17 ?_
    refine lv_topi (fun z_11 ez_11 => ?_)
    refine lv_i2b hx hb dX12_four_18 rfl ?_
    refine lv_topi (fun z_12 ez_12 => ?_)
    obtain ⟨g_14, hf_13, hg_15⟩ := (show tp_g8 cy (400) (Γ_2 (41, 400, 0)) (f_1 (r_5 1)) from hI.at (show tp_r L K 41 400 0 (r_5 1) from hr_8 1 (by decide)))
    have hn_16 : vp_in (v_6 0) (400) := tl_in (by omega) (by omega)
    obtain ⟨Γ_17, eΓ_17⟩ : ∃ y : tk_G, y = tg Γ_2 (41, 400, 0) ((v_6 0).toInt.toNat) (vp_nar .byte z_12).toInt := ⟨_, rfl⟩
    have hI9 : tp_I cy L K Γ_17 (va_up f_1 (r_5 1) (.inl (cy 3, 400, .inl (upd g_14 (v_6 0).toNatClampNeg (vp_nar .byte z_12))))) := by rw [eΓ_17]; exact hI.setg hU rfl (show tp_r L K 41 400 0 (r_5 1) from hr_8 1 (by decide)) (show tp_g8 cy (400) (tgu (Γ_2 (41, 400, 0)) _ _) _ from ⟨_, rfl, tp_gi_upd hg_15⟩)
    have hfr9 : ∀ b, (K b).1 ∉ ([39, 41] : List Nat) → va_up f_1 (r_5 1) (.inl (cy 3, 400, .inl (upd g_14 (v_6 0).toNatClampNeg (vp_nar .byte z_12)))) b = f b := tp_fr hfr (show tp_r L K 41 400 0 (r_5 1) from hr_8 1 (by decide)) (by decide)
    refine tp_bast (cy := cy) hx hb hK hP hD hS (show tp_r L K 41 400 0 (r_5 1) from hr_8 1 (by decide)).1 hf_13 hn_16 dX12_four_19 (fun H locs hP hD hS => ?_)
    have hP : va_P D vwCl (va_pl L (va_up f_1 (r_5 1) (.inl (cy 3, 400, .inl (upd g_14 (v_6 0).toNatClampNeg (vp_nar .byte z_12)))))) H := hP
    generalize hfe : va_up f_1 (r_5 1) (.inl (cy 3, 400, .inl (upd g_14 (v_6 0).toNatClampNeg (vp_nar .byte z_12)))) = f_18 at hP hI9 hfr9
    have hD : va_D A (va_pl L f_18) := tp_D hL hAL
    have hf_19 := (show f_18 o = _ from by rw [← hfe, va_up_ne _ _ (tp_ne ho (show tp_r L K 41 400 0 (r_5 1) from hr_8 1 (by decide)) (by decide))]).trans hf_4
    have hf_20 : f_18 (r_5 1) = .inl (cy 3, 400, .inl (upd g_14 (v_6 0).toNatClampNeg (vp_nar .byte z_12))) := by rw [← hfe]; exact va_up_self _ _ _
    clear hfe
    have hI := hI9
    have hfr := hfr9
    clear hI9 hfr9
    have hgr : ∀ κ : tk_K, κ.1 ∉ ([39, 41] : List Nat) → Γ_17 κ = Γ κ := tg_fr hgr eΓ_17 (by decide)
    have hv_21 : ∀ i : Nat, i < 16 → (v_6 i).toInt = Γ_17 (39, 0, 0) i := fun i hi => by rw [eΓ_17, tg_r (by decide)]; exact hv_9 i hi
    have hx_22 : (v_6 0).toInt = Γ_17 (39, 0, 0) 0 := hv_21 0 (by decide)
    refine lv_aload_n hx hb dX12_four_20 rfl (lv_at hl 1 rfl) ?_
    refine lv_dup hx hb dX12_four_21 rfl ?_
    refine tp_get (cy := cy) (ci := 12) (v := .int (v_6 0)) (C := RX12) (T := TX12) (N := 49) hx hb hta inlX12 hown hK hP ho.1 hf_19 rfl 2 (by decide) (hta _ wk_347) (fun _ h9 => h9) rfl dX12_four_22 ?_
    refine lv_iconst (v := 1) hx hb dX12_four_25 (by decide) ?_
    refine lv_iadd hx hb dX12_four_26 ?_
    refine lv_topi (fun z_23 ez_23 => ?_)
    try have iz_23 : z_23.toInt = (v_6 0).toInt + (1 : Int) := by rw [ez_23]; exact tl_addN (v_6 0) 1 rfl rfl (by omega) (by omega)
    obtain ⟨Γ_24, eΓ_24⟩ : ∃ y : tk_G, y = tg Γ_17 (39, 0, 0) 0 z_23.toInt := ⟨_, rfl⟩
    have hv_25 : ∀ i : Nat, i < 16 → ((upd v_6 0 z_23) i).toInt = Γ_24 (39, 0, 0) i := by rw [eΓ_24, tg_f]; exact tp_gi_upd hv_21
    have hI9 : tp_I cy L K Γ_24 (va_up f_18 o (.inr (12, [.ref (r_5 0), .ref (r_5 1), .int z_23, .ref (r_5 2), .ref (r_5 3), .ref (r_5 4), .ref (r_5 5), .ref (r_5 6), .ref (r_5 7), .ref (r_5 8), .ref (r_5 9), .ref (r_5 10), .ref (r_5 11), .ref (r_5 12), .ref (r_5 13), .ref (r_5 14), .ref (r_5 15), .int (v_6 1), .int (v_6 2), .int (v_6 3), .int (v_6 4), .int (v_6 5), .int (v_6 6), .int (v_6 7), .ref (r_5 16), .int (v_6 8), .ref (r_5 17), .int (v_6 9), .ref (r_5 18), .long q_7, .ref (r_5 19), .ref (r_5 20), .int (v_6 10), .int (v_6 11), .int (v_6 12), .ref (r_5 21), .ref (r_5 22), .int (v_6 13), .ref (r_5 23), .int (v_6 14), .int (v_6 15), .ref (r_5 24), .ref (r_5 25), .ref (r_5 26), .ref (r_5 27), .ref (r_5 28), .ref (r_5 29), .ref (r_5 30), .ref (r_5 31)]))) := by have q9 := hv_25; rw [eΓ_24, tg_f] at q9; rw [eΓ_24]; exact hI.setg hU rfl ho (show tp_o_M L K 0 0 (tgu (Γ_17 (39, 0, 0)) 0 z_23.toInt) _ from ⟨r_5, (upd v_6 0 z_23), q_7, rfl, hr_8, q9⟩)
    have hfr9 : ∀ b, (K b).1 ∉ ([39, 41] : List Nat) → va_up f_18 o (.inr (12, [.ref (r_5 0), .ref (r_5 1), .int z_23, .ref (r_5 2), .ref (r_5 3), .ref (r_5 4), .ref (r_5 5), .ref (r_5 6), .ref (r_5 7), .ref (r_5 8), .ref (r_5 9), .ref (r_5 10), .ref (r_5 11), .ref (r_5 12), .ref (r_5 13), .ref (r_5 14), .ref (r_5 15), .int (v_6 1), .int (v_6 2), .int (v_6 3), .int (v_6 4), .int (v_6 5), .int (v_6 6), .int (v_6 7), .ref (r_5 16), .int (v_6 8), .ref (r_5 17), .int (v_6 9), .ref (r_5 18), .long q_7, .ref (r_5 19), .ref (r_5 20), .int (v_6 10), .int (v_6 11), .int (v_6 12), .ref (r_5 21), .ref (r_5 22), .int (v_6 13), .ref (r_5 23), .int (v_6 14), .int (v_6 15), .ref (r_5 24), .ref (r_5 25), .ref (r_5 26), .ref (r_5 27), .ref (r_5 28), .ref (r_5 29), .ref (r_5 30), .ref (r_5 31)])) b = f b := tp_fr hfr ho (by decide)
    refine tp_put (cy := cy) (ci := 12) (v := .int z_23) (ty := tyX12 2) (C := RX12) (T := TX12) (N := 49) hx hb hta inlX12 tyX12 tyX12_ok nmX12 hown hK hP hD hS ho.1 hf_19 rfl 2 (by decide) (hta _ wk_347) (fun _ h9 => h9) rfl (tyX12_ok 2 (by decide)) rfl rfl (Nat.le_of_ble_eq_true rfl) dX12_four_27 (fun H locs hP hD hS => ?_)
    have hP : va_P D vwCl (va_pl L (va_up f_18 o (.inr (12, [.ref (r_5 0), .ref (r_5 1), .int z_23, .ref (r_5 2), .ref (r_5 3), .ref (r_5 4), .ref (r_5 5), .ref (r_5 6), .ref (r_5 7), .ref (r_5 8), .ref (r_5 9), .ref (r_5 10), .ref (r_5 11), .ref (r_5 12), .ref (r_5 13), .ref (r_5 14), .ref (r_5 15), .int (v_6 1), .int (v_6 2), .int (v_6 3), .int (v_6 4), .int (v_6 5), .int (v_6 6), .int (v_6 7), .ref (r_5 16), .int (v_6 8), .ref (r_5 17), .int (v_6 9), .ref (r_5 18), .long q_7, .ref (r_5 19), .ref (r_5 20), .int (v_6 10), .int (v_6 11), .int (v_6 12), .ref (r_5 21), .ref (r_5 22), .int (v_6 13), .ref (r_5 23), .int (v_6 14), .int (v_6 15), .ref (r_5 24), .ref (r_5 25), .ref (r_5 26), .ref (r_5 27), .ref (r_5 28), .ref (r_5 29), .ref (r_5 30), .ref (r_5 31)])))) H := hP
    generalize hfe : va_up f_18 o (.inr (12, [.ref (r_5 0), .ref (r_5 1), .int z_23, .ref (r_5 2), .ref (r_5 3), .ref (r_5 4), .ref (r_5 5), .ref (r_5 6), .ref (r_5 7), .ref (r_5 8), .ref (r_5 9), .ref (r_5 10), .ref (r_5 11), .ref (r_5 12), .ref (r_5 13), .ref (r_5 14), .ref (r_5 15), .int (v_6 1), .int (v_6 2), .int (v_6 3), .int (v_6 4), .int (v_6 5), .int (v_6 6), .int (v_6 7), .ref (r_5 16), .int (v_6 8), .ref (r_5 17), .int (v_6 9), .ref (r_5 18), .long q_7, .ref (r_5 19), .ref (r_5 20), .int (v_6 10), .int (v_6 11), .int (v_6 12), .ref (r_5 21), .ref (r_5 22), .int (v_6 13), .ref (r_5 23), .int (v_6 14), .int (v_6 15), .ref (r_5 24), .ref (r_5 25), .ref (r_5 26), .ref (r_5 27), .ref (r_5 28), .ref (r_5 29), .ref (r_5 30), .ref (r_5 31)])) = f_26 at hP hI9 hfr9
    have hD : va_D A (va_pl L f_26) := tp_D hL hAL
    have hf_27 : f_26 o = .inr (12, [.ref (r_5 0), .ref (r_5 1), .int z_23, .ref (r_5 2), .ref (r_5 3), .ref (r_5 4), .ref (r_5 5), .ref (r_5 6), .ref (r_5 7), .ref (r_5 8), .ref (r_5 9), .ref (r_5 10), .ref (r_5 11), .ref (r_5 12), .ref (r_5 13), .ref (r_5 14), .ref (r_5 15), .int (v_6 1), .int (v_6 2), .int (v_6 3), .int (v_6 4), .int (v_6 5), .int (v_6 6), .int (v_6 7), .ref (r_5 16), .int (v_6 8), .ref (r_5 17), .int (v_6 9), .ref (r_5 18), .long q_7, .ref (r_5 19), .ref (r_5 20), .int (v_6 10), .int (v_6 11), .int (v_6 12), .ref (r_5 21), .ref (r_5 22), .int (v_6 13), .ref (r_5 23), .int (v_6 14), .int (v_6 15), .ref (r_5 24), .ref (r_5 25), .ref (r_5 26), .ref (r_5 27), .ref (r_5 28), .ref (r_5 29), .ref (r_5 30), .ref (r_5 31)]) := by rw [← hfe]; exact va_up_self _ _ _
    clear hfe
    have hI := hI9
    have hfr := hfr9
    clear hI9 hfr9
    have hgr : ∀ κ : tk_K, κ.1 ∉ ([39, 41] : List Nat) → Γ_24 κ = Γ κ := tg_fr hgr eΓ_24 (by decide)
    have hx_28 : z_23.toInt = Γ_24 (39, 0, 0) 0 := hv_25 0 (by decide)
    obtain ⟨z_29, ez_29⟩ : ∃ y : Int32, y = v2 + (-8) := ⟨_, rfl⟩
    refine lv_iinc (v := z_29) (lv' := [(2, .int z_29), (0, .ref o), (1, .int p0)]) hx hb dX12_four_30 hl (k := 0) rfl (by rw [ez_29]; rfl) (by decide) rfl (fun ls hl => ?_)
    try have iz_29 : z_29.toInt = v2.toInt + -8 := by rw [ez_29]; exact tl_addL v2 (-8) (by decide) (by omega) (by omega)
    refine lv_goto (tgt := 3) hx hb dX12_four_33 (by decide) ?_
    exact ih3 (f_26, Γ_24, z_29) H locs ls (by show (z_29.toInt + 8).toNat < (v2.toInt + 8).toNat; omega) ⟨(show -8 ≤ z_29.toInt ∧ z_29.toInt ≤ 24 from (by omega)), (show 8 * (Γ_24 (39, 0, 0) 0 - Γ (39, 0, 0) 0) = 24 - z_29.toInt from (by omega)), hP, hI, hfr, hgr, hS, lv_sub hl [0, 1, 2] rfl⟩
set_option maxHeartbeats 4000000 in
set_option maxRecDepth 100000 in
theorem r_X12_feed (l : Launch) (D : va_G) (cy : Nat → ClassId) (sz : Nat) (L : List Nat) (K : Nat → tk_K) (Γ : tk_G) (f : Nat → va_E) (o : Nat) (p0 : Int32) (p1 : Int32) (p2 : Int32) (p3 : Int32) (p4 : Int32) (ho : tp_r L K 39 (0) 0 o) (h0 : 0 ≤ Γ (39, 0, 0) 0 ∧ Γ (39, 0, 0) 0 ≤ 400) : Met l yX12_feed (tl_w yX12_feed cX12_feed 6 (some .int)) ({ frames := 1, cells := 0, slots := 0, locals := 22 }) (va_Pc [.ref o, .int p0, .int p1, .int p2, .int p3, .int p4] (tp_P D cy L K Γ f sz)) (va_Qi (fun (r : Int32) (u : (Nat → va_E) × tk_G) => 0 ≤ u.2 (39, 0, 0) 0 ∧ u.2 (39, 0, 0) 0 ≤ 400) (tp_BG D cy L K Γ f [39, 41]) (tp_A L sz)) 0 0 (tp_A L sz) := by
  refine Met.ofW (cc := cX12_feed) (maxL := 6) (ret := (some .int)) (by decide) rfl ?_
  intro p e s m args below meth c s₁ B hml hv
  obtain ⟨rfl, hsz, hP, hK, hL, hI, hN, hU⟩ := hv
  have hx := B.exec
  have hb := B.bytes
  have hr := B.returns
  have hta := tl_hta (atoms_spec (ws := tl_w yX12_feed cX12_feed 6 (some .int)) B.pre)
  have hown : s.vm.findClass RX12 = some m.cls := findClass_of_methodNamed B.named
  have hlocks := B.notSynchronized
  subst hsz
  have hI0 := hI
  generalize hAe : tp_A L s.heap.size = A
  have hA : ∀ q : Nat, s.heap.size ≤ q → A q := fun q h => by rw [← hAe]; exact Or.inr h
  have hAL : ∀ q ∈ L, A q := fun q h => by rw [← hAe]; exact Or.inl h
  have hAf : ∀ (H : Heap), s.heap.size ≤ H.size → ∀ q, tp_A L H.size q → A q := fun H h q hq => hq.elim (hAL q) (fun h2 => hA q (Nat.le_trans h h2))
  have hS : va_S A s.heap s.heap [] := va_S.rf
  have hD : va_D A (va_pl L f) := tp_D hL hAL
  have hfr : ∀ b, (K b).1 ∉ ([39, 41] : List Nat) → f b = f b := fun _ _ => rfl
  have hgr : ∀ κ : tk_K, κ.1 ∉ ([39, 41] : List Nat) → Γ κ = Γ κ := fun _ _ => rfl
  have hl := lv_entry ([.ref o, .int p0, .int p1, .int p2, .int p3, .int p4]) (n := 6) (Nat.le_of_ble_eq_true rfl)
  rw [lg_entry_eq]
  generalize (lg_sl ([.ref o, .int p0, .int p1, .int p2, .int p3, .int p4]) ++ List.replicate (6 - (lg_sl ([.ref o, .int p0, .int p1, .int p2, .int p3, .int p4])).length) Slot.unset).toArray = ls at hl ⊢
  have hl : lv_has ls 6 [(0, .ref o), (1, .int p0), (2, .int p1), (3, .int p2), (4, .int p3), (5, .int p4)] := hl
  refine lv_aload_n hx hb dX12_feed_0 rfl (lv_at hl 0 rfl) ?_
  obtain ⟨r_2, v_3, q_4, hf_1, hr_5, hv_6⟩ := (show tp_o_M L K 0 0 (Γ (39, 0, 0)) (f o) from hI.at ho)
  have hx_7 : (v_3 0).toInt = Γ (39, 0, 0) 0 := hv_6 0 (by decide)
  refine tp_get (cy := cy) (ci := 12) (v := .int (v_3 0)) (C := RX12) (T := TX12) (N := 49) hx hb hta inlX12 hown hK hP ho.1 hf_1 rfl 2 (by decide) (hta _ wk_347) (fun _ h9 => h9) rfl dX12_feed_1 ?_
  refine lv_bipush (v := 20) hx hb dX12_feed_4 (by decide) ?_
  refine lv_iadd hx hb dX12_feed_6 ?_
  refine lv_topi (fun z_8 ez_8 => ?_)
  try have iz_8 : z_8.toInt = (v_3 0).toInt + (20 : Int) := by rw [ez_8]; exact tl_addN (v_3 0) 20 rfl rfl (by omega) (by omega)
  refine lv_sipush (v := 400) hx hb dX12_feed_7 (by decide) ?_
  refine lv_icmp_le (tgt := 15) hx hb dX12_feed_10 (by decide) (fun c_9 => ?_) (fun c_9 => ?_)
  · have c_9 : z_8.toInt ≤ (400 : Int) := tl_le c_9
    refine lv_aload_n hx hb dX12_feed_15 rfl (lv_at hl 0 rfl) ?_
    refine lv_iload_n hx hb dX12_feed_16 rfl (lv_at hl 1 rfl) ?_
    refine tq_cvR hS (hAf _ hS.1) (tq_rV (As := [.int p0]) (rest := []) ⟨hx, hb, hml, hown, hta⟩ (tp_P.pre hK hN hL hU hI hP) (tp_recv hK hP ho.1 hf_1 rfl) lk_X12_157 (r_X12_four l D cy s.heap.size L K Γ f o p0 ho (by first | omega | (simp only [Int32.toInt_toInt64]; omega) | decide | assumption)) rfl rfl ⟨Nat.le_of_ble_eq_true rfl, Nat.le_of_ble_eq_true rfl⟩ rfl hl.1 rfl (Nat.le_of_ble_eq_true rfl) dX12_feed_17 ⟨Nat.le_of_ble_eq_true rfl, Nat.le_of_ble_eq_true rfl⟩) (fun f_12 Γ_14 H locs hw_10 hP hI hc_13 hcg_15 hS => ?_)
    have hD : va_D A (va_pl L f_12) := tp_D hL hAL
    have hfr := tp_fr2 hfr hc_13 (by decide)
    have hgr : ∀ κ : tk_K, κ.1 ∉ ([39, 41] : List Nat) → Γ_14 κ = Γ κ := tg_fr2 hgr hcg_15 (by decide)
    have hw_10 : Γ_14 (39, 0, 0) 0 = Γ (39, 0, 0) 0 + 4 := hw_10
    refine lv_aload_n hx hb dX12_feed_20 rfl (lv_at hl 0 rfl) ?_
    refine lv_iload_n hx hb dX12_feed_21 rfl (lv_at hl 2 rfl) ?_
    obtain ⟨r_17, v_18, q_19, hf_16, hr_20, hv_21⟩ := (show tp_o_M L K 0 0 (Γ_14 (39, 0, 0)) (f_12 o) from hI.at ho)
    refine tq_cvR hS (hAf _ hS.1) (tq_rV (As := [.int p1]) (rest := []) ⟨hx, hb, hml, hown, hta⟩ (tp_P.pre hK hN hL hU hI hP) (tp_recv hK hP ho.1 hf_16 rfl) lk_X12_157 (r_X12_four l D cy H.size L K Γ_14 f_12 o p1 ho (by first | omega | (simp only [Int32.toInt_toInt64]; omega) | decide | assumption)) rfl rfl ⟨Nat.le_of_ble_eq_true rfl, Nat.le_of_ble_eq_true rfl⟩ rfl hl.1 rfl (Nat.le_of_ble_eq_true rfl) dX12_feed_22 ⟨Nat.le_of_ble_eq_true rfl, Nat.le_of_ble_eq_true rfl⟩) (fun f_25 Γ_27 H locs hw_23 hP hI hc_26 hcg_28 hS => ?_)
    have hD : va_D A (va_pl L f_25) := tp_D hL hAL
    have hfr := tp_fr2 hfr hc_26 (by decide)
    have hgr : ∀ κ : tk_K, κ.1 ∉ ([39, 41] : List Nat) → Γ_27 κ = Γ κ := tg_fr2 hgr hcg_28 (by decide)
    have hw_23 : Γ_27 (39, 0, 0) 0 = Γ_14 (39, 0, 0) 0 + 4 := hw_23
    refine lv_aload_n hx hb dX12_feed_25 rfl (lv_at hl 0 rfl) ?_
    refine lv_iload_n hx hb dX12_feed_26 rfl (lv_at hl 3 rfl) ?_
    obtain ⟨r_30, v_31, q_32, hf_29, hr_33, hv_34⟩ := (show tp_o_M L K 0 0 (Γ_27 (39, 0, 0)) (f_25 o) from hI.at ho)
    refine tq_cvR hS (hAf _ hS.1) (tq_rV (As := [.int p2]) (rest := []) ⟨hx, hb, hml, hown, hta⟩ (tp_P.pre hK hN hL hU hI hP) (tp_recv hK hP ho.1 hf_29 rfl) lk_X12_157 (r_X12_four l D cy H.size L K Γ_27 f_25 o p2 ho (by first | omega | (simp only [Int32.toInt_toInt64]; omega) | decide | assumption)) rfl rfl ⟨Nat.le_of_ble_eq_true rfl, Nat.le_of_ble_eq_true rfl⟩ rfl hl.1 rfl (Nat.le_of_ble_eq_true rfl) dX12_feed_27 ⟨Nat.le_of_ble_eq_true rfl, Nat.le_of_ble_eq_true rfl⟩) (fun f_38 Γ_40 H locs hw_36 hP hI hc_39 hcg_41 hS => ?_)
    have hD : va_D A (va_pl L f_38) := tp_D hL hAL
    have hfr := tp_fr2 hfr hc_39 (by decide)
    have hgr : ∀ κ : tk_K, κ.1 ∉ ([39, 41] : List Nat) → Γ_40 κ = Γ κ := tg_fr2 hgr hcg_41 (by decide)
    have hw_36 : Γ_40 (39, 0, 0) 0 = Γ_27 (39, 0, 0) 0 + 4 := hw_36
    refine lv_aload_n hx hb dX12_feed_30 rfl (lv_at hl 0 rfl) ?_
    refine lv_iload hx hb dX12_feed_31 (lv_at hl 4 rfl) ?_
    obtain ⟨r_43, v_44, q_45, hf_42, hr_46, hv_47⟩ := (show tp_o_M L K 0 0 (Γ_40 (39, 0, 0)) (f_38 o) from hI.at ho)
    refine tq_cvR hS (hAf _ hS.1) (tq_rV (As := [.int p3]) (rest := []) ⟨hx, hb, hml, hown, hta⟩ (tp_P.pre hK hN hL hU hI hP) (tp_recv hK hP ho.1 hf_42 rfl) lk_X12_157 (r_X12_four l D cy H.size L K Γ_40 f_38 o p3 ho (by first | omega | (simp only [Int32.toInt_toInt64]; omega) | decide | assumption)) rfl rfl ⟨Nat.le_of_ble_eq_true rfl, Nat.le_of_ble_eq_true rfl⟩ rfl hl.1 rfl (Nat.le_of_ble_eq_true rfl) dX12_feed_33 ⟨Nat.le_of_ble_eq_true rfl, Nat.le_of_ble_eq_true rfl⟩) (fun f_51 Γ_53 H locs hw_49 hP hI hc_52 hcg_54 hS => ?_)
    have hD : va_D A (va_pl L f_51) := tp_D hL hAL
    have hfr := tp_fr2 hfr hc_52 (by decide)
    have hgr : ∀ κ : tk_K, κ.1 ∉ ([39, 41] : List Nat) → Γ_53 κ = Γ κ := tg_fr2 hgr hcg_54 (by decide)
    have hw_49 : Γ_53 (39, 0, 0) 0 = Γ_40 (39, 0, 0) 0 + 4 := hw_49
    refine lv_aload_n hx hb dX12_feed_36 rfl (lv_at hl 0 rfl) ?_
    refine lv_iload hx hb dX12_feed_37 (lv_at hl 5 rfl) ?_
    obtain ⟨r_56, v_57, q_58, hf_55, hr_59, hv_60⟩ := (show tp_o_M L K 0 0 (Γ_53 (39, 0, 0)) (f_51 o) from hI.at ho)
    refine tq_cvR hS (hAf _ hS.1) (tq_rV (As := [.int p4]) (rest := []) ⟨hx, hb, hml, hown, hta⟩ (tp_P.pre hK hN hL hU hI hP) (tp_recv hK hP ho.1 hf_55 rfl) lk_X12_157 (r_X12_four l D cy H.size L K Γ_53 f_51 o p4 ho (by first | omega | (simp only [Int32.toInt_toInt64]; omega) | decide | assumption)) rfl rfl ⟨Nat.le_of_ble_eq_true rfl, Nat.le_of_ble_eq_true rfl⟩ rfl hl.1 rfl (Nat.le_of_ble_eq_true rfl) dX12_feed_39 ⟨Nat.le_of_ble_eq_true rfl, Nat.le_of_ble_eq_true rfl⟩) (fun f_64 Γ_66 H locs hw_62 hP hI hc_65 hcg_67 hS => ?_)
    have hD : va_D A (va_pl L f_64) := tp_D hL hAL
    have hfr := tp_fr2 hfr hc_65 (by decide)
    have hgr : ∀ κ : tk_K, κ.1 ∉ ([39, 41] : List Nat) → Γ_66 κ = Γ κ := tg_fr2 hgr hcg_67 (by decide)
    have hw_62 : Γ_66 (39, 0, 0) 0 = Γ_53 (39, 0, 0) 0 + 4 := hw_62
    refine lv_aload_n hx hb dX12_feed_42 rfl (lv_at hl 0 rfl) ?_
    obtain ⟨r_69, v_70, q_71, hf_68, hr_72, hv_73⟩ := (show tp_o_M L K 0 0 (Γ_66 (39, 0, 0)) (f_64 o) from hI.at ho)
    have hx_74 : (v_70 0).toInt = Γ_66 (39, 0, 0) 0 := hv_73 0 (by decide)
    refine tp_get (cy := cy) (ci := 12) (v := .int (v_70 0)) (C := RX12) (T := TX12) (N := 49) hx hb hta inlX12 hown hK hP ho.1 hf_68 rfl 2 (by decide) (hta _ wk_347) (fun _ h9 => h9) rfl dX12_feed_43 ?_
    have hpo9 : 0 ≤ Γ_66 (39, 0, 0) 0 ∧ Γ_66 (39, 0, 0) 0 ≤ 400 := ⟨(by omega), (by omega)⟩
    exact W.iret (v := (v_70 0)) hx hb hr (fun t ht hW => ⟨⟨_, (f_64, Γ_66), rfl, hpo9, by rw [ht]; exact hP, hI, hfr, hgr⟩, hS.F ht⟩) hS.2.2 dX12_feed_46
  · have c_9 : (400 : Int) < z_8.toInt := tl_nle c_9
    refine lv_iconst (v := (-1)) hx hb dX12_feed_13 (by decide) ?_
    have hpo9 : 0 ≤ Γ (39, 0, 0) 0 ∧ Γ (39, 0, 0) 0 ≤ 400 := ⟨(by omega), (by omega)⟩
    exact W.iret (v := (-1)) hx hb hr (fun t ht hW => ⟨⟨_, (f, Γ), rfl, hpo9, by rw [ht]; exact hP, hI, hfr, hgr⟩, hS.F ht⟩) hS.2.2 dX12_feed_14
set_option maxHeartbeats 4000000 in
set_option maxRecDepth 100000 in
theorem r_X12_end (l : Launch) (D : va_G) (cy : Nat → ClassId) (sz : Nat) (L : List Nat) (K : Nat → tk_K) (Γ : tk_G) (f : Nat → va_E) (o : Nat) (p0 : Int32) (ho : tp_r L K 39 (0) 0 o) (h0 : 0 ≤ Γ (39, 0, 0) 0 ∧ Γ (39, 0, 0) 0 ≤ 400) : Met l yX12_end (tl_w yX12_end cX12_end 2 (some .int)) ({ frames := 0, cells := 0, slots := 0, locals := 0 }) (va_Pc [.ref o, .int p0] (tp_P D cy L K Γ f sz)) (va_Qi (fun (r : Int32) (u : (Nat → va_E) × tk_G) => 0 ≤ u.2 (39, 0, 0) 0 ∧ u.2 (39, 0, 0) 0 ≤ 400) (tp_BG D cy L K Γ f [39]) (tp_A L sz)) 0 0 (tp_A L sz) := by
  refine Met.ofW (cc := cX12_end) (maxL := 2) (ret := (some .int)) (by decide) rfl ?_
  intro p e s m args below meth c s₁ B hml hv
  obtain ⟨rfl, hsz, hP, hK, hL, hI, hN, hU⟩ := hv
  have hx := B.exec
  have hb := B.bytes
  have hr := B.returns
  have hta := tl_hta (atoms_spec (ws := tl_w yX12_end cX12_end 2 (some .int)) B.pre)
  have hown : s.vm.findClass RX12 = some m.cls := findClass_of_methodNamed B.named
  have hlocks := B.notSynchronized
  subst hsz
  have hI0 := hI
  generalize hAe : tp_A L s.heap.size = A
  have hA : ∀ q : Nat, s.heap.size ≤ q → A q := fun q h => by rw [← hAe]; exact Or.inr h
  have hAL : ∀ q ∈ L, A q := fun q h => by rw [← hAe]; exact Or.inl h
  have hAf : ∀ (H : Heap), s.heap.size ≤ H.size → ∀ q, tp_A L H.size q → A q := fun H h q hq => hq.elim (hAL q) (fun h2 => hA q (Nat.le_trans h h2))
  have hS : va_S A s.heap s.heap [] := va_S.rf
  have hD : va_D A (va_pl L f) := tp_D hL hAL
  have hfr : ∀ b, (K b).1 ∉ ([39] : List Nat) → f b = f b := fun _ _ => rfl
  have hgr : ∀ κ : tk_K, κ.1 ∉ ([39] : List Nat) → Γ κ = Γ κ := fun _ _ => rfl
  have hl := lv_entry ([.ref o, .int p0]) (n := 2) (Nat.le_of_ble_eq_true rfl)
  rw [lg_entry_eq]
  generalize (lg_sl ([.ref o, .int p0]) ++ List.replicate (2 - (lg_sl ([.ref o, .int p0])).length) Slot.unset).toArray = ls at hl ⊢
  have hl : lv_has ls 2 [(0, .ref o), (1, .int p0)] := hl
  refine lv_iload_n hx hb dX12_end_0 rfl (lv_at hl 1 rfl) ?_
  refine lv_if_lt (tgt := 12) hx hb dX12_end_1 (by decide) (fun c_1 => ?_) (fun c_1 => ?_)
  · have c_1 : p0.toInt < (0 : Int) := tl_lt c_1
    refine lv_iconst (v := (-1)) hx hb dX12_end_12 (by decide) ?_
    have hpo9 : 0 ≤ Γ (39, 0, 0) 0 ∧ Γ (39, 0, 0) 0 ≤ 400 := ⟨(by omega), (by omega)⟩
    exact W.iret (v := (-1)) hx hb hr (fun t ht hW => ⟨⟨_, (f, Γ), rfl, hpo9, by rw [ht]; exact hP, hI, hfr, hgr⟩, hS.F ht⟩) hS.2.2 dX12_end_13
  · have c_1 : (0 : Int) ≤ p0.toInt := tl_nlt c_1
    refine lv_iload_n hx hb dX12_end_4 rfl (lv_at hl 1 rfl) ?_
    refine lv_aload_n hx hb dX12_end_5 rfl (lv_at hl 0 rfl) ?_
    obtain ⟨r_3, v_4, q_5, hf_2, hr_6, hv_7⟩ := (show tp_o_M L K 0 0 (Γ (39, 0, 0)) (f o) from hI.at ho)
    have hx_8 : (v_4 0).toInt = Γ (39, 0, 0) 0 := hv_7 0 (by decide)
    refine tp_get (cy := cy) (ci := 12) (v := .int (v_4 0)) (C := RX12) (T := TX12) (N := 49) hx hb hta inlX12 hown hK hP ho.1 hf_2 rfl 2 (by decide) (hta _ wk_347) (fun _ h9 => h9) rfl dX12_end_6 ?_
    refine lv_icmp_le (tgt := 14) hx hb dX12_end_9 (by decide) (fun c_9 => ?_) (fun c_9 => ?_)
    · have c_9 : p0.toInt ≤ (v_4 0).toInt := tl_le c_9
      refine lv_aload_n hx hb dX12_end_14 rfl (lv_at hl 0 rfl) ?_
      refine lv_iload_n hx hb dX12_end_15 rfl (lv_at hl 1 rfl) ?_
      obtain ⟨Γ_10, eΓ_10⟩ : ∃ y : tk_G, y = tg Γ (39, 0, 0) 0 p0.toInt := ⟨_, rfl⟩
      have hv_11 : ∀ i : Nat, i < 16 → ((upd v_4 0 p0) i).toInt = Γ_10 (39, 0, 0) i := by rw [eΓ_10, tg_f]; exact tp_gi_upd hv_7
      have hI9 : tp_I cy L K Γ_10 (va_up f o (.inr (12, [.ref (r_3 0), .ref (r_3 1), .int p0, .ref (r_3 2), .ref (r_3 3), .ref (r_3 4), .ref (r_3 5), .ref (r_3 6), .ref (r_3 7), .ref (r_3 8), .ref (r_3 9), .ref (r_3 10), .ref (r_3 11), .ref (r_3 12), .ref (r_3 13), .ref (r_3 14), .ref (r_3 15), .int (v_4 1), .int (v_4 2), .int (v_4 3), .int (v_4 4), .int (v_4 5), .int (v_4 6), .int (v_4 7), .ref (r_3 16), .int (v_4 8), .ref (r_3 17), .int (v_4 9), .ref (r_3 18), .long q_5, .ref (r_3 19), .ref (r_3 20), .int (v_4 10), .int (v_4 11), .int (v_4 12), .ref (r_3 21), .ref (r_3 22), .int (v_4 13), .ref (r_3 23), .int (v_4 14), .int (v_4 15), .ref (r_3 24), .ref (r_3 25), .ref (r_3 26), .ref (r_3 27), .ref (r_3 28), .ref (r_3 29), .ref (r_3 30), .ref (r_3 31)]))) := by have q9 := hv_11; rw [eΓ_10, tg_f] at q9; rw [eΓ_10]; exact hI.setg hU rfl ho (show tp_o_M L K 0 0 (tgu (Γ (39, 0, 0)) 0 p0.toInt) _ from ⟨r_3, (upd v_4 0 p0), q_5, rfl, hr_6, q9⟩)
      have hfr9 : ∀ b, (K b).1 ∉ ([39] : List Nat) → va_up f o (.inr (12, [.ref (r_3 0), .ref (r_3 1), .int p0, .ref (r_3 2), .ref (r_3 3), .ref (r_3 4), .ref (r_3 5), .ref (r_3 6), .ref (r_3 7), .ref (r_3 8), .ref (r_3 9), .ref (r_3 10), .ref (r_3 11), .ref (r_3 12), .ref (r_3 13), .ref (r_3 14), .ref (r_3 15), .int (v_4 1), .int (v_4 2), .int (v_4 3), .int (v_4 4), .int (v_4 5), .int (v_4 6), .int (v_4 7), .ref (r_3 16), .int (v_4 8), .ref (r_3 17), .int (v_4 9), .ref (r_3 18), .long q_5, .ref (r_3 19), .ref (r_3 20), .int (v_4 10), .int (v_4 11), .int (v_4 12), .ref (r_3 21), .ref (r_3 22), .int (v_4 13), .ref (r_3 23), .int (v_4 14), .int (v_4 15), .ref (r_3 24), .ref (r_3 25), .ref (r_3 26), .ref (r_3 27), .ref (r_3 28), .ref (r_3 29), .ref (r_3 30), .ref (r_3 31)])) b = f b := tp_fr hfr ho (by decide)
      refine tp_put (cy := cy) (ci := 12) (v := .int p0) (ty := tyX12 2) (C := RX12) (T := TX12) (N := 49) hx hb hta inlX12 tyX12 tyX12_ok nmX12 hown hK hP hD hS ho.1 hf_2 rfl 2 (by decide) (hta _ wk_347) (fun _ h9 => h9) rfl (tyX12_ok 2 (by decide)) rfl rfl (Nat.le_of_ble_eq_true rfl) dX12_end_16 (fun H locs hP hD hS => ?_)
      have hP : va_P D vwCl (va_pl L (va_up f o (.inr (12, [.ref (r_3 0), .ref (r_3 1), .int p0, .ref (r_3 2), .ref (r_3 3), .ref (r_3 4), .ref (r_3 5), .ref (r_3 6), .ref (r_3 7), .ref (r_3 8), .ref (r_3 9), .ref (r_3 10), .ref (r_3 11), .ref (r_3 12), .ref (r_3 13), .ref (r_3 14), .ref (r_3 15), .int (v_4 1), .int (v_4 2), .int (v_4 3), .int (v_4 4), .int (v_4 5), .int (v_4 6), .int (v_4 7), .ref (r_3 16), .int (v_4 8), .ref (r_3 17), .int (v_4 9), .ref (r_3 18), .long q_5, .ref (r_3 19), .ref (r_3 20), .int (v_4 10), .int (v_4 11), .int (v_4 12), .ref (r_3 21), .ref (r_3 22), .int (v_4 13), .ref (r_3 23), .int (v_4 14), .int (v_4 15), .ref (r_3 24), .ref (r_3 25), .ref (r_3 26), .ref (r_3 27), .ref (r_3 28), .ref (r_3 29), .ref (r_3 30), .ref (r_3 31)])))) H := hP
      generalize hfe : va_up f o (.inr (12, [.ref (r_3 0), .ref (r_3 1), .int p0, .ref (r_3 2), .ref (r_3 3), .ref (r_3 4), .ref (r_3 5), .ref (r_3 6), .ref (r_3 7), .ref (r_3 8), .ref (r_3 9), .ref (r_3 10), .ref (r_3 11), .ref (r_3 12), .ref (r_3 13), .ref (r_3 14), .ref (r_3 15), .int (v_4 1), .int (v_4 2), .int (v_4 3), .int (v_4 4), .int (v_4 5), .int (v_4 6), .int (v_4 7), .ref (r_3 16), .int (v_4 8), .ref (r_3 17), .int (v_4 9), .ref (r_3 18), .long q_5, .ref (r_3 19), .ref (r_3 20), .int (v_4 10), .int (v_4 11), .int (v_4 12), .ref (r_3 21), .ref (r_3 22), .int (v_4 13), .ref (r_3 23), .int (v_4 14), .int (v_4 15), .ref (r_3 24), .ref (r_3 25), .ref (r_3 26), .ref (r_3 27), .ref (r_3 28), .ref (r_3 29), .ref (r_3 30), .ref (r_3 31)])) = f_12 at hP hI9 hfr9
      have hD : va_D A (va_pl L f_12) := tp_D hL hAL
      have hf_13 : f_12 o = .inr (12, [.ref (r_3 0), .ref (r_3 1), .int p0, .ref (r_3 2), .ref (r_3 3), .ref (r_3 4), .ref (r_3 5), .ref (r_3 6), .ref (r_3 7), .ref (r_3 8), .ref (r_3 9), .ref (r_3 10), .ref (r_3 11), .ref (r_3 12), .ref (r_3 13), .ref (r_3 14), .ref (r_3 15), .int (v_4 1), .int (v_4 2), .int (v_4 3), .int (v_4 4), .int (v_4 5), .int (v_4 6), .int (v_4 7), .ref (r_3 16), .int (v_4 8), .ref (r_3 17), .int (v_4 9), .ref (r_3 18), .long q_5, .ref (r_3 19), .ref (r_3 20), .int (v_4 10), .int (v_4 11), .int (v_4 12), .ref (r_3 21), .ref (r_3 22), .int (v_4 13), .ref (r_3 23), .int (v_4 14), .int (v_4 15), .ref (r_3 24), .ref (r_3 25), .ref (r_3 26), .ref (r_3 27), .ref (r_3 28), .ref (r_3 29), .ref (r_3 30), .ref (r_3 31)]) := by rw [← hfe]; exact va_up_self _ _ _
      clear hfe
      have hI := hI9
      have hfr := hfr9
      clear hI9 hfr9
      have hgr : ∀ κ : tk_K, κ.1 ∉ ([39] : List Nat) → Γ_10 κ = Γ κ := tg_fr hgr eΓ_10 (by decide)
      have hx_14 : p0.toInt = Γ_10 (39, 0, 0) 0 := hv_11 0 (by decide)
      refine lv_iload_n hx hb dX12_end_19 rfl (lv_at hl 1 rfl) ?_
      have hpo9 : 0 ≤ Γ_10 (39, 0, 0) 0 ∧ Γ_10 (39, 0, 0) 0 ≤ 400 := ⟨(by omega), (by omega)⟩
      exact W.iret (v := p0) hx hb hr (fun t ht hW => ⟨⟨_, (f_12, Γ_10), rfl, hpo9, by rw [ht]; exact hP, hI, hfr, hgr⟩, hS.F ht⟩) hS.2.2 dX12_end_20
    · have c_9 : (v_4 0).toInt < p0.toInt := tl_nle c_9
      refine lv_iconst (v := (-1)) hx hb dX12_end_12 (by decide) ?_
      have hpo9 : 0 ≤ Γ (39, 0, 0) 0 ∧ Γ (39, 0, 0) 0 ≤ 400 := ⟨(by omega), (by omega)⟩
      exact W.iret (v := (-1)) hx hb hr (fun t ht hW => ⟨⟨_, (f, Γ), rfl, hpo9, by rw [ht]; exact hP, hI, hfr, hgr⟩, hS.F ht⟩) hS.2.2 dX12_end_13
set_option maxHeartbeats 4000000 in
set_option maxRecDepth 100000 in
theorem r_X12_depthOf (l : Launch) (D : va_G) (cy : Nat → ClassId) (sz : Nat) (L : List Nat) (K : Nat → tk_K) (Γ : tk_G) (f : Nat → va_E) (o : Nat) (p0 : Int32) (p1 : Int32) (ho : tp_r L K 39 (0) 0 o) (hs : (0 ≤ Γ (40, 7666, 0) 1 ∧ Γ (40, 7666, 0) 1 ≤ 24) ∧ (0 ≤ Γ (40, 7666, 0) 2 ∧ Γ (40, 7666, 0) 2 ≤ 40) ∧ (0 ≤ Γ (40, 7666, 0) 3 ∧ Γ (40, 7666, 0) 3 ≤ 60) ∧ (0 ≤ Γ (40, 7666, 0) 4 ∧ Γ (40, 7666, 0) 4 ≤ 10) ∧ (0 ≤ Γ (40, 7666, 0) 7665 ∧ Γ (40, 7666, 0) 7665 ≤ 8)) : Met l yX12_depthOf (tl_w yX12_depthOf cX12_depthOf 4 (some .int)) ({ frames := 1, cells := 0, slots := 0, locals := 22 }) (va_Pc [.ref o, .int p0, .int p1] (tp_P D cy L K Γ f sz)) (vp_Si (fun r : Int32 => True)) 0 0 (fun _ => False) := by
  refine Met.ofW (cc := cX12_depthOf) (maxL := 4) (ret := (some .int)) (by decide) rfl ?_
  intro p e s m args below meth c s₁ B hml hv
  obtain ⟨rfl, hsz, hP, hK, hL, hI, hN, hU⟩ := hv
  have hx := B.exec
  have hb := B.bytes
  have hr := B.returns
  have hta := tl_hta (atoms_spec (ws := tl_w yX12_depthOf cX12_depthOf 4 (some .int)) B.pre)
  have hown : s.vm.findClass RX12 = some m.cls := findClass_of_methodNamed B.named
  have hlocks := B.notSynchronized
  subst hsz
  have hI0 := hI
  have hl := lv_entry ([.ref o, .int p0, .int p1]) (n := 4) (Nat.le_of_ble_eq_true rfl)
  rw [lg_entry_eq]
  generalize (lg_sl ([.ref o, .int p0, .int p1]) ++ List.replicate (4 - (lg_sl ([.ref o, .int p0, .int p1])).length) Slot.unset).toArray = ls at hl ⊢
  have hl : lv_has ls 4 [(0, .ref o), (1, .int p0), (2, .int p1)] := hl
  refine lv_iconst (v := 0) hx hb dX12_depthOf_0 (by decide) ?_
  refine lv_istore_n (lv' := [(3, .int 0), (0, .ref o), (1, .int p0), (2, .int p1)]) hx hb dX12_depthOf_1 rfl hl (by decide) rfl (fun ls hl => ?_)
  refine tl_indR (G := fun ls => W p l e ((headSpec (tl_w yX12_depthOf cX12_depthOf 4 (some .int)) ({ frames := 1, cells := 0, slots := 0, locals := 22 })).room) s m #[.ref o, .int p0, .int p1] below meth c s.heap [] 0 0 (MQ below (vp_Si (fun r : Int32 => True)) #[.ref o, .int p0, .int p1] s 0 0 (fun _ => False)) (F0 m 2 ls [])) (α := Int32) (fun aq => (60 - aq.toInt).toNat) (fun aq ls => (0 ≤ aq.toInt) ∧ (aq.toInt ≤ 60) ∧ lv_has ls 4 [(3, .int aq), (0, .ref o), (1, .int p0), (2, .int p1)]) ?_ (0 : Int32) ls ⟨(show 0 ≤ (0 : Int) from (by omega)), (show (0 : Int) ≤ 60 from (by omega)), lv_sub hl [0, 1, 2, 3] rfl⟩
  rintro v3 ls ⟨h0, h1, hl⟩ ih2
  have h0 : 0 ≤ v3.toInt := h0
  have h1 : v3.toInt ≤ 60 := h1
  have hl : lv_has ls 4 [(3, .int v3), (0, .ref o), (1, .int p0), (2, .int p1)] := hl
  refine lv_iload_n hx hb dX12_depthOf_2 rfl (lv_at hl 0 rfl) ?_
  refine lv_aload_n hx hb dX12_depthOf_3 rfl (lv_at hl 1 rfl) ?_
  obtain ⟨r_2, v_3, q_4, hf_1, hr_5, hv_6⟩ := (show tp_o_M L K 0 0 (Γ (39, 0, 0)) (f o) from hI0.at ho)
  refine tp_get (cy := cy) (ci := 12) (v := .ref (r_2 0)) (C := RX12) (T := TX12) (N := 49) hx hb hta inlX12 hown hK hP ho.1 hf_1 rfl 0 (by decide) (hta _ wk_149) (fun _ h9 => h9) rfl dX12_depthOf_4 ?_
  refine lv_iconst (v := 3) hx hb dX12_depthOf_7 (by decide) ?_
  obtain ⟨g_8, hf_7, hg_9⟩ := (show tp_gi cy (7666) (Γ (40, 7666, 0)) (f (r_2 0)) from hI0.at (show tp_r L K 40 7666 0 (r_2 0) from hr_5 0 (by decide)))
  have hn_10 : vp_in 3 (7666) := tl_in (by decide) (by decide)
  refine tp_iald (cy := cy) hx hb hK hP (show tp_r L K 40 7666 0 (r_2 0) from hr_5 0 (by decide)).1 hf_7 hn_10 dX12_depthOf_8 ?_
  refine lv_topi (fun z_11 ez_11 => ?_)
  have iz_11 : z_11.toInt = Γ (40, 7666, 0) 3 := by rw [ez_11]; exact hg_9 _ (tp_pin hn_10)
  refine lv_icmp_ge (tgt := 45) hx hb dX12_depthOf_9 (by decide) (fun c_12 => ?_) (fun c_12 => ?_)
  · have c_12 : z_11.toInt ≤ v3.toInt := tl_le c_12
    refine lv_iconst (v := 0) hx hb dX12_depthOf_45 (by decide) ?_
    exact W.iret (v := 0) hx hb hr (fun t ht hW => ⟨_, rfl, trivial, ht⟩) (fun q h => by cases h) dX12_depthOf_46
  · have c_12 : v3.toInt < z_11.toInt := tl_nle c_12
    refine lv_aload_n hx hb dX12_depthOf_12 rfl (lv_at hl 1 rfl) ?_
    refine lv_iload_n hx hb dX12_depthOf_13 rfl (lv_at hl 0 rfl) ?_
    refine lv_iconst (v := 0) hx hb dX12_depthOf_14 (by decide) ?_
    refine tl_si (tq_rV (As := [.int v3, .int 0]) (rest := []) ⟨hx, hb, hml, hown, hta⟩ (tp_P.pre hK hN hL hU hI hP) (tp_recv hK hP ho.1 hf_1 rfl) lk_X12_143 (r_X12_lineOf l D cy s.heap.size L K Γ f o v3 0 ho (by first | omega | (simp only [Int32.toInt_toInt64]; omega) | decide | assumption) (by first | omega | (simp only [Int32.toInt_toInt64]; omega) | decide | assumption)) rfl rfl ⟨Nat.le_of_ble_eq_true rfl, Nat.le_of_ble_eq_true rfl⟩ rfl hl.1 rfl (Nat.le_of_ble_eq_true rfl) dX12_depthOf_15 ⟨Nat.le_of_ble_eq_true rfl, Nat.le_of_ble_eq_true rfl⟩) (fun r_14 hw_13 => ?_)
    have hw_13 : r_14.toInt = Γ (40, 7666, 0) (241 + 3 * v3.toInt + (0 : Int)).toNat := hw_13
    refine lv_iload_n hx hb dX12_depthOf_18 rfl (lv_at hl 2 rfl) ?_
    refine lv_icmp_ne (tgt := 39) hx hb dX12_depthOf_19 (by decide) (fun c_15 => ?_) (fun c_15 => ?_)
    · have c_15 : ¬ r_14.toInt = p0.toInt := tl_neq c_15
      obtain ⟨z_16, ez_16⟩ : ∃ y : Int32, y = v3 + 1 := ⟨_, rfl⟩
      refine lv_iinc (v := z_16) (lv' := [(3, .int z_16), (0, .ref o), (1, .int p0), (2, .int p1)]) hx hb dX12_depthOf_39 hl (k := 0) rfl (by rw [ez_16]; rfl) (by decide) rfl (fun ls hl => ?_)
      try have iz_16 : z_16.toInt = v3.toInt + 1 := by rw [ez_16]; exact tl_addL v3 1 (by decide) (by omega) (by omega)
      refine lv_goto (tgt := 2) hx hb dX12_depthOf_42 (by decide) ?_
      exact ih2 z_16 ls (by show (60 - z_16.toInt).toNat < (60 - v3.toInt).toNat; omega) ⟨(show 0 ≤ z_16.toInt from (by omega)), (show z_16.toInt ≤ 60 from (by omega)), lv_sub hl [0, 1, 2, 3] rfl⟩
    · have c_15 : r_14.toInt = p0.toInt := tl_eq c_15
      refine lv_aload_n hx hb dX12_depthOf_22 rfl (lv_at hl 1 rfl) ?_
      refine lv_iload_n hx hb dX12_depthOf_23 rfl (lv_at hl 0 rfl) ?_
      refine lv_iconst (v := 1) hx hb dX12_depthOf_24 (by decide) ?_
      refine tl_si (tq_rV (As := [.int v3, .int 1]) (rest := []) ⟨hx, hb, hml, hown, hta⟩ (tp_P.pre hK hN hL hU hI hP) (tp_recv hK hP ho.1 hf_1 rfl) lk_X12_143 (r_X12_lineOf l D cy s.heap.size L K Γ f o v3 1 ho (by first | omega | (simp only [Int32.toInt_toInt64]; omega) | decide | assumption) (by first | omega | (simp only [Int32.toInt_toInt64]; omega) | decide | assumption)) rfl rfl ⟨Nat.le_of_ble_eq_true rfl, Nat.le_of_ble_eq_true rfl⟩ rfl hl.1 rfl (Nat.le_of_ble_eq_true rfl) dX12_depthOf_25 ⟨Nat.le_of_ble_eq_true rfl, Nat.le_of_ble_eq_true rfl⟩) (fun r_18 hw_17 => ?_)
      have hw_17 : r_18.toInt = Γ (40, 7666, 0) (241 + 3 * v3.toInt + (1 : Int)).toNat := hw_17
      refine lv_iload_n hx hb dX12_depthOf_28 rfl (lv_at hl 3 rfl) ?_
      refine lv_icmp_ne (tgt := 39) hx hb dX12_depthOf_29 (by decide) (fun c_19 => ?_) (fun c_19 => ?_)
      · have c_19 : ¬ r_18.toInt = p1.toInt := tl_neq c_19
        obtain ⟨z_20, ez_20⟩ : ∃ y : Int32, y = v3 + 1 := ⟨_, rfl⟩
        refine lv_iinc (v := z_20) (lv' := [(3, .int z_20), (0, .ref o), (1, .int p0), (2, .int p1)]) hx hb dX12_depthOf_39 hl (k := 0) rfl (by rw [ez_20]; rfl) (by decide) rfl (fun ls hl => ?_)
        try have iz_20 : z_20.toInt = v3.toInt + 1 := by rw [ez_20]; exact tl_addL v3 1 (by decide) (by omega) (by omega)
        refine lv_goto (tgt := 2) hx hb dX12_depthOf_42 (by decide) ?_
        exact ih2 z_20 ls (by show (60 - z_20.toInt).toNat < (60 - v3.toInt).toNat; omega) ⟨(show 0 ≤ z_20.toInt from (by omega)), (show z_20.toInt ≤ 60 from (by omega)), lv_sub hl [0, 1, 2, 3] rfl⟩
      · have c_19 : r_18.toInt = p1.toInt := tl_eq c_19
        refine lv_aload_n hx hb dX12_depthOf_32 rfl (lv_at hl 1 rfl) ?_
        refine lv_iload_n hx hb dX12_depthOf_33 rfl (lv_at hl 0 rfl) ?_
        refine lv_iconst (v := 2) hx hb dX12_depthOf_34 (by decide) ?_
        refine tl_si (tq_rV (As := [.int v3, .int 2]) (rest := []) ⟨hx, hb, hml, hown, hta⟩ (tp_P.pre hK hN hL hU hI hP) (tp_recv hK hP ho.1 hf_1 rfl) lk_X12_143 (r_X12_lineOf l D cy s.heap.size L K Γ f o v3 2 ho (by first | omega | (simp only [Int32.toInt_toInt64]; omega) | decide | assumption) (by first | omega | (simp only [Int32.toInt_toInt64]; omega) | decide | assumption)) rfl rfl ⟨Nat.le_of_ble_eq_true rfl, Nat.le_of_ble_eq_true rfl⟩ rfl hl.1 rfl (Nat.le_of_ble_eq_true rfl) dX12_depthOf_35 ⟨Nat.le_of_ble_eq_true rfl, Nat.le_of_ble_eq_true rfl⟩) (fun r_22 hw_21 => ?_)
        have hw_21 : r_22.toInt = Γ (40, 7666, 0) (241 + 3 * v3.toInt + (2 : Int)).toNat := hw_21
        exact W.iret (v := r_22) hx hb hr (fun t ht hW => ⟨_, rfl, trivial, ht⟩) (fun q h => by cases h) dX12_depthOf_38
set_option maxHeartbeats 4000000 in
set_option maxRecDepth 100000 in
theorem r_X12_words (l : Launch) (D : va_G) (cy : Nat → ClassId) (sz : Nat) (L : List Nat) (K : Nat → tk_K) (Γ : tk_G) (f : Nat → va_E) (o : Nat) (p0 : Int32) (p1 : Int32) (ho : tp_r L K 39 (0) 0 o) (h0 : 0 ≤ p0.toInt ∧ p0.toInt ≤ 23) : Met l yX12_words (tl_w yX12_words cX12_words 3 none) ({ frames := 1, cells := 0, slots := 0, locals := 22 }) (va_Pc [.ref o, .int p0, .int p1] (tp_P D cy L K Γ f sz)) (va_Qv (fun (u : (Nat → va_E) × tk_G) => True) (tp_BG D cy L K Γ f [58]) (tp_A L sz)) 0 0 (tp_A L sz) := by
  refine Met.ofW (cc := cX12_words) (maxL := 3) (ret := none) (by decide) rfl ?_
  intro p e s m args below meth c s₁ B hml hv
  obtain ⟨rfl, hsz, hP, hK, hL, hI, hN, hU⟩ := hv
  have hx := B.exec
  have hb := B.bytes
  have hr := B.returns
  have hta := tl_hta (atoms_spec (ws := tl_w yX12_words cX12_words 3 none) B.pre)
  have hown : s.vm.findClass RX12 = some m.cls := findClass_of_methodNamed B.named
  have hlocks := B.notSynchronized
  subst hsz
  have hI0 := hI
  generalize hAe : tp_A L s.heap.size = A
  have hA : ∀ q : Nat, s.heap.size ≤ q → A q := fun q h => by rw [← hAe]; exact Or.inr h
  have hAL : ∀ q ∈ L, A q := fun q h => by rw [← hAe]; exact Or.inl h
  have hAf : ∀ (H : Heap), s.heap.size ≤ H.size → ∀ q, tp_A L H.size q → A q := fun H h q hq => hq.elim (hAL q) (fun h2 => hA q (Nat.le_trans h h2))
  have hS : va_S A s.heap s.heap [] := va_S.rf
  have hD : va_D A (va_pl L f) := tp_D hL hAL
  have hfr : ∀ b, (K b).1 ∉ ([58] : List Nat) → f b = f b := fun _ _ => rfl
  have hgr : ∀ κ : tk_K, κ.1 ∉ ([58] : List Nat) → Γ κ = Γ κ := fun _ _ => rfl
  have hl := lv_entry ([.ref o, .int p0, .int p1]) (n := 3) (Nat.le_of_ble_eq_true rfl)
  rw [lg_entry_eq]
  generalize (lg_sl ([.ref o, .int p0, .int p1]) ++ List.replicate (3 - (lg_sl ([.ref o, .int p0, .int p1])).length) Slot.unset).toArray = ls at hl ⊢
  have hl : lv_has ls 3 [(0, .ref o), (1, .int p0), (2, .int p1)] := hl
  refine lv_aload_n hx hb dX12_words_0 rfl (lv_at hl 0 rfl) ?_
  obtain ⟨r_2, v_3, q_4, hf_1, hr_5, hv_6⟩ := (show tp_o_M L K 0 0 (Γ (39, 0, 0)) (f o) from hI0.at ho)
  refine tp_get (cy := cy) (ci := 12) (v := .ref (r_2 18)) (C := RX12) (T := TX12) (N := 49) hx hb hta inlX12 hown hK hP ho.1 hf_1 rfl 28 (by decide) (hta _ wk_168) (fun _ h9 => h9) rfl dX12_words_1 ?_
  refine lv_iconst (v := 0) hx hb dX12_words_4 (by decide) ?_
  refine lv_iload_n hx hb dX12_words_5 rfl (lv_at hl 2 rfl) ?_
  refine lv_i2l (v := p1.toInt64) hx hb dX12_words_6 (by first | rfl | decide) ?_
  obtain ⟨g_8, hf_7⟩ := (show tp_aj cy (5) (f (r_2 18)) from hI.at (show tp_r L K 58 5 0 (r_2 18) from hr_5 18 (by decide)))
  have hn_10 : vp_in 0 (5) := tl_in (by decide) (by decide)
  have hI9 : tp_I cy L K Γ (va_up f (r_2 18) (.inl (cy 1, 5, .inr (.inl (vp_updL g_8 (0 : Int32).toNatClampNeg p1.toInt64))))) := hI.set (show tp_r L K 58 5 0 (r_2 18) from hr_5 18 (by decide)) (show tp_aj cy (5) _ from ⟨_, rfl⟩)
  have hfr9 : ∀ b, (K b).1 ∉ ([58] : List Nat) → va_up f (r_2 18) (.inl (cy 1, 5, .inr (.inl (vp_updL g_8 (0 : Int32).toNatClampNeg p1.toInt64)))) b = f b := tp_fr hfr (show tp_r L K 58 5 0 (r_2 18) from hr_5 18 (by decide)) (by decide)
  refine tp_last (cy := cy) hx hb hK hP hD hS (show tp_r L K 58 5 0 (r_2 18) from hr_5 18 (by decide)).1 hf_7 hn_10 dX12_words_7 (fun H locs hP hD hS => ?_)
  have hP : va_P D vwCl (va_pl L (va_up f (r_2 18) (.inl (cy 1, 5, .inr (.inl (vp_updL g_8 (0 : Int32).toNatClampNeg p1.toInt64)))))) H := hP
  generalize hfe : va_up f (r_2 18) (.inl (cy 1, 5, .inr (.inl (vp_updL g_8 (0 : Int32).toNatClampNeg p1.toInt64)))) = f_11 at hP hI9 hfr9
  have hD : va_D A (va_pl L f_11) := tp_D hL hAL
  have hf_12 : f_11 (r_2 18) = .inl (cy 1, 5, .inr (.inl (vp_updL g_8 (0 : Int32).toNatClampNeg p1.toInt64))) := by rw [← hfe]; exact va_up_self _ _ _
  clear hfe
  have hI := hI9
  have hfr := hfr9
  clear hI9 hfr9
  refine lv_aload_n hx hb dX12_words_8 rfl (lv_at hl 0 rfl) ?_
  refine tp_get (cy := cy) (ci := 12) (v := .ref (r_2 18)) (C := RX12) (T := TX12) (N := 49) hx hb hta inlX12 hown hK hP ho.1 ((tp_un hfr ho (by decide)).trans hf_1) rfl 28 (by decide) (hta _ wk_168) (fun _ h9 => h9) rfl dX12_words_9 ?_
  refine lv_iconst (v := 1) hx hb dX12_words_12 (by decide) ?_
  refine lv_aload_n hx hb dX12_words_13 rfl (lv_at hl 0 rfl) ?_
  refine lv_iload_n hx hb dX12_words_14 rfl (lv_at hl 1 rfl) ?_
  refine lv_iconst (v := 0) hx hb dX12_words_15 (by decide) ?_
  refine tl_si (tq_rV (As := [.int p0, .int 0]) (rest := [.int 1, .ref (r_2 18)]) ⟨hx, hb, hml, hown, hta⟩ (tp_P.pre hK hN hL hU hI hP) (tp_recv hK hP ho.1 ((tp_un hfr ho (by decide)).trans hf_1) rfl) lk_X12_132 (r_X12_rowOf l D cy H.size L K Γ f_11 o p0 0 ho (by first | omega | (simp only [Int32.toInt_toInt64]; omega) | decide | assumption) (by first | omega | (simp only [Int32.toInt_toInt64]; omega) | decide | assumption)) rfl rfl ⟨Nat.le_of_ble_eq_true rfl, Nat.le_of_ble_eq_true rfl⟩ rfl hl.1 rfl (Nat.le_of_ble_eq_true rfl) dX12_words_16 ⟨Nat.le_of_ble_eq_true rfl, Nat.le_of_ble_eq_true rfl⟩) (fun r_14 hw_13 => ?_)
  have hw_13 : r_14.toInt = Γ (40, 7666, 0) (9 + 3 * p0.toInt + (0 : Int)).toNat := hw_13
  refine lv_i2l (v := r_14.toInt64) hx hb dX12_words_19 (by first | rfl | decide) ?_
  obtain ⟨g_16, hf_15⟩ := (show tp_aj cy (5) (f_11 (r_2 18)) from hI.at (show tp_r L K 58 5 0 (r_2 18) from hr_5 18 (by decide)))
  have hn_18 : vp_in 1 (5) := tl_in (by decide) (by decide)
  have hI9 : tp_I cy L K Γ (va_up f_11 (r_2 18) (.inl (cy 1, 5, .inr (.inl (vp_updL g_16 (1 : Int32).toNatClampNeg r_14.toInt64))))) := hI.set (show tp_r L K 58 5 0 (r_2 18) from hr_5 18 (by decide)) (show tp_aj cy (5) _ from ⟨_, rfl⟩)
  have hfr9 : ∀ b, (K b).1 ∉ ([58] : List Nat) → va_up f_11 (r_2 18) (.inl (cy 1, 5, .inr (.inl (vp_updL g_16 (1 : Int32).toNatClampNeg r_14.toInt64)))) b = f b := tp_fr hfr (show tp_r L K 58 5 0 (r_2 18) from hr_5 18 (by decide)) (by decide)
  refine tp_last (cy := cy) hx hb hK hP hD hS (show tp_r L K 58 5 0 (r_2 18) from hr_5 18 (by decide)).1 hf_15 hn_18 dX12_words_20 (fun H locs hP hD hS => ?_)
  have hP : va_P D vwCl (va_pl L (va_up f_11 (r_2 18) (.inl (cy 1, 5, .inr (.inl (vp_updL g_16 (1 : Int32).toNatClampNeg r_14.toInt64)))))) H := hP
  generalize hfe : va_up f_11 (r_2 18) (.inl (cy 1, 5, .inr (.inl (vp_updL g_16 (1 : Int32).toNatClampNeg r_14.toInt64)))) = f_19 at hP hI9 hfr9
  have hD : va_D A (va_pl L f_19) := tp_D hL hAL
  have hf_20 : f_19 (r_2 18) = .inl (cy 1, 5, .inr (.inl (vp_updL g_16 (1 : Int32).toNatClampNeg r_14.toInt64))) := by rw [← hfe]; exact va_up_self _ _ _
  clear hfe
  have hI := hI9
  have hfr := hfr9
  clear hI9 hfr9
  refine lv_aload_n hx hb dX12_words_21 rfl (lv_at hl 0 rfl) ?_
  refine tp_get (cy := cy) (ci := 12) (v := .ref (r_2 18)) (C := RX12) (T := TX12) (N := 49) hx hb hta inlX12 hown hK hP ho.1 ((tp_un hfr ho (by decide)).trans hf_1) rfl 28 (by decide) (hta _ wk_168) (fun _ h9 => h9) rfl dX12_words_22 ?_
  refine lv_iconst (v := 2) hx hb dX12_words_25 (by decide) ?_
  refine lv_aload_n hx hb dX12_words_26 rfl (lv_at hl 0 rfl) ?_
  refine lv_iload_n hx hb dX12_words_27 rfl (lv_at hl 1 rfl) ?_
  refine lv_iconst (v := 1) hx hb dX12_words_28 (by decide) ?_
  refine tl_si (tq_rV (As := [.int p0, .int 1]) (rest := [.int 2, .ref (r_2 18)]) ⟨hx, hb, hml, hown, hta⟩ (tp_P.pre hK hN hL hU hI hP) (tp_recv hK hP ho.1 ((tp_un hfr ho (by decide)).trans hf_1) rfl) lk_X12_132 (r_X12_rowOf l D cy H.size L K Γ f_19 o p0 1 ho (by first | omega | (simp only [Int32.toInt_toInt64]; omega) | decide | assumption) (by first | omega | (simp only [Int32.toInt_toInt64]; omega) | decide | assumption)) rfl rfl ⟨Nat.le_of_ble_eq_true rfl, Nat.le_of_ble_eq_true rfl⟩ rfl hl.1 rfl (Nat.le_of_ble_eq_true rfl) dX12_words_29 ⟨Nat.le_of_ble_eq_true rfl, Nat.le_of_ble_eq_true rfl⟩) (fun r_22 hw_21 => ?_)
  have hw_21 : r_22.toInt = Γ (40, 7666, 0) (9 + 3 * p0.toInt + (1 : Int)).toNat := hw_21
  refine lv_i2l (v := r_22.toInt64) hx hb dX12_words_32 (by first | rfl | decide) ?_
  obtain ⟨g_24, hf_23⟩ := (show tp_aj cy (5) (f_19 (r_2 18)) from hI.at (show tp_r L K 58 5 0 (r_2 18) from hr_5 18 (by decide)))
  have hn_26 : vp_in 2 (5) := tl_in (by decide) (by decide)
  have hI9 : tp_I cy L K Γ (va_up f_19 (r_2 18) (.inl (cy 1, 5, .inr (.inl (vp_updL g_24 (2 : Int32).toNatClampNeg r_22.toInt64))))) := hI.set (show tp_r L K 58 5 0 (r_2 18) from hr_5 18 (by decide)) (show tp_aj cy (5) _ from ⟨_, rfl⟩)
  have hfr9 : ∀ b, (K b).1 ∉ ([58] : List Nat) → va_up f_19 (r_2 18) (.inl (cy 1, 5, .inr (.inl (vp_updL g_24 (2 : Int32).toNatClampNeg r_22.toInt64)))) b = f b := tp_fr hfr (show tp_r L K 58 5 0 (r_2 18) from hr_5 18 (by decide)) (by decide)
  refine tp_last (cy := cy) hx hb hK hP hD hS (show tp_r L K 58 5 0 (r_2 18) from hr_5 18 (by decide)).1 hf_23 hn_26 dX12_words_33 (fun H locs hP hD hS => ?_)
  have hP : va_P D vwCl (va_pl L (va_up f_19 (r_2 18) (.inl (cy 1, 5, .inr (.inl (vp_updL g_24 (2 : Int32).toNatClampNeg r_22.toInt64)))))) H := hP
  generalize hfe : va_up f_19 (r_2 18) (.inl (cy 1, 5, .inr (.inl (vp_updL g_24 (2 : Int32).toNatClampNeg r_22.toInt64)))) = f_27 at hP hI9 hfr9
  have hD : va_D A (va_pl L f_27) := tp_D hL hAL
  have hf_28 : f_27 (r_2 18) = .inl (cy 1, 5, .inr (.inl (vp_updL g_24 (2 : Int32).toNatClampNeg r_22.toInt64))) := by rw [← hfe]; exact va_up_self _ _ _
  clear hfe
  have hI := hI9
  have hfr := hfr9
  clear hI9 hfr9
  refine lv_aload_n hx hb dX12_words_34 rfl (lv_at hl 0 rfl) ?_
  refine tp_get (cy := cy) (ci := 12) (v := .ref (r_2 18)) (C := RX12) (T := TX12) (N := 49) hx hb hta inlX12 hown hK hP ho.1 ((tp_un hfr ho (by decide)).trans hf_1) rfl 28 (by decide) (hta _ wk_168) (fun _ h9 => h9) rfl dX12_words_35 ?_
  refine lv_iconst (v := 3) hx hb dX12_words_38 (by decide) ?_
  refine lv_iload_n hx hb dX12_words_39 rfl (lv_at hl 1 rfl) ?_
  refine lv_i2l (v := p0.toInt64) hx hb dX12_words_40 (by first | rfl | decide) ?_
  obtain ⟨g_30, hf_29⟩ := (show tp_aj cy (5) (f_27 (r_2 18)) from hI.at (show tp_r L K 58 5 0 (r_2 18) from hr_5 18 (by decide)))
  have hn_32 : vp_in 3 (5) := tl_in (by decide) (by decide)
  have hI9 : tp_I cy L K Γ (va_up f_27 (r_2 18) (.inl (cy 1, 5, .inr (.inl (vp_updL g_30 (3 : Int32).toNatClampNeg p0.toInt64))))) := hI.set (show tp_r L K 58 5 0 (r_2 18) from hr_5 18 (by decide)) (show tp_aj cy (5) _ from ⟨_, rfl⟩)
  have hfr9 : ∀ b, (K b).1 ∉ ([58] : List Nat) → va_up f_27 (r_2 18) (.inl (cy 1, 5, .inr (.inl (vp_updL g_30 (3 : Int32).toNatClampNeg p0.toInt64)))) b = f b := tp_fr hfr (show tp_r L K 58 5 0 (r_2 18) from hr_5 18 (by decide)) (by decide)
  refine tp_last (cy := cy) hx hb hK hP hD hS (show tp_r L K 58 5 0 (r_2 18) from hr_5 18 (by decide)).1 hf_29 hn_32 dX12_words_41 (fun H locs hP hD hS => ?_)
  have hP : va_P D vwCl (va_pl L (va_up f_27 (r_2 18) (.inl (cy 1, 5, .inr (.inl (vp_updL g_30 (3 : Int32).toNatClampNeg p0.toInt64)))))) H := hP
  generalize hfe : va_up f_27 (r_2 18) (.inl (cy 1, 5, .inr (.inl (vp_updL g_30 (3 : Int32).toNatClampNeg p0.toInt64)))) = f_33 at hP hI9 hfr9
  have hD : va_D A (va_pl L f_33) := tp_D hL hAL
  have hf_34 : f_33 (r_2 18) = .inl (cy 1, 5, .inr (.inl (vp_updL g_30 (3 : Int32).toNatClampNeg p0.toInt64))) := by rw [← hfe]; exact va_up_self _ _ _
  clear hfe
  have hI := hI9
  have hfr := hfr9
  clear hI9 hfr9
  exact W.vret hx hb hr (fun t ht hW => ⟨⟨(f_33, Γ), rfl, trivial, by rw [ht]; exact hP, hI, hfr, hgr⟩, hS.F ht⟩) hS.2.2 dX12_words_42
set_option maxHeartbeats 4000000 in
set_option maxRecDepth 100000 in
theorem r_X12_push (l : Launch) (D : va_G) (cy : Nat → ClassId) (sz : Nat) (L : List Nat) (K : Nat → tk_K) (Γ : tk_G) (f : Nat → va_E) (o : Nat) (p0 : Int64) (ho : tp_r L K 39 (0) 0 o) (h9 : 0 ≤ Γ (39, 0, 0) 9 ∧ Γ (39, 0, 0) 9 < 64) : Met l yX12_push (tl_w yX12_push cX12_push 3 none) ({ frames := 0, cells := 0, slots := 0, locals := 0 }) (va_Pc [.ref o, .long p0] (tp_P D cy L K Γ f sz)) (va_Qv (fun (u : (Nat → va_E) × tk_G) => u.2 (39, 0, 0) 9 = Γ (39, 0, 0) 9 + 1 ∧ u.2 (39, 0, 0) 0 = Γ (39, 0, 0) 0 ∧ u.2 (39, 0, 0) 10 = Γ (39, 0, 0) 10 ∧ u.2 (39, 0, 0) 11 = Γ (39, 0, 0) 11 ∧ u.2 (39, 0, 0) 12 = Γ (39, 0, 0) 12 ∧ u.2 (39, 0, 0) 13 = Γ (39, 0, 0) 13 ∧ u.2 (39, 0, 0) 14 = Γ (39, 0, 0) 14 ∧ u.2 (39, 0, 0) 15 = Γ (39, 0, 0) 15) (tp_BG D cy L K Γ f [39, 57]) (tp_A L sz)) 0 0 (tp_A L sz) := by
  refine Met.ofW (cc := cX12_push) (maxL := 3) (ret := none) (by decide) rfl ?_
  intro p e s m args below meth c s₁ B hml hv
  obtain ⟨rfl, hsz, hP, hK, hL, hI, hN, hU⟩ := hv
  have hx := B.exec
  have hb := B.bytes
  have hr := B.returns
  have hta := tl_hta (atoms_spec (ws := tl_w yX12_push cX12_push 3 none) B.pre)
  have hown : s.vm.findClass RX12 = some m.cls := findClass_of_methodNamed B.named
  have hlocks := B.notSynchronized
  subst hsz
  have hI0 := hI
  generalize hAe : tp_A L s.heap.size = A
  have hA : ∀ q : Nat, s.heap.size ≤ q → A q := fun q h => by rw [← hAe]; exact Or.inr h
  have hAL : ∀ q ∈ L, A q := fun q h => by rw [← hAe]; exact Or.inl h
  have hAf : ∀ (H : Heap), s.heap.size ≤ H.size → ∀ q, tp_A L H.size q → A q := fun H h q hq => hq.elim (hAL q) (fun h2 => hA q (Nat.le_trans h h2))
  have hS : va_S A s.heap s.heap [] := va_S.rf
  have hD : va_D A (va_pl L f) := tp_D hL hAL
  have hfr : ∀ b, (K b).1 ∉ ([39, 57] : List Nat) → f b = f b := fun _ _ => rfl
  have hgr : ∀ κ : tk_K, κ.1 ∉ ([39, 57] : List Nat) → Γ κ = Γ κ := fun _ _ => rfl
  have hl := lv_entry ([.ref o, .long p0]) (n := 3) (Nat.le_of_ble_eq_true rfl)
  rw [lg_entry_eq]
  generalize (lg_sl ([.ref o, .long p0]) ++ List.replicate (3 - (lg_sl ([.ref o, .long p0])).length) Slot.unset).toArray = ls at hl ⊢
  have hl : lv_has ls 3 [(0, .ref o), (1, .long p0)] := hl
  refine lv_aload_n hx hb dX12_push_0 rfl (lv_at hl 0 rfl) ?_
  obtain ⟨r_2, v_3, q_4, hf_1, hr_5, hv_6⟩ := (show tp_o_M L K 0 0 (Γ (39, 0, 0)) (f o) from hI.at ho)
  have hx_7 : (v_3 0).toInt = Γ (39, 0, 0) 0 := hv_6 0 (by decide)
  have hx_8 : (v_3 9).toInt = Γ (39, 0, 0) 9 := hv_6 9 (by decide)
  have hx_9 : (v_3 10).toInt = Γ (39, 0, 0) 10 := hv_6 10 (by decide)
  have hx_10 : (v_3 11).toInt = Γ (39, 0, 0) 11 := hv_6 11 (by decide)
  have hx_11 : (v_3 12).toInt = Γ (39, 0, 0) 12 := hv_6 12 (by decide)
  have hx_12 : (v_3 13).toInt = Γ (39, 0, 0) 13 := hv_6 13 (by decide)
  have hx_13 : (v_3 14).toInt = Γ (39, 0, 0) 14 := hv_6 14 (by decide)
  have hx_14 : (v_3 15).toInt = Γ (39, 0, 0) 15 := hv_6 15 (by decide)
  refine tp_get (cy := cy) (ci := 12) (v := .ref (r_2 17)) (C := RX12) (T := TX12) (N := 49) hx hb hta inlX12 hown hK hP ho.1 hf_1 rfl 26 (by decide) (hta _ wk_167) (fun _ h9 => h9) rfl dX12_push_1 ?_
  refine lv_aload_n hx hb dX12_push_4 rfl (lv_at hl 0 rfl) ?_
  refine tp_get (cy := cy) (ci := 12) (v := .int (v_3 9)) (C := RX12) (T := TX12) (N := 49) hx hb hta inlX12 hown hK hP ho.1 hf_1 rfl 27 (by decide) (hta _ wk_803) (fun _ h9 => h9) rfl dX12_push_5 ?_
  refine lv_lload_n hx hb dX12_push_8 rfl (lv_at hl 1 rfl) ?_
  obtain ⟨g_16, hf_15⟩ := (show tp_aj cy (64) (f (r_2 17)) from hI.at (show tp_r L K 57 64 0 (r_2 17) from hr_5 17 (by decide)))
  have hn_18 : vp_in (v_3 9) (64) := tl_in (by omega) (by omega)
  have hI9 : tp_I cy L K Γ (va_up f (r_2 17) (.inl (cy 1, 64, .inr (.inl (vp_updL g_16 (v_3 9).toNatClampNeg p0))))) := hI.set (show tp_r L K 57 64 0 (r_2 17) from hr_5 17 (by decide)) (show tp_aj cy (64) _ from ⟨_, rfl⟩)
  have hfr9 : ∀ b, (K b).1 ∉ ([39, 57] : List Nat) → va_up f (r_2 17) (.inl (cy 1, 64, .inr (.inl (vp_updL g_16 (v_3 9).toNatClampNeg p0)))) b = f b := tp_fr hfr (show tp_r L K 57 64 0 (r_2 17) from hr_5 17 (by decide)) (by decide)
  refine tp_last (cy := cy) hx hb hK hP hD hS (show tp_r L K 57 64 0 (r_2 17) from hr_5 17 (by decide)).1 hf_15 hn_18 dX12_push_9 (fun H locs hP hD hS => ?_)
  have hP : va_P D vwCl (va_pl L (va_up f (r_2 17) (.inl (cy 1, 64, .inr (.inl (vp_updL g_16 (v_3 9).toNatClampNeg p0)))))) H := hP
  generalize hfe : va_up f (r_2 17) (.inl (cy 1, 64, .inr (.inl (vp_updL g_16 (v_3 9).toNatClampNeg p0)))) = f_19 at hP hI9 hfr9
  have hD : va_D A (va_pl L f_19) := tp_D hL hAL
  have hf_20 := (show f_19 o = _ from by rw [← hfe, va_up_ne _ _ (tp_ne ho (show tp_r L K 57 64 0 (r_2 17) from hr_5 17 (by decide)) (by decide))]).trans hf_1
  have hf_21 : f_19 (r_2 17) = .inl (cy 1, 64, .inr (.inl (vp_updL g_16 (v_3 9).toNatClampNeg p0))) := by rw [← hfe]; exact va_up_self _ _ _
  clear hfe
  have hI := hI9
  have hfr := hfr9
  clear hI9 hfr9
  refine lv_aload_n hx hb dX12_push_10 rfl (lv_at hl 0 rfl) ?_
  refine lv_dup hx hb dX12_push_11 rfl ?_
  refine tp_get (cy := cy) (ci := 12) (v := .int (v_3 9)) (C := RX12) (T := TX12) (N := 49) hx hb hta inlX12 hown hK hP ho.1 hf_20 rfl 27 (by decide) (hta _ wk_803) (fun _ h9 => h9) rfl dX12_push_12 ?_
  refine lv_iconst (v := 1) hx hb dX12_push_15 (by decide) ?_
  refine lv_iadd hx hb dX12_push_16 ?_
  refine lv_topi (fun z_22 ez_22 => ?_)
  try have iz_22 : z_22.toInt = (v_3 9).toInt + (1 : Int) := by rw [ez_22]; exact tl_addN (v_3 9) 1 rfl rfl (by omega) (by omega)
  obtain ⟨Γ_23, eΓ_23⟩ : ∃ y : tk_G, y = tg Γ (39, 0, 0) 9 z_22.toInt := ⟨_, rfl⟩
  have hv_24 : ∀ i : Nat, i < 16 → ((upd v_3 9 z_22) i).toInt = Γ_23 (39, 0, 0) i := by rw [eΓ_23, tg_f]; exact tp_gi_upd hv_6
  have hI9 : tp_I cy L K Γ_23 (va_up f_19 o (.inr (12, [.ref (r_2 0), .ref (r_2 1), .int (v_3 0), .ref (r_2 2), .ref (r_2 3), .ref (r_2 4), .ref (r_2 5), .ref (r_2 6), .ref (r_2 7), .ref (r_2 8), .ref (r_2 9), .ref (r_2 10), .ref (r_2 11), .ref (r_2 12), .ref (r_2 13), .ref (r_2 14), .ref (r_2 15), .int (v_3 1), .int (v_3 2), .int (v_3 3), .int (v_3 4), .int (v_3 5), .int (v_3 6), .int (v_3 7), .ref (r_2 16), .int (v_3 8), .ref (r_2 17), .int z_22, .ref (r_2 18), .long q_4, .ref (r_2 19), .ref (r_2 20), .int (v_3 10), .int (v_3 11), .int (v_3 12), .ref (r_2 21), .ref (r_2 22), .int (v_3 13), .ref (r_2 23), .int (v_3 14), .int (v_3 15), .ref (r_2 24), .ref (r_2 25), .ref (r_2 26), .ref (r_2 27), .ref (r_2 28), .ref (r_2 29), .ref (r_2 30), .ref (r_2 31)]))) := by have q9 := hv_24; rw [eΓ_23, tg_f] at q9; rw [eΓ_23]; exact hI.setg hU rfl ho (show tp_o_M L K 0 0 (tgu (Γ (39, 0, 0)) 9 z_22.toInt) _ from ⟨r_2, (upd v_3 9 z_22), q_4, rfl, hr_5, q9⟩)
  have hfr9 : ∀ b, (K b).1 ∉ ([39, 57] : List Nat) → va_up f_19 o (.inr (12, [.ref (r_2 0), .ref (r_2 1), .int (v_3 0), .ref (r_2 2), .ref (r_2 3), .ref (r_2 4), .ref (r_2 5), .ref (r_2 6), .ref (r_2 7), .ref (r_2 8), .ref (r_2 9), .ref (r_2 10), .ref (r_2 11), .ref (r_2 12), .ref (r_2 13), .ref (r_2 14), .ref (r_2 15), .int (v_3 1), .int (v_3 2), .int (v_3 3), .int (v_3 4), .int (v_3 5), .int (v_3 6), .int (v_3 7), .ref (r_2 16), .int (v_3 8), .ref (r_2 17), .int z_22, .ref (r_2 18), .long q_4, .ref (r_2 19), .ref (r_2 20), .int (v_3 10), .int (v_3 11), .int (v_3 12), .ref (r_2 21), .ref (r_2 22), .int (v_3 13), .ref (r_2 23), .int (v_3 14), .int (v_3 15), .ref (r_2 24), .ref (r_2 25), .ref (r_2 26), .ref (r_2 27), .ref (r_2 28), .ref (r_2 29), .ref (r_2 30), .ref (r_2 31)])) b = f b := tp_fr hfr ho (by decide)
  refine tp_put (cy := cy) (ci := 12) (v := .int z_22) (ty := tyX12 27) (C := RX12) (T := TX12) (N := 49) hx hb hta inlX12 tyX12 tyX12_ok nmX12 hown hK hP hD hS ho.1 hf_20 rfl 27 (by decide) (hta _ wk_803) (fun _ h9 => h9) rfl (tyX12_ok 27 (by decide)) rfl rfl (Nat.le_of_ble_eq_true rfl) dX12_push_17 (fun H locs hP hD hS => ?_)
  have hP : va_P D vwCl (va_pl L (va_up f_19 o (.inr (12, [.ref (r_2 0), .ref (r_2 1), .int (v_3 0), .ref (r_2 2), .ref (r_2 3), .ref (r_2 4), .ref (r_2 5), .ref (r_2 6), .ref (r_2 7), .ref (r_2 8), .ref (r_2 9), .ref (r_2 10), .ref (r_2 11), .ref (r_2 12), .ref (r_2 13), .ref (r_2 14), .ref (r_2 15), .int (v_3 1), .int (v_3 2), .int (v_3 3), .int (v_3 4), .int (v_3 5), .int (v_3 6), .int (v_3 7), .ref (r_2 16), .int (v_3 8), .ref (r_2 17), .int z_22, .ref (r_2 18), .long q_4, .ref (r_2 19), .ref (r_2 20), .int (v_3 10), .int (v_3 11), .int (v_3 12), .ref (r_2 21), .ref (r_2 22), .int (v_3 13), .ref (r_2 23), .int (v_3 14), .int (v_3 15), .ref (r_2 24), .ref (r_2 25), .ref (r_2 26), .ref (r_2 27), .ref (r_2 28), .ref (r_2 29), .ref (r_2 30), .ref (r_2 31)])))) H := hP
  generalize hfe : va_up f_19 o (.inr (12, [.ref (r_2 0), .ref (r_2 1), .int (v_3 0), .ref (r_2 2), .ref (r_2 3), .ref (r_2 4), .ref (r_2 5), .ref (r_2 6), .ref (r_2 7), .ref (r_2 8), .ref (r_2 9), .ref (r_2 10), .ref (r_2 11), .ref (r_2 12), .ref (r_2 13), .ref (r_2 14), .ref (r_2 15), .int (v_3 1), .int (v_3 2), .int (v_3 3), .int (v_3 4), .int (v_3 5), .int (v_3 6), .int (v_3 7), .ref (r_2 16), .int (v_3 8), .ref (r_2 17), .int z_22, .ref (r_2 18), .long q_4, .ref (r_2 19), .ref (r_2 20), .int (v_3 10), .int (v_3 11), .int (v_3 12), .ref (r_2 21), .ref (r_2 22), .int (v_3 13), .ref (r_2 23), .int (v_3 14), .int (v_3 15), .ref (r_2 24), .ref (r_2 25), .ref (r_2 26), .ref (r_2 27), .ref (r_2 28), .ref (r_2 29), .ref (r_2 30), .ref (r_2 31)])) = f_25 at hP hI9 hfr9
  have hD : va_D A (va_pl L f_25) := tp_D hL hAL
  have hf_26 : f_25 o = .inr (12, [.ref (r_2 0), .ref (r_2 1), .int (v_3 0), .ref (r_2 2), .ref (r_2 3), .ref (r_2 4), .ref (r_2 5), .ref (r_2 6), .ref (r_2 7), .ref (r_2 8), .ref (r_2 9), .ref (r_2 10), .ref (r_2 11), .ref (r_2 12), .ref (r_2 13), .ref (r_2 14), .ref (r_2 15), .int (v_3 1), .int (v_3 2), .int (v_3 3), .int (v_3 4), .int (v_3 5), .int (v_3 6), .int (v_3 7), .ref (r_2 16), .int (v_3 8), .ref (r_2 17), .int z_22, .ref (r_2 18), .long q_4, .ref (r_2 19), .ref (r_2 20), .int (v_3 10), .int (v_3 11), .int (v_3 12), .ref (r_2 21), .ref (r_2 22), .int (v_3 13), .ref (r_2 23), .int (v_3 14), .int (v_3 15), .ref (r_2 24), .ref (r_2 25), .ref (r_2 26), .ref (r_2 27), .ref (r_2 28), .ref (r_2 29), .ref (r_2 30), .ref (r_2 31)]) := by rw [← hfe]; exact va_up_self _ _ _
  clear hfe
  have hI := hI9
  have hfr := hfr9
  clear hI9 hfr9
  have hgr : ∀ κ : tk_K, κ.1 ∉ ([39, 57] : List Nat) → Γ_23 κ = Γ κ := tg_fr hgr eΓ_23 (by decide)
  have hx_27 : (v_3 0).toInt = Γ_23 (39, 0, 0) 0 := hv_24 0 (by decide)
  have hx_28 : z_22.toInt = Γ_23 (39, 0, 0) 9 := hv_24 9 (by decide)
  have hx_29 : (v_3 10).toInt = Γ_23 (39, 0, 0) 10 := hv_24 10 (by decide)
  have hx_30 : (v_3 11).toInt = Γ_23 (39, 0, 0) 11 := hv_24 11 (by decide)
  have hx_31 : (v_3 12).toInt = Γ_23 (39, 0, 0) 12 := hv_24 12 (by decide)
  have hx_32 : (v_3 13).toInt = Γ_23 (39, 0, 0) 13 := hv_24 13 (by decide)
  have hx_33 : (v_3 14).toInt = Γ_23 (39, 0, 0) 14 := hv_24 14 (by decide)
  have hx_34 : (v_3 15).toInt = Γ_23 (39, 0, 0) 15 := hv_24 15 (by decide)
  have hpo9 : Γ_23 (39, 0, 0) 9 = Γ (39, 0, 0) 9 + 1 ∧ Γ_23 (39, 0, 0) 0 = Γ (39, 0, 0) 0 ∧ Γ_23 (39, 0, 0) 10 = Γ (39, 0, 0) 10 ∧ Γ_23 (39, 0, 0) 11 = Γ (39, 0, 0) 11 ∧ Γ_23 (39, 0, 0) 12 = Γ (39, 0, 0) 12 ∧ Γ_23 (39, 0, 0) 13 = Γ (39, 0, 0) 13 ∧ Γ_23 (39, 0, 0) 14 = Γ (39, 0, 0) 14 ∧ Γ_23 (39, 0, 0) 15 = Γ (39, 0, 0) 15 := ⟨(by omega), (by omega), (by omega), (by omega), (by omega), (by omega), (by omega), (by omega)⟩
  exact W.vret hx hb hr (fun t ht hW => ⟨⟨(f_25, Γ_23), rfl, hpo9, by rw [ht]; exact hP, hI, hfr, hgr⟩, hS.F ht⟩) hS.2.2 dX12_push_20
set_option maxHeartbeats 4000000 in
set_option maxRecDepth 100000 in
theorem r_X12_pop (l : Launch) (D : va_G) (cy : Nat → ClassId) (sz : Nat) (L : List Nat) (K : Nat → tk_K) (Γ : tk_G) (f : Nat → va_E) (o : Nat) (ho : tp_r L K 39 (0) 0 o) (h9 : 1 ≤ Γ (39, 0, 0) 9 ∧ Γ (39, 0, 0) 9 ≤ 64) : Met l yX12_pop (tl_w yX12_pop cX12_pop 1 (some .long)) ({ frames := 0, cells := 0, slots := 0, locals := 0 }) (va_Pc [.ref o] (tp_P D cy L K Γ f sz)) (va_Ql (fun (r : Int64) (u : (Nat → va_E) × tk_G) => u.2 (39, 0, 0) 9 = Γ (39, 0, 0) 9 - 1 ∧ u.2 (39, 0, 0) 0 = Γ (39, 0, 0) 0 ∧ u.2 (39, 0, 0) 10 = Γ (39, 0, 0) 10 ∧ u.2 (39, 0, 0) 11 = Γ (39, 0, 0) 11 ∧ u.2 (39, 0, 0) 12 = Γ (39, 0, 0) 12 ∧ u.2 (39, 0, 0) 13 = Γ (39, 0, 0) 13 ∧ u.2 (39, 0, 0) 14 = Γ (39, 0, 0) 14 ∧ u.2 (39, 0, 0) 15 = Γ (39, 0, 0) 15) (tp_BG D cy L K Γ f [39]) (tp_A L sz)) 0 0 (tp_A L sz) := by
  refine Met.ofW (cc := cX12_pop) (maxL := 1) (ret := (some .long)) (by decide) rfl ?_
  intro p e s m args below meth c s₁ B hml hv
  obtain ⟨rfl, hsz, hP, hK, hL, hI, hN, hU⟩ := hv
  have hx := B.exec
  have hb := B.bytes
  have hr := B.returns
  have hta := tl_hta (atoms_spec (ws := tl_w yX12_pop cX12_pop 1 (some .long)) B.pre)
  have hown : s.vm.findClass RX12 = some m.cls := findClass_of_methodNamed B.named
  have hlocks := B.notSynchronized
  subst hsz
  have hI0 := hI
  generalize hAe : tp_A L s.heap.size = A
  have hA : ∀ q : Nat, s.heap.size ≤ q → A q := fun q h => by rw [← hAe]; exact Or.inr h
  have hAL : ∀ q ∈ L, A q := fun q h => by rw [← hAe]; exact Or.inl h
  have hAf : ∀ (H : Heap), s.heap.size ≤ H.size → ∀ q, tp_A L H.size q → A q := fun H h q hq => hq.elim (hAL q) (fun h2 => hA q (Nat.le_trans h h2))
  have hS : va_S A s.heap s.heap [] := va_S.rf
  have hD : va_D A (va_pl L f) := tp_D hL hAL
  have hfr : ∀ b, (K b).1 ∉ ([39] : List Nat) → f b = f b := fun _ _ => rfl
  have hgr : ∀ κ : tk_K, κ.1 ∉ ([39] : List Nat) → Γ κ = Γ κ := fun _ _ => rfl
  have hl := lv_entry ([.ref o]) (n := 1) (Nat.le_of_ble_eq_true rfl)
  rw [lg_entry_eq]
  generalize (lg_sl ([.ref o]) ++ List.replicate (1 - (lg_sl ([.ref o])).length) Slot.unset).toArray = ls at hl ⊢
  have hl : lv_has ls 1 [(0, .ref o)] := hl
  refine lv_aload_n hx hb dX12_pop_0 rfl (lv_at hl 0 rfl) ?_
  refine lv_dup hx hb dX12_pop_1 rfl ?_
  obtain ⟨r_2, v_3, q_4, hf_1, hr_5, hv_6⟩ := (show tp_o_M L K 0 0 (Γ (39, 0, 0)) (f o) from hI.at ho)
  have hx_7 : (v_3 0).toInt = Γ (39, 0, 0) 0 := hv_6 0 (by decide)
  have hx_8 : (v_3 9).toInt = Γ (39, 0, 0) 9 := hv_6 9 (by decide)
  have hx_9 : (v_3 10).toInt = Γ (39, 0, 0) 10 := hv_6 10 (by decide)
  have hx_10 : (v_3 11).toInt = Γ (39, 0, 0) 11 := hv_6 11 (by decide)
  have hx_11 : (v_3 12).toInt = Γ (39, 0, 0) 12 := hv_6 12 (by decide)
  have hx_12 : (v_3 13).toInt = Γ (39, 0, 0) 13 := hv_6 13 (by decide)
  have hx_13 : (v_3 14).toInt = Γ (39, 0, 0) 14 := hv_6 14 (by decide)
  have hx_14 : (v_3 15).toInt = Γ (39, 0, 0) 15 := hv_6 15 (by decide)
  refine tp_get (cy := cy) (ci := 12) (v := .int (v_3 9)) (C := RX12) (T := TX12) (N := 49) hx hb hta inlX12 hown hK hP ho.1 hf_1 rfl 27 (by decide) (hta _ wk_803) (fun _ h9 => h9) rfl dX12_pop_2 ?_
  refine lv_iconst (v := 1) hx hb dX12_pop_5 (by decide) ?_
  refine lv_isub hx hb dX12_pop_6 ?_
  refine lv_topi (fun z_15 ez_15 => ?_)
  try have iz_15 : z_15.toInt = (v_3 9).toInt - (1 : Int) := by rw [ez_15]; exact tl_subN (v_3 9) 1 rfl rfl (by omega) (by omega)
  obtain ⟨Γ_16, eΓ_16⟩ : ∃ y : tk_G, y = tg Γ (39, 0, 0) 9 z_15.toInt := ⟨_, rfl⟩
  have hv_17 : ∀ i : Nat, i < 16 → ((upd v_3 9 z_15) i).toInt = Γ_16 (39, 0, 0) i := by rw [eΓ_16, tg_f]; exact tp_gi_upd hv_6
  have hI9 : tp_I cy L K Γ_16 (va_up f o (.inr (12, [.ref (r_2 0), .ref (r_2 1), .int (v_3 0), .ref (r_2 2), .ref (r_2 3), .ref (r_2 4), .ref (r_2 5), .ref (r_2 6), .ref (r_2 7), .ref (r_2 8), .ref (r_2 9), .ref (r_2 10), .ref (r_2 11), .ref (r_2 12), .ref (r_2 13), .ref (r_2 14), .ref (r_2 15), .int (v_3 1), .int (v_3 2), .int (v_3 3), .int (v_3 4), .int (v_3 5), .int (v_3 6), .int (v_3 7), .ref (r_2 16), .int (v_3 8), .ref (r_2 17), .int z_15, .ref (r_2 18), .long q_4, .ref (r_2 19), .ref (r_2 20), .int (v_3 10), .int (v_3 11), .int (v_3 12), .ref (r_2 21), .ref (r_2 22), .int (v_3 13), .ref (r_2 23), .int (v_3 14), .int (v_3 15), .ref (r_2 24), .ref (r_2 25), .ref (r_2 26), .ref (r_2 27), .ref (r_2 28), .ref (r_2 29), .ref (r_2 30), .ref (r_2 31)]))) := by have q9 := hv_17; rw [eΓ_16, tg_f] at q9; rw [eΓ_16]; exact hI.setg hU rfl ho (show tp_o_M L K 0 0 (tgu (Γ (39, 0, 0)) 9 z_15.toInt) _ from ⟨r_2, (upd v_3 9 z_15), q_4, rfl, hr_5, q9⟩)
  have hfr9 : ∀ b, (K b).1 ∉ ([39] : List Nat) → va_up f o (.inr (12, [.ref (r_2 0), .ref (r_2 1), .int (v_3 0), .ref (r_2 2), .ref (r_2 3), .ref (r_2 4), .ref (r_2 5), .ref (r_2 6), .ref (r_2 7), .ref (r_2 8), .ref (r_2 9), .ref (r_2 10), .ref (r_2 11), .ref (r_2 12), .ref (r_2 13), .ref (r_2 14), .ref (r_2 15), .int (v_3 1), .int (v_3 2), .int (v_3 3), .int (v_3 4), .int (v_3 5), .int (v_3 6), .int (v_3 7), .ref (r_2 16), .int (v_3 8), .ref (r_2 17), .int z_15, .ref (r_2 18), .long q_4, .ref (r_2 19), .ref (r_2 20), .int (v_3 10), .int (v_3 11), .int (v_3 12), .ref (r_2 21), .ref (r_2 22), .int (v_3 13), .ref (r_2 23), .int (v_3 14), .int (v_3 15), .ref (r_2 24), .ref (r_2 25), .ref (r_2 26), .ref (r_2 27), .ref (r_2 28), .ref (r_2 29), .ref (r_2 30), .ref (r_2 31)])) b = f b := tp_fr hfr ho (by decide)
  refine tp_put (cy := cy) (ci := 12) (v := .int z_15) (ty := tyX12 27) (C := RX12) (T := TX12) (N := 49) hx hb hta inlX12 tyX12 tyX12_ok nmX12 hown hK hP hD hS ho.1 hf_1 rfl 27 (by decide) (hta _ wk_803) (fun _ h9 => h9) rfl (tyX12_ok 27 (by decide)) rfl rfl (Nat.le_of_ble_eq_true rfl) dX12_pop_7 (fun H locs hP hD hS => ?_)
  have hP : va_P D vwCl (va_pl L (va_up f o (.inr (12, [.ref (r_2 0), .ref (r_2 1), .int (v_3 0), .ref (r_2 2), .ref (r_2 3), .ref (r_2 4), .ref (r_2 5), .ref (r_2 6), .ref (r_2 7), .ref (r_2 8), .ref (r_2 9), .ref (r_2 10), .ref (r_2 11), .ref (r_2 12), .ref (r_2 13), .ref (r_2 14), .ref (r_2 15), .int (v_3 1), .int (v_3 2), .int (v_3 3), .int (v_3 4), .int (v_3 5), .int (v_3 6), .int (v_3 7), .ref (r_2 16), .int (v_3 8), .ref (r_2 17), .int z_15, .ref (r_2 18), .long q_4, .ref (r_2 19), .ref (r_2 20), .int (v_3 10), .int (v_3 11), .int (v_3 12), .ref (r_2 21), .ref (r_2 22), .int (v_3 13), .ref (r_2 23), .int (v_3 14), .int (v_3 15), .ref (r_2 24), .ref (r_2 25), .ref (r_2 26), .ref (r_2 27), .ref (r_2 28), .ref (r_2 29), .ref (r_2 30), .ref (r_2 31)])))) H := hP
  generalize hfe : va_up f o (.inr (12, [.ref (r_2 0), .ref (r_2 1), .int (v_3 0), .ref (r_2 2), .ref (r_2 3), .ref (r_2 4), .ref (r_2 5), .ref (r_2 6), .ref (r_2 7), .ref (r_2 8), .ref (r_2 9), .ref (r_2 10), .ref (r_2 11), .ref (r_2 12), .ref (r_2 13), .ref (r_2 14), .ref (r_2 15), .int (v_3 1), .int (v_3 2), .int (v_3 3), .int (v_3 4), .int (v_3 5), .int (v_3 6), .int (v_3 7), .ref (r_2 16), .int (v_3 8), .ref (r_2 17), .int z_15, .ref (r_2 18), .long q_4, .ref (r_2 19), .ref (r_2 20), .int (v_3 10), .int (v_3 11), .int (v_3 12), .ref (r_2 21), .ref (r_2 22), .int (v_3 13), .ref (r_2 23), .int (v_3 14), .int (v_3 15), .ref (r_2 24), .ref (r_2 25), .ref (r_2 26), .ref (r_2 27), .ref (r_2 28), .ref (r_2 29), .ref (r_2 30), .ref (r_2 31)])) = f_18 at hP hI9 hfr9
  have hD : va_D A (va_pl L f_18) := tp_D hL hAL
  have hf_19 : f_18 o = .inr (12, [.ref (r_2 0), .ref (r_2 1), .int (v_3 0), .ref (r_2 2), .ref (r_2 3), .ref (r_2 4), .ref (r_2 5), .ref (r_2 6), .ref (r_2 7), .ref (r_2 8), .ref (r_2 9), .ref (r_2 10), .ref (r_2 11), .ref (r_2 12), .ref (r_2 13), .ref (r_2 14), .ref (r_2 15), .int (v_3 1), .int (v_3 2), .int (v_3 3), .int (v_3 4), .int (v_3 5), .int (v_3 6), .int (v_3 7), .ref (r_2 16), .int (v_3 8), .ref (r_2 17), .int z_15, .ref (r_2 18), .long q_4, .ref (r_2 19), .ref (r_2 20), .int (v_3 10), .int (v_3 11), .int (v_3 12), .ref (r_2 21), .ref (r_2 22), .int (v_3 13), .ref (r_2 23), .int (v_3 14), .int (v_3 15), .ref (r_2 24), .ref (r_2 25), .ref (r_2 26), .ref (r_2 27), .ref (r_2 28), .ref (r_2 29), .ref (r_2 30), .ref (r_2 31)]) := by rw [← hfe]; exact va_up_self _ _ _
  clear hfe
  have hI := hI9
  have hfr := hfr9
  clear hI9 hfr9
  have hgr : ∀ κ : tk_K, κ.1 ∉ ([39] : List Nat) → Γ_16 κ = Γ κ := tg_fr hgr eΓ_16 (by decide)
  have hx_20 : (v_3 0).toInt = Γ_16 (39, 0, 0) 0 := hv_17 0 (by decide)
  have hx_21 : z_15.toInt = Γ_16 (39, 0, 0) 9 := hv_17 9 (by decide)
  have hx_22 : (v_3 10).toInt = Γ_16 (39, 0, 0) 10 := hv_17 10 (by decide)
  have hx_23 : (v_3 11).toInt = Γ_16 (39, 0, 0) 11 := hv_17 11 (by decide)
  have hx_24 : (v_3 12).toInt = Γ_16 (39, 0, 0) 12 := hv_17 12 (by decide)
  have hx_25 : (v_3 13).toInt = Γ_16 (39, 0, 0) 13 := hv_17 13 (by decide)
  have hx_26 : (v_3 14).toInt = Γ_16 (39, 0, 0) 14 := hv_17 14 (by decide)
  have hx_27 : (v_3 15).toInt = Γ_16 (39, 0, 0) 15 := hv_17 15 (by decide)
  refine lv_aload_n hx hb dX12_pop_10 rfl (lv_at hl 0 rfl) ?_
  refine tp_get (cy := cy) (ci := 12) (v := .ref (r_2 17)) (C := RX12) (T := TX12) (N := 49) hx hb hta inlX12 hown hK hP ho.1 hf_19 rfl 26 (by decide) (hta _ wk_167) (fun _ h9 => h9) rfl dX12_pop_11 ?_
  refine lv_aload_n hx hb dX12_pop_14 rfl (lv_at hl 0 rfl) ?_
  refine tp_get (cy := cy) (ci := 12) (v := .int z_15) (C := RX12) (T := TX12) (N := 49) hx hb hta inlX12 hown hK hP ho.1 hf_19 rfl 27 (by decide) (hta _ wk_803) (fun _ h9 => h9) rfl dX12_pop_15 ?_
  obtain ⟨g_29, hf_28⟩ := (show tp_aj cy (64) (f (r_2 17)) from hI0.at (show tp_r L K 57 64 0 (r_2 17) from hr_5 17 (by decide)))
  have hn_31 : vp_in z_15 (64) := tl_in (by omega) (by omega)
  refine tp_lald (cy := cy) hx hb hK hP (show tp_r L K 57 64 0 (r_2 17) from hr_5 17 (by decide)).1 ((tp_un hfr (show tp_r L K 57 64 0 (r_2 17) from hr_5 17 (by decide)) (by decide)).trans hf_28) hn_31 dX12_pop_18 ?_
  refine lv_topl (fun z_32 ez_32 => ?_)
  have hpo9 : Γ_16 (39, 0, 0) 9 = Γ (39, 0, 0) 9 - 1 ∧ Γ_16 (39, 0, 0) 0 = Γ (39, 0, 0) 0 ∧ Γ_16 (39, 0, 0) 10 = Γ (39, 0, 0) 10 ∧ Γ_16 (39, 0, 0) 11 = Γ (39, 0, 0) 11 ∧ Γ_16 (39, 0, 0) 12 = Γ (39, 0, 0) 12 ∧ Γ_16 (39, 0, 0) 13 = Γ (39, 0, 0) 13 ∧ Γ_16 (39, 0, 0) 14 = Γ (39, 0, 0) 14 ∧ Γ_16 (39, 0, 0) 15 = Γ (39, 0, 0) 15 := ⟨(by omega), (by omega), (by omega), (by omega), (by omega), (by omega), (by omega), (by omega)⟩
  exact W.lret (v := z_32) hx hb hr (fun t ht hW => ⟨⟨_, (f_18, Γ_16), rfl, hpo9, by rw [ht]; exact hP, hI, hfr, hgr⟩, hS.F ht⟩) hS.2.2 dX12_pop_19
set_option maxHeartbeats 4000000 in
set_option maxRecDepth 100000 in
theorem r_X12_reckons (l : Launch) (D : va_G) (cy : Nat → ClassId) (sz : Nat) (L : List Nat) (K : Nat → tk_K) (Γ : tk_G) (f : Nat → va_E) (o : Nat) (p0 : Int32) (p1 : Int32) (p2 : Int32) (ho : tp_r L K 39 (0) 0 o) (ht0 : 0 ≤ p0.toInt ∧ p0.toInt ≤ 21) (hbe : 0 ≤ p1.toInt ∧ p1.toInt ≤ p2.toInt ∧ p2.toInt ≤ 400) (hrp : rp (Γ (43, 8800, 0)) (400 * p0.toInt + p1.toInt).toNat (p2.toInt - p1.toInt).toNat 1) : Met l yX12_reckons (tl_w yX12_reckons cX12_reckons 11 (some .long)) ({ frames := 1, cells := 0, slots := 0, locals := 24 }) (va_Pc [.ref o, .int p0, .int p1, .int p2] (tp_P D cy L K Γ f sz)) (va_Ql (fun (r : Int64) (u : (Nat → va_E) × tk_G) => u.2 (39, 0, 0) 0 = Γ (39, 0, 0) 0 ∧ u.2 (39, 0, 0) 10 = Γ (39, 0, 0) 10 ∧ u.2 (39, 0, 0) 11 = Γ (39, 0, 0) 11 ∧ u.2 (39, 0, 0) 12 = Γ (39, 0, 0) 12 ∧ u.2 (39, 0, 0) 13 = Γ (39, 0, 0) 13 ∧ u.2 (39, 0, 0) 14 = Γ (39, 0, 0) 14 ∧ u.2 (39, 0, 0) 15 = Γ (39, 0, 0) 15) (tp_BG D cy L K Γ f [39, 57]) (tp_A L sz)) 0 0 (tp_A L sz) := by
  refine Met.ofW (cc := cX12_reckons) (maxL := 11) (ret := (some .long)) (by decide) rfl ?_
  intro p e s m args below meth c s₁ B hml hv
  obtain ⟨rfl, hsz, hP, hK, hL, hI, hN, hU⟩ := hv
  have hx := B.exec
  have hb := B.bytes
  have hr := B.returns
  have hta := tl_hta (atoms_spec (ws := tl_w yX12_reckons cX12_reckons 11 (some .long)) B.pre)
  have hown : s.vm.findClass RX12 = some m.cls := findClass_of_methodNamed B.named
  have hlocks := B.notSynchronized
  subst hsz
  have hI0 := hI
  generalize hAe : tp_A L s.heap.size = A
  have hA : ∀ q : Nat, s.heap.size ≤ q → A q := fun q h => by rw [← hAe]; exact Or.inr h
  have hAL : ∀ q ∈ L, A q := fun q h => by rw [← hAe]; exact Or.inl h
  have hAf : ∀ (H : Heap), s.heap.size ≤ H.size → ∀ q, tp_A L H.size q → A q := fun H h q hq => hq.elim (hAL q) (fun h2 => hA q (Nat.le_trans h h2))
  have hS : va_S A s.heap s.heap [] := va_S.rf
  have hD : va_D A (va_pl L f) := tp_D hL hAL
  have hfr : ∀ b, (K b).1 ∉ ([39, 57] : List Nat) → f b = f b := fun _ _ => rfl
  have hgr : ∀ κ : tk_K, κ.1 ∉ ([39, 57] : List Nat) → Γ κ = Γ κ := fun _ _ => rfl
  have hl := lv_entry ([.ref o, .int p0, .int p1, .int p2]) (n := 11) (Nat.le_of_ble_eq_true rfl)
  rw [lg_entry_eq]
  generalize (lg_sl ([.ref o, .int p0, .int p1, .int p2]) ++ List.replicate (11 - (lg_sl ([.ref o, .int p0, .int p1, .int p2])).length) Slot.unset).toArray = ls at hl ⊢
  have hl : lv_has ls 11 [(0, .ref o), (1, .int p0), (2, .int p1), (3, .int p2)] := hl
  refine lv_aload_n hx hb dX12_reckons_0 rfl (lv_at hl 0 rfl) ?_
  refine lv_iconst (v := 0) hx hb dX12_reckons_1 (by decide) ?_
  obtain ⟨r_2, v_3, q_4, hf_1, hr_5, hv_6⟩ := (show tp_o_M L K 0 0 (Γ (39, 0, 0)) (f o) from hI.at ho)
  have hx_7 : (v_3 0).toInt = Γ (39, 0, 0) 0 := hv_6 0 (by decide)
  have hx_8 : (v_3 9).toInt = Γ (39, 0, 0) 9 := hv_6 9 (by decide)
  have hx_9 : (v_3 10).toInt = Γ (39, 0, 0) 10 := hv_6 10 (by decide)
  have hx_10 : (v_3 11).toInt = Γ (39, 0, 0) 11 := hv_6 11 (by decide)
  have hx_11 : (v_3 12).toInt = Γ (39, 0, 0) 12 := hv_6 12 (by decide)
  have hx_12 : (v_3 13).toInt = Γ (39, 0, 0) 13 := hv_6 13 (by decide)
  have hx_13 : (v_3 14).toInt = Γ (39, 0, 0) 14 := hv_6 14 (by decide)
  have hx_14 : (v_3 15).toInt = Γ (39, 0, 0) 15 := hv_6 15 (by decide)
  obtain ⟨Γ_15, eΓ_15⟩ : ∃ y : tk_G, y = tg Γ (39, 0, 0) 9 (0 : Int) := ⟨_, rfl⟩
  have hv_16 : ∀ i : Nat, i < 16 → ((upd v_3 9 (0 : Int32)) i).toInt = Γ_15 (39, 0, 0) i := by rw [eΓ_15, tg_f]; exact tp_gi_upd hv_6
  have hI9 : tp_I cy L K Γ_15 (va_up f o (.inr (12, [.ref (r_2 0), .ref (r_2 1), .int (v_3 0), .ref (r_2 2), .ref (r_2 3), .ref (r_2 4), .ref (r_2 5), .ref (r_2 6), .ref (r_2 7), .ref (r_2 8), .ref (r_2 9), .ref (r_2 10), .ref (r_2 11), .ref (r_2 12), .ref (r_2 13), .ref (r_2 14), .ref (r_2 15), .int (v_3 1), .int (v_3 2), .int (v_3 3), .int (v_3 4), .int (v_3 5), .int (v_3 6), .int (v_3 7), .ref (r_2 16), .int (v_3 8), .ref (r_2 17), .int 0, .ref (r_2 18), .long q_4, .ref (r_2 19), .ref (r_2 20), .int (v_3 10), .int (v_3 11), .int (v_3 12), .ref (r_2 21), .ref (r_2 22), .int (v_3 13), .ref (r_2 23), .int (v_3 14), .int (v_3 15), .ref (r_2 24), .ref (r_2 25), .ref (r_2 26), .ref (r_2 27), .ref (r_2 28), .ref (r_2 29), .ref (r_2 30), .ref (r_2 31)]))) := by have q9 := hv_16; rw [eΓ_15, tg_f] at q9; rw [eΓ_15]; exact hI.setg hU rfl ho (show tp_o_M L K 0 0 (tgu (Γ (39, 0, 0)) 9 (0 : Int)) _ from ⟨r_2, (upd v_3 9 (0 : Int32)), q_4, rfl, hr_5, q9⟩)
  have hfr9 : ∀ b, (K b).1 ∉ ([39, 57] : List Nat) → va_up f o (.inr (12, [.ref (r_2 0), .ref (r_2 1), .int (v_3 0), .ref (r_2 2), .ref (r_2 3), .ref (r_2 4), .ref (r_2 5), .ref (r_2 6), .ref (r_2 7), .ref (r_2 8), .ref (r_2 9), .ref (r_2 10), .ref (r_2 11), .ref (r_2 12), .ref (r_2 13), .ref (r_2 14), .ref (r_2 15), .int (v_3 1), .int (v_3 2), .int (v_3 3), .int (v_3 4), .int (v_3 5), .int (v_3 6), .int (v_3 7), .ref (r_2 16), .int (v_3 8), .ref (r_2 17), .int 0, .ref (r_2 18), .long q_4, .ref (r_2 19), .ref (r_2 20), .int (v_3 10), .int (v_3 11), .int (v_3 12), .ref (r_2 21), .ref (r_2 22), .int (v_3 13), .ref (r_2 23), .int (v_3 14), .int (v_3 15), .ref (r_2 24), .ref (r_2 25), .ref (r_2 26), .ref (r_2 27), .ref (r_2 28), .ref (r_2 29), .ref (r_2 30), .ref (r_2 31)])) b = f b := tp_fr hfr ho (by decide)
  refine tp_put (cy := cy) (ci := 12) (v := .int 0) (ty := tyX12 27) (C := RX12) (T := TX12) (N := 49) hx hb hta inlX12 tyX12 tyX12_ok nmX12 hown hK hP hD hS ho.1 hf_1 rfl 27 (by decide) (hta _ wk_803) (fun _ h9 => h9) rfl (tyX12_ok 27 (by decide)) rfl rfl (Nat.le_of_ble_eq_true rfl) dX12_reckons_2 (fun H locs hP hD hS => ?_)
  have hP : va_P D vwCl (va_pl L (va_up f o (.inr (12, [.ref (r_2 0), .ref (r_2 1), .int (v_3 0), .ref (r_2 2), .ref (r_2 3), .ref (r_2 4), .ref (r_2 5), .ref (r_2 6), .ref (r_2 7), .ref (r_2 8), .ref (r_2 9), .ref (r_2 10), .ref (r_2 11), .ref (r_2 12), .ref (r_2 13), .ref (r_2 14), .ref (r_2 15), .int (v_3 1), .int (v_3 2), .int (v_3 3), .int (v_3 4), .int (v_3 5), .int (v_3 6), .int (v_3 7), .ref (r_2 16), .int (v_3 8), .ref (r_2 17), .int 0, .ref (r_2 18), .long q_4, .ref (r_2 19), .ref (r_2 20), .int (v_3 10), .int (v_3 11), .int (v_3 12), .ref (r_2 21), .ref (r_2 22), .int (v_3 13), .ref (r_2 23), .int (v_3 14), .int (v_3 15), .ref (r_2 24), .ref (r_2 25), .ref (r_2 26), .ref (r_2 27), .ref (r_2 28), .ref (r_2 29), .ref (r_2 30), .ref (r_2 31)])))) H := hP
  generalize hfe : va_up f o (.inr (12, [.ref (r_2 0), .ref (r_2 1), .int (v_3 0), .ref (r_2 2), .ref (r_2 3), .ref (r_2 4), .ref (r_2 5), .ref (r_2 6), .ref (r_2 7), .ref (r_2 8), .ref (r_2 9), .ref (r_2 10), .ref (r_2 11), .ref (r_2 12), .ref (r_2 13), .ref (r_2 14), .ref (r_2 15), .int (v_3 1), .int (v_3 2), .int (v_3 3), .int (v_3 4), .int (v_3 5), .int (v_3 6), .int (v_3 7), .ref (r_2 16), .int (v_3 8), .ref (r_2 17), .int 0, .ref (r_2 18), .long q_4, .ref (r_2 19), .ref (r_2 20), .int (v_3 10), .int (v_3 11), .int (v_3 12), .ref (r_2 21), .ref (r_2 22), .int (v_3 13), .ref (r_2 23), .int (v_3 14), .int (v_3 15), .ref (r_2 24), .ref (r_2 25), .ref (r_2 26), .ref (r_2 27), .ref (r_2 28), .ref (r_2 29), .ref (r_2 30), .ref (r_2 31)])) = f_17 at hP hI9 hfr9
  have hD : va_D A (va_pl L f_17) := tp_D hL hAL
  have hf_18 : f_17 o = .inr (12, [.ref (r_2 0), .ref (r_2 1), .int (v_3 0), .ref (r_2 2), .ref (r_2 3), .ref (r_2 4), .ref (r_2 5), .ref (r_2 6), .ref (r_2 7), .ref (r_2 8), .ref (r_2 9), .ref (r_2 10), .ref (r_2 11), .ref (r_2 12), .ref (r_2 13), .ref (r_2 14), .ref (r_2 15), .int (v_3 1), .int (v_3 2), .int (v_3 3), .int (v_3 4), .int (v_3 5), .int (v_3 6), .int (v_3 7), .ref (r_2 16), .int (v_3 8), .ref (r_2 17), .int 0, .ref (r_2 18), .long q_4, .ref (r_2 19), .ref (r_2 20), .int (v_3 10), .int (v_3 11), .int (v_3 12), .ref (r_2 21), .ref (r_2 22), .int (v_3 13), .ref (r_2 23), .int (v_3 14), .int (v_3 15), .ref (r_2 24), .ref (r_2 25), .ref (r_2 26), .ref (r_2 27), .ref (r_2 28), .ref (r_2 29), .ref (r_2 30), .ref (r_2 31)]) := by rw [← hfe]; exact va_up_self _ _ _
  clear hfe
  have hI := hI9
  have hfr := hfr9
  clear hI9 hfr9
  have hgr : ∀ κ : tk_K, κ.1 ∉ ([39, 57] : List Nat) → Γ_15 κ = Γ κ := tg_fr hgr eΓ_15 (by decide)
  have hx_19 : (v_3 0).toInt = Γ_15 (39, 0, 0) 0 := hv_16 0 (by decide)
  have hx_20 : (0 : Int) = Γ_15 (39, 0, 0) 9 := hv_16 9 (by decide)
  have hx_21 : (v_3 10).toInt = Γ_15 (39, 0, 0) 10 := hv_16 10 (by decide)
  have hx_22 : (v_3 11).toInt = Γ_15 (39, 0, 0) 11 := hv_16 11 (by decide)
  have hx_23 : (v_3 12).toInt = Γ_15 (39, 0, 0) 12 := hv_16 12 (by decide)
  have hx_24 : (v_3 13).toInt = Γ_15 (39, 0, 0) 13 := hv_16 13 (by decide)
  have hx_25 : (v_3 14).toInt = Γ_15 (39, 0, 0) 14 := hv_16 14 (by decide)
  have hx_26 : (v_3 15).toInt = Γ_15 (39, 0, 0) 15 := hv_16 15 (by decide)
  refine lv_iload_n hx hb dX12_reckons_5 rfl (lv_at hl 2 rfl) ?_
  refine lv_istore (lv' := [(4, .int p1), (0, .ref o), (1, .int p0), (2, .int p1), (3, .int p2)]) hx hb dX12_reckons_6 hl (by decide) rfl (fun ls hl => ?_)
  refine tl_ind (G := fun H locs ls => W p l e ((headSpec (tl_w yX12_reckons cX12_reckons 11 (some .long)) ({ frames := 1, cells := 0, slots := 0, locals := 24 })).room) s m #[.ref o, .int p0, .int p1, .int p2] below meth c H locs 0 0 (MQ below (va_Ql (fun (r : Int64) (u : (Nat → va_E) × tk_G) => u.2 (39, 0, 0) 0 = Γ (39, 0, 0) 0 ∧ u.2 (39, 0, 0) 10 = Γ (39, 0, 0) 10 ∧ u.2 (39, 0, 0) 11 = Γ (39, 0, 0) 11 ∧ u.2 (39, 0, 0) 12 = Γ (39, 0, 0) 12 ∧ u.2 (39, 0, 0) 13 = Γ (39, 0, 0) 13 ∧ u.2 (39, 0, 0) 14 = Γ (39, 0, 0) 14 ∧ u.2 (39, 0, 0) 15 = Γ (39, 0, 0) 15) (tp_BG D cy L K Γ f [39, 57]) A) #[.ref o, .int p0, .int p1, .int p2] s 0 0 A) (F0 m 8 ls [])) (α := (Nat → va_E) × tk_G × Int32) (fun aq => (p2.toInt - aq.2.2.toInt).toNat) (fun aq H locs ls => (p1.toInt ≤ aq.2.2.toInt ∧ aq.2.2.toInt ≤ p2.toInt) ∧ (aq.2.1 (39, 0, 0) 9 = rd (Γ (43, 8800, 0)) (400 * p0.toInt + p1.toInt).toNat (aq.2.2.toInt - p1.toInt).toNat) ∧ (aq.2.1 (39, 0, 0) 9 ≤ 60) ∧ (aq.2.1 (39, 0, 0) 0 = Γ (39, 0, 0) 0) ∧ (aq.2.1 (39, 0, 0) 10 = Γ (39, 0, 0) 10) ∧ (aq.2.1 (39, 0, 0) 11 = Γ (39, 0, 0) 11) ∧ (aq.2.1 (39, 0, 0) 12 = Γ (39, 0, 0) 12) ∧ (aq.2.1 (39, 0, 0) 13 = Γ (39, 0, 0) 13) ∧ (aq.2.1 (39, 0, 0) 14 = Γ (39, 0, 0) 14) ∧ (aq.2.1 (39, 0, 0) 15 = Γ (39, 0, 0) 15) ∧ va_P D vwCl (va_pl L aq.1) H ∧ tp_I cy L K aq.2.1 aq.1 ∧ (∀ b, (K b).1 ∉ ([39, 57] : List Nat) → aq.1 b = f b) ∧ (∀ κ : tk_K, κ.1 ∉ ([39, 57] : List Nat) → aq.2.1 κ = Γ κ) ∧ va_S A s.heap H locs ∧ lv_has ls 11 [(4, .int aq.2.2), (0, .ref o), (1, .int p0), (2, .int p1), (3, .int p2)]) ?_ (f_17, Γ_15, p1) H locs ls ⟨(show p1.toInt ≤ p1.toInt ∧ p1.toInt ≤ p2.toInt from (by omega)), (show Γ_15 (39, 0, 0) 9 = rd (Γ (43, 8800, 0)) (400 * p0.toInt + p1.toInt).toNat (p1.toInt - p1.toInt).toNat from (by rw [show (p1.toInt - p1.toInt).toNat = 0 from by omega]; show _ = (0 : Int); omega)), (show Γ_15 (39, 0, 0) 9 ≤ 60 from (by omega)), (show Γ_15 (39, 0, 0) 0 = Γ (39, 0, 0) 0 from (by omega)), (show Γ_15 (39, 0, 0) 10 = Γ (39, 0, 0) 10 from (by omega)), (show Γ_15 (39, 0, 0) 11 = Γ (39, 0, 0) 11 from (by omega)), (show Γ_15 (39, 0, 0) 12 = Γ (39, 0, 0) 12 from (by omega)), (show Γ_15 (39, 0, 0) 13 = Γ (39, 0, 0) 13 from (by omega)), (show Γ_15 (39, 0, 0) 14 = Γ (39, 0, 0) 14 from (by omega)), (show Γ_15 (39, 0, 0) 15 = Γ (39, 0, 0) 15 from (by omega)), hP, hI, hfr, hgr, hS, lv_sub hl [0, 1, 2, 3, 4] rfl⟩
  rintro ⟨f_27, Γ_28, v4⟩ H locs ls ⟨h4, htop, hub, q0, q10, q11, q12, q13, q14, q15, hP, hI, hfr, hgr, hS, hl⟩ ih8
  have hgr : ∀ κ : tk_K, κ.1 ∉ ([39, 57] : List Nat) → Γ_28 κ = Γ κ := hgr
  have hP : va_P D vwCl (va_pl L f_27) H := hP
  have hI : tp_I cy L K Γ_28 f_27 := hI
  have hfr : ∀ b, (K b).1 ∉ ([39, 57] : List Nat) → f_27 b = f b := hfr
  have hD : va_D A (va_pl L f_27) := tp_D hL hAL
  have h4 : p1.toInt ≤ v4.toInt ∧ v4.toInt ≤ p2.toInt := h4
  have htop : Γ_28 (39, 0, 0) 9 = rd (Γ (43, 8800, 0)) (400 * p0.toInt + p1.toInt).toNat (v4.toInt - p1.toInt).toNat := htop
  have hub : Γ_28 (39, 0, 0) 9 ≤ 60 := hub
  have q0 : Γ_28 (39, 0, 0) 0 = Γ (39, 0, 0) 0 := q0
  have q10 : Γ_28 (39, 0, 0) 10 = Γ (39, 0, 0) 10 := q10
  have q11 : Γ_28 (39, 0, 0) 11 = Γ (39, 0, 0) 11 := q11
  have q12 : Γ_28 (39, 0, 0) 12 = Γ (39, 0, 0) 12 := q12
  have q13 : Γ_28 (39, 0, 0) 13 = Γ (39, 0, 0) 13 := q13
  have q14 : Γ_28 (39, 0, 0) 14 = Γ (39, 0, 0) 14 := q14
  have q15 : Γ_28 (39, 0, 0) 15 = Γ (39, 0, 0) 15 := q15
  have hl : lv_has ls 11 [(4, .int v4), (0, .ref o), (1, .int p0), (2, .int p1), (3, .int p2)] := hl
  refine lv_iload hx hb dX12_reckons_8 (lv_at hl 0 rfl) ?_
  refine lv_iload_n hx hb dX12_reckons_10 rfl (lv_at hl 4 rfl) ?_
  refine lv_icmp_ge (tgt := 135) hx hb dX12_reckons_11 (by decide) (fun c_29 => ?_) (fun c_29 => ?_)
  · have c_29 : p2.toInt ≤ v4.toInt := tl_le c_29
    have hfin : Γ_28 (39, 0, 0) 9 = 1 := by rw [htop, show v4.toInt = p2.toInt from by omega]; exact hrp.2
    refine lv_aload_n hx hb dX12_reckons_135 rfl (lv_at hl 1 rfl) ?_
    obtain ⟨r_31, v_32, q_33, hf_30, hr_34, hv_35⟩ := (show tp_o_M L K 0 0 (Γ_28 (39, 0, 0)) (f_27 o) from hI.at ho)
    refine tq_clR hS (hAf _ hS.1) (tq_rV (As := []) (rest := []) ⟨hx, hb, hml, hown, hta⟩ (tp_P.pre hK hN hL hU hI hP) (tp_recv hK hP ho.1 hf_30 rfl) lk_X12_340 (r_X12_pop l D cy H.size L K Γ_28 f_27 o ho (by first | omega | (simp only [Int32.toInt_toInt64]; omega) | decide | assumption)) rfl rfl ⟨Nat.le_of_ble_eq_true rfl, Nat.le_of_ble_eq_true rfl⟩ rfl hl.1 rfl (Nat.le_of_ble_eq_true rfl) dX12_reckons_136 ⟨Nat.le_of_ble_eq_true rfl, Nat.le_of_ble_eq_true rfl⟩) (fun r_45 f_46 Γ_48 H locs hw_44 hP hI hc_47 hcg_49 hS => ?_)
    have hD : va_D A (va_pl L f_46) := tp_D hL hAL
    have hfr := tp_fr2 hfr hc_47 (by decide)
    have hgr : ∀ κ : tk_K, κ.1 ∉ ([39, 57] : List Nat) → Γ_48 κ = Γ κ := tg_fr2 hgr hcg_49 (by decide)
    have hw_44 : Γ_48 (39, 0, 0) 9 = Γ_28 (39, 0, 0) 9 - 1 ∧ Γ_48 (39, 0, 0) 0 = Γ_28 (39, 0, 0) 0 ∧ Γ_48 (39, 0, 0) 10 = Γ_28 (39, 0, 0) 10 ∧ Γ_48 (39, 0, 0) 11 = Γ_28 (39, 0, 0) 11 ∧ Γ_48 (39, 0, 0) 12 = Γ_28 (39, 0, 0) 12 ∧ Γ_48 (39, 0, 0) 13 = Γ_28 (39, 0, 0) 13 ∧ Γ_48 (39, 0, 0) 14 = Γ_28 (39, 0, 0) 14 ∧ Γ_48 (39, 0, 0) 15 = Γ_28 (39, 0, 0) 15 := hw_44
    have hpo9 : Γ_48 (39, 0, 0) 0 = Γ (39, 0, 0) 0 ∧ Γ_48 (39, 0, 0) 10 = Γ (39, 0, 0) 10 ∧ Γ_48 (39, 0, 0) 11 = Γ (39, 0, 0) 11 ∧ Γ_48 (39, 0, 0) 12 = Γ (39, 0, 0) 12 ∧ Γ_48 (39, 0, 0) 13 = Γ (39, 0, 0) 13 ∧ Γ_48 (39, 0, 0) 14 = Γ (39, 0, 0) 14 ∧ Γ_48 (39, 0, 0) 15 = Γ (39, 0, 0) 15 := ⟨(by omega), (by omega), (by omega), (by omega), (by omega), (by omega), (by omega)⟩
    exact W.lret (v := r_45) hx hb hr (fun t ht hW => ⟨⟨_, (f_46, Γ_48), rfl, hpo9, by rw [ht]; exact hP, hI, hfr, hgr⟩, hS.F ht⟩) hS.2.2 dX12_reckons_139
  · have c_29 : v4.toInt < p2.toInt := tl_nle c_29
    refine lv_aload_n hx hb dX12_reckons_14 rfl (lv_at hl 1 rfl) ?_
    obtain ⟨r_51, v_52, q_53, hf_50, hr_54, hv_55⟩ := (show tp_o_M L K 0 0 (Γ_28 (39, 0, 0)) (f_27 o) from hI.at ho)
    refine tp_get (cy := cy) (ci := 12) (v := .ref (r_51 3)) (C := RX12) (T := TX12) (N := 49) hx hb hta inlX12 hown hK hP ho.1 hf_50 rfl 4 (by decide) (hta _ wk_153) (fun _ h9 => h9) rfl dX12_reckons_15 ?_
    refine lv_sipush (v := 400) hx hb dX12_reckons_18 (by decide) ?_
    refine lv_iload_n hx hb dX12_reckons_21 rfl (lv_at hl 2 rfl) ?_
    refine lv_imul hx hb dX12_reckons_22 ?_
    refine lv_topi (fun z_64 ez_64 => ?_)
    try have iz_64 : z_64.toInt = (400 : Int) * p0.toInt := by rw [ez_64]; exact tl_mulN 400 p0 rfl rfl (by omega) (by omega)
    refine lv_iload hx hb dX12_reckons_23 (lv_at hl 0 rfl) ?_
    refine lv_iadd hx hb dX12_reckons_25 ?_
    refine lv_topi (fun z_65 ez_65 => ?_)
    try have iz_65 : z_65.toInt = z_64.toInt + v4.toInt := by rw [ez_65]; exact tl_addN z_64 v4 rfl rfl (by omega) (by omega)
    obtain ⟨g_67, hf_66, hg_68⟩ := (show tp_gi cy (8800) (Γ (43, 8800, 0)) (f (r_51 3)) from hI0.at (show tp_r L K 43 8800 0 (r_51 3) from hr_54 3 (by decide)))
    have hn_69 : vp_in z_65 (8800) := tl_in (by omega) (by omega)
    refine tp_iald (cy := cy) hx hb hK hP (show tp_r L K 43 8800 0 (r_51 3) from hr_54 3 (by decide)).1 ((tp_un hfr (show tp_r L K 43 8800 0 (r_51 3) from hr_54 3 (by decide)) (by decide)).trans hf_66) hn_69 dX12_reckons_26 ?_
    refine lv_topi (fun z_70 ez_70 => ?_)
    have iz_70 : z_70.toInt = Γ (43, 8800, 0) z_65.toInt.toNat := by rw [ez_70]; exact hg_68 _ (tp_pin hn_69)
    refine lv_bipush (v := 15) hx hb dX12_reckons_27 (by decide) ?_
    refine lv_iand hx hb dX12_reckons_29 ?_
    refine lv_topi (fun z_71 ez_71 => ?_)
    have iz_71 := tl_and15 ez_71
    refine lv_istore (lv' := [(5, .int z_71), (4, .int v4), (0, .ref o), (1, .int p0), (2, .int p1), (3, .int p2)]) hx hb dX12_reckons_30 hl (by decide) rfl (fun ls hl => ?_)
    refine lv_aload_n hx hb dX12_reckons_32 rfl (lv_at hl 2 rfl) ?_
    refine tp_get (cy := cy) (ci := 12) (v := .ref (r_51 3)) (C := RX12) (T := TX12) (N := 49) hx hb hta inlX12 hown hK hP ho.1 hf_50 rfl 4 (by decide) (hta _ wk_153) (fun _ h9 => h9) rfl dX12_reckons_33 ?_
    refine lv_sipush (v := 400) hx hb dX12_reckons_36 (by decide) ?_
    refine lv_iload_n hx hb dX12_reckons_39 rfl (lv_at hl 3 rfl) ?_
    refine lv_imul hx hb dX12_reckons_40 ?_
    refine lv_topi (fun z_72 ez_72 => ?_)
    try have iz_72 : z_72.toInt = (400 : Int) * p0.toInt := by rw [ez_72]; exact tl_mulN 400 p0 rfl rfl (by omega) (by omega)
    refine lv_iload hx hb dX12_reckons_41 (lv_at hl 1 rfl) ?_
    refine lv_iadd hx hb dX12_reckons_43 ?_
    refine lv_topi (fun z_73 ez_73 => ?_)
    try have iz_73 : z_73.toInt = z_72.toInt + v4.toInt := by rw [ez_73]; exact tl_addN z_72 v4 rfl rfl (by omega) (by omega)
    have hn_74 : vp_in z_73 (8800) := tl_in (by omega) (by omega)
    refine tp_iald (cy := cy) hx hb hK hP (show tp_r L K 43 8800 0 (r_51 3) from hr_54 3 (by decide)).1 ((tp_un hfr (show tp_r L K 43 8800 0 (r_51 3) from hr_54 3 (by decide)) (by decide)).trans hf_66) hn_74 dX12_reckons_44 ?_
    refine lv_topi (fun z_75 ez_75 => ?_)
    have iz_75 : z_75.toInt = Γ (43, 8800, 0) z_73.toInt.toNat := by rw [ez_75]; exact hg_68 _ (tp_pin hn_74)
    refine lv_iconst (v := 4) hx hb dX12_reckons_45 (by decide) ?_
    refine lv_ishr hx hb dX12_reckons_46 ?_
    refine lv_topi (fun z_76 ez_76 => ?_)
    have hj := hrp.1 (v4.toInt - p1.toInt).toNat (by omega)
    have he1 : Γ (43, 8800, 0) ((400 * p0.toInt + p1.toInt).toNat + (v4.toInt - p1.toInt).toNat) = z_70.toInt := (iz_70.trans (congrArg _ (by omega))).symm
    have he2 : Γ (43, 8800, 0) ((400 * p0.toInt + p1.toInt).toNat + (v4.toInt - p1.toInt).toNat) = z_75.toInt := (iz_75.trans (congrArg _ (by omega))).symm
    rw [he1, ← htop] at hj
    obtain ⟨hj0, hj1, hj2⟩ := hj
    have hs5 := tl_and15x hj0 ez_71
    have hs6 := tl_shr4x (by omega) ez_76
    have hrd := rp_dv (e := z_70.toInt)
    have hdel : rd (Γ (43, 8800, 0)) (400 * p0.toInt + p1.toInt).toNat ((v4.toInt - p1.toInt).toNat + 1) = Γ_28 (39, 0, 0) 9 + rp_d z_70.toInt := by rw [rd1, he1, htop]
    refine lv_istore (lv' := [(6, .int z_76), (5, .int z_71), (4, .int v4), (0, .ref o), (1, .int p0), (2, .int p1), (3, .int p2)]) hx hb dX12_reckons_47 hl (by decide) rfl (fun ls hl => ?_)
    refine lv_iload hx hb dX12_reckons_49 (lv_at hl 1 rfl) ?_
    refine lv_if_ne (tgt := 64) hx hb dX12_reckons_51 (by decide) (fun c_77 => ?_) (fun c_77 => ?_)
    · have c_77 : ¬ z_71.toInt = (0 : Int) := tl_neq c_77
      refine lv_iload hx hb dX12_reckons_64 (lv_at hl 1 rfl) ?_
      refine lv_iconst (v := 1) hx hb dX12_reckons_66 (by decide) ?_
      refine lv_icmp_ne (tgt := 84) hx hb dX12_reckons_67 (by decide) (fun c_78 => ?_) (fun c_78 => ?_)
      · have c_78 : ¬ z_71.toInt = (1 : Int) := tl_neq c_78
        refine lv_iload hx hb dX12_reckons_84 (lv_at hl 1 rfl) ?_
        refine lv_bipush (v := 11) hx hb dX12_reckons_86 (by decide) ?_
        refine lv_icmp_ne (tgt := 104) hx hb dX12_reckons_88 (by decide) (fun c_79 => ?_) (fun c_79 => ?_)
        · have c_79 : ¬ z_71.toInt = (11 : Int) := tl_neq c_79
          refine lv_aload_n hx hb dX12_reckons_104 rfl (lv_at hl 3 rfl) ?_
          refine tq_clR hS (hAf _ hS.1) (tq_rV (As := []) (rest := []) ⟨hx, hb, hml, hown, hta⟩ (tp_P.pre hK hN hL hU hI hP) (tp_recv hK hP ho.1 hf_50 rfl) lk_X12_340 (r_X12_pop l D cy H.size L K Γ_28 f_27 o ho (by first | omega | (simp only [Int32.toInt_toInt64]; omega) | decide | assumption)) rfl rfl ⟨Nat.le_of_ble_eq_true rfl, Nat.le_of_ble_eq_true rfl⟩ rfl hl.1 rfl (Nat.le_of_ble_eq_true rfl) dX12_reckons_105 ⟨Nat.le_of_ble_eq_true rfl, Nat.le_of_ble_eq_true rfl⟩) (fun r_81 f_82 Γ_84 H locs hw_80 hP hI hc_83 hcg_85 hS => ?_)
          have hD : va_D A (va_pl L f_82) := tp_D hL hAL
          have hfr := tp_fr2 hfr hc_83 (by decide)
          have hgr : ∀ κ : tk_K, κ.1 ∉ ([39, 57] : List Nat) → Γ_84 κ = Γ κ := tg_fr2 hgr hcg_85 (by decide)
          have hw_80 : Γ_84 (39, 0, 0) 9 = Γ_28 (39, 0, 0) 9 - 1 ∧ Γ_84 (39, 0, 0) 0 = Γ_28 (39, 0, 0) 0 ∧ Γ_84 (39, 0, 0) 10 = Γ_28 (39, 0, 0) 10 ∧ Γ_84 (39, 0, 0) 11 = Γ_28 (39, 0, 0) 11 ∧ Γ_84 (39, 0, 0) 12 = Γ_28 (39, 0, 0) 12 ∧ Γ_84 (39, 0, 0) 13 = Γ_28 (39, 0, 0) 13 ∧ Γ_84 (39, 0, 0) 14 = Γ_28 (39, 0, 0) 14 ∧ Γ_84 (39, 0, 0) 15 = Γ_28 (39, 0, 0) 15 := hw_80
          refine lv_lstore (lv' := [(7, .long r_81), (6, .int z_76), (5, .int z_71), (4, .int v4), (0, .ref o), (1, .int p0), (2, .int p1), (3, .int p2)]) hx hb dX12_reckons_108 hl (by decide) rfl (fun ls hl => ?_)
          refine lv_aload_n hx hb dX12_reckons_110 rfl (lv_at hl 4 rfl) ?_
          obtain ⟨r_87, v_88, q_89, hf_86, hr_90, hv_91⟩ := (show tp_o_M L K 0 0 (Γ_84 (39, 0, 0)) (f_82 o) from hI.at ho)
          refine tq_clR hS (hAf _ hS.1) (tq_rV (As := []) (rest := []) ⟨hx, hb, hml, hown, hta⟩ (tp_P.pre hK hN hL hU hI hP) (tp_recv hK hP ho.1 hf_86 rfl) lk_X12_340 (r_X12_pop l D cy H.size L K Γ_84 f_82 o ho (by first | omega | (simp only [Int32.toInt_toInt64]; omega) | decide | assumption)) rfl rfl ⟨Nat.le_of_ble_eq_true rfl, Nat.le_of_ble_eq_true rfl⟩ rfl hl.1 rfl (Nat.le_of_ble_eq_true rfl) dX12_reckons_111 ⟨Nat.le_of_ble_eq_true rfl, Nat.le_of_ble_eq_true rfl⟩) (fun r_101 f_102 Γ_104 H locs hw_100 hP hI hc_103 hcg_105 hS => ?_)
          have hD : va_D A (va_pl L f_102) := tp_D hL hAL
          have hfr := tp_fr2 hfr hc_103 (by decide)
          have hgr : ∀ κ : tk_K, κ.1 ∉ ([39, 57] : List Nat) → Γ_104 κ = Γ κ := tg_fr2 hgr hcg_105 (by decide)
          have hw_100 : Γ_104 (39, 0, 0) 9 = Γ_84 (39, 0, 0) 9 - 1 ∧ Γ_104 (39, 0, 0) 0 = Γ_84 (39, 0, 0) 0 ∧ Γ_104 (39, 0, 0) 10 = Γ_84 (39, 0, 0) 10 ∧ Γ_104 (39, 0, 0) 11 = Γ_84 (39, 0, 0) 11 ∧ Γ_104 (39, 0, 0) 12 = Γ_84 (39, 0, 0) 12 ∧ Γ_104 (39, 0, 0) 13 = Γ_84 (39, 0, 0) 13 ∧ Γ_104 (39, 0, 0) 14 = Γ_84 (39, 0, 0) 14 ∧ Γ_104 (39, 0, 0) 15 = Γ_84 (39, 0, 0) 15 := hw_100
          refine lv_lstore (lv' := [(9, .long r_101), (7, .long r_81), (6, .int z_76), (5, .int z_71), (4, .int v4), (0, .ref o), (1, .int p0), (2, .int p1), (3, .int p2)]) hx hb dX12_reckons_114 hl (by decide) rfl (fun ls hl => ?_)
          refine lv_aload_n hx hb dX12_reckons_116 rfl (lv_at hl 5 rfl) ?_
          refine lv_iload hx hb dX12_reckons_117 (lv_at hl 3 rfl) ?_
          refine lv_lload hx hb dX12_reckons_119 (lv_at hl 0 rfl) ?_
          refine lv_lload hx hb dX12_reckons_121 (lv_at hl 1 rfl) ?_
          refine tl_sl (tq_rS (As := [.int z_71, .long r_101, .long r_81]) (rest := [.ref o]) ⟨hx, hb, hml, hown, hta⟩ (tp_P.pre hK hN hL hU hI hP) lk_X12_344 (r_X12_one l D cy H.size L K Γ_104 f_102 z_71 r_101 r_81 ) rfl rfl ⟨Nat.le_of_ble_eq_true rfl, Nat.le_of_ble_eq_true rfl⟩ rfl hl.1 rfl (Nat.le_of_ble_eq_true rfl) dX12_reckons_123 ⟨Nat.le_of_ble_eq_true rfl, Nat.le_of_ble_eq_true rfl⟩) (fun r_107 hw_106 => ?_)
          obtain ⟨r_109, v_110, q_111, hf_108, hr_112, hv_113⟩ := (show tp_o_M L K 0 0 (Γ_104 (39, 0, 0)) (f_102 o) from hI.at ho)
          refine tq_cvR hS (hAf _ hS.1) (tq_rV (As := [.long r_107]) (rest := []) ⟨hx, hb, hml, hown, hta⟩ (tp_P.pre hK hN hL hU hI hP) (tp_recv hK hP ho.1 hf_108 rfl) lk_X12_336 (r_X12_push l D cy H.size L K Γ_104 f_102 o r_107 ho (by first | omega | (simp only [Int32.toInt_toInt64]; omega) | decide | assumption)) rfl rfl ⟨Nat.le_of_ble_eq_true rfl, Nat.le_of_ble_eq_true rfl⟩ rfl hl.1 rfl (Nat.le_of_ble_eq_true rfl) dX12_reckons_126 ⟨Nat.le_of_ble_eq_true rfl, Nat.le_of_ble_eq_true rfl⟩) (fun f_124 Γ_126 H locs hw_122 hP hI hc_125 hcg_127 hS => ?_)
          have hD : va_D A (va_pl L f_124) := tp_D hL hAL
          have hfr := tp_fr2 hfr hc_125 (by decide)
          have hgr : ∀ κ : tk_K, κ.1 ∉ ([39, 57] : List Nat) → Γ_126 κ = Γ κ := tg_fr2 hgr hcg_127 (by decide)
          have hw_122 : Γ_126 (39, 0, 0) 9 = Γ_104 (39, 0, 0) 9 + 1 ∧ Γ_126 (39, 0, 0) 0 = Γ_104 (39, 0, 0) 0 ∧ Γ_126 (39, 0, 0) 10 = Γ_104 (39, 0, 0) 10 ∧ Γ_126 (39, 0, 0) 11 = Γ_104 (39, 0, 0) 11 ∧ Γ_126 (39, 0, 0) 12 = Γ_104 (39, 0, 0) 12 ∧ Γ_126 (39, 0, 0) 13 = Γ_104 (39, 0, 0) 13 ∧ Γ_126 (39, 0, 0) 14 = Γ_104 (39, 0, 0) 14 ∧ Γ_126 (39, 0, 0) 15 = Γ_104 (39, 0, 0) 15 := hw_122
          obtain ⟨z_128, ez_128⟩ : ∃ y : Int32, y = v4 + 1 := ⟨_, rfl⟩
          refine lv_iinc (v := z_128) (lv' := [(4, .int z_128), (9, .long r_101), (7, .long r_81), (6, .int z_76), (5, .int z_71), (0, .ref o), (1, .int p0), (2, .int p1), (3, .int p2)]) hx hb dX12_reckons_129 hl (k := 4) rfl (by rw [ez_128]; rfl) (by decide) rfl (fun ls hl => ?_)
          try have iz_128 : z_128.toInt = v4.toInt + 1 := by rw [ez_128]; exact tl_addL v4 1 (by decide) (by omega) (by omega)
          refine lv_goto (tgt := 8) hx hb dX12_reckons_132 (by decide) ?_
          exact ih8 (f_124, Γ_126, z_128) H locs ls (by show (p2.toInt - z_128.toInt).toNat < (p2.toInt - v4.toInt).toNat; omega) ⟨(show p1.toInt ≤ z_128.toInt ∧ z_128.toInt ≤ p2.toInt from (by omega)), (show Γ_126 (39, 0, 0) 9 = rd (Γ (43, 8800, 0)) (400 * p0.toInt + p1.toInt).toNat (z_128.toInt - p1.toInt).toNat from (by rw [show (z_128.toInt - p1.toInt).toNat = (v4.toInt - p1.toInt).toNat + 1 from by omega, hdel]; omega)), (show Γ_126 (39, 0, 0) 9 ≤ 60 from (by omega)), (show Γ_126 (39, 0, 0) 0 = Γ (39, 0, 0) 0 from (by omega)), (show Γ_126 (39, 0, 0) 10 = Γ (39, 0, 0) 10 from (by omega)), (show Γ_126 (39, 0, 0) 11 = Γ (39, 0, 0) 11 from (by omega)), (show Γ_126 (39, 0, 0) 12 = Γ (39, 0, 0) 12 from (by omega)), (show Γ_126 (39, 0, 0) 13 = Γ (39, 0, 0) 13 from (by omega)), (show Γ_126 (39, 0, 0) 14 = Γ (39, 0, 0) 14 from (by omega)), (show Γ_126 (39, 0, 0) 15 = Γ (39, 0, 0) 15 from (by omega)), hP, hI, hfr, hgr, hS, lv_sub hl [0, 5, 6, 7, 8] rfl⟩
        · have c_79 : z_71.toInt = (11 : Int) := tl_eq c_79
          refine lv_aload_n hx hb dX12_reckons_91 rfl (lv_at hl 3 rfl) ?_
          refine lv_lconst (v := 1) hx hb dX12_reckons_92 (by decide) ?_
          refine lv_aload_n hx hb dX12_reckons_93 rfl (lv_at hl 3 rfl) ?_
          refine tq_clR hS (hAf _ hS.1) (tq_rV (As := []) (rest := [.long 1, .ref o]) ⟨hx, hb, hml, hown, hta⟩ (tp_P.pre hK hN hL hU hI hP) (tp_recv hK hP ho.1 hf_50 rfl) lk_X12_340 (r_X12_pop l D cy H.size L K Γ_28 f_27 o ho (by first | omega | (simp only [Int32.toInt_toInt64]; omega) | decide | assumption)) rfl rfl ⟨Nat.le_of_ble_eq_true rfl, Nat.le_of_ble_eq_true rfl⟩ rfl hl.1 rfl (Nat.le_of_ble_eq_true rfl) dX12_reckons_94 ⟨Nat.le_of_ble_eq_true rfl, Nat.le_of_ble_eq_true rfl⟩) (fun r_130 f_131 Γ_133 H locs hw_129 hP hI hc_132 hcg_134 hS => ?_)
          have hD : va_D A (va_pl L f_131) := tp_D hL hAL
          have hfr := tp_fr2 hfr hc_132 (by decide)
          have hgr : ∀ κ : tk_K, κ.1 ∉ ([39, 57] : List Nat) → Γ_133 κ = Γ κ := tg_fr2 hgr hcg_134 (by decide)
          have hw_129 : Γ_133 (39, 0, 0) 9 = Γ_28 (39, 0, 0) 9 - 1 ∧ Γ_133 (39, 0, 0) 0 = Γ_28 (39, 0, 0) 0 ∧ Γ_133 (39, 0, 0) 10 = Γ_28 (39, 0, 0) 10 ∧ Γ_133 (39, 0, 0) 11 = Γ_28 (39, 0, 0) 11 ∧ Γ_133 (39, 0, 0) 12 = Γ_28 (39, 0, 0) 12 ∧ Γ_133 (39, 0, 0) 13 = Γ_28 (39, 0, 0) 13 ∧ Γ_133 (39, 0, 0) 14 = Γ_28 (39, 0, 0) 14 ∧ Γ_133 (39, 0, 0) 15 = Γ_28 (39, 0, 0) 15 := hw_129
          refine lv_lsub hx hb dX12_reckons_97 ?_
          refine lv_topl (fun z_135 ez_135 => ?_)
          obtain ⟨r_137, v_138, q_139, hf_136, hr_140, hv_141⟩ := (show tp_o_M L K 0 0 (Γ_133 (39, 0, 0)) (f_131 o) from hI.at ho)
          refine tq_cvR hS (hAf _ hS.1) (tq_rV (As := [.long z_135]) (rest := []) ⟨hx, hb, hml, hown, hta⟩ (tp_P.pre hK hN hL hU hI hP) (tp_recv hK hP ho.1 hf_136 rfl) lk_X12_336 (r_X12_push l D cy H.size L K Γ_133 f_131 o z_135 ho (by first | omega | (simp only [Int32.toInt_toInt64]; omega) | decide | assumption)) rfl rfl ⟨Nat.le_of_ble_eq_true rfl, Nat.le_of_ble_eq_true rfl⟩ rfl hl.1 rfl (Nat.le_of_ble_eq_true rfl) dX12_reckons_98 ⟨Nat.le_of_ble_eq_true rfl, Nat.le_of_ble_eq_true rfl⟩) (fun f_152 Γ_154 H locs hw_150 hP hI hc_153 hcg_155 hS => ?_)
          have hD : va_D A (va_pl L f_152) := tp_D hL hAL
          have hfr := tp_fr2 hfr hc_153 (by decide)
          have hgr : ∀ κ : tk_K, κ.1 ∉ ([39, 57] : List Nat) → Γ_154 κ = Γ κ := tg_fr2 hgr hcg_155 (by decide)
          have hw_150 : Γ_154 (39, 0, 0) 9 = Γ_133 (39, 0, 0) 9 + 1 ∧ Γ_154 (39, 0, 0) 0 = Γ_133 (39, 0, 0) 0 ∧ Γ_154 (39, 0, 0) 10 = Γ_133 (39, 0, 0) 10 ∧ Γ_154 (39, 0, 0) 11 = Γ_133 (39, 0, 0) 11 ∧ Γ_154 (39, 0, 0) 12 = Γ_133 (39, 0, 0) 12 ∧ Γ_154 (39, 0, 0) 13 = Γ_133 (39, 0, 0) 13 ∧ Γ_154 (39, 0, 0) 14 = Γ_133 (39, 0, 0) 14 ∧ Γ_154 (39, 0, 0) 15 = Γ_133 (39, 0, 0) 15 := hw_150
          refine lv_goto (tgt := 129) hx hb dX12_reckons_101 (by decide) ?_
          obtain ⟨z_156, ez_156⟩ : ∃ y : Int32, y = v4 + 1 := ⟨_, rfl⟩
          refine lv_iinc (v := z_156) (lv' := [(4, .int z_156), (6, .int z_76), (5, .int z_71), (0, .ref o), (1, .int p0), (2, .int p1), (3, .int p2)]) hx hb dX12_reckons_129 hl (k := 2) rfl (by rw [ez_156]; rfl) (by decide) rfl (fun ls hl => ?_)
          try have iz_156 : z_156.toInt = v4.toInt + 1 := by rw [ez_156]; exact tl_addL v4 1 (by decide) (by omega) (by omega)
          refine lv_goto (tgt := 8) hx hb dX12_reckons_132 (by decide) ?_
          exact ih8 (f_152, Γ_154, z_156) H locs ls (by show (p2.toInt - z_156.toInt).toNat < (p2.toInt - v4.toInt).toNat; omega) ⟨(show p1.toInt ≤ z_156.toInt ∧ z_156.toInt ≤ p2.toInt from (by omega)), (show Γ_154 (39, 0, 0) 9 = rd (Γ (43, 8800, 0)) (400 * p0.toInt + p1.toInt).toNat (z_156.toInt - p1.toInt).toNat from (by rw [show (z_156.toInt - p1.toInt).toNat = (v4.toInt - p1.toInt).toNat + 1 from by omega, hdel]; omega)), (show Γ_154 (39, 0, 0) 9 ≤ 60 from (by omega)), (show Γ_154 (39, 0, 0) 0 = Γ (39, 0, 0) 0 from (by omega)), (show Γ_154 (39, 0, 0) 10 = Γ (39, 0, 0) 10 from (by omega)), (show Γ_154 (39, 0, 0) 11 = Γ (39, 0, 0) 11 from (by omega)), (show Γ_154 (39, 0, 0) 12 = Γ (39, 0, 0) 12 from (by omega)), (show Γ_154 (39, 0, 0) 13 = Γ (39, 0, 0) 13 from (by omega)), (show Γ_154 (39, 0, 0) 14 = Γ (39, 0, 0) 14 from (by omega)), (show Γ_154 (39, 0, 0) 15 = Γ (39, 0, 0) 15 from (by omega)), hP, hI, hfr, hgr, hS, lv_sub hl [0, 3, 4, 5, 6] rfl⟩
      · have c_78 : z_71.toInt = (1 : Int) := tl_eq c_78
        refine lv_aload_n hx hb dX12_reckons_70 rfl (lv_at hl 3 rfl) ?_
        refine lv_aload_n hx hb dX12_reckons_71 rfl (lv_at hl 3 rfl) ?_
        refine tp_get (cy := cy) (ci := 12) (v := .ref (r_51 18)) (C := RX12) (T := TX12) (N := 49) hx hb hta inlX12 hown hK hP ho.1 hf_50 rfl 28 (by decide) (hta _ wk_168) (fun _ h9 => h9) rfl dX12_reckons_72 ?_
        refine lv_iload hx hb dX12_reckons_75 (lv_at hl 0 rfl) ?_
        obtain ⟨g_158, hf_157⟩ := (show tp_aj cy (5) (f (r_51 18)) from hI0.at (show tp_r L K 58 5 0 (r_51 18) from hr_54 18 (by decide)))
        have hn_160 : vp_in z_76 (5) := tl_in (by omega) (by omega)
        refine tp_lald (cy := cy) hx hb hK hP (show tp_r L K 58 5 0 (r_51 18) from hr_54 18 (by decide)).1 ((tp_un hfr (show tp_r L K 58 5 0 (r_51 18) from hr_54 18 (by decide)) (by decide)).trans hf_157) hn_160 dX12_reckons_77 ?_
        refine lv_topl (fun z_161 ez_161 => ?_)
        refine tq_cvR hS (hAf _ hS.1) (tq_rV (As := [.long z_161]) (rest := []) ⟨hx, hb, hml, hown, hta⟩ (tp_P.pre hK hN hL hU hI hP) (tp_recv hK hP ho.1 hf_50 rfl) lk_X12_336 (r_X12_push l D cy H.size L K Γ_28 f_27 o z_161 ho (by first | omega | (simp only [Int32.toInt_toInt64]; omega) | decide | assumption)) rfl rfl ⟨Nat.le_of_ble_eq_true rfl, Nat.le_of_ble_eq_true rfl⟩ rfl hl.1 rfl (Nat.le_of_ble_eq_true rfl) dX12_reckons_78 ⟨Nat.le_of_ble_eq_true rfl, Nat.le_of_ble_eq_true rfl⟩) (fun f_164 Γ_166 H locs hw_162 hP hI hc_165 hcg_167 hS => ?_)
        have hD : va_D A (va_pl L f_164) := tp_D hL hAL
        have hfr := tp_fr2 hfr hc_165 (by decide)
        have hgr : ∀ κ : tk_K, κ.1 ∉ ([39, 57] : List Nat) → Γ_166 κ = Γ κ := tg_fr2 hgr hcg_167 (by decide)
        have hw_162 : Γ_166 (39, 0, 0) 9 = Γ_28 (39, 0, 0) 9 + 1 ∧ Γ_166 (39, 0, 0) 0 = Γ_28 (39, 0, 0) 0 ∧ Γ_166 (39, 0, 0) 10 = Γ_28 (39, 0, 0) 10 ∧ Γ_166 (39, 0, 0) 11 = Γ_28 (39, 0, 0) 11 ∧ Γ_166 (39, 0, 0) 12 = Γ_28 (39, 0, 0) 12 ∧ Γ_166 (39, 0, 0) 13 = Γ_28 (39, 0, 0) 13 ∧ Γ_166 (39, 0, 0) 14 = Γ_28 (39, 0, 0) 14 ∧ Γ_166 (39, 0, 0) 15 = Γ_28 (39, 0, 0) 15 := hw_162
        refine lv_goto (tgt := 129) hx hb dX12_reckons_81 (by decide) ?_
        obtain ⟨z_168, ez_168⟩ : ∃ y : Int32, y = v4 + 1 := ⟨_, rfl⟩
        refine lv_iinc (v := z_168) (lv' := [(4, .int z_168), (6, .int z_76), (5, .int z_71), (0, .ref o), (1, .int p0), (2, .int p1), (3, .int p2)]) hx hb dX12_reckons_129 hl (k := 2) rfl (by rw [ez_168]; rfl) (by decide) rfl (fun ls hl => ?_)
        try have iz_168 : z_168.toInt = v4.toInt + 1 := by rw [ez_168]; exact tl_addL v4 1 (by decide) (by omega) (by omega)
        refine lv_goto (tgt := 8) hx hb dX12_reckons_132 (by decide) ?_
        exact ih8 (f_164, Γ_166, z_168) H locs ls (by show (p2.toInt - z_168.toInt).toNat < (p2.toInt - v4.toInt).toNat; omega) ⟨(show p1.toInt ≤ z_168.toInt ∧ z_168.toInt ≤ p2.toInt from (by omega)), (show Γ_166 (39, 0, 0) 9 = rd (Γ (43, 8800, 0)) (400 * p0.toInt + p1.toInt).toNat (z_168.toInt - p1.toInt).toNat from (by rw [show (z_168.toInt - p1.toInt).toNat = (v4.toInt - p1.toInt).toNat + 1 from by omega, hdel]; omega)), (show Γ_166 (39, 0, 0) 9 ≤ 60 from (by omega)), (show Γ_166 (39, 0, 0) 0 = Γ (39, 0, 0) 0 from (by omega)), (show Γ_166 (39, 0, 0) 10 = Γ (39, 0, 0) 10 from (by omega)), (show Γ_166 (39, 0, 0) 11 = Γ (39, 0, 0) 11 from (by omega)), (show Γ_166 (39, 0, 0) 12 = Γ (39, 0, 0) 12 from (by omega)), (show Γ_166 (39, 0, 0) 13 = Γ (39, 0, 0) 13 from (by omega)), (show Γ_166 (39, 0, 0) 14 = Γ (39, 0, 0) 14 from (by omega)), (show Γ_166 (39, 0, 0) 15 = Γ (39, 0, 0) 15 from (by omega)), hP, hI, hfr, hgr, hS, lv_sub hl [0, 3, 4, 5, 6] rfl⟩
    · have c_77 : z_71.toInt = (0 : Int) := tl_eq c_77
      refine lv_aload_n hx hb dX12_reckons_54 rfl (lv_at hl 3 rfl) ?_
      refine lv_iload hx hb dX12_reckons_55 (lv_at hl 0 rfl) ?_
      refine lv_i2l (v := z_76.toInt64) hx hb dX12_reckons_57 (by first | rfl | decide) ?_
      refine tq_cvR hS (hAf _ hS.1) (tq_rV (As := [.long z_76.toInt64]) (rest := []) ⟨hx, hb, hml, hown, hta⟩ (tp_P.pre hK hN hL hU hI hP) (tp_recv hK hP ho.1 hf_50 rfl) lk_X12_336 (r_X12_push l D cy H.size L K Γ_28 f_27 o z_76.toInt64 ho (by first | omega | (simp only [Int32.toInt_toInt64]; omega) | decide | assumption)) rfl rfl ⟨Nat.le_of_ble_eq_true rfl, Nat.le_of_ble_eq_true rfl⟩ rfl hl.1 rfl (Nat.le_of_ble_eq_true rfl) dX12_reckons_58 ⟨Nat.le_of_ble_eq_true rfl, Nat.le_of_ble_eq_true rfl⟩) (fun f_171 Γ_173 H locs hw_169 hP hI hc_172 hcg_174 hS => ?_)
      have hD : va_D A (va_pl L f_171) := tp_D hL hAL
      have hfr := tp_fr2 hfr hc_172 (by decide)
      have hgr : ∀ κ : tk_K, κ.1 ∉ ([39, 57] : List Nat) → Γ_173 κ = Γ κ := tg_fr2 hgr hcg_174 (by decide)
      have hw_169 : Γ_173 (39, 0, 0) 9 = Γ_28 (39, 0, 0) 9 + 1 ∧ Γ_173 (39, 0, 0) 0 = Γ_28 (39, 0, 0) 0 ∧ Γ_173 (39, 0, 0) 10 = Γ_28 (39, 0, 0) 10 ∧ Γ_173 (39, 0, 0) 11 = Γ_28 (39, 0, 0) 11 ∧ Γ_173 (39, 0, 0) 12 = Γ_28 (39, 0, 0) 12 ∧ Γ_173 (39, 0, 0) 13 = Γ_28 (39, 0, 0) 13 ∧ Γ_173 (39, 0, 0) 14 = Γ_28 (39, 0, 0) 14 ∧ Γ_173 (39, 0, 0) 15 = Γ_28 (39, 0, 0) 15 := hw_169
      refine lv_goto (tgt := 129) hx hb dX12_reckons_61 (by decide) ?_
      obtain ⟨z_175, ez_175⟩ : ∃ y : Int32, y = v4 + 1 := ⟨_, rfl⟩
      refine lv_iinc (v := z_175) (lv' := [(4, .int z_175), (6, .int z_76), (5, .int z_71), (0, .ref o), (1, .int p0), (2, .int p1), (3, .int p2)]) hx hb dX12_reckons_129 hl (k := 2) rfl (by rw [ez_175]; rfl) (by decide) rfl (fun ls hl => ?_)
      try have iz_175 : z_175.toInt = v4.toInt + 1 := by rw [ez_175]; exact tl_addL v4 1 (by decide) (by omega) (by omega)
      refine lv_goto (tgt := 8) hx hb dX12_reckons_132 (by decide) ?_
      exact ih8 (f_171, Γ_173, z_175) H locs ls (by show (p2.toInt - z_175.toInt).toNat < (p2.toInt - v4.toInt).toNat; omega) ⟨(show p1.toInt ≤ z_175.toInt ∧ z_175.toInt ≤ p2.toInt from (by omega)), (show Γ_173 (39, 0, 0) 9 = rd (Γ (43, 8800, 0)) (400 * p0.toInt + p1.toInt).toNat (z_175.toInt - p1.toInt).toNat from (by rw [show (z_175.toInt - p1.toInt).toNat = (v4.toInt - p1.toInt).toNat + 1 from by omega, hdel]; omega)), (show Γ_173 (39, 0, 0) 9 ≤ 60 from (by omega)), (show Γ_173 (39, 0, 0) 0 = Γ (39, 0, 0) 0 from (by omega)), (show Γ_173 (39, 0, 0) 10 = Γ (39, 0, 0) 10 from (by omega)), (show Γ_173 (39, 0, 0) 11 = Γ (39, 0, 0) 11 from (by omega)), (show Γ_173 (39, 0, 0) 12 = Γ (39, 0, 0) 12 from (by omega)), (show Γ_173 (39, 0, 0) 13 = Γ (39, 0, 0) 13 from (by omega)), (show Γ_173 (39, 0, 0) 14 = Γ (39, 0, 0) 14 from (by omega)), (show Γ_173 (39, 0, 0) 15 = Γ (39, 0, 0) 15 from (by omega)), hP, hI, hfr, hgr, hS, lv_sub hl [0, 3, 4, 5, 6] rfl⟩
