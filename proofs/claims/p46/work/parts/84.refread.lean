theorem dX12_fails_0 : decode cX12_fails 0 = .ok (.aload_n 0, 1) := by decide +kernel
theorem dX12_fails_1 : decode cX12_fails 1 = .ok (.getfield 161, 3) := by decide +kernel
theorem dX12_fails_4 : decode cX12_fails 4 = .ok (.ifCond .ne 15, 3) := by decide +kernel
theorem dX12_fails_7 : decode cX12_fails 7 = .ok (.aload_n 0, 1) := by decide +kernel
theorem dX12_fails_8 : decode cX12_fails 8 = .ok (.iconst 1, 1) := by decide +kernel
theorem dX12_fails_9 : decode cX12_fails 9 = .ok (.bipush 8, 2) := by decide +kernel
theorem dX12_fails_11 : decode cX12_fails 11 = .ok (.iload_n 2, 1) := by decide +kernel
theorem dX12_fails_12 : decode cX12_fails 12 = .ok (.imul, 1) := by decide +kernel
theorem dX12_fails_13 : decode cX12_fails 13 = .ok (.iadd, 1) := by decide +kernel
theorem dX12_fails_14 : decode cX12_fails 14 = .ok (.iload_n 1, 1) := by decide +kernel
theorem dX12_fails_15 : decode cX12_fails 15 = .ok (.iadd, 1) := by decide +kernel
theorem dX12_fails_16 : decode cX12_fails 16 = .ok (.putfield 161, 3) := by decide +kernel
theorem dX12_fails_19 : decode cX12_fails 19 = .ok (.iconst 0, 1) := by decide +kernel
theorem dX12_fails_20 : decode cX12_fails 20 = .ok (.ireturn, 1) := by decide +kernel
theorem wk_540 : Cond.fieldLink RX12 161 "ThinLineModel" "wrong" "I" ∈ tl_L := List.mem_filter.mpr ⟨lw_m6 (i := 83) rfl, rfl⟩
theorem dX12_isDigit_0 : decode cX12_isDigit 0 = .ok (.iload_n 1, 1) := by decide +kernel
theorem dX12_isDigit_1 : decode cX12_isDigit 1 = .ok (.aload_n 0, 1) := by decide +kernel
theorem dX12_isDigit_2 : decode cX12_isDigit 2 = .ok (.getfield 153, 3) := by decide +kernel
theorem dX12_isDigit_5 : decode cX12_isDigit 5 = .ok (.if_icmp .ge 29, 3) := by decide +kernel
theorem dX12_isDigit_8 : decode cX12_isDigit 8 = .ok (.aload_n 0, 1) := by decide +kernel
theorem dX12_isDigit_9 : decode cX12_isDigit 9 = .ok (.getfield 13, 3) := by decide +kernel
theorem dX12_isDigit_12 : decode cX12_isDigit 12 = .ok (.iload_n 1, 1) := by decide +kernel
theorem dX12_isDigit_13 : decode cX12_isDigit 13 = .ok (.baload, 1) := by decide +kernel
theorem dX12_isDigit_14 : decode cX12_isDigit 14 = .ok (.bipush 48, 2) := by decide +kernel
theorem dX12_isDigit_16 : decode cX12_isDigit 16 = .ok (.if_icmp .lt 18, 3) := by decide +kernel
theorem dX12_isDigit_19 : decode cX12_isDigit 19 = .ok (.aload_n 0, 1) := by decide +kernel
theorem dX12_isDigit_20 : decode cX12_isDigit 20 = .ok (.getfield 13, 3) := by decide +kernel
theorem dX12_isDigit_23 : decode cX12_isDigit 23 = .ok (.iload_n 1, 1) := by decide +kernel
theorem dX12_isDigit_24 : decode cX12_isDigit 24 = .ok (.baload, 1) := by decide +kernel
theorem dX12_isDigit_25 : decode cX12_isDigit 25 = .ok (.bipush 57, 2) := by decide +kernel
theorem dX12_isDigit_27 : decode cX12_isDigit 27 = .ok (.if_icmp .gt 7, 3) := by decide +kernel
theorem dX12_isDigit_30 : decode cX12_isDigit 30 = .ok (.iconst 1, 1) := by decide +kernel
theorem dX12_isDigit_31 : decode cX12_isDigit 31 = .ok (.goto 4, 3) := by decide +kernel
theorem dX12_isDigit_34 : decode cX12_isDigit 34 = .ok (.iconst 0, 1) := by decide +kernel
theorem dX12_isDigit_35 : decode cX12_isDigit 35 = .ok (.ireturn, 1) := by decide +kernel
theorem wk_151 : Cond.fieldLink RX12 13 "ThinLineModel" "tape" "[B" ∈ tl_L := List.mem_filter.mpr ⟨lw_m6 (i := 66) rfl, rfl⟩
theorem wk_347 : Cond.fieldLink RX12 153 "ThinLineModel" "taped" "I" ∈ tl_L := List.mem_filter.mpr ⟨lw_m6 (i := 67) rfl, rfl⟩
theorem dX12_isLetter_0 : decode cX12_isLetter 0 = .ok (.iload_n 1, 1) := by decide +kernel
theorem dX12_isLetter_1 : decode cX12_isLetter 1 = .ok (.aload_n 0, 1) := by decide +kernel
theorem dX12_isLetter_2 : decode cX12_isLetter 2 = .ok (.getfield 153, 3) := by decide +kernel
theorem dX12_isLetter_5 : decode cX12_isLetter 5 = .ok (.if_icmp .ge 29, 3) := by decide +kernel
theorem dX12_isLetter_8 : decode cX12_isLetter 8 = .ok (.aload_n 0, 1) := by decide +kernel
theorem dX12_isLetter_9 : decode cX12_isLetter 9 = .ok (.getfield 13, 3) := by decide +kernel
theorem dX12_isLetter_12 : decode cX12_isLetter 12 = .ok (.iload_n 1, 1) := by decide +kernel
theorem dX12_isLetter_13 : decode cX12_isLetter 13 = .ok (.baload, 1) := by decide +kernel
theorem dX12_isLetter_14 : decode cX12_isLetter 14 = .ok (.bipush 97, 2) := by decide +kernel
theorem dX12_isLetter_16 : decode cX12_isLetter 16 = .ok (.if_icmp .lt 18, 3) := by decide +kernel
theorem dX12_isLetter_19 : decode cX12_isLetter 19 = .ok (.aload_n 0, 1) := by decide +kernel
theorem dX12_isLetter_20 : decode cX12_isLetter 20 = .ok (.getfield 13, 3) := by decide +kernel
theorem dX12_isLetter_23 : decode cX12_isLetter 23 = .ok (.iload_n 1, 1) := by decide +kernel
theorem dX12_isLetter_24 : decode cX12_isLetter 24 = .ok (.baload, 1) := by decide +kernel
theorem dX12_isLetter_25 : decode cX12_isLetter 25 = .ok (.bipush 122, 2) := by decide +kernel
theorem dX12_isLetter_27 : decode cX12_isLetter 27 = .ok (.if_icmp .gt 7, 3) := by decide +kernel
theorem dX12_isLetter_30 : decode cX12_isLetter 30 = .ok (.iconst 1, 1) := by decide +kernel
theorem dX12_isLetter_31 : decode cX12_isLetter 31 = .ok (.goto 4, 3) := by decide +kernel
theorem dX12_isLetter_34 : decode cX12_isLetter 34 = .ok (.iconst 0, 1) := by decide +kernel
theorem dX12_isLetter_35 : decode cX12_isLetter 35 = .ok (.ireturn, 1) := by decide +kernel
theorem dX12_see_0 : decode cX12_see 0 = .ok (.aload_n 0, 1) := by decide +kernel
theorem dX12_see_1 : decode cX12_see 1 = .ok (.getfield 164, 3) := by decide +kernel
theorem dX12_see_4 : decode cX12_see 4 = .ok (.aload_n 0, 1) := by decide +kernel
theorem dX12_see_5 : decode cX12_see 5 = .ok (.getfield 153, 3) := by decide +kernel
theorem dX12_see_8 : decode cX12_see 8 = .ok (.if_icmp .ge 30, 3) := by decide +kernel
theorem dX12_see_11 : decode cX12_see 11 = .ok (.aload_n 0, 1) := by decide +kernel
theorem dX12_see_12 : decode cX12_see 12 = .ok (.getfield 13, 3) := by decide +kernel
theorem dX12_see_15 : decode cX12_see 15 = .ok (.aload_n 0, 1) := by decide +kernel
theorem dX12_see_16 : decode cX12_see 16 = .ok (.getfield 164, 3) := by decide +kernel
theorem dX12_see_19 : decode cX12_see 19 = .ok (.baload, 1) := by decide +kernel
theorem dX12_see_20 : decode cX12_see 20 = .ok (.bipush 32, 2) := by decide +kernel
theorem dX12_see_22 : decode cX12_see 22 = .ok (.if_icmp .ne 16, 3) := by decide +kernel
theorem dX12_see_25 : decode cX12_see 25 = .ok (.aload_n 0, 1) := by decide +kernel
theorem dX12_see_26 : decode cX12_see 26 = .ok (.dup, 1) := by decide +kernel
theorem dX12_see_27 : decode cX12_see 27 = .ok (.getfield 164, 3) := by decide +kernel
theorem dX12_see_30 : decode cX12_see 30 = .ok (.iconst 1, 1) := by decide +kernel
theorem dX12_see_31 : decode cX12_see 31 = .ok (.iadd, 1) := by decide +kernel
theorem dX12_see_32 : decode cX12_see 32 = .ok (.putfield 164, 3) := by decide +kernel
theorem dX12_see_35 : decode cX12_see 35 = .ok (.goto (-35), 3) := by decide +kernel
theorem dX12_see_38 : decode cX12_see 38 = .ok (.aload_n 0, 1) := by decide +kernel
theorem dX12_see_39 : decode cX12_see 39 = .ok (.getfield 164, 3) := by decide +kernel
theorem dX12_see_42 : decode cX12_see 42 = .ok (.aload_n 0, 1) := by decide +kernel
theorem dX12_see_43 : decode cX12_see 43 = .ok (.getfield 153, 3) := by decide +kernel
theorem dX12_see_46 : decode cX12_see 46 = .ok (.if_icmp .ge 19, 3) := by decide +kernel
theorem dX12_see_49 : decode cX12_see 49 = .ok (.aload_n 0, 1) := by decide +kernel
theorem dX12_see_50 : decode cX12_see 50 = .ok (.getfield 13, 3) := by decide +kernel
theorem dX12_see_53 : decode cX12_see 53 = .ok (.aload_n 0, 1) := by decide +kernel
theorem dX12_see_54 : decode cX12_see 54 = .ok (.getfield 164, 3) := by decide +kernel
theorem dX12_see_57 : decode cX12_see 57 = .ok (.baload, 1) := by decide +kernel
theorem dX12_see_58 : decode cX12_see 58 = .ok (.sipush 255, 3) := by decide +kernel
theorem dX12_see_61 : decode cX12_see 61 = .ok (.iand, 1) := by decide +kernel
theorem dX12_see_62 : decode cX12_see 62 = .ok (.goto 4, 3) := by decide +kernel
theorem dX12_see_65 : decode cX12_see 65 = .ok (.iconst (-1), 1) := by decide +kernel
theorem dX12_see_66 : decode cX12_see 66 = .ok (.ireturn, 1) := by decide +kernel
theorem wk_539 : Cond.fieldLink RX12 164 "ThinLineModel" "next" "I" ∈ tl_L := List.mem_filter.mpr ⟨lw_m6 (i := 82) rfl, rfl⟩
theorem dX12_isWord_0 : decode cX12_isWord 0 = .ok (.aload_n 0, 1) := by decide +kernel
theorem dX12_isWord_1 : decode cX12_isWord 1 = .ok (.invokevirtual 167, 3) := by decide +kernel
theorem dX12_isWord_4 : decode cX12_isWord 4 = .ok (.pop, 1) := by decide +kernel
theorem dX12_isWord_5 : decode cX12_isWord 5 = .ok (.lconst 0, 1) := by decide +kernel
theorem dX12_isWord_6 : decode cX12_isWord 6 = .ok (.lstore_n 3, 1) := by decide +kernel
theorem dX12_isWord_7 : decode cX12_isWord 7 = .ok (.iconst 0, 1) := by decide +kernel
theorem dX12_isWord_8 : decode cX12_isWord 8 = .ok (.istore 5, 2) := by decide +kernel
theorem dX12_isWord_10 : decode cX12_isWord 10 = .ok (.aload_n 0, 1) := by decide +kernel
theorem dX12_isWord_11 : decode cX12_isWord 11 = .ok (.aload_n 0, 1) := by decide +kernel
theorem dX12_isWord_12 : decode cX12_isWord 12 = .ok (.getfield 164, 3) := by decide +kernel
theorem dX12_isWord_15 : decode cX12_isWord 15 = .ok (.iload 5, 2) := by decide +kernel
theorem dX12_isWord_17 : decode cX12_isWord 17 = .ok (.iadd, 1) := by decide +kernel
theorem dX12_isWord_18 : decode cX12_isWord 18 = .ok (.invokevirtual 171, 3) := by decide +kernel
theorem dX12_isWord_21 : decode cX12_isWord 21 = .ok (.ifCond .eq 35, 3) := by decide +kernel
theorem dX12_isWord_24 : decode cX12_isWord 24 = .ok (.iload 5, 2) := by decide +kernel
theorem dX12_isWord_26 : decode cX12_isWord 26 = .ok (.bipush 8, 2) := by decide +kernel
theorem dX12_isWord_28 : decode cX12_isWord 28 = .ok (.if_icmp .ge 22, 3) := by decide +kernel
theorem dX12_isWord_31 : decode cX12_isWord 31 = .ok (.lload_n 3, 1) := by decide +kernel
theorem dX12_isWord_32 : decode cX12_isWord 32 = .ok (.bipush 8, 2) := by decide +kernel
theorem dX12_isWord_34 : decode cX12_isWord 34 = .ok (.lshl, 1) := by decide +kernel
theorem dX12_isWord_35 : decode cX12_isWord 35 = .ok (.aload_n 0, 1) := by decide +kernel
theorem dX12_isWord_36 : decode cX12_isWord 36 = .ok (.getfield 13, 3) := by decide +kernel
theorem dX12_isWord_39 : decode cX12_isWord 39 = .ok (.aload_n 0, 1) := by decide +kernel
theorem dX12_isWord_40 : decode cX12_isWord 40 = .ok (.getfield 164, 3) := by decide +kernel
theorem dX12_isWord_43 : decode cX12_isWord 43 = .ok (.iload 5, 2) := by decide +kernel
theorem dX12_isWord_45 : decode cX12_isWord 45 = .ok (.iadd, 1) := by decide +kernel
theorem dX12_isWord_46 : decode cX12_isWord 46 = .ok (.baload, 1) := by decide +kernel
theorem dX12_isWord_47 : decode cX12_isWord 47 = .ok (.i2l, 1) := by decide +kernel
theorem dX12_isWord_48 : decode cX12_isWord 48 = .ok (.lor, 1) := by decide +kernel
theorem dX12_isWord_49 : decode cX12_isWord 49 = .ok (.lstore_n 3, 1) := by decide +kernel
theorem dX12_isWord_50 : decode cX12_isWord 50 = .ok (.iinc 5 1, 3) := by decide +kernel
theorem dX12_isWord_53 : decode cX12_isWord 53 = .ok (.goto (-43), 3) := by decide +kernel
theorem dX12_isWord_56 : decode cX12_isWord 56 = .ok (.iload 5, 2) := by decide +kernel
theorem dX12_isWord_58 : decode cX12_isWord 58 = .ok (.ifCond .le 20, 3) := by decide +kernel
theorem dX12_isWord_61 : decode cX12_isWord 61 = .ok (.iload 5, 2) := by decide +kernel
theorem dX12_isWord_63 : decode cX12_isWord 63 = .ok (.bipush 8, 2) := by decide +kernel
theorem dX12_isWord_65 : decode cX12_isWord 65 = .ok (.if_icmp .ge 13, 3) := by decide +kernel
theorem dX12_isWord_68 : decode cX12_isWord 68 = .ok (.lload_n 3, 1) := by decide +kernel
theorem dX12_isWord_69 : decode cX12_isWord 69 = .ok (.lload_n 1, 1) := by decide +kernel
theorem dX12_isWord_70 : decode cX12_isWord 70 = .ok (.lcmp, 1) := by decide +kernel
theorem dX12_isWord_71 : decode cX12_isWord 71 = .ok (.ifCond .ne 7, 3) := by decide +kernel
theorem dX12_isWord_74 : decode cX12_isWord 74 = .ok (.iconst 1, 1) := by decide +kernel
theorem dX12_isWord_75 : decode cX12_isWord 75 = .ok (.goto 4, 3) := by decide +kernel
theorem dX12_isWord_78 : decode cX12_isWord 78 = .ok (.iconst 0, 1) := by decide +kernel
theorem dX12_isWord_79 : decode cX12_isWord 79 = .ok (.ireturn, 1) := by decide +kernel
theorem wk_561 : Cond.methodLink RX12 167 yX12_see ∈ tl_L := List.mem_filter.mpr ⟨lw_m7 (i := 64) rfl, rfl⟩
theorem wk_562 : Cond.instanceMethod yX12_see ∈ tl_L := List.mem_filter.mpr ⟨lw_m7 (i := 66) rfl, rfl⟩
theorem wk_563 : Cond.selects RX12 yX12_see yX12_see ∈ tl_L := List.mem_filter.mpr ⟨lw_s7 (i := 15) (q := (yX12_see, 49)) rfl, rfl⟩
theorem wk_564 : Cond.code yX12_see cX12_see 1 (some .int) ∈ tl_L := List.mem_filter.mpr ⟨lw_m7 (i := 67) rfl, rfl⟩
theorem wk_573 : Cond.methodLink RX12 171 yX12_isLetter ∈ tl_L := List.mem_filter.mpr ⟨lw_m7 (i := 77) rfl, rfl⟩
theorem wk_574 : Cond.instanceMethod yX12_isLetter ∈ tl_L := List.mem_filter.mpr ⟨lw_m7 (i := 79) rfl, rfl⟩
theorem wk_575 : Cond.selects RX12 yX12_isLetter yX12_isLetter ∈ tl_L := List.mem_filter.mpr ⟨lw_s8 (i := 2) (q := (yX12_isLetter, 49)) rfl, rfl⟩
theorem wk_576 : Cond.code yX12_isLetter cX12_isLetter 2 (some .boolean) ∈ tl_L := List.mem_filter.mpr ⟨lw_m7 (i := 80) rfl, rfl⟩
theorem lk_X12_167 : tl_kV RX12 167 RX12 yX12_see cX12_see 1 (some .int) 0 := ⟨wk_564, wk_561, wk_562, wk_563, wk_5, ⟨by decide +kernel, by decide +kernel, by decide +kernel⟩⟩
theorem lk_X12_171 : tl_kV RX12 171 RX12 yX12_isLetter cX12_isLetter 2 (some .boolean) 1 := ⟨wk_576, wk_573, wk_574, wk_575, wk_5, ⟨by decide +kernel, by decide +kernel, by decide +kernel⟩⟩
theorem dX12_passWord_0 : decode cX12_passWord 0 = .ok (.aload_n 0, 1) := by decide +kernel
theorem dX12_passWord_1 : decode cX12_passWord 1 = .ok (.aload_n 0, 1) := by decide +kernel
theorem dX12_passWord_2 : decode cX12_passWord 2 = .ok (.getfield 164, 3) := by decide +kernel
theorem dX12_passWord_5 : decode cX12_passWord 5 = .ok (.invokevirtual 171, 3) := by decide +kernel
theorem dX12_passWord_8 : decode cX12_passWord 8 = .ok (.ifCond .eq 16, 3) := by decide +kernel
theorem dX12_passWord_11 : decode cX12_passWord 11 = .ok (.aload_n 0, 1) := by decide +kernel
theorem dX12_passWord_12 : decode cX12_passWord 12 = .ok (.dup, 1) := by decide +kernel
theorem dX12_passWord_13 : decode cX12_passWord 13 = .ok (.getfield 164, 3) := by decide +kernel
theorem dX12_passWord_16 : decode cX12_passWord 16 = .ok (.iconst 1, 1) := by decide +kernel
theorem dX12_passWord_17 : decode cX12_passWord 17 = .ok (.iadd, 1) := by decide +kernel
theorem dX12_passWord_18 : decode cX12_passWord 18 = .ok (.putfield 164, 3) := by decide +kernel
theorem dX12_passWord_21 : decode cX12_passWord 21 = .ok (.goto (-21), 3) := by decide +kernel
theorem dX12_passWord_24 : decode cX12_passWord 24 = .ok (.return_, 1) := by decide +kernel
theorem dX12_takesWord_0 : decode cX12_takesWord 0 = .ok (.aload_n 0, 1) := by decide +kernel
theorem dX12_takesWord_1 : decode cX12_takesWord 1 = .ok (.lload_n 1, 1) := by decide +kernel
theorem dX12_takesWord_2 : decode cX12_takesWord 2 = .ok (.invokevirtual 174, 3) := by decide +kernel
theorem dX12_takesWord_5 : decode cX12_takesWord 5 = .ok (.ifCond .ne 5, 3) := by decide +kernel
theorem dX12_takesWord_8 : decode cX12_takesWord 8 = .ok (.iconst 0, 1) := by decide +kernel
theorem dX12_takesWord_9 : decode cX12_takesWord 9 = .ok (.ireturn, 1) := by decide +kernel
theorem dX12_takesWord_10 : decode cX12_takesWord 10 = .ok (.aload_n 0, 1) := by decide +kernel
theorem dX12_takesWord_11 : decode cX12_takesWord 11 = .ok (.invokevirtual 178, 3) := by decide +kernel
theorem dX12_takesWord_14 : decode cX12_takesWord 14 = .ok (.iconst 1, 1) := by decide +kernel
theorem dX12_takesWord_15 : decode cX12_takesWord 15 = .ok (.ireturn, 1) := by decide +kernel
theorem wk_569 : Cond.methodLink RX12 174 yX12_isWord ∈ tl_L := List.mem_filter.mpr ⟨lw_m7 (i := 73) rfl, rfl⟩
theorem wk_570 : Cond.instanceMethod yX12_isWord ∈ tl_L := List.mem_filter.mpr ⟨lw_m7 (i := 75) rfl, rfl⟩
theorem wk_571 : Cond.selects RX12 yX12_isWord yX12_isWord ∈ tl_L := List.mem_filter.mpr ⟨lw_s8 (i := 1) (q := (yX12_isWord, 49)) rfl, rfl⟩
theorem wk_572 : Cond.code yX12_isWord cX12_isWord 6 (some .boolean) ∈ tl_L := List.mem_filter.mpr ⟨lw_m7 (i := 76) rfl, rfl⟩
theorem wk_590 : Cond.methodLink RX12 178 yX12_passWord ∈ tl_L := List.mem_filter.mpr ⟨lw_m7 (i := 101) rfl, rfl⟩
theorem wk_591 : Cond.instanceMethod yX12_passWord ∈ tl_L := List.mem_filter.mpr ⟨lw_m7 (i := 103) rfl, rfl⟩
theorem wk_592 : Cond.selects RX12 yX12_passWord yX12_passWord ∈ tl_L := List.mem_filter.mpr ⟨lw_s8 (i := 6) (q := (yX12_passWord, 49)) rfl, rfl⟩
theorem wk_593 : Cond.code yX12_passWord cX12_passWord 1 none ∈ tl_L := List.mem_filter.mpr ⟨lw_m7 (i := 104) rfl, rfl⟩
theorem lk_X12_174 : tl_kV RX12 174 RX12 yX12_isWord cX12_isWord 6 (some .boolean) 1 := ⟨wk_572, wk_569, wk_570, wk_571, wk_5, ⟨by decide +kernel, by decide +kernel, by decide +kernel⟩⟩
theorem lk_X12_178 : tl_kV RX12 178 RX12 yX12_passWord cX12_passWord 1 none 0 := ⟨wk_593, wk_590, wk_591, wk_592, wk_5, ⟨by decide +kernel, by decide +kernel, by decide +kernel⟩⟩
theorem dX12_numberHere_0 : decode cX12_numberHere 0 = .ok (.aload_n 0, 1) := by decide +kernel
theorem dX12_numberHere_1 : decode cX12_numberHere 1 = .ok (.invokevirtual 167, 3) := by decide +kernel
theorem dX12_numberHere_4 : decode cX12_numberHere 4 = .ok (.pop, 1) := by decide +kernel
theorem dX12_numberHere_5 : decode cX12_numberHere 5 = .ok (.aload_n 0, 1) := by decide +kernel
theorem dX12_numberHere_6 : decode cX12_numberHere 6 = .ok (.aload_n 0, 1) := by decide +kernel
theorem dX12_numberHere_7 : decode cX12_numberHere 7 = .ok (.getfield 164, 3) := by decide +kernel
theorem dX12_numberHere_10 : decode cX12_numberHere 10 = .ok (.invokevirtual 181, 3) := by decide +kernel
theorem dX12_numberHere_13 : decode cX12_numberHere 13 = .ok (.ifCond .ne 13, 3) := by decide +kernel
theorem dX12_numberHere_16 : decode cX12_numberHere 16 = .ok (.aload_n 0, 1) := by decide +kernel
theorem dX12_numberHere_17 : decode cX12_numberHere 17 = .ok (.iconst 0, 1) := by decide +kernel
theorem dX12_numberHere_18 : decode cX12_numberHere 18 = .ok (.aload_n 0, 1) := by decide +kernel
theorem dX12_numberHere_19 : decode cX12_numberHere 19 = .ok (.getfield 164, 3) := by decide +kernel
theorem dX12_numberHere_22 : decode cX12_numberHere 22 = .ok (.invokevirtual 184, 3) := by decide +kernel
theorem dX12_numberHere_25 : decode cX12_numberHere 25 = .ok (.ireturn, 1) := by decide +kernel
theorem dX12_numberHere_26 : decode cX12_numberHere 26 = .ok (.aload_n 0, 1) := by decide +kernel
theorem dX12_numberHere_27 : decode cX12_numberHere 27 = .ok (.getfield 164, 3) := by decide +kernel
theorem dX12_numberHere_30 : decode cX12_numberHere 30 = .ok (.istore_n 3, 1) := by decide +kernel
theorem dX12_numberHere_31 : decode cX12_numberHere 31 = .ok (.iconst 0, 1) := by decide +kernel
theorem dX12_numberHere_32 : decode cX12_numberHere 32 = .ok (.istore 4, 2) := by decide +kernel
theorem dX12_numberHere_34 : decode cX12_numberHere 34 = .ok (.aload_n 0, 1) := by decide +kernel
theorem dX12_numberHere_35 : decode cX12_numberHere 35 = .ok (.aload_n 0, 1) := by decide +kernel
theorem dX12_numberHere_36 : decode cX12_numberHere 36 = .ok (.getfield 164, 3) := by decide +kernel
theorem dX12_numberHere_39 : decode cX12_numberHere 39 = .ok (.invokevirtual 181, 3) := by decide +kernel
theorem dX12_numberHere_42 : decode cX12_numberHere 42 = .ok (.ifCond .eq 46, 3) := by decide +kernel
theorem dX12_numberHere_45 : decode cX12_numberHere 45 = .ok (.aload_n 0, 1) := by decide +kernel
theorem dX12_numberHere_46 : decode cX12_numberHere 46 = .ok (.getfield 164, 3) := by decide +kernel
theorem dX12_numberHere_49 : decode cX12_numberHere 49 = .ok (.iload_n 3, 1) := by decide +kernel
theorem dX12_numberHere_50 : decode cX12_numberHere 50 = .ok (.isub, 1) := by decide +kernel
theorem dX12_numberHere_51 : decode cX12_numberHere 51 = .ok (.iconst 5, 1) := by decide +kernel
theorem dX12_numberHere_52 : decode cX12_numberHere 52 = .ok (.if_icmp .ge 23, 3) := by decide +kernel
theorem dX12_numberHere_55 : decode cX12_numberHere 55 = .ok (.bipush 10, 2) := by decide +kernel
theorem dX12_numberHere_57 : decode cX12_numberHere 57 = .ok (.iload 4, 2) := by decide +kernel
theorem dX12_numberHere_59 : decode cX12_numberHere 59 = .ok (.imul, 1) := by decide +kernel
theorem dX12_numberHere_60 : decode cX12_numberHere 60 = .ok (.aload_n 0, 1) := by decide +kernel
theorem dX12_numberHere_61 : decode cX12_numberHere 61 = .ok (.getfield 13, 3) := by decide +kernel
theorem dX12_numberHere_64 : decode cX12_numberHere 64 = .ok (.aload_n 0, 1) := by decide +kernel
theorem dX12_numberHere_65 : decode cX12_numberHere 65 = .ok (.getfield 164, 3) := by decide +kernel
theorem dX12_numberHere_68 : decode cX12_numberHere 68 = .ok (.baload, 1) := by decide +kernel
theorem dX12_numberHere_69 : decode cX12_numberHere 69 = .ok (.iadd, 1) := by decide +kernel
theorem dX12_numberHere_70 : decode cX12_numberHere 70 = .ok (.bipush 48, 2) := by decide +kernel
theorem dX12_numberHere_72 : decode cX12_numberHere 72 = .ok (.isub, 1) := by decide +kernel
theorem dX12_numberHere_73 : decode cX12_numberHere 73 = .ok (.istore 4, 2) := by decide +kernel
theorem dX12_numberHere_75 : decode cX12_numberHere 75 = .ok (.aload_n 0, 1) := by decide +kernel
theorem dX12_numberHere_76 : decode cX12_numberHere 76 = .ok (.dup, 1) := by decide +kernel
theorem dX12_numberHere_77 : decode cX12_numberHere 77 = .ok (.getfield 164, 3) := by decide +kernel
theorem dX12_numberHere_80 : decode cX12_numberHere 80 = .ok (.iconst 1, 1) := by decide +kernel
theorem dX12_numberHere_81 : decode cX12_numberHere 81 = .ok (.iadd, 1) := by decide +kernel
theorem dX12_numberHere_82 : decode cX12_numberHere 82 = .ok (.putfield 164, 3) := by decide +kernel
theorem dX12_numberHere_85 : decode cX12_numberHere 85 = .ok (.goto (-51), 3) := by decide +kernel
theorem dX12_numberHere_88 : decode cX12_numberHere 88 = .ok (.aload_n 0, 1) := by decide +kernel
theorem dX12_numberHere_89 : decode cX12_numberHere 89 = .ok (.iload 4, 2) := by decide +kernel
theorem dX12_numberHere_91 : decode cX12_numberHere 91 = .ok (.putfield 188, 3) := by decide +kernel
theorem dX12_numberHere_94 : decode cX12_numberHere 94 = .ok (.aload_n 0, 1) := by decide +kernel
theorem dX12_numberHere_95 : decode cX12_numberHere 95 = .ok (.getfield 164, 3) := by decide +kernel
theorem dX12_numberHere_98 : decode cX12_numberHere 98 = .ok (.iload_n 3, 1) := by decide +kernel
theorem dX12_numberHere_99 : decode cX12_numberHere 99 = .ok (.isub, 1) := by decide +kernel
theorem dX12_numberHere_100 : decode cX12_numberHere 100 = .ok (.iconst 5, 1) := by decide +kernel
theorem dX12_numberHere_101 : decode cX12_numberHere 101 = .ok (.if_icmp .gt 16, 3) := by decide +kernel
theorem dX12_numberHere_104 : decode cX12_numberHere 104 = .ok (.iload 4, 2) := by decide +kernel
theorem dX12_numberHere_106 : decode cX12_numberHere 106 = .ok (.i2l, 1) := by decide +kernel
theorem dX12_numberHere_107 : decode cX12_numberHere 107 = .ok (.iload_n 1, 1) := by decide +kernel
theorem dX12_numberHere_108 : decode cX12_numberHere 108 = .ok (.i2l, 1) := by decide +kernel
theorem dX12_numberHere_109 : decode cX12_numberHere 109 = .ok (.iload_n 2, 1) := by decide +kernel
theorem dX12_numberHere_110 : decode cX12_numberHere 110 = .ok (.i2l, 1) := by decide +kernel
theorem dX12_numberHere_111 : decode cX12_numberHere 111 = .ok (.invokestatic 112, 3) := by decide +kernel
theorem dX12_numberHere_114 : decode cX12_numberHere 114 = .ok (.ifCond .ne 12, 3) := by decide +kernel
theorem dX12_numberHere_117 : decode cX12_numberHere 117 = .ok (.aload_n 0, 1) := by decide +kernel
theorem dX12_numberHere_118 : decode cX12_numberHere 118 = .ok (.iconst 1, 1) := by decide +kernel
theorem dX12_numberHere_119 : decode cX12_numberHere 119 = .ok (.iload_n 3, 1) := by decide +kernel
theorem dX12_numberHere_120 : decode cX12_numberHere 120 = .ok (.invokevirtual 184, 3) := by decide +kernel
theorem dX12_numberHere_123 : decode cX12_numberHere 123 = .ok (.ifCond .eq 7, 3) := by decide +kernel
theorem dX12_numberHere_126 : decode cX12_numberHere 126 = .ok (.iconst 1, 1) := by decide +kernel
theorem dX12_numberHere_127 : decode cX12_numberHere 127 = .ok (.goto 4, 3) := by decide +kernel
theorem dX12_numberHere_130 : decode cX12_numberHere 130 = .ok (.iconst 0, 1) := by decide +kernel
theorem dX12_numberHere_131 : decode cX12_numberHere 131 = .ok (.ireturn, 1) := by decide +kernel
theorem wk_577 : Cond.methodLink RX12 184 yX12_fails ∈ tl_L := List.mem_filter.mpr ⟨lw_m7 (i := 89) rfl, rfl⟩
theorem wk_578 : Cond.instanceMethod yX12_fails ∈ tl_L := List.mem_filter.mpr ⟨lw_m7 (i := 91) rfl, rfl⟩
theorem wk_579 : Cond.selects RX12 yX12_fails yX12_fails ∈ tl_L := List.mem_filter.mpr ⟨lw_s8 (i := 3) (q := (yX12_fails, 49)) rfl, rfl⟩
theorem wk_580 : Cond.code yX12_fails cX12_fails 3 (some .boolean) ∈ tl_L := List.mem_filter.mpr ⟨lw_m7 (i := 92) rfl, rfl⟩
theorem wk_585 : Cond.fieldLink RX12 188 "ThinLineModel" "number" "I" ∈ tl_L := List.mem_filter.mpr ⟨lw_m6 (i := 84) rfl, rfl⟩
theorem wk_598 : Cond.methodLink RX12 181 yX12_isDigit ∈ tl_L := List.mem_filter.mpr ⟨lw_m7 (i := 109) rfl, rfl⟩
theorem wk_599 : Cond.instanceMethod yX12_isDigit ∈ tl_L := List.mem_filter.mpr ⟨lw_m7 (i := 111) rfl, rfl⟩
theorem wk_600 : Cond.selects RX12 yX12_isDigit yX12_isDigit ∈ tl_L := List.mem_filter.mpr ⟨lw_s8 (i := 8) (q := (yX12_isDigit, 49)) rfl, rfl⟩
theorem wk_601 : Cond.code yX12_isDigit cX12_isDigit 2 (some .boolean) ∈ tl_L := List.mem_filter.mpr ⟨lw_m7 (i := 112) rfl, rfl⟩
theorem lk_X12_181 : tl_kV RX12 181 RX12 yX12_isDigit cX12_isDigit 2 (some .boolean) 1 := ⟨wk_601, wk_598, wk_599, wk_600, wk_5, ⟨by decide +kernel, by decide +kernel, by decide +kernel⟩⟩
theorem lk_X12_184 : tl_kV RX12 184 RX12 yX12_fails cX12_fails 3 (some .boolean) 2 := ⟨wk_580, wk_577, wk_578, wk_579, wk_5, ⟨by decide +kernel, by decide +kernel, by decide +kernel⟩⟩
theorem dX12_makes_0 : decode cX12_makes 0 = .ok (.aload_n 0, 1) := by decide +kernel
theorem dX12_makes_1 : decode cX12_makes 1 = .ok (.getfield 216, 3) := by decide +kernel
theorem dX12_makes_4 : decode cX12_makes 4 = .ok (.bipush 60, 2) := by decide +kernel
theorem dX12_makes_6 : decode cX12_makes 6 = .ok (.if_icmp .ne 10, 3) := by decide +kernel
theorem dX12_makes_9 : decode cX12_makes 9 = .ok (.aload_n 0, 1) := by decide +kernel
theorem dX12_makes_10 : decode cX12_makes 10 = .ok (.iconst 3, 1) := by decide +kernel
theorem dX12_makes_11 : decode cX12_makes 11 = .ok (.iload_n 1, 1) := by decide +kernel
theorem dX12_makes_12 : decode cX12_makes 12 = .ok (.invokevirtual 184, 3) := by decide +kernel
theorem dX12_makes_15 : decode cX12_makes 15 = .ok (.ireturn, 1) := by decide +kernel
theorem dX12_makes_16 : decode cX12_makes 16 = .ok (.aload_n 0, 1) := by decide +kernel
theorem dX12_makes_17 : decode cX12_makes 17 = .ok (.dup, 1) := by decide +kernel
theorem dX12_makes_18 : decode cX12_makes 18 = .ok (.getfield 216, 3) := by decide +kernel
theorem dX12_makes_21 : decode cX12_makes 21 = .ok (.iconst 1, 1) := by decide +kernel
theorem dX12_makes_22 : decode cX12_makes 22 = .ok (.iadd, 1) := by decide +kernel
theorem dX12_makes_23 : decode cX12_makes 23 = .ok (.putfield 216, 3) := by decide +kernel
theorem dX12_makes_26 : decode cX12_makes 26 = .ok (.iconst 1, 1) := by decide +kernel
theorem dX12_makes_27 : decode cX12_makes 27 = .ok (.ireturn, 1) := by decide +kernel
theorem wk_541 : Cond.fieldLink RX12 216 "ThinLineModel" "made" "I" ∈ tl_L := List.mem_filter.mpr ⟨lw_m6 (i := 86) rfl, rfl⟩
theorem dX12_wordHere_0 : decode cX12_wordHere 0 = .ok (.aload_n 0, 1) := by decide +kernel
theorem dX12_wordHere_1 : decode cX12_wordHere 1 = .ok (.aload_n 0, 1) := by decide +kernel
theorem dX12_wordHere_2 : decode cX12_wordHere 2 = .ok (.getfield 191, 3) := by decide +kernel
theorem dX12_wordHere_5 : decode cX12_wordHere 5 = .ok (.invokevirtual 194, 3) := by decide +kernel
theorem dX12_wordHere_8 : decode cX12_wordHere 8 = .ok (.iconst 2, 1) := by decide +kernel
theorem dX12_wordHere_9 : decode cX12_wordHere 9 = .ok (.if_icmp .ge 61, 3) := by decide +kernel
theorem dX12_wordHere_12 : decode cX12_wordHere 12 = .ok (.aload_n 0, 1) := by decide +kernel
theorem dX12_wordHere_13 : decode cX12_wordHere 13 = .ok (.ldc2_w 198, 3) := by decide +kernel
theorem dX12_wordHere_16 : decode cX12_wordHere 16 = .ok (.invokevirtual 174, 3) := by decide +kernel
theorem dX12_wordHere_19 : decode cX12_wordHere 19 = .ok (.ifCond .eq 7, 3) := by decide +kernel
theorem dX12_wordHere_22 : decode cX12_wordHere 22 = .ok (.iconst 0, 1) := by decide +kernel
theorem dX12_wordHere_23 : decode cX12_wordHere 23 = .ok (.goto 46, 3) := by decide +kernel
theorem dX12_wordHere_26 : decode cX12_wordHere 26 = .ok (.aload_n 0, 1) := by decide +kernel
theorem dX12_wordHere_27 : decode cX12_wordHere 27 = .ok (.ldc2_w 200, 3) := by decide +kernel
theorem dX12_wordHere_30 : decode cX12_wordHere 30 = .ok (.invokevirtual 174, 3) := by decide +kernel
theorem dX12_wordHere_33 : decode cX12_wordHere 33 = .ok (.ifCond .eq 7, 3) := by decide +kernel
theorem dX12_wordHere_36 : decode cX12_wordHere 36 = .ok (.iconst 1, 1) := by decide +kernel
theorem dX12_wordHere_37 : decode cX12_wordHere 37 = .ok (.goto 32, 3) := by decide +kernel
theorem dX12_wordHere_40 : decode cX12_wordHere 40 = .ok (.aload_n 0, 1) := by decide +kernel
theorem dX12_wordHere_41 : decode cX12_wordHere 41 = .ok (.ldc2_w 202, 3) := by decide +kernel
theorem dX12_wordHere_44 : decode cX12_wordHere 44 = .ok (.invokevirtual 174, 3) := by decide +kernel
theorem dX12_wordHere_47 : decode cX12_wordHere 47 = .ok (.ifCond .eq 7, 3) := by decide +kernel
theorem dX12_wordHere_50 : decode cX12_wordHere 50 = .ok (.iconst 2, 1) := by decide +kernel
theorem dX12_wordHere_51 : decode cX12_wordHere 51 = .ok (.goto 18, 3) := by decide +kernel
theorem dX12_wordHere_54 : decode cX12_wordHere 54 = .ok (.aload_n 0, 1) := by decide +kernel
theorem dX12_wordHere_55 : decode cX12_wordHere 55 = .ok (.ldc2_w 204, 3) := by decide +kernel
theorem dX12_wordHere_58 : decode cX12_wordHere 58 = .ok (.invokevirtual 174, 3) := by decide +kernel
theorem dX12_wordHere_61 : decode cX12_wordHere 61 = .ok (.ifCond .eq 7, 3) := by decide +kernel
theorem dX12_wordHere_64 : decode cX12_wordHere 64 = .ok (.iconst 3, 1) := by decide +kernel
theorem dX12_wordHere_65 : decode cX12_wordHere 65 = .ok (.goto 4, 3) := by decide +kernel
theorem dX12_wordHere_68 : decode cX12_wordHere 68 = .ok (.iconst (-1), 1) := by decide +kernel
theorem dX12_wordHere_69 : decode cX12_wordHere 69 = .ok (.ireturn, 1) := by decide +kernel
theorem dX12_wordHere_70 : decode cX12_wordHere 70 = .ok (.aload_n 0, 1) := by decide +kernel
theorem dX12_wordHere_71 : decode cX12_wordHere 71 = .ok (.ldc2_w 206, 3) := by decide +kernel
theorem dX12_wordHere_74 : decode cX12_wordHere 74 = .ok (.invokevirtual 174, 3) := by decide +kernel
theorem dX12_wordHere_77 : decode cX12_wordHere 77 = .ok (.ifCond .eq 7, 3) := by decide +kernel
theorem dX12_wordHere_80 : decode cX12_wordHere 80 = .ok (.iconst 0, 1) := by decide +kernel
theorem dX12_wordHere_81 : decode cX12_wordHere 81 = .ok (.goto 60, 3) := by decide +kernel
theorem dX12_wordHere_84 : decode cX12_wordHere 84 = .ok (.aload_n 0, 1) := by decide +kernel
theorem dX12_wordHere_85 : decode cX12_wordHere 85 = .ok (.ldc2_w 208, 3) := by decide +kernel
theorem dX12_wordHere_88 : decode cX12_wordHere 88 = .ok (.invokevirtual 174, 3) := by decide +kernel
theorem dX12_wordHere_91 : decode cX12_wordHere 91 = .ok (.ifCond .eq 7, 3) := by decide +kernel
theorem dX12_wordHere_94 : decode cX12_wordHere 94 = .ok (.iconst 1, 1) := by decide +kernel
theorem dX12_wordHere_95 : decode cX12_wordHere 95 = .ok (.goto 46, 3) := by decide +kernel
theorem dX12_wordHere_98 : decode cX12_wordHere 98 = .ok (.aload_n 0, 1) := by decide +kernel
theorem dX12_wordHere_99 : decode cX12_wordHere 99 = .ok (.ldc2_w 210, 3) := by decide +kernel
theorem dX12_wordHere_102 : decode cX12_wordHere 102 = .ok (.invokevirtual 174, 3) := by decide +kernel
theorem dX12_wordHere_105 : decode cX12_wordHere 105 = .ok (.ifCond .eq 7, 3) := by decide +kernel
theorem dX12_wordHere_108 : decode cX12_wordHere 108 = .ok (.iconst 2, 1) := by decide +kernel
theorem dX12_wordHere_109 : decode cX12_wordHere 109 = .ok (.goto 32, 3) := by decide +kernel
theorem dX12_wordHere_112 : decode cX12_wordHere 112 = .ok (.aload_n 0, 1) := by decide +kernel
theorem dX12_wordHere_113 : decode cX12_wordHere 113 = .ok (.ldc2_w 212, 3) := by decide +kernel
theorem dX12_wordHere_116 : decode cX12_wordHere 116 = .ok (.invokevirtual 174, 3) := by decide +kernel
theorem dX12_wordHere_119 : decode cX12_wordHere 119 = .ok (.ifCond .eq 7, 3) := by decide +kernel
theorem dX12_wordHere_122 : decode cX12_wordHere 122 = .ok (.iconst 3, 1) := by decide +kernel
theorem dX12_wordHere_123 : decode cX12_wordHere 123 = .ok (.goto 18, 3) := by decide +kernel
theorem dX12_wordHere_126 : decode cX12_wordHere 126 = .ok (.aload_n 0, 1) := by decide +kernel
theorem dX12_wordHere_127 : decode cX12_wordHere 127 = .ok (.ldc2_w 214, 3) := by decide +kernel
theorem dX12_wordHere_130 : decode cX12_wordHere 130 = .ok (.invokevirtual 174, 3) := by decide +kernel
theorem dX12_wordHere_133 : decode cX12_wordHere 133 = .ok (.ifCond .eq 7, 3) := by decide +kernel
theorem dX12_wordHere_136 : decode cX12_wordHere 136 = .ok (.iconst 4, 1) := by decide +kernel
theorem dX12_wordHere_137 : decode cX12_wordHere 137 = .ok (.goto 4, 3) := by decide +kernel
theorem dX12_wordHere_140 : decode cX12_wordHere 140 = .ok (.iconst (-1), 1) := by decide +kernel
theorem dX12_wordHere_141 : decode cX12_wordHere 141 = .ok (.ireturn, 1) := by decide +kernel
theorem wk_537 : Cond.fieldLink RX12 191 "ThinLineModel" "text" "I" ∈ tl_L := List.mem_filter.mpr ⟨lw_m6 (i := 85) rfl, rfl⟩
theorem wk_565 : Cond.methodLink RX12 194 yX12_kindOf ∈ tl_L := List.mem_filter.mpr ⟨lw_m7 (i := 68) rfl, rfl⟩
theorem wk_566 : Cond.instanceMethod yX12_kindOf ∈ tl_L := List.mem_filter.mpr ⟨lw_m7 (i := 70) rfl, rfl⟩
theorem wk_567 : Cond.selects RX12 yX12_kindOf yX12_kindOf ∈ tl_L := List.mem_filter.mpr ⟨lw_s8 (i := 0) (q := (yX12_kindOf, 49)) rfl, rfl⟩
theorem wk_568 : Cond.code yX12_kindOf cX12_kindOf 2 (some .int) ∈ tl_L := List.mem_filter.mpr ⟨lw_m7 (i := 71) rfl, rfl⟩
theorem wk_640 : Cond.constantLong RX12 198 (109330211763570) ∈ tl_L := List.mem_filter.mpr ⟨lw_m7 (i := 150) rfl, rfl⟩
theorem wk_641 : Cond.constantLong RX12 200 (444199957363) ∈ tl_L := List.mem_filter.mpr ⟨lw_m7 (i := 151) rfl, rfl⟩
theorem wk_642 : Cond.constantLong RX12 202 (1752135026) ∈ tl_L := List.mem_filter.mpr ⟨lw_m7 (i := 152) rfl, rfl⟩
theorem wk_643 : Cond.constantLong RX12 204 (7499639) ∈ tl_L := List.mem_filter.mpr ⟨lw_m7 (i := 153) rfl, rfl⟩
theorem wk_644 : Cond.constantLong RX12 206 (465624852596) ∈ tl_L := List.mem_filter.mpr ⟨lw_m7 (i := 154) rfl, rfl⟩
theorem wk_645 : Cond.constantLong RX12 208 (1751474548) ∈ tl_L := List.mem_filter.mpr ⟨lw_m7 (i := 155) rfl, rfl⟩
theorem wk_646 : Cond.constantLong RX12 210 (495874699885) ∈ tl_L := List.mem_filter.mpr ⟨lw_m7 (i := 156) rfl, rfl⟩
theorem wk_647 : Cond.constantLong RX12 212 (1717660780) ∈ tl_L := List.mem_filter.mpr ⟨lw_m7 (i := 157) rfl, rfl⟩
theorem wk_648 : Cond.constantLong RX12 214 (2003133803) ∈ tl_L := List.mem_filter.mpr ⟨lw_m7 (i := 158) rfl, rfl⟩
theorem lk_X12_194 : tl_kV RX12 194 RX12 yX12_kindOf cX12_kindOf 2 (some .int) 1 := ⟨wk_568, wk_565, wk_566, wk_567, wk_5, ⟨by decide +kernel, by decide +kernel, by decide +kernel⟩⟩
theorem dX12_puts_0 : decode cX12_puts 0 = .ok (.aload_n 0, 1) := by decide +kernel
theorem dX12_puts_1 : decode cX12_puts 1 = .ok (.getfield 20, 3) := by decide +kernel
theorem dX12_puts_4 : decode cX12_puts 4 = .ok (.sipush 400, 3) := by decide +kernel
theorem dX12_puts_7 : decode cX12_puts 7 = .ok (.aload_n 0, 1) := by decide +kernel
theorem dX12_puts_8 : decode cX12_puts 8 = .ok (.getfield 191, 3) := by decide +kernel
theorem dX12_puts_11 : decode cX12_puts 11 = .ok (.imul, 1) := by decide +kernel
theorem dX12_puts_12 : decode cX12_puts 12 = .ok (.aload_n 0, 1) := by decide +kernel
theorem dX12_puts_13 : decode cX12_puts 13 = .ok (.getfield 23, 3) := by decide +kernel
theorem dX12_puts_16 : decode cX12_puts 16 = .ok (.aload_n 0, 1) := by decide +kernel
theorem dX12_puts_17 : decode cX12_puts 17 = .ok (.getfield 191, 3) := by decide +kernel
theorem dX12_puts_20 : decode cX12_puts 20 = .ok (.iaload, 1) := by decide +kernel
theorem dX12_puts_21 : decode cX12_puts 21 = .ok (.iadd, 1) := by decide +kernel
theorem dX12_puts_22 : decode cX12_puts 22 = .ok (.iload_n 1, 1) := by decide +kernel
theorem dX12_puts_23 : decode cX12_puts 23 = .ok (.bipush 16, 2) := by decide +kernel
theorem dX12_puts_25 : decode cX12_puts 25 = .ok (.iload_n 2, 1) := by decide +kernel
theorem dX12_puts_26 : decode cX12_puts 26 = .ok (.imul, 1) := by decide +kernel
theorem dX12_puts_27 : decode cX12_puts 27 = .ok (.iadd, 1) := by decide +kernel
theorem dX12_puts_28 : decode cX12_puts 28 = .ok (.iastore, 1) := by decide +kernel
theorem dX12_puts_29 : decode cX12_puts 29 = .ok (.aload_n 0, 1) := by decide +kernel
theorem dX12_puts_30 : decode cX12_puts 30 = .ok (.getfield 23, 3) := by decide +kernel
theorem dX12_puts_33 : decode cX12_puts 33 = .ok (.aload_n 0, 1) := by decide +kernel
theorem dX12_puts_34 : decode cX12_puts 34 = .ok (.getfield 191, 3) := by decide +kernel
theorem dX12_puts_37 : decode cX12_puts 37 = .ok (.dup2, 1) := by decide +kernel
theorem dX12_puts_38 : decode cX12_puts 38 = .ok (.iaload, 1) := by decide +kernel
theorem dX12_puts_39 : decode cX12_puts 39 = .ok (.iconst 1, 1) := by decide +kernel
theorem dX12_puts_40 : decode cX12_puts 40 = .ok (.iadd, 1) := by decide +kernel
theorem dX12_puts_41 : decode cX12_puts 41 = .ok (.iastore, 1) := by decide +kernel
theorem dX12_puts_42 : decode cX12_puts 42 = .ok (.return_, 1) := by decide +kernel
theorem wk_153 : Cond.fieldLink RX12 20 "ThinLineModel" "sign" "[I" ∈ tl_L := List.mem_filter.mpr ⟨lw_m6 (i := 69) rfl, rfl⟩
theorem wk_154 : Cond.fieldLink RX12 23 "ThinLineModel" "length" "[I" ∈ tl_L := List.mem_filter.mpr ⟨lw_m6 (i := 70) rfl, rfl⟩
theorem dX12_opens_0 : decode cX12_opens 0 = .ok (.aload_n 0, 1) := by decide +kernel
theorem dX12_opens_1 : decode cX12_opens 1 = .ok (.getfield 219, 3) := by decide +kernel
theorem dX12_opens_4 : decode cX12_opens 4 = .ok (.bipush 10, 2) := by decide +kernel
theorem dX12_opens_6 : decode cX12_opens 6 = .ok (.if_icmp .ne 13, 3) := by decide +kernel
theorem dX12_opens_9 : decode cX12_opens 9 = .ok (.aload_n 0, 1) := by decide +kernel
theorem dX12_opens_10 : decode cX12_opens 10 = .ok (.iconst 2, 1) := by decide +kernel
theorem dX12_opens_11 : decode cX12_opens 11 = .ok (.aload_n 0, 1) := by decide +kernel
theorem dX12_opens_12 : decode cX12_opens 12 = .ok (.getfield 164, 3) := by decide +kernel
theorem dX12_opens_15 : decode cX12_opens 15 = .ok (.invokevirtual 184, 3) := by decide +kernel
theorem dX12_opens_18 : decode cX12_opens 18 = .ok (.ireturn, 1) := by decide +kernel
theorem dX12_opens_19 : decode cX12_opens 19 = .ok (.aload_n 0, 1) := by decide +kernel
theorem dX12_opens_20 : decode cX12_opens 20 = .ok (.dup, 1) := by decide +kernel
theorem dX12_opens_21 : decode cX12_opens 21 = .ok (.getfield 219, 3) := by decide +kernel
theorem dX12_opens_24 : decode cX12_opens 24 = .ok (.iconst 1, 1) := by decide +kernel
theorem dX12_opens_25 : decode cX12_opens 25 = .ok (.iadd, 1) := by decide +kernel
theorem dX12_opens_26 : decode cX12_opens 26 = .ok (.putfield 219, 3) := by decide +kernel
theorem dX12_opens_29 : decode cX12_opens 29 = .ok (.aload_n 0, 1) := by decide +kernel
theorem dX12_opens_30 : decode cX12_opens 30 = .ok (.getfield 59, 3) := by decide +kernel
theorem dX12_opens_33 : decode cX12_opens 33 = .ok (.aload_n 0, 1) := by decide +kernel
theorem dX12_opens_34 : decode cX12_opens 34 = .ok (.getfield 222, 3) := by decide +kernel
theorem dX12_opens_37 : decode cX12_opens 37 = .ok (.iload_n 1, 1) := by decide +kernel
theorem dX12_opens_38 : decode cX12_opens 38 = .ok (.iastore, 1) := by decide +kernel
theorem dX12_opens_39 : decode cX12_opens 39 = .ok (.aload_n 0, 1) := by decide +kernel
theorem dX12_opens_40 : decode cX12_opens 40 = .ok (.dup, 1) := by decide +kernel
theorem dX12_opens_41 : decode cX12_opens 41 = .ok (.getfield 222, 3) := by decide +kernel
theorem dX12_opens_44 : decode cX12_opens 44 = .ok (.iconst 1, 1) := by decide +kernel
theorem dX12_opens_45 : decode cX12_opens 45 = .ok (.iadd, 1) := by decide +kernel
theorem dX12_opens_46 : decode cX12_opens 46 = .ok (.putfield 222, 3) := by decide +kernel
theorem dX12_opens_49 : decode cX12_opens 49 = .ok (.iconst 1, 1) := by decide +kernel
theorem dX12_opens_50 : decode cX12_opens 50 = .ok (.ireturn, 1) := by decide +kernel
theorem wk_166 : Cond.fieldLink RX12 59 "ThinLineModel" "open" "[I" ∈ tl_L := List.mem_filter.mpr ⟨lw_m6 (i := 89) rfl, rfl⟩
theorem wk_657 : Cond.fieldLink RX12 222 "ThinLineModel" "opened" "I" ∈ tl_L := List.mem_filter.mpr ⟨lw_m6 (i := 90) rfl, rfl⟩
theorem wk_658 : Cond.fieldLink RX12 219 "ThinLineModel" "deep" "I" ∈ tl_L := List.mem_filter.mpr ⟨lw_m6 (i := 87) rfl, rfl⟩
set_option maxHeartbeats 4000000 in
set_option maxRecDepth 100000 in
theorem r_X12_fails (l : Launch) (D : va_G) (cy : Nat → ClassId) (sz : Nat) (L : List Nat) (K : Nat → tk_K) (Γ : tk_G) (f : Nat → va_E) (o : Nat) (p0 : Int32) (p1 : Int32) (ho : tp_r L K 39 (0) 0 o) : Met l yX12_fails (tl_w yX12_fails cX12_fails 3 (some .boolean)) ({ frames := 0, cells := 0, slots := 0, locals := 0 }) (va_Pc [.ref o, .int p0, .int p1] (tp_P D cy L K Γ f sz)) (va_Qi (fun (r : Int32) (u : (Nat → va_E) × tk_G) => r = 0 ∧ u.2 (39, 0, 0) 0 = Γ (39, 0, 0) 0 ∧ u.2 (39, 0, 0) 1 = Γ (39, 0, 0) 1 ∧ u.2 (39, 0, 0) 3 = Γ (39, 0, 0) 3 ∧ u.2 (39, 0, 0) 4 = Γ (39, 0, 0) 4 ∧ u.2 (39, 0, 0) 5 = Γ (39, 0, 0) 5 ∧ u.2 (39, 0, 0) 6 = Γ (39, 0, 0) 6 ∧ u.2 (39, 0, 0) 7 = Γ (39, 0, 0) 7 ∧ u.2 (39, 0, 0) 8 = Γ (39, 0, 0) 8) (tp_BG D cy L K Γ f [39]) (tp_A L sz)) 0 0 (tp_A L sz) := by
  refine Met.ofW (cc := cX12_fails) (maxL := 3) (ret := (some .boolean)) (by decide) rfl ?_
  intro p e s m args below meth c s₁ B hml hv
  obtain ⟨rfl, hsz, hP, hK, hL, hI, hN, hU⟩ := hv
  have hx := B.exec
  have hb := B.bytes
  have hr := B.returns
  have hta := tl_hta (atoms_spec (ws := tl_w yX12_fails cX12_fails 3 (some .boolean)) B.pre)
  have hown : s.vm.findClass RX12 = some m.cls := findClass_of_methodNamed B.named
  have hlocks := B.notSynchronized
  subst hsz
  have hI0 := hI
  generalize hAe : tp_A L s.heap.size = A
  have hA : ∀ q : Nat, s.heap.size ≤ q → A q := fun q h => by rw [← hAe]; exact Or.inr h
  have hAL : ∀ q ∈ L, A q := fun q h => by rw [← hAe]; exact Or.inl h
  have hAf : ∀ (H : Heap), s.heap.size ≤ H.size → ∀ q, tp_A L H.size q → A q := fun H h q hq => hq.elim (hAL q) (fun h2 => hA q (Nat.le_trans h h2))
  have hS : va_S A s.heap s.heap [] := va_S.rf
  have hD : va_D A (va_pl L f) := tp_D hL hAL
  have hfr : ∀ b, (K b).1 ∉ ([39] : List Nat) → f b = f b := fun _ _ => rfl
  have hgr : ∀ κ : tk_K, κ.1 ∉ ([39] : List Nat) → Γ κ = Γ κ := fun _ _ => rfl
  have hl := lv_entry ([.ref o, .int p0, .int p1]) (n := 3) (Nat.le_of_ble_eq_true rfl)
  rw [lg_entry_eq]
  generalize (lg_sl ([.ref o, .int p0, .int p1]) ++ List.replicate (3 - (lg_sl ([.ref o, .int p0, .int p1])).length) Slot.unset).toArray = ls at hl ⊢
  have hl : lv_has ls 3 [(0, .ref o), (1, .int p0), (2, .int p1)] := hl
  refine lv_aload_n hx hb dX12_fails_0 rfl (lv_at hl 0 rfl) ?_
  obtain ⟨r_2, v_3, q_4, hf_1, hr_5, hv_6⟩ := (show tp_o_M L K 0 0 (Γ (39, 0, 0)) (f o) from hI.at ho)
  have hx_7 : (v_3 0).toInt = Γ (39, 0, 0) 0 := hv_6 0 (by decide)
  have hx_8 : (v_3 1).toInt = Γ (39, 0, 0) 1 := hv_6 1 (by decide)
  have hx_9 : (v_3 2).toInt = Γ (39, 0, 0) 2 := hv_6 2 (by decide)
  have hx_10 : (v_3 3).toInt = Γ (39, 0, 0) 3 := hv_6 3 (by decide)
  have hx_11 : (v_3 4).toInt = Γ (39, 0, 0) 4 := hv_6 4 (by decide)
  have hx_12 : (v_3 5).toInt = Γ (39, 0, 0) 5 := hv_6 5 (by decide)
  have hx_13 : (v_3 6).toInt = Γ (39, 0, 0) 6 := hv_6 6 (by decide)
  have hx_14 : (v_3 7).toInt = Γ (39, 0, 0) 7 := hv_6 7 (by decide)
  have hx_15 : (v_3 8).toInt = Γ (39, 0, 0) 8 := hv_6 8 (by decide)
  have hx_16 : (v_3 9).toInt = Γ (39, 0, 0) 9 := hv_6 9 (by decide)
  have hx_17 : (v_3 10).toInt = Γ (39, 0, 0) 10 := hv_6 10 (by decide)
  have hx_18 : (v_3 11).toInt = Γ (39, 0, 0) 11 := hv_6 11 (by decide)
  have hx_19 : (v_3 12).toInt = Γ (39, 0, 0) 12 := hv_6 12 (by decide)
  have hx_20 : (v_3 13).toInt = Γ (39, 0, 0) 13 := hv_6 13 (by decide)
  have hx_21 : (v_3 14).toInt = Γ (39, 0, 0) 14 := hv_6 14 (by decide)
  have hx_22 : (v_3 15).toInt = Γ (39, 0, 0) 15 := hv_6 15 (by decide)
  refine tp_get (cy := cy) (ci := 12) (v := .int (v_3 2)) (C := RX12) (T := TX12) (N := 49) hx hb hta inlX12 hown hK hP ho.1 hf_1 rfl 18 (by decide) (hta _ wk_540) (fun _ h9 => h9) rfl dX12_fails_1 ?_
  refine lv_if_ne (tgt := 19) hx hb dX12_fails_4 (by decide) (fun c_23 => ?_) (fun c_23 => ?_)
  · have c_23 : ¬ (v_3 2).toInt = (0 : Int) := tl_neq c_23
    refine lv_iconst (v := 0) hx hb dX12_fails_19 (by decide) ?_
    have hpo9 : (0 : Int32) = 0 ∧ Γ (39, 0, 0) 0 = Γ (39, 0, 0) 0 ∧ Γ (39, 0, 0) 1 = Γ (39, 0, 0) 1 ∧ Γ (39, 0, 0) 3 = Γ (39, 0, 0) 3 ∧ Γ (39, 0, 0) 4 = Γ (39, 0, 0) 4 ∧ Γ (39, 0, 0) 5 = Γ (39, 0, 0) 5 ∧ Γ (39, 0, 0) 6 = Γ (39, 0, 0) 6 ∧ Γ (39, 0, 0) 7 = Γ (39, 0, 0) 7 ∧ Γ (39, 0, 0) 8 = Γ (39, 0, 0) 8 := ⟨rfl, ⟨(by omega), (by omega), (by omega), (by omega), (by omega), (by omega), (by omega), (by omega)⟩⟩
    exact W.zret (ty := .boolean) (v := 0) hx hb hr rfl (fun t ht hW => ⟨⟨_, (f, Γ), rfl, hpo9, by rw [ht]; exact hP, hI, hfr, hgr⟩, hS.F ht⟩) hS.2.2 dX12_fails_20
  · have c_23 : (v_3 2).toInt = (0 : Int) := tl_eq c_23
    refine lv_aload_n hx hb dX12_fails_7 rfl (lv_at hl 0 rfl) ?_
    refine lv_iconst (v := 1) hx hb dX12_fails_8 (by decide) ?_
    refine lv_bipush (v := 8) hx hb dX12_fails_9 (by decide) ?_
    refine lv_iload_n hx hb dX12_fails_11 rfl (lv_at hl 2 rfl) ?_
    refine lv_imul hx hb dX12_fails_12 ?_
    refine lv_topi (fun z_24 ez_24 => ?_)
    try have iz_24 : z_24.toInt = (8 : Int) * p1.toInt := by rw [ez_24]; exact tl_mulN 8 p1 rfl rfl (by omega) (by omega)
    refine lv_iadd hx hb dX12_fails_13 ?_
    refine lv_topi (fun z_25 ez_25 => ?_)
    try have iz_25 : z_25.toInt = (1 : Int) + z_24.toInt := by rw [ez_25]; exact tl_addN 1 z_24 rfl rfl (by omega) (by omega)
    refine lv_iload_n hx hb dX12_fails_14 rfl (lv_at hl 1 rfl) ?_
    refine lv_iadd hx hb dX12_fails_15 ?_
    refine lv_topi (fun z_26 ez_26 => ?_)
    try have iz_26 : z_26.toInt = z_25.toInt + p0.toInt := by rw [ez_26]; exact tl_addN z_25 p0 rfl rfl (by omega) (by omega)
    obtain ⟨Γ_27, eΓ_27⟩ : ∃ y : tk_G, y = tg Γ (39, 0, 0) 2 z_26.toInt := ⟨_, rfl⟩
    have hv_28 : ∀ i : Nat, i < 16 → ((upd v_3 2 z_26) i).toInt = Γ_27 (39, 0, 0) i := by rw [eΓ_27, tg_f]; exact tp_gi_upd hv_6
    have hI9 : tp_I cy L K Γ_27 (va_up f o (.inr (12, [.ref (r_2 0), .ref (r_2 1), .int (v_3 0), .ref (r_2 2), .ref (r_2 3), .ref (r_2 4), .ref (r_2 5), .ref (r_2 6), .ref (r_2 7), .ref (r_2 8), .ref (r_2 9), .ref (r_2 10), .ref (r_2 11), .ref (r_2 12), .ref (r_2 13), .ref (r_2 14), .ref (r_2 15), .int (v_3 1), .int z_26, .int (v_3 3), .int (v_3 4), .int (v_3 5), .int (v_3 6), .int (v_3 7), .ref (r_2 16), .int (v_3 8), .ref (r_2 17), .int (v_3 9), .ref (r_2 18), .long q_4, .ref (r_2 19), .ref (r_2 20), .int (v_3 10), .int (v_3 11), .int (v_3 12), .ref (r_2 21), .ref (r_2 22), .int (v_3 13), .ref (r_2 23), .int (v_3 14), .int (v_3 15), .ref (r_2 24), .ref (r_2 25), .ref (r_2 26), .ref (r_2 27), .ref (r_2 28), .ref (r_2 29), .ref (r_2 30), .ref (r_2 31)]))) := by have q9 := hv_28; rw [eΓ_27, tg_f] at q9; rw [eΓ_27]; exact hI.setg hU rfl ho (show tp_o_M L K 0 0 (tgu (Γ (39, 0, 0)) 2 z_26.toInt) _ from ⟨r_2, (upd v_3 2 z_26), q_4, rfl, hr_5, q9⟩)
    have hfr9 : ∀ b, (K b).1 ∉ ([39] : List Nat) → va_up f o (.inr (12, [.ref (r_2 0), .ref (r_2 1), .int (v_3 0), .ref (r_2 2), .ref (r_2 3), .ref (r_2 4), .ref (r_2 5), .ref (r_2 6), .ref (r_2 7), .ref (r_2 8), .ref (r_2 9), .ref (r_2 10), .ref (r_2 11), .ref (r_2 12), .ref (r_2 13), .ref (r_2 14), .ref (r_2 15), .int (v_3 1), .int z_26, .int (v_3 3), .int (v_3 4), .int (v_3 5), .int (v_3 6), .int (v_3 7), .ref (r_2 16), .int (v_3 8), .ref (r_2 17), .int (v_3 9), .ref (r_2 18), .long q_4, .ref (r_2 19), .ref (r_2 20), .int (v_3 10), .int (v_3 11), .int (v_3 12), .ref (r_2 21), .ref (r_2 22), .int (v_3 13), .ref (r_2 23), .int (v_3 14), .int (v_3 15), .ref (r_2 24), .ref (r_2 25), .ref (r_2 26), .ref (r_2 27), .ref (r_2 28), .ref (r_2 29), .ref (r_2 30), .ref (r_2 31)])) b = f b := tp_fr hfr ho (by decide)
    refine tp_put (cy := cy) (ci := 12) (v := .int z_26) (ty := tyX12 18) (C := RX12) (T := TX12) (N := 49) hx hb hta inlX12 tyX12 tyX12_ok nmX12 hown hK hP hD hS ho.1 hf_1 rfl 18 (by decide) (hta _ wk_540) (fun _ h9 => h9) rfl (tyX12_ok 18 (by decide)) rfl rfl (Nat.le_of_ble_eq_true rfl) dX12_fails_16 (fun H locs hP hD hS => ?_)
    have hP : va_P D vwCl (va_pl L (va_up f o (.inr (12, [.ref (r_2 0), .ref (r_2 1), .int (v_3 0), .ref (r_2 2), .ref (r_2 3), .ref (r_2 4), .ref (r_2 5), .ref (r_2 6), .ref (r_2 7), .ref (r_2 8), .ref (r_2 9), .ref (r_2 10), .ref (r_2 11), .ref (r_2 12), .ref (r_2 13), .ref (r_2 14), .ref (r_2 15), .int (v_3 1), .int z_26, .int (v_3 3), .int (v_3 4), .int (v_3 5), .int (v_3 6), .int (v_3 7), .ref (r_2 16), .int (v_3 8), .ref (r_2 17), .int (v_3 9), .ref (r_2 18), .long q_4, .ref (r_2 19), .ref (r_2 20), .int (v_3 10), .int (v_3 11), .int (v_3 12), .ref (r_2 21), .ref (r_2 22), .int (v_3 13), .ref (r_2 23), .int (v_3 14), .int (v_3 15), .ref (r_2 24), .ref (r_2 25), .ref (r_2 26), .ref (r_2 27), .ref (r_2 28), .ref (r_2 29), .ref (r_2 30), .ref (r_2 31)])))) H := hP
    generalize hfe : va_up f o (.inr (12, [.ref (r_2 0), .ref (r_2 1), .int (v_3 0), .ref (r_2 2), .ref (r_2 3), .ref (r_2 4), .ref (r_2 5), .ref (r_2 6), .ref (r_2 7), .ref (r_2 8), .ref (r_2 9), .ref (r_2 10), .ref (r_2 11), .ref (r_2 12), .ref (r_2 13), .ref (r_2 14), .ref (r_2 15), .int (v_3 1), .int z_26, .int (v_3 3), .int (v_3 4), .int (v_3 5), .int (v_3 6), .int (v_3 7), .ref (r_2 16), .int (v_3 8), .ref (r_2 17), .int (v_3 9), .ref (r_2 18), .long q_4, .ref (r_2 19), .ref (r_2 20), .int (v_3 10), .int (v_3 11), .int (v_3 12), .ref (r_2 21), .ref (r_2 22), .int (v_3 13), .ref (r_2 23), .int (v_3 14), .int (v_3 15), .ref (r_2 24), .ref (r_2 25), .ref (r_2 26), .ref (r_2 27), .ref (r_2 28), .ref (r_2 29), .ref (r_2 30), .ref (r_2 31)])) = f_29 at hP hI9 hfr9
    have hD : va_D A (va_pl L f_29) := tp_D hL hAL
    have hf_30 : f_29 o = .inr (12, [.ref (r_2 0), .ref (r_2 1), .int (v_3 0), .ref (r_2 2), .ref (r_2 3), .ref (r_2 4), .ref (r_2 5), .ref (r_2 6), .ref (r_2 7), .ref (r_2 8), .ref (r_2 9), .ref (r_2 10), .ref (r_2 11), .ref (r_2 12), .ref (r_2 13), .ref (r_2 14), .ref (r_2 15), .int (v_3 1), .int z_26, .int (v_3 3), .int (v_3 4), .int (v_3 5), .int (v_3 6), .int (v_3 7), .ref (r_2 16), .int (v_3 8), .ref (r_2 17), .int (v_3 9), .ref (r_2 18), .long q_4, .ref (r_2 19), .ref (r_2 20), .int (v_3 10), .int (v_3 11), .int (v_3 12), .ref (r_2 21), .ref (r_2 22), .int (v_3 13), .ref (r_2 23), .int (v_3 14), .int (v_3 15), .ref (r_2 24), .ref (r_2 25), .ref (r_2 26), .ref (r_2 27), .ref (r_2 28), .ref (r_2 29), .ref (r_2 30), .ref (r_2 31)]) := by rw [← hfe]; exact va_up_self _ _ _
    clear hfe
    have hI := hI9
    have hfr := hfr9
    clear hI9 hfr9
    have hgr : ∀ κ : tk_K, κ.1 ∉ ([39] : List Nat) → Γ_27 κ = Γ κ := tg_fr hgr eΓ_27 (by decide)
    have hx_31 : (v_3 0).toInt = Γ_27 (39, 0, 0) 0 := hv_28 0 (by decide)
    have hx_32 : (v_3 1).toInt = Γ_27 (39, 0, 0) 1 := hv_28 1 (by decide)
    have hx_33 : z_26.toInt = Γ_27 (39, 0, 0) 2 := hv_28 2 (by decide)
    have hx_34 : (v_3 3).toInt = Γ_27 (39, 0, 0) 3 := hv_28 3 (by decide)
    have hx_35 : (v_3 4).toInt = Γ_27 (39, 0, 0) 4 := hv_28 4 (by decide)
    have hx_36 : (v_3 5).toInt = Γ_27 (39, 0, 0) 5 := hv_28 5 (by decide)
    have hx_37 : (v_3 6).toInt = Γ_27 (39, 0, 0) 6 := hv_28 6 (by decide)
    have hx_38 : (v_3 7).toInt = Γ_27 (39, 0, 0) 7 := hv_28 7 (by decide)
    have hx_39 : (v_3 8).toInt = Γ_27 (39, 0, 0) 8 := hv_28 8 (by decide)
    have hx_40 : (v_3 9).toInt = Γ_27 (39, 0, 0) 9 := hv_28 9 (by decide)
    have hx_41 : (v_3 10).toInt = Γ_27 (39, 0, 0) 10 := hv_28 10 (by decide)
    have hx_42 : (v_3 11).toInt = Γ_27 (39, 0, 0) 11 := hv_28 11 (by decide)
    have hx_43 : (v_3 12).toInt = Γ_27 (39, 0, 0) 12 := hv_28 12 (by decide)
    have hx_44 : (v_3 13).toInt = Γ_27 (39, 0, 0) 13 := hv_28 13 (by decide)
    have hx_45 : (v_3 14).toInt = Γ_27 (39, 0, 0) 14 := hv_28 14 (by decide)
    have hx_46 : (v_3 15).toInt = Γ_27 (39, 0, 0) 15 := hv_28 15 (by decide)
    refine lv_iconst (v := 0) hx hb dX12_fails_19 (by decide) ?_
    have hpo9 : (0 : Int32) = 0 ∧ Γ_27 (39, 0, 0) 0 = Γ (39, 0, 0) 0 ∧ Γ_27 (39, 0, 0) 1 = Γ (39, 0, 0) 1 ∧ Γ_27 (39, 0, 0) 3 = Γ (39, 0, 0) 3 ∧ Γ_27 (39, 0, 0) 4 = Γ (39, 0, 0) 4 ∧ Γ_27 (39, 0, 0) 5 = Γ (39, 0, 0) 5 ∧ Γ_27 (39, 0, 0) 6 = Γ (39, 0, 0) 6 ∧ Γ_27 (39, 0, 0) 7 = Γ (39, 0, 0) 7 ∧ Γ_27 (39, 0, 0) 8 = Γ (39, 0, 0) 8 := ⟨rfl, ⟨(by omega), (by omega), (by omega), (by omega), (by omega), (by omega), (by omega), (by omega)⟩⟩
    exact W.zret (ty := .boolean) (v := 0) hx hb hr rfl (fun t ht hW => ⟨⟨_, (f_29, Γ_27), rfl, hpo9, by rw [ht]; exact hP, hI, hfr, hgr⟩, hS.F ht⟩) hS.2.2 dX12_fails_20
set_option maxHeartbeats 4000000 in
set_option maxRecDepth 100000 in
theorem r_X12_isDigit (l : Launch) (D : va_G) (cy : Nat → ClassId) (sz : Nat) (L : List Nat) (K : Nat → tk_K) (Γ : tk_G) (f : Nat → va_E) (o : Nat) (p0 : Int32) (τ : Nat → Int) (T0 : Int) (ho : tp_r L K 39 (0) 0 o) (ht : Γ (41, 400, 0) = τ) (hT : Γ (39, 0, 0) 0 = T0) (h0 : 0 ≤ p0.toInt ∧ T0 ≤ 400) : Met l yX12_isDigit (tl_w yX12_isDigit cX12_isDigit 2 (some .boolean)) ({ frames := 0, cells := 0, slots := 0, locals := 0 }) (va_Pc [.ref o, .int p0] (tp_P D cy L K Γ f sz)) (vp_Si (fun r : Int32 => tl_E r (p0.toInt < T0 ∧ 48 ≤ τ (p0.toInt).toNat ∧ τ (p0.toInt).toNat ≤ 57) 1 0)) 0 0 (fun _ => False) := by
  refine Met.ofW (cc := cX12_isDigit) (maxL := 2) (ret := (some .boolean)) (by decide) rfl ?_
  intro p e s m args below meth c s₁ B hml hv
  obtain ⟨rfl, hsz, hP, hK, hL, hI, hN, hU⟩ := hv
  have hx := B.exec
  have hb := B.bytes
  have hr := B.returns
  have hta := tl_hta (atoms_spec (ws := tl_w yX12_isDigit cX12_isDigit 2 (some .boolean)) B.pre)
  have hown : s.vm.findClass RX12 = some m.cls := findClass_of_methodNamed B.named
  have hlocks := B.notSynchronized
  subst hsz
  have hI0 := hI
  have hl := lv_entry ([.ref o, .int p0]) (n := 2) (Nat.le_of_ble_eq_true rfl)
  rw [lg_entry_eq]
  generalize (lg_sl ([.ref o, .int p0]) ++ List.replicate (2 - (lg_sl ([.ref o, .int p0])).length) Slot.unset).toArray = ls at hl ⊢
  have hl : lv_has ls 2 [(0, .ref o), (1, .int p0)] := hl
  refine lv_iload_n hx hb dX12_isDigit_0 rfl (lv_at hl 1 rfl) ?_
  refine lv_aload_n hx hb dX12_isDigit_1 rfl (lv_at hl 0 rfl) ?_
  obtain ⟨r_2, v_3, q_4, hf_1, hr_5, hv_6⟩ := (show tp_o_M L K 0 0 (Γ (39, 0, 0)) (f o) from hI0.at ho)
  have hx_7 : (v_3 0).toInt = Γ (39, 0, 0) 0 := hv_6 0 (by decide)
  refine tp_get (cy := cy) (ci := 12) (v := .int (v_3 0)) (C := RX12) (T := TX12) (N := 49) hx hb hta inlX12 hown hK hP ho.1 hf_1 rfl 2 (by decide) (hta _ wk_347) (fun _ h9 => h9) rfl dX12_isDigit_2 ?_
  refine lv_icmp_ge (tgt := 34) hx hb dX12_isDigit_5 (by decide) (fun c_23 => ?_) (fun c_23 => ?_)
  · have c_23 : (v_3 0).toInt ≤ p0.toInt := tl_le c_23
    refine lv_iconst (v := 0) hx hb dX12_isDigit_34 (by decide) ?_
    exact W.zret (ty := .boolean) (v := 0) hx hb hr rfl (fun t ht hW => ⟨_, rfl, (Or.inr ⟨by omega, rfl⟩), ht⟩) (fun q h => by cases h) dX12_isDigit_35
  · have c_23 : p0.toInt < (v_3 0).toInt := tl_nle c_23
    refine lv_aload_n hx hb dX12_isDigit_8 rfl (lv_at hl 0 rfl) ?_
    refine tp_get (cy := cy) (ci := 12) (v := .ref (r_2 1)) (C := RX12) (T := TX12) (N := 49) hx hb hta inlX12 hown hK hP ho.1 hf_1 rfl 1 (by decide) (hta _ wk_151) (fun _ h9 => h9) rfl dX12_isDigit_9 ?_
    refine lv_iload_n hx hb dX12_isDigit_12 rfl (lv_at hl 1 rfl) ?_
    obtain ⟨g_25, hf_24, hg_26⟩ := (show tp_g8 cy (400) (Γ (41, 400, 0)) (f (r_2 1)) from hI0.at (show tp_r L K 41 400 0 (r_2 1) from hr_5 1 (by decide)))
    have hn_27 : vp_in p0 (400) := tl_in (by omega) (by omega)
    refine tp_bald (cy := cy) hx hb hK hP (show tp_r L K 41 400 0 (r_2 1) from hr_5 1 (by decide)).1 hf_24 hn_27 dX12_isDigit_13 ?_
    refine lv_topi (fun z_28 ez_28 => ?_)
    have iz_28 : z_28.toInt = τ p0.toInt.toNat := by rw [ez_28, ← ht]; exact hg_26 _ (tp_pin hn_27)
    refine lv_bipush (v := 48) hx hb dX12_isDigit_14 (by decide) ?_
    refine lv_icmp_lt (tgt := 34) hx hb dX12_isDigit_16 (by decide) (fun c_29 => ?_) (fun c_29 => ?_)
    · have c_29 : z_28.toInt < (48 : Int) := tl_lt c_29
      refine lv_iconst (v := 0) hx hb dX12_isDigit_34 (by decide) ?_
      exact W.zret (ty := .boolean) (v := 0) hx hb hr rfl (fun t ht hW => ⟨_, rfl, (Or.inr ⟨by omega, rfl⟩), ht⟩) (fun q h => by cases h) dX12_isDigit_35
    · have c_29 : (48 : Int) ≤ z_28.toInt := tl_nlt c_29
      refine lv_aload_n hx hb dX12_isDigit_19 rfl (lv_at hl 0 rfl) ?_
      refine tp_get (cy := cy) (ci := 12) (v := .ref (r_2 1)) (C := RX12) (T := TX12) (N := 49) hx hb hta inlX12 hown hK hP ho.1 hf_1 rfl 1 (by decide) (hta _ wk_151) (fun _ h9 => h9) rfl dX12_isDigit_20 ?_
      refine lv_iload_n hx hb dX12_isDigit_23 rfl (lv_at hl 1 rfl) ?_
      have hn_30 : vp_in p0 (400) := tl_in (by omega) (by omega)
      refine tp_bald (cy := cy) hx hb hK hP (show tp_r L K 41 400 0 (r_2 1) from hr_5 1 (by decide)).1 hf_24 hn_30 dX12_isDigit_24 ?_
      refine lv_topi (fun z_31 ez_31 => ?_)
      have iz_31 : z_31.toInt = τ p0.toInt.toNat := by rw [ez_31, ← ht]; exact hg_26 _ (tp_pin hn_30)
      refine lv_bipush (v := 57) hx hb dX12_isDigit_25 (by decide) ?_
      refine lv_icmp_gt (tgt := 34) hx hb dX12_isDigit_27 (by decide) (fun c_32 => ?_) (fun c_32 => ?_)
      · have c_32 : (57 : Int) < z_31.toInt := tl_lt c_32
        refine lv_iconst (v := 0) hx hb dX12_isDigit_34 (by decide) ?_
        exact W.zret (ty := .boolean) (v := 0) hx hb hr rfl (fun t ht hW => ⟨_, rfl, (Or.inr ⟨by omega, rfl⟩), ht⟩) (fun q h => by cases h) dX12_isDigit_35
      · have c_32 : z_31.toInt ≤ (57 : Int) := tl_nlt c_32
        refine lv_iconst (v := 1) hx hb dX12_isDigit_30 (by decide) ?_
        refine lv_goto (tgt := 35) hx hb dX12_isDigit_31 (by decide) ?_
        exact W.zret (ty := .boolean) (v := 1) hx hb hr rfl (fun t ht hW => ⟨_, rfl, (Or.inl ⟨by omega, rfl⟩), ht⟩) (fun q h => by cases h) dX12_isDigit_35
set_option maxHeartbeats 4000000 in
set_option maxRecDepth 100000 in
theorem r_X12_isLetter (l : Launch) (D : va_G) (cy : Nat → ClassId) (sz : Nat) (L : List Nat) (K : Nat → tk_K) (Γ : tk_G) (f : Nat → va_E) (o : Nat) (p0 : Int32) (τ : Nat → Int) (T0 : Int) (ho : tp_r L K 39 (0) 0 o) (ht : Γ (41, 400, 0) = τ) (hT : Γ (39, 0, 0) 0 = T0) (h0 : 0 ≤ p0.toInt ∧ T0 ≤ 400) : Met l yX12_isLetter (tl_w yX12_isLetter cX12_isLetter 2 (some .boolean)) ({ frames := 0, cells := 0, slots := 0, locals := 0 }) (va_Pc [.ref o, .int p0] (tp_P D cy L K Γ f sz)) (vp_Si (fun r : Int32 => tl_E r (p0.toInt < T0 ∧ 97 ≤ τ (p0.toInt).toNat ∧ τ (p0.toInt).toNat ≤ 122) 1 0)) 0 0 (fun _ => False) := by
  refine Met.ofW (cc := cX12_isLetter) (maxL := 2) (ret := (some .boolean)) (by decide) rfl ?_
  intro p e s m args below meth c s₁ B hml hv
  obtain ⟨rfl, hsz, hP, hK, hL, hI, hN, hU⟩ := hv
  have hx := B.exec
  have hb := B.bytes
  have hr := B.returns
  have hta := tl_hta (atoms_spec (ws := tl_w yX12_isLetter cX12_isLetter 2 (some .boolean)) B.pre)
  have hown : s.vm.findClass RX12 = some m.cls := findClass_of_methodNamed B.named
  have hlocks := B.notSynchronized
  subst hsz
  have hI0 := hI
  have hl := lv_entry ([.ref o, .int p0]) (n := 2) (Nat.le_of_ble_eq_true rfl)
  rw [lg_entry_eq]
  generalize (lg_sl ([.ref o, .int p0]) ++ List.replicate (2 - (lg_sl ([.ref o, .int p0])).length) Slot.unset).toArray = ls at hl ⊢
  have hl : lv_has ls 2 [(0, .ref o), (1, .int p0)] := hl
  refine lv_iload_n hx hb dX12_isLetter_0 rfl (lv_at hl 1 rfl) ?_
  refine lv_aload_n hx hb dX12_isLetter_1 rfl (lv_at hl 0 rfl) ?_
  obtain ⟨r_2, v_3, q_4, hf_1, hr_5, hv_6⟩ := (show tp_o_M L K 0 0 (Γ (39, 0, 0)) (f o) from hI0.at ho)
  have hx_7 : (v_3 0).toInt = Γ (39, 0, 0) 0 := hv_6 0 (by decide)
  refine tp_get (cy := cy) (ci := 12) (v := .int (v_3 0)) (C := RX12) (T := TX12) (N := 49) hx hb hta inlX12 hown hK hP ho.1 hf_1 rfl 2 (by decide) (hta _ wk_347) (fun _ h9 => h9) rfl dX12_isLetter_2 ?_
  refine lv_icmp_ge (tgt := 34) hx hb dX12_isLetter_5 (by decide) (fun c_23 => ?_) (fun c_23 => ?_)
  · have c_23 : (v_3 0).toInt ≤ p0.toInt := tl_le c_23
    refine lv_iconst (v := 0) hx hb dX12_isLetter_34 (by decide) ?_
    exact W.zret (ty := .boolean) (v := 0) hx hb hr rfl (fun t ht hW => ⟨_, rfl, (Or.inr ⟨by omega, rfl⟩), ht⟩) (fun q h => by cases h) dX12_isLetter_35
  · have c_23 : p0.toInt < (v_3 0).toInt := tl_nle c_23
    refine lv_aload_n hx hb dX12_isLetter_8 rfl (lv_at hl 0 rfl) ?_
    refine tp_get (cy := cy) (ci := 12) (v := .ref (r_2 1)) (C := RX12) (T := TX12) (N := 49) hx hb hta inlX12 hown hK hP ho.1 hf_1 rfl 1 (by decide) (hta _ wk_151) (fun _ h9 => h9) rfl dX12_isLetter_9 ?_
    refine lv_iload_n hx hb dX12_isLetter_12 rfl (lv_at hl 1 rfl) ?_
    obtain ⟨g_25, hf_24, hg_26⟩ := (show tp_g8 cy (400) (Γ (41, 400, 0)) (f (r_2 1)) from hI0.at (show tp_r L K 41 400 0 (r_2 1) from hr_5 1 (by decide)))
    have hn_27 : vp_in p0 (400) := tl_in (by omega) (by omega)
    refine tp_bald (cy := cy) hx hb hK hP (show tp_r L K 41 400 0 (r_2 1) from hr_5 1 (by decide)).1 hf_24 hn_27 dX12_isLetter_13 ?_
    refine lv_topi (fun z_28 ez_28 => ?_)
    have iz_28 : z_28.toInt = τ p0.toInt.toNat := by rw [ez_28, ← ht]; exact hg_26 _ (tp_pin hn_27)
    refine lv_bipush (v := 97) hx hb dX12_isLetter_14 (by decide) ?_
    refine lv_icmp_lt (tgt := 34) hx hb dX12_isLetter_16 (by decide) (fun c_29 => ?_) (fun c_29 => ?_)
    · have c_29 : z_28.toInt < (97 : Int) := tl_lt c_29
      refine lv_iconst (v := 0) hx hb dX12_isLetter_34 (by decide) ?_
      exact W.zret (ty := .boolean) (v := 0) hx hb hr rfl (fun t ht hW => ⟨_, rfl, (Or.inr ⟨by omega, rfl⟩), ht⟩) (fun q h => by cases h) dX12_isLetter_35
    · have c_29 : (97 : Int) ≤ z_28.toInt := tl_nlt c_29
      refine lv_aload_n hx hb dX12_isLetter_19 rfl (lv_at hl 0 rfl) ?_
      refine tp_get (cy := cy) (ci := 12) (v := .ref (r_2 1)) (C := RX12) (T := TX12) (N := 49) hx hb hta inlX12 hown hK hP ho.1 hf_1 rfl 1 (by decide) (hta _ wk_151) (fun _ h9 => h9) rfl dX12_isLetter_20 ?_
      refine lv_iload_n hx hb dX12_isLetter_23 rfl (lv_at hl 1 rfl) ?_
      have hn_30 : vp_in p0 (400) := tl_in (by omega) (by omega)
      refine tp_bald (cy := cy) hx hb hK hP (show tp_r L K 41 400 0 (r_2 1) from hr_5 1 (by decide)).1 hf_24 hn_30 dX12_isLetter_24 ?_
      refine lv_topi (fun z_31 ez_31 => ?_)
      have iz_31 : z_31.toInt = τ p0.toInt.toNat := by rw [ez_31, ← ht]; exact hg_26 _ (tp_pin hn_30)
      refine lv_bipush (v := 122) hx hb dX12_isLetter_25 (by decide) ?_
      refine lv_icmp_gt (tgt := 34) hx hb dX12_isLetter_27 (by decide) (fun c_32 => ?_) (fun c_32 => ?_)
      · have c_32 : (122 : Int) < z_31.toInt := tl_lt c_32
        refine lv_iconst (v := 0) hx hb dX12_isLetter_34 (by decide) ?_
        exact W.zret (ty := .boolean) (v := 0) hx hb hr rfl (fun t ht hW => ⟨_, rfl, (Or.inr ⟨by omega, rfl⟩), ht⟩) (fun q h => by cases h) dX12_isLetter_35
      · have c_32 : z_31.toInt ≤ (122 : Int) := tl_nlt c_32
        refine lv_iconst (v := 1) hx hb dX12_isLetter_30 (by decide) ?_
        refine lv_goto (tgt := 35) hx hb dX12_isLetter_31 (by decide) ?_
        exact W.zret (ty := .boolean) (v := 1) hx hb hr rfl (fun t ht hW => ⟨_, rfl, (Or.inl ⟨by omega, rfl⟩), ht⟩) (fun q h => by cases h) dX12_isLetter_35
set_option maxHeartbeats 4000000 in
set_option maxRecDepth 100000 in
theorem r_X12_see (l : Launch) (D : va_G) (cy : Nat → ClassId) (sz : Nat) (L : List Nat) (K : Nat → tk_K) (Γ : tk_G) (f : Nat → va_E) (o : Nat) (τ : Nat → Int) (T0 : Int) (ho : tp_r L K 39 (0) 0 o) (ht : Γ (41, 400, 0) = τ) (hT : Γ (39, 0, 0) 0 = T0) (hb0 : 0 ≤ Γ (39, 0, 0) 1 ∧ Γ (39, 0, 0) 1 ≤ T0 ∧ T0 ≤ 400) : Met l yX12_see (tl_w yX12_see cX12_see 1 (some .int)) ({ frames := 0, cells := 0, slots := 0, locals := 0 }) (va_Pc [.ref o] (tp_P D cy L K Γ f sz)) (va_Qi (fun (r : Int32) (u : (Nat → va_E) × tk_G) => u.2 (39, 0, 0) 0 = Γ (39, 0, 0) 0 ∧ u.2 (39, 0, 0) 3 = Γ (39, 0, 0) 3 ∧ u.2 (39, 0, 0) 4 = Γ (39, 0, 0) 4 ∧ u.2 (39, 0, 0) 5 = Γ (39, 0, 0) 5 ∧ u.2 (39, 0, 0) 6 = Γ (39, 0, 0) 6 ∧ u.2 (39, 0, 0) 7 = Γ (39, 0, 0) 7 ∧ u.2 (39, 0, 0) 8 = Γ (39, 0, 0) 8 ∧ Γ (39, 0, 0) 1 ≤ u.2 (39, 0, 0) 1 ∧ u.2 (39, 0, 0) 1 ≤ T0 ∧ (¬ τ (Γ (39, 0, 0) 1).toNat = 32 → u.2 (39, 0, 0) 1 = Γ (39, 0, 0) 1) ∧ ((r.toInt = -1 ∧ u.2 (39, 0, 0) 1 = T0) ∨ (0 ≤ r.toInt ∧ r.toInt ≤ 255 ∧ u.2 (39, 0, 0) 1 < T0 ∧ ¬ τ (u.2 (39, 0, 0) 1).toNat = 32))) (tp_BG D cy L K Γ f [39]) (tp_A L sz)) 0 0 (tp_A L sz) := by
  refine Met.ofW (cc := cX12_see) (maxL := 1) (ret := (some .int)) (by decide) rfl ?_
  intro p e s m args below meth c s₁ B hml hv
  obtain ⟨rfl, hsz, hP, hK, hL, hI, hN, hU⟩ := hv
  have hx := B.exec
  have hb := B.bytes
  have hr := B.returns
  have hta := tl_hta (atoms_spec (ws := tl_w yX12_see cX12_see 1 (some .int)) B.pre)
  have hown : s.vm.findClass RX12 = some m.cls := findClass_of_methodNamed B.named
  have hlocks := B.notSynchronized
  subst hsz
  have hI0 := hI
  generalize hAe : tp_A L s.heap.size = A
  have hA : ∀ q : Nat, s.heap.size ≤ q → A q := fun q h => by rw [← hAe]; exact Or.inr h
  have hAL : ∀ q ∈ L, A q := fun q h => by rw [← hAe]; exact Or.inl h
  have hAf : ∀ (H : Heap), s.heap.size ≤ H.size → ∀ q, tp_A L H.size q → A q := fun H h q hq => hq.elim (hAL q) (fun h2 => hA q (Nat.le_trans h h2))
  have hS : va_S A s.heap s.heap [] := va_S.rf
  have hD : va_D A (va_pl L f) := tp_D hL hAL
  have hfr : ∀ b, (K b).1 ∉ ([39] : List Nat) → f b = f b := fun _ _ => rfl
  have hgr : ∀ κ : tk_K, κ.1 ∉ ([39] : List Nat) → Γ κ = Γ κ := fun _ _ => rfl
  have hl := lv_entry ([.ref o]) (n := 1) (Nat.le_of_ble_eq_true rfl)
  rw [lg_entry_eq]
  generalize (lg_sl ([.ref o]) ++ List.replicate (1 - (lg_sl ([.ref o])).length) Slot.unset).toArray = ls at hl ⊢
  have hl : lv_has ls 1 [(0, .ref o)] := hl
  refine tq_start hP hS (fun H locs hP hS => ?_)
  refine tl_ind (G := fun H locs ls => W p l e ((headSpec (tl_w yX12_see cX12_see 1 (some .int)) ({ frames := 0, cells := 0, slots := 0, locals := 0 })).room) s m #[.ref o] below meth c H locs 0 0 (MQ below (va_Qi (fun (r : Int32) (u : (Nat → va_E) × tk_G) => u.2 (39, 0, 0) 0 = Γ (39, 0, 0) 0 ∧ u.2 (39, 0, 0) 3 = Γ (39, 0, 0) 3 ∧ u.2 (39, 0, 0) 4 = Γ (39, 0, 0) 4 ∧ u.2 (39, 0, 0) 5 = Γ (39, 0, 0) 5 ∧ u.2 (39, 0, 0) 6 = Γ (39, 0, 0) 6 ∧ u.2 (39, 0, 0) 7 = Γ (39, 0, 0) 7 ∧ u.2 (39, 0, 0) 8 = Γ (39, 0, 0) 8 ∧ Γ (39, 0, 0) 1 ≤ u.2 (39, 0, 0) 1 ∧ u.2 (39, 0, 0) 1 ≤ T0 ∧ (¬ τ (Γ (39, 0, 0) 1).toNat = 32 → u.2 (39, 0, 0) 1 = Γ (39, 0, 0) 1) ∧ ((r.toInt = -1 ∧ u.2 (39, 0, 0) 1 = T0) ∨ (0 ≤ r.toInt ∧ r.toInt ≤ 255 ∧ u.2 (39, 0, 0) 1 < T0 ∧ ¬ τ (u.2 (39, 0, 0) 1).toNat = 32))) (tp_BG D cy L K Γ f [39]) A) #[.ref o] s 0 0 A) (F0 m 0 ls [])) (α := (Nat → va_E) × tk_G) (fun aq => (400 - aq.2 (39, 0, 0) 1).toNat) (fun aq H locs ls => (aq.2 (39, 0, 0) 0 = Γ (39, 0, 0) 0) ∧ (aq.2 (39, 0, 0) 3 = Γ (39, 0, 0) 3) ∧ (aq.2 (39, 0, 0) 4 = Γ (39, 0, 0) 4) ∧ (aq.2 (39, 0, 0) 5 = Γ (39, 0, 0) 5) ∧ (aq.2 (39, 0, 0) 6 = Γ (39, 0, 0) 6) ∧ (aq.2 (39, 0, 0) 7 = Γ (39, 0, 0) 7) ∧ (aq.2 (39, 0, 0) 8 = Γ (39, 0, 0) 8) ∧ (Γ (39, 0, 0) 1 ≤ aq.2 (39, 0, 0) 1 ∧ aq.2 (39, 0, 0) 1 ≤ T0) ∧ (¬ τ (Γ (39, 0, 0) 1).toNat = 32 → aq.2 (39, 0, 0) 1 = Γ (39, 0, 0) 1) ∧ va_P D vwCl (va_pl L aq.1) H ∧ tp_I cy L K aq.2 aq.1 ∧ (∀ b, (K b).1 ∉ ([39] : List Nat) → aq.1 b = f b) ∧ (∀ κ : tk_K, κ.1 ∉ ([39] : List Nat) → aq.2 κ = Γ κ) ∧ va_S A s.heap H locs ∧ lv_has ls 1 [(0, .ref o)]) ?_ (f, Γ) H locs ls ⟨(show Γ (39, 0, 0) 0 = Γ (39, 0, 0) 0 from (by omega)), (show Γ (39, 0, 0) 3 = Γ (39, 0, 0) 3 from (by omega)), (show Γ (39, 0, 0) 4 = Γ (39, 0, 0) 4 from (by omega)), (show Γ (39, 0, 0) 5 = Γ (39, 0, 0) 5 from (by omega)), (show Γ (39, 0, 0) 6 = Γ (39, 0, 0) 6 from (by omega)), (show Γ (39, 0, 0) 7 = Γ (39, 0, 0) 7 from (by omega)), (show Γ (39, 0, 0) 8 = Γ (39, 0, 0) 8 from (by omega)), (show Γ (39, 0, 0) 1 ≤ Γ (39, 0, 0) 1 ∧ Γ (39, 0, 0) 1 ≤ T0 from (by omega)), (show ¬ τ (Γ (39, 0, 0) 1).toNat = 32 → Γ (39, 0, 0) 1 = Γ (39, 0, 0) 1 from (fun _ => rfl)), hP, hI, hfr, hgr, hS, lv_sub hl [0] rfl⟩
  rintro ⟨f_1, Γ_2⟩ H locs ls ⟨q0, q3, q4, q5, q6, q7, q8, h1, hns, hP, hI, hfr, hgr, hS, hl⟩ ih0
  have hgr : ∀ κ : tk_K, κ.1 ∉ ([39] : List Nat) → Γ_2 κ = Γ κ := hgr
  have hP : va_P D vwCl (va_pl L f_1) H := hP
  have hI : tp_I cy L K Γ_2 f_1 := hI
  have hfr : ∀ b, (K b).1 ∉ ([39] : List Nat) → f_1 b = f b := hfr
  have hD : va_D A (va_pl L f_1) := tp_D hL hAL
  have q0 : Γ_2 (39, 0, 0) 0 = Γ (39, 0, 0) 0 := q0
  have q3 : Γ_2 (39, 0, 0) 3 = Γ (39, 0, 0) 3 := q3
  have q4 : Γ_2 (39, 0, 0) 4 = Γ (39, 0, 0) 4 := q4
  have q5 : Γ_2 (39, 0, 0) 5 = Γ (39, 0, 0) 5 := q5
  have q6 : Γ_2 (39, 0, 0) 6 = Γ (39, 0, 0) 6 := q6
  have q7 : Γ_2 (39, 0, 0) 7 = Γ (39, 0, 0) 7 := q7
  have q8 : Γ_2 (39, 0, 0) 8 = Γ (39, 0, 0) 8 := q8
  have h1 : Γ (39, 0, 0) 1 ≤ Γ_2 (39, 0, 0) 1 ∧ Γ_2 (39, 0, 0) 1 ≤ T0 := h1
  have hns : ¬ τ (Γ (39, 0, 0) 1).toNat = 32 → Γ_2 (39, 0, 0) 1 = Γ (39, 0, 0) 1 := hns
  have hl : lv_has ls 1 [(0, .ref o)] := hl
  refine lv_aload_n hx hb dX12_see_0 rfl (lv_at hl 0 rfl) ?_
  obtain ⟨r_4, v_5, q_6, hf_3, hr_7, hv_8⟩ := (show tp_o_M L K 0 0 (Γ_2 (39, 0, 0)) (f_1 o) from hI.at ho)
  have hx_9 : (v_5 0).toInt = Γ_2 (39, 0, 0) 0 := hv_8 0 (by decide)
  have hx_10 : (v_5 1).toInt = Γ_2 (39, 0, 0) 1 := hv_8 1 (by decide)
  have hx_11 : (v_5 2).toInt = Γ_2 (39, 0, 0) 2 := hv_8 2 (by decide)
  have hx_12 : (v_5 3).toInt = Γ_2 (39, 0, 0) 3 := hv_8 3 (by decide)
  have hx_13 : (v_5 4).toInt = Γ_2 (39, 0, 0) 4 := hv_8 4 (by decide)
  have hx_14 : (v_5 5).toInt = Γ_2 (39, 0, 0) 5 := hv_8 5 (by decide)
  have hx_15 : (v_5 6).toInt = Γ_2 (39, 0, 0) 6 := hv_8 6 (by decide)
  have hx_16 : (v_5 7).toInt = Γ_2 (39, 0, 0) 7 := hv_8 7 (by decide)
  have hx_17 : (v_5 8).toInt = Γ_2 (39, 0, 0) 8 := hv_8 8 (by decide)
  have hx_18 : (v_5 9).toInt = Γ_2 (39, 0, 0) 9 := hv_8 9 (by decide)
  have hx_19 : (v_5 10).toInt = Γ_2 (39, 0, 0) 10 := hv_8 10 (by decide)
  have hx_20 : (v_5 11).toInt = Γ_2 (39, 0, 0) 11 := hv_8 11 (by decide)
  have hx_21 : (v_5 12).toInt = Γ_2 (39, 0, 0) 12 := hv_8 12 (by decide)
  have hx_22 : (v_5 13).toInt = Γ_2 (39, 0, 0) 13 := hv_8 13 (by decide)
  have hx_23 : (v_5 14).toInt = Γ_2 (39, 0, 0) 14 := hv_8 14 (by decide)
  have hx_24 : (v_5 15).toInt = Γ_2 (39, 0, 0) 15 := hv_8 15 (by decide)
  refine tp_get (cy := cy) (ci := 12) (v := .int (v_5 1)) (C := RX12) (T := TX12) (N := 49) hx hb hta inlX12 hown hK hP ho.1 hf_3 rfl 17 (by decide) (hta _ wk_539) (fun _ h9 => h9) rfl dX12_see_1 ?_
  refine lv_aload_n hx hb dX12_see_4 rfl (lv_at hl 0 rfl) ?_
  refine tp_get (cy := cy) (ci := 12) (v := .int (v_5 0)) (C := RX12) (T := TX12) (N := 49) hx hb hta inlX12 hown hK hP ho.1 hf_3 rfl 2 (by decide) (hta _ wk_347) (fun _ h9 => h9) rfl dX12_see_5 ?_
  refine lv_icmp_ge (tgt := 38) hx hb dX12_see_8 (by decide) (fun c_25 => ?_) (fun c_25 => ?_)
  · have c_25 : (v_5 0).toInt ≤ (v_5 1).toInt := tl_le c_25
    refine lv_aload_n hx hb dX12_see_38 rfl (lv_at hl 0 rfl) ?_
    refine tp_get (cy := cy) (ci := 12) (v := .int (v_5 1)) (C := RX12) (T := TX12) (N := 49) hx hb hta inlX12 hown hK hP ho.1 hf_3 rfl 17 (by decide) (hta _ wk_539) (fun _ h9 => h9) rfl dX12_see_39 ?_
    refine lv_aload_n hx hb dX12_see_42 rfl (lv_at hl 0 rfl) ?_
    refine tp_get (cy := cy) (ci := 12) (v := .int (v_5 0)) (C := RX12) (T := TX12) (N := 49) hx hb hta inlX12 hown hK hP ho.1 hf_3 rfl 2 (by decide) (hta _ wk_347) (fun _ h9 => h9) rfl dX12_see_43 ?_
    refine lv_icmp_ge (tgt := 65) hx hb dX12_see_46 (by decide) (fun c_26 => ?_) (fun c_26 => ?_)
    · have c_26 : (v_5 0).toInt ≤ (v_5 1).toInt := tl_le c_26
      refine lv_iconst (v := (-1)) hx hb dX12_see_65 (by decide) ?_
      have hpo9 : Γ_2 (39, 0, 0) 0 = Γ (39, 0, 0) 0 ∧ Γ_2 (39, 0, 0) 3 = Γ (39, 0, 0) 3 ∧ Γ_2 (39, 0, 0) 4 = Γ (39, 0, 0) 4 ∧ Γ_2 (39, 0, 0) 5 = Γ (39, 0, 0) 5 ∧ Γ_2 (39, 0, 0) 6 = Γ (39, 0, 0) 6 ∧ Γ_2 (39, 0, 0) 7 = Γ (39, 0, 0) 7 ∧ Γ_2 (39, 0, 0) 8 = Γ (39, 0, 0) 8 ∧ Γ (39, 0, 0) 1 ≤ Γ_2 (39, 0, 0) 1 ∧ Γ_2 (39, 0, 0) 1 ≤ T0 ∧ (¬ τ (Γ (39, 0, 0) 1).toNat = 32 → Γ_2 (39, 0, 0) 1 = Γ (39, 0, 0) 1) ∧ ((((-1) : Int32).toInt = -1 ∧ Γ_2 (39, 0, 0) 1 = T0) ∨ (0 ≤ ((-1) : Int32).toInt ∧ ((-1) : Int32).toInt ≤ 255 ∧ Γ_2 (39, 0, 0) 1 < T0 ∧ ¬ τ (Γ_2 (39, 0, 0) 1).toNat = 32)) := ⟨(by omega), (by omega), (by omega), (by omega), (by omega), (by omega), (by omega), (by omega), (by omega), hns, (by first | exact Or.inl ⟨by decide, by omega⟩ | exact Or.inr ⟨by omega, by omega, by omega, by omega⟩ | (exfalso; omega))⟩
      exact W.iret (v := (-1)) hx hb hr (fun t ht hW => ⟨⟨_, (f_1, Γ_2), rfl, hpo9, by rw [ht]; exact hP, hI, hfr, hgr⟩, hS.F ht⟩) hS.2.2 dX12_see_66
    · have c_26 : (v_5 1).toInt < (v_5 0).toInt := tl_nle c_26
      refine lv_aload_n hx hb dX12_see_49 rfl (lv_at hl 0 rfl) ?_
      refine tp_get (cy := cy) (ci := 12) (v := .ref (r_4 1)) (C := RX12) (T := TX12) (N := 49) hx hb hta inlX12 hown hK hP ho.1 hf_3 rfl 1 (by decide) (hta _ wk_151) (fun _ h9 => h9) rfl dX12_see_50 ?_
      refine lv_aload_n hx hb dX12_see_53 rfl (lv_at hl 0 rfl) ?_
      refine tp_get (cy := cy) (ci := 12) (v := .int (v_5 1)) (C := RX12) (T := TX12) (N := 49) hx hb hta inlX12 hown hK hP ho.1 hf_3 rfl 17 (by decide) (hta _ wk_539) (fun _ h9 => h9) rfl dX12_see_54 ?_
      obtain ⟨g_28, hf_27, hg_29⟩ := (show tp_g8 cy (400) (Γ (41, 400, 0)) (f (r_4 1)) from hI0.at (show tp_r L K 41 400 0 (r_4 1) from hr_7 1 (by decide)))
      have hn_30 : vp_in (v_5 1) (400) := tl_in (by omega) (by omega)
      refine tp_bald (cy := cy) hx hb hK hP (show tp_r L K 41 400 0 (r_4 1) from hr_7 1 (by decide)).1 ((tp_un hfr (show tp_r L K 41 400 0 (r_4 1) from hr_7 1 (by decide)) (by decide)).trans hf_27) hn_30 dX12_see_57 ?_
      refine lv_topi (fun z_31 ez_31 => ?_)
      have iz_31 : z_31.toInt = τ (v_5 1).toInt.toNat := by rw [ez_31, ← ht]; exact hg_29 _ (tp_pin hn_30)
      have jz_31 : z_31.toInt = τ  (Γ_2 (39, 0, 0) 1).toNat := by rw [← hx_10]; exact iz_31
      refine lv_sipush (v := 255) hx hb dX12_see_58 (by decide) ?_
      refine lv_iand hx hb dX12_see_61 ?_
      refine lv_topi (fun z_32 ez_32 => ?_)
      have iz_32 := tl_and255 ez_32
      refine lv_goto (tgt := 66) hx hb dX12_see_62 (by decide) ?_
      have hpo9 : Γ_2 (39, 0, 0) 0 = Γ (39, 0, 0) 0 ∧ Γ_2 (39, 0, 0) 3 = Γ (39, 0, 0) 3 ∧ Γ_2 (39, 0, 0) 4 = Γ (39, 0, 0) 4 ∧ Γ_2 (39, 0, 0) 5 = Γ (39, 0, 0) 5 ∧ Γ_2 (39, 0, 0) 6 = Γ (39, 0, 0) 6 ∧ Γ_2 (39, 0, 0) 7 = Γ (39, 0, 0) 7 ∧ Γ_2 (39, 0, 0) 8 = Γ (39, 0, 0) 8 ∧ Γ (39, 0, 0) 1 ≤ Γ_2 (39, 0, 0) 1 ∧ Γ_2 (39, 0, 0) 1 ≤ T0 ∧ (¬ τ (Γ (39, 0, 0) 1).toNat = 32 → Γ_2 (39, 0, 0) 1 = Γ (39, 0, 0) 1) ∧ (((z_32 : Int32).toInt = -1 ∧ Γ_2 (39, 0, 0) 1 = T0) ∨ (0 ≤ (z_32 : Int32).toInt ∧ (z_32 : Int32).toInt ≤ 255 ∧ Γ_2 (39, 0, 0) 1 < T0 ∧ ¬ τ (Γ_2 (39, 0, 0) 1).toNat = 32)) := ⟨(by omega), (by omega), (by omega), (by omega), (by omega), (by omega), (by omega), (by omega), (by omega), hns, (by first | exact Or.inl ⟨by decide, by omega⟩ | exact Or.inr ⟨by omega, by omega, by omega, by omega⟩ | (exfalso; omega))⟩
      exact W.iret (v := z_32) hx hb hr (fun t ht hW => ⟨⟨_, (f_1, Γ_2), rfl, hpo9, by rw [ht]; exact hP, hI, hfr, hgr⟩, hS.F ht⟩) hS.2.2 dX12_see_66
  · have c_25 : (v_5 1).toInt < (v_5 0).toInt := tl_nle c_25
    refine lv_aload_n hx hb dX12_see_11 rfl (lv_at hl 0 rfl) ?_
    refine tp_get (cy := cy) (ci := 12) (v := .ref (r_4 1)) (C := RX12) (T := TX12) (N := 49) hx hb hta inlX12 hown hK hP ho.1 hf_3 rfl 1 (by decide) (hta _ wk_151) (fun _ h9 => h9) rfl dX12_see_12 ?_
    refine lv_aload_n hx hb dX12_see_15 rfl (lv_at hl 0 rfl) ?_
    refine tp_get (cy := cy) (ci := 12) (v := .int (v_5 1)) (C := RX12) (T := TX12) (N := 49) hx hb hta inlX12 hown hK hP ho.1 hf_3 rfl 17 (by decide) (hta _ wk_539) (fun _ h9 => h9) rfl dX12_see_16 ?_
    obtain ⟨g_34, hf_33, hg_35⟩ := (show tp_g8 cy (400) (Γ (41, 400, 0)) (f (r_4 1)) from hI0.at (show tp_r L K 41 400 0 (r_4 1) from hr_7 1 (by decide)))
    have hn_36 : vp_in (v_5 1) (400) := tl_in (by omega) (by omega)
    refine tp_bald (cy := cy) hx hb hK hP (show tp_r L K 41 400 0 (r_4 1) from hr_7 1 (by decide)).1 ((tp_un hfr (show tp_r L K 41 400 0 (r_4 1) from hr_7 1 (by decide)) (by decide)).trans hf_33) hn_36 dX12_see_19 ?_
    refine lv_topi (fun z_37 ez_37 => ?_)
    have iz_37 : z_37.toInt = τ (v_5 1).toInt.toNat := by rw [ez_37, ← ht]; exact hg_35 _ (tp_pin hn_36)
    have jz_37 : z_37.toInt = τ  (Γ_2 (39, 0, 0) 1).toNat := by rw [← hx_10]; exact iz_37
    refine lv_bipush (v := 32) hx hb dX12_see_20 (by decide) ?_
    refine lv_icmp_ne (tgt := 38) hx hb dX12_see_22 (by decide) (fun c_38 => ?_) (fun c_38 => ?_)
    · have c_38 : ¬ z_37.toInt = (32 : Int) := tl_neq c_38
      refine lv_aload_n hx hb dX12_see_38 rfl (lv_at hl 0 rfl) ?_
      refine tp_get (cy := cy) (ci := 12) (v := .int (v_5 1)) (C := RX12) (T := TX12) (N := 49) hx hb hta inlX12 hown hK hP ho.1 hf_3 rfl 17 (by decide) (hta _ wk_539) (fun _ h9 => h9) rfl dX12_see_39 ?_
      refine lv_aload_n hx hb dX12_see_42 rfl (lv_at hl 0 rfl) ?_
      refine tp_get (cy := cy) (ci := 12) (v := .int (v_5 0)) (C := RX12) (T := TX12) (N := 49) hx hb hta inlX12 hown hK hP ho.1 hf_3 rfl 2 (by decide) (hta _ wk_347) (fun _ h9 => h9) rfl dX12_see_43 ?_
      refine lv_icmp_ge (tgt := 65) hx hb dX12_see_46 (by decide) (fun c_39 => ?_) (fun c_39 => ?_)
      · have c_39 : (v_5 0).toInt ≤ (v_5 1).toInt := tl_le c_39
        refine lv_iconst (v := (-1)) hx hb dX12_see_65 (by decide) ?_
        have hpo9 : Γ_2 (39, 0, 0) 0 = Γ (39, 0, 0) 0 ∧ Γ_2 (39, 0, 0) 3 = Γ (39, 0, 0) 3 ∧ Γ_2 (39, 0, 0) 4 = Γ (39, 0, 0) 4 ∧ Γ_2 (39, 0, 0) 5 = Γ (39, 0, 0) 5 ∧ Γ_2 (39, 0, 0) 6 = Γ (39, 0, 0) 6 ∧ Γ_2 (39, 0, 0) 7 = Γ (39, 0, 0) 7 ∧ Γ_2 (39, 0, 0) 8 = Γ (39, 0, 0) 8 ∧ Γ (39, 0, 0) 1 ≤ Γ_2 (39, 0, 0) 1 ∧ Γ_2 (39, 0, 0) 1 ≤ T0 ∧ (¬ τ (Γ (39, 0, 0) 1).toNat = 32 → Γ_2 (39, 0, 0) 1 = Γ (39, 0, 0) 1) ∧ ((((-1) : Int32).toInt = -1 ∧ Γ_2 (39, 0, 0) 1 = T0) ∨ (0 ≤ ((-1) : Int32).toInt ∧ ((-1) : Int32).toInt ≤ 255 ∧ Γ_2 (39, 0, 0) 1 < T0 ∧ ¬ τ (Γ_2 (39, 0, 0) 1).toNat = 32)) := ⟨(by omega), (by omega), (by omega), (by omega), (by omega), (by omega), (by omega), (by omega), (by omega), hns, (by first | exact Or.inl ⟨by decide, by omega⟩ | exact Or.inr ⟨by omega, by omega, by omega, by omega⟩ | (exfalso; omega))⟩
        exact W.iret (v := (-1)) hx hb hr (fun t ht hW => ⟨⟨_, (f_1, Γ_2), rfl, hpo9, by rw [ht]; exact hP, hI, hfr, hgr⟩, hS.F ht⟩) hS.2.2 dX12_see_66
      · have c_39 : (v_5 1).toInt < (v_5 0).toInt := tl_nle c_39
        refine lv_aload_n hx hb dX12_see_49 rfl (lv_at hl 0 rfl) ?_
        refine tp_get (cy := cy) (ci := 12) (v := .ref (r_4 1)) (C := RX12) (T := TX12) (N := 49) hx hb hta inlX12 hown hK hP ho.1 hf_3 rfl 1 (by decide) (hta _ wk_151) (fun _ h9 => h9) rfl dX12_see_50 ?_
        refine lv_aload_n hx hb dX12_see_53 rfl (lv_at hl 0 rfl) ?_
        refine tp_get (cy := cy) (ci := 12) (v := .int (v_5 1)) (C := RX12) (T := TX12) (N := 49) hx hb hta inlX12 hown hK hP ho.1 hf_3 rfl 17 (by decide) (hta _ wk_539) (fun _ h9 => h9) rfl dX12_see_54 ?_
        have hn_40 : vp_in (v_5 1) (400) := tl_in (by omega) (by omega)
        refine tp_bald (cy := cy) hx hb hK hP (show tp_r L K 41 400 0 (r_4 1) from hr_7 1 (by decide)).1 ((tp_un hfr (show tp_r L K 41 400 0 (r_4 1) from hr_7 1 (by decide)) (by decide)).trans hf_33) hn_40 dX12_see_57 ?_
        refine lv_topi (fun z_41 ez_41 => ?_)
        have iz_41 : z_41.toInt = τ (v_5 1).toInt.toNat := by rw [ez_41, ← ht]; exact hg_35 _ (tp_pin hn_40)
        have jz_41 : z_41.toInt = τ  (Γ_2 (39, 0, 0) 1).toNat := by rw [← hx_10]; exact iz_41
        refine lv_sipush (v := 255) hx hb dX12_see_58 (by decide) ?_
        refine lv_iand hx hb dX12_see_61 ?_
        refine lv_topi (fun z_42 ez_42 => ?_)
        have iz_42 := tl_and255 ez_42
        refine lv_goto (tgt := 66) hx hb dX12_see_62 (by decide) ?_
        have hpo9 : Γ_2 (39, 0, 0) 0 = Γ (39, 0, 0) 0 ∧ Γ_2 (39, 0, 0) 3 = Γ (39, 0, 0) 3 ∧ Γ_2 (39, 0, 0) 4 = Γ (39, 0, 0) 4 ∧ Γ_2 (39, 0, 0) 5 = Γ (39, 0, 0) 5 ∧ Γ_2 (39, 0, 0) 6 = Γ (39, 0, 0) 6 ∧ Γ_2 (39, 0, 0) 7 = Γ (39, 0, 0) 7 ∧ Γ_2 (39, 0, 0) 8 = Γ (39, 0, 0) 8 ∧ Γ (39, 0, 0) 1 ≤ Γ_2 (39, 0, 0) 1 ∧ Γ_2 (39, 0, 0) 1 ≤ T0 ∧ (¬ τ (Γ (39, 0, 0) 1).toNat = 32 → Γ_2 (39, 0, 0) 1 = Γ (39, 0, 0) 1) ∧ (((z_42 : Int32).toInt = -1 ∧ Γ_2 (39, 0, 0) 1 = T0) ∨ (0 ≤ (z_42 : Int32).toInt ∧ (z_42 : Int32).toInt ≤ 255 ∧ Γ_2 (39, 0, 0) 1 < T0 ∧ ¬ τ (Γ_2 (39, 0, 0) 1).toNat = 32)) := ⟨(by omega), (by omega), (by omega), (by omega), (by omega), (by omega), (by omega), (by omega), (by omega), hns, (by first | exact Or.inl ⟨by decide, by omega⟩ | exact Or.inr ⟨by omega, by omega, by omega, by omega⟩ | (exfalso; omega))⟩
        exact W.iret (v := z_42) hx hb hr (fun t ht hW => ⟨⟨_, (f_1, Γ_2), rfl, hpo9, by rw [ht]; exact hP, hI, hfr, hgr⟩, hS.F ht⟩) hS.2.2 dX12_see_66
    · have c_38 : z_37.toInt = (32 : Int) := tl_eq c_38
      refine lv_aload_n hx hb dX12_see_25 rfl (lv_at hl 0 rfl) ?_
      refine lv_dup hx hb dX12_see_26 rfl ?_
      refine tp_get (cy := cy) (ci := 12) (v := .int (v_5 1)) (C := RX12) (T := TX12) (N := 49) hx hb hta inlX12 hown hK hP ho.1 hf_3 rfl 17 (by decide) (hta _ wk_539) (fun _ h9 => h9) rfl dX12_see_27 ?_
      refine lv_iconst (v := 1) hx hb dX12_see_30 (by decide) ?_
      refine lv_iadd hx hb dX12_see_31 ?_
      refine lv_topi (fun z_43 ez_43 => ?_)
      try have iz_43 : z_43.toInt = (v_5 1).toInt + (1 : Int) := by rw [ez_43]; exact tl_addN (v_5 1) 1 rfl rfl (by omega) (by omega)
      obtain ⟨Γ_44, eΓ_44⟩ : ∃ y : tk_G, y = tg Γ_2 (39, 0, 0) 1 z_43.toInt := ⟨_, rfl⟩
      have hv_45 : ∀ i : Nat, i < 16 → ((upd v_5 1 z_43) i).toInt = Γ_44 (39, 0, 0) i := by rw [eΓ_44, tg_f]; exact tp_gi_upd hv_8
      have hI9 : tp_I cy L K Γ_44 (va_up f_1 o (.inr (12, [.ref (r_4 0), .ref (r_4 1), .int (v_5 0), .ref (r_4 2), .ref (r_4 3), .ref (r_4 4), .ref (r_4 5), .ref (r_4 6), .ref (r_4 7), .ref (r_4 8), .ref (r_4 9), .ref (r_4 10), .ref (r_4 11), .ref (r_4 12), .ref (r_4 13), .ref (r_4 14), .ref (r_4 15), .int z_43, .int (v_5 2), .int (v_5 3), .int (v_5 4), .int (v_5 5), .int (v_5 6), .int (v_5 7), .ref (r_4 16), .int (v_5 8), .ref (r_4 17), .int (v_5 9), .ref (r_4 18), .long q_6, .ref (r_4 19), .ref (r_4 20), .int (v_5 10), .int (v_5 11), .int (v_5 12), .ref (r_4 21), .ref (r_4 22), .int (v_5 13), .ref (r_4 23), .int (v_5 14), .int (v_5 15), .ref (r_4 24), .ref (r_4 25), .ref (r_4 26), .ref (r_4 27), .ref (r_4 28), .ref (r_4 29), .ref (r_4 30), .ref (r_4 31)]))) := by have q9 := hv_45; rw [eΓ_44, tg_f] at q9; rw [eΓ_44]; exact hI.setg hU rfl ho (show tp_o_M L K 0 0 (tgu (Γ_2 (39, 0, 0)) 1 z_43.toInt) _ from ⟨r_4, (upd v_5 1 z_43), q_6, rfl, hr_7, q9⟩)
      have hfr9 : ∀ b, (K b).1 ∉ ([39] : List Nat) → va_up f_1 o (.inr (12, [.ref (r_4 0), .ref (r_4 1), .int (v_5 0), .ref (r_4 2), .ref (r_4 3), .ref (r_4 4), .ref (r_4 5), .ref (r_4 6), .ref (r_4 7), .ref (r_4 8), .ref (r_4 9), .ref (r_4 10), .ref (r_4 11), .ref (r_4 12), .ref (r_4 13), .ref (r_4 14), .ref (r_4 15), .int z_43, .int (v_5 2), .int (v_5 3), .int (v_5 4), .int (v_5 5), .int (v_5 6), .int (v_5 7), .ref (r_4 16), .int (v_5 8), .ref (r_4 17), .int (v_5 9), .ref (r_4 18), .long q_6, .ref (r_4 19), .ref (r_4 20), .int (v_5 10), .int (v_5 11), .int (v_5 12), .ref (r_4 21), .ref (r_4 22), .int (v_5 13), .ref (r_4 23), .int (v_5 14), .int (v_5 15), .ref (r_4 24), .ref (r_4 25), .ref (r_4 26), .ref (r_4 27), .ref (r_4 28), .ref (r_4 29), .ref (r_4 30), .ref (r_4 31)])) b = f b := tp_fr hfr ho (by decide)
      refine tp_put (cy := cy) (ci := 12) (v := .int z_43) (ty := tyX12 17) (C := RX12) (T := TX12) (N := 49) hx hb hta inlX12 tyX12 tyX12_ok nmX12 hown hK hP hD hS ho.1 hf_3 rfl 17 (by decide) (hta _ wk_539) (fun _ h9 => h9) rfl (tyX12_ok 17 (by decide)) rfl rfl (Nat.le_of_ble_eq_true rfl) dX12_see_32 (fun H locs hP hD hS => ?_)
      have hP : va_P D vwCl (va_pl L (va_up f_1 o (.inr (12, [.ref (r_4 0), .ref (r_4 1), .int (v_5 0), .ref (r_4 2), .ref (r_4 3), .ref (r_4 4), .ref (r_4 5), .ref (r_4 6), .ref (r_4 7), .ref (r_4 8), .ref (r_4 9), .ref (r_4 10), .ref (r_4 11), .ref (r_4 12), .ref (r_4 13), .ref (r_4 14), .ref (r_4 15), .int z_43, .int (v_5 2), .int (v_5 3), .int (v_5 4), .int (v_5 5), .int (v_5 6), .int (v_5 7), .ref (r_4 16), .int (v_5 8), .ref (r_4 17), .int (v_5 9), .ref (r_4 18), .long q_6, .ref (r_4 19), .ref (r_4 20), .int (v_5 10), .int (v_5 11), .int (v_5 12), .ref (r_4 21), .ref (r_4 22), .int (v_5 13), .ref (r_4 23), .int (v_5 14), .int (v_5 15), .ref (r_4 24), .ref (r_4 25), .ref (r_4 26), .ref (r_4 27), .ref (r_4 28), .ref (r_4 29), .ref (r_4 30), .ref (r_4 31)])))) H := hP
      generalize hfe : va_up f_1 o (.inr (12, [.ref (r_4 0), .ref (r_4 1), .int (v_5 0), .ref (r_4 2), .ref (r_4 3), .ref (r_4 4), .ref (r_4 5), .ref (r_4 6), .ref (r_4 7), .ref (r_4 8), .ref (r_4 9), .ref (r_4 10), .ref (r_4 11), .ref (r_4 12), .ref (r_4 13), .ref (r_4 14), .ref (r_4 15), .int z_43, .int (v_5 2), .int (v_5 3), .int (v_5 4), .int (v_5 5), .int (v_5 6), .int (v_5 7), .ref (r_4 16), .int (v_5 8), .ref (r_4 17), .int (v_5 9), .ref (r_4 18), .long q_6, .ref (r_4 19), .ref (r_4 20), .int (v_5 10), .int (v_5 11), .int (v_5 12), .ref (r_4 21), .ref (r_4 22), .int (v_5 13), .ref (r_4 23), .int (v_5 14), .int (v_5 15), .ref (r_4 24), .ref (r_4 25), .ref (r_4 26), .ref (r_4 27), .ref (r_4 28), .ref (r_4 29), .ref (r_4 30), .ref (r_4 31)])) = f_46 at hP hI9 hfr9
      have hD : va_D A (va_pl L f_46) := tp_D hL hAL
      have hf_47 : f_46 o = .inr (12, [.ref (r_4 0), .ref (r_4 1), .int (v_5 0), .ref (r_4 2), .ref (r_4 3), .ref (r_4 4), .ref (r_4 5), .ref (r_4 6), .ref (r_4 7), .ref (r_4 8), .ref (r_4 9), .ref (r_4 10), .ref (r_4 11), .ref (r_4 12), .ref (r_4 13), .ref (r_4 14), .ref (r_4 15), .int z_43, .int (v_5 2), .int (v_5 3), .int (v_5 4), .int (v_5 5), .int (v_5 6), .int (v_5 7), .ref (r_4 16), .int (v_5 8), .ref (r_4 17), .int (v_5 9), .ref (r_4 18), .long q_6, .ref (r_4 19), .ref (r_4 20), .int (v_5 10), .int (v_5 11), .int (v_5 12), .ref (r_4 21), .ref (r_4 22), .int (v_5 13), .ref (r_4 23), .int (v_5 14), .int (v_5 15), .ref (r_4 24), .ref (r_4 25), .ref (r_4 26), .ref (r_4 27), .ref (r_4 28), .ref (r_4 29), .ref (r_4 30), .ref (r_4 31)]) := by rw [← hfe]; exact va_up_self _ _ _
      clear hfe
      have hI := hI9
      have hfr := hfr9
      clear hI9 hfr9
      have hgr : ∀ κ : tk_K, κ.1 ∉ ([39] : List Nat) → Γ_44 κ = Γ κ := tg_fr hgr eΓ_44 (by decide)
      have hx_48 : (v_5 0).toInt = Γ_44 (39, 0, 0) 0 := hv_45 0 (by decide)
      have hx_49 : z_43.toInt = Γ_44 (39, 0, 0) 1 := hv_45 1 (by decide)
      have hx_50 : (v_5 2).toInt = Γ_44 (39, 0, 0) 2 := hv_45 2 (by decide)
      have hx_51 : (v_5 3).toInt = Γ_44 (39, 0, 0) 3 := hv_45 3 (by decide)
      have hx_52 : (v_5 4).toInt = Γ_44 (39, 0, 0) 4 := hv_45 4 (by decide)
      have hx_53 : (v_5 5).toInt = Γ_44 (39, 0, 0) 5 := hv_45 5 (by decide)
      have hx_54 : (v_5 6).toInt = Γ_44 (39, 0, 0) 6 := hv_45 6 (by decide)
      have hx_55 : (v_5 7).toInt = Γ_44 (39, 0, 0) 7 := hv_45 7 (by decide)
      have hx_56 : (v_5 8).toInt = Γ_44 (39, 0, 0) 8 := hv_45 8 (by decide)
      have hx_57 : (v_5 9).toInt = Γ_44 (39, 0, 0) 9 := hv_45 9 (by decide)
      have hx_58 : (v_5 10).toInt = Γ_44 (39, 0, 0) 10 := hv_45 10 (by decide)
      have hx_59 : (v_5 11).toInt = Γ_44 (39, 0, 0) 11 := hv_45 11 (by decide)
      have hx_60 : (v_5 12).toInt = Γ_44 (39, 0, 0) 12 := hv_45 12 (by decide)
      have hx_61 : (v_5 13).toInt = Γ_44 (39, 0, 0) 13 := hv_45 13 (by decide)
      have hx_62 : (v_5 14).toInt = Γ_44 (39, 0, 0) 14 := hv_45 14 (by decide)
      have hx_63 : (v_5 15).toInt = Γ_44 (39, 0, 0) 15 := hv_45 15 (by decide)
      refine lv_goto (tgt := 0) hx hb dX12_see_35 (by decide) ?_
      exact ih0 (f_46, Γ_44) H locs ls (by show (400 - Γ_44 (39, 0, 0) 1).toNat < (400 - Γ_2 (39, 0, 0) 1).toNat; omega) ⟨(show Γ_44 (39, 0, 0) 0 = Γ (39, 0, 0) 0 from (by omega)), (show Γ_44 (39, 0, 0) 3 = Γ (39, 0, 0) 3 from (by omega)), (show Γ_44 (39, 0, 0) 4 = Γ (39, 0, 0) 4 from (by omega)), (show Γ_44 (39, 0, 0) 5 = Γ (39, 0, 0) 5 from (by omega)), (show Γ_44 (39, 0, 0) 6 = Γ (39, 0, 0) 6 from (by omega)), (show Γ_44 (39, 0, 0) 7 = Γ (39, 0, 0) 7 from (by omega)), (show Γ_44 (39, 0, 0) 8 = Γ (39, 0, 0) 8 from (by omega)), (show Γ (39, 0, 0) 1 ≤ Γ_44 (39, 0, 0) 1 ∧ Γ_44 (39, 0, 0) 1 ≤ T0 from (by omega)), (show ¬ τ (Γ (39, 0, 0) 1).toNat = 32 → Γ_44 (39, 0, 0) 1 = Γ (39, 0, 0) 1 from (fun q9 => absurd (show τ (Γ (39, 0, 0) 1).toNat = 32 from by rw [← hns q9]; omega) q9)), hP, hI, hfr, hgr, hS, lv_sub hl [0] rfl⟩
set_option maxHeartbeats 4000000 in
set_option maxRecDepth 100000 in
theorem r_X12_isWord (l : Launch) (D : va_G) (cy : Nat → ClassId) (sz : Nat) (L : List Nat) (K : Nat → tk_K) (Γ : tk_G) (f : Nat → va_E) (o : Nat) (p0 : Int64) (τ : Nat → Int) (T0 : Int) (ho : tp_r L K 39 (0) 0 o) (ht : Γ (41, 400, 0) = τ) (hT : Γ (39, 0, 0) 0 = T0) (hb0 : 0 ≤ Γ (39, 0, 0) 1 ∧ Γ (39, 0, 0) 1 ≤ T0 ∧ T0 ≤ 400) : Met l yX12_isWord (tl_w yX12_isWord cX12_isWord 6 (some .boolean)) ({ frames := 1, cells := 0, slots := 0, locals := 21 }) (va_Pc [.ref o, .long p0] (tp_P D cy L K Γ f sz)) (va_Qi (fun (r : Int32) (u : (Nat → va_E) × tk_G) => tl_E r (tr_W τ T0 (u.2 (39, 0, 0) 1) p0) 1 0 ∧ u.2 (39, 0, 0) 0 = Γ (39, 0, 0) 0 ∧ u.2 (39, 0, 0) 3 = Γ (39, 0, 0) 3 ∧ u.2 (39, 0, 0) 4 = Γ (39, 0, 0) 4 ∧ u.2 (39, 0, 0) 5 = Γ (39, 0, 0) 5 ∧ u.2 (39, 0, 0) 6 = Γ (39, 0, 0) 6 ∧ u.2 (39, 0, 0) 7 = Γ (39, 0, 0) 7 ∧ u.2 (39, 0, 0) 8 = Γ (39, 0, 0) 8 ∧ Γ (39, 0, 0) 1 ≤ u.2 (39, 0, 0) 1 ∧ u.2 (39, 0, 0) 1 ≤ T0 ∧ (¬ τ (Γ (39, 0, 0) 1).toNat = 32 → u.2 (39, 0, 0) 1 = Γ (39, 0, 0) 1)) (tp_BG D cy L K Γ f [39]) (tp_A L sz)) 0 0 (tp_A L sz) := by
  refine Met.ofW (cc := cX12_isWord) (maxL := 6) (ret := (some .boolean)) (by decide) rfl ?_
  intro p e s m args below meth c s₁ B hml hv
  obtain ⟨rfl, hsz, hP, hK, hL, hI, hN, hU⟩ := hv
  have hx := B.exec
  have hb := B.bytes
  have hr := B.returns
  have hta := tl_hta (atoms_spec (ws := tl_w yX12_isWord cX12_isWord 6 (some .boolean)) B.pre)
  have hown : s.vm.findClass RX12 = some m.cls := findClass_of_methodNamed B.named
  have hlocks := B.notSynchronized
  subst hsz
  have hI0 := hI
  generalize hAe : tp_A L s.heap.size = A
  have hA : ∀ q : Nat, s.heap.size ≤ q → A q := fun q h => by rw [← hAe]; exact Or.inr h
  have hAL : ∀ q ∈ L, A q := fun q h => by rw [← hAe]; exact Or.inl h
  have hAf : ∀ (H : Heap), s.heap.size ≤ H.size → ∀ q, tp_A L H.size q → A q := fun H h q hq => hq.elim (hAL q) (fun h2 => hA q (Nat.le_trans h h2))
  have hS : va_S A s.heap s.heap [] := va_S.rf
  have hD : va_D A (va_pl L f) := tp_D hL hAL
  have hfr : ∀ b, (K b).1 ∉ ([39] : List Nat) → f b = f b := fun _ _ => rfl
  have hgr : ∀ κ : tk_K, κ.1 ∉ ([39] : List Nat) → Γ κ = Γ κ := fun _ _ => rfl
  have hl := lv_entry ([.ref o, .long p0]) (n := 6) (Nat.le_of_ble_eq_true rfl)
  rw [lg_entry_eq]
  generalize (lg_sl ([.ref o, .long p0]) ++ List.replicate (6 - (lg_sl ([.ref o, .long p0])).length) Slot.unset).toArray = ls at hl ⊢
  have hl : lv_has ls 6 [(0, .ref o), (1, .long p0)] := hl
  refine lv_aload_n hx hb dX12_isWord_0 rfl (lv_at hl 0 rfl) ?_
  obtain ⟨r_2, v_3, q_4, hf_1, hr_5, hv_6⟩ := (show tp_o_M L K 0 0 (Γ (39, 0, 0)) (f o) from hI.at ho)
  refine tq_ciR hS (hAf _ hS.1) (tq_rV (As := []) (rest := []) ⟨hx, hb, hml, hown, hta⟩ (tp_P.pre hK hN hL hU hI hP) (tp_recv hK hP ho.1 hf_1 rfl) lk_X12_167 (r_X12_see l D cy s.heap.size L K Γ f o τ T0 ho ht (by first | omega | (simp only [Int32.toInt_toInt64]; omega) | decide | assumption) (by first | omega | (simp only [Int32.toInt_toInt64]; omega) | decide | assumption)) rfl rfl ⟨Nat.le_of_ble_eq_true rfl, Nat.le_of_ble_eq_true rfl⟩ rfl hl.1 rfl (Nat.le_of_ble_eq_true rfl) dX12_isWord_1 ⟨Nat.le_of_ble_eq_true rfl, Nat.le_of_ble_eq_true rfl⟩) (fun r_24 f_25 Γ_27 H locs hw_23 hP hI hc_26 hcg_28 hS => ?_)
  have hD : va_D A (va_pl L f_25) := tp_D hL hAL
  have hfr := tp_fr2 hfr hc_26 (by decide)
  have hgr : ∀ κ : tk_K, κ.1 ∉ ([39] : List Nat) → Γ_27 κ = Γ κ := tg_fr2 hgr hcg_28 (by decide)
  have hw_23 : Γ_27 (39, 0, 0) 0 = Γ (39, 0, 0) 0 ∧ Γ_27 (39, 0, 0) 3 = Γ (39, 0, 0) 3 ∧ Γ_27 (39, 0, 0) 4 = Γ (39, 0, 0) 4 ∧ Γ_27 (39, 0, 0) 5 = Γ (39, 0, 0) 5 ∧ Γ_27 (39, 0, 0) 6 = Γ (39, 0, 0) 6 ∧ Γ_27 (39, 0, 0) 7 = Γ (39, 0, 0) 7 ∧ Γ_27 (39, 0, 0) 8 = Γ (39, 0, 0) 8 ∧ Γ (39, 0, 0) 1 ≤ Γ_27 (39, 0, 0) 1 ∧ Γ_27 (39, 0, 0) 1 ≤ T0 ∧ (¬ τ (Γ (39, 0, 0) 1).toNat = 32 → Γ_27 (39, 0, 0) 1 = Γ (39, 0, 0) 1) ∧ ((r_24.toInt = -1 ∧ Γ_27 (39, 0, 0) 1 = T0) ∨ (0 ≤ r_24.toInt ∧ r_24.toInt ≤ 255 ∧ Γ_27 (39, 0, 0) 1 < T0 ∧ ¬ τ (Γ_27 (39, 0, 0) 1).toNat = 32)) := hw_23
  have hnsi := hw_23.2.2.2.2.2.2.2.2.2.1
  refine lv_pop hx hb dX12_isWord_4 rfl ?_
  refine lv_lconst (v := 0) hx hb dX12_isWord_5 (by decide) ?_
  refine lv_lstore_n (lv' := [(3, .long 0), (0, .ref o), (1, .long p0)]) hx hb dX12_isWord_6 rfl hl (by decide) rfl (fun ls hl => ?_)
  refine lv_iconst (v := 0) hx hb dX12_isWord_7 (by decide) ?_
  refine lv_istore (lv' := [(5, .int 0), (3, .long 0), (0, .ref o), (1, .long p0)]) hx hb dX12_isWord_8 hl (by decide) rfl (fun ls hl => ?_)
  refine tl_ind (G := fun H locs ls => W p l e ((headSpec (tl_w yX12_isWord cX12_isWord 6 (some .boolean)) ({ frames := 1, cells := 0, slots := 0, locals := 21 })).room) s m #[.ref o, .long p0] below meth c H locs 0 0 (MQ below (va_Qi (fun (r : Int32) (u : (Nat → va_E) × tk_G) => tl_E r (tr_W τ T0 (u.2 (39, 0, 0) 1) p0) 1 0 ∧ u.2 (39, 0, 0) 0 = Γ (39, 0, 0) 0 ∧ u.2 (39, 0, 0) 3 = Γ (39, 0, 0) 3 ∧ u.2 (39, 0, 0) 4 = Γ (39, 0, 0) 4 ∧ u.2 (39, 0, 0) 5 = Γ (39, 0, 0) 5 ∧ u.2 (39, 0, 0) 6 = Γ (39, 0, 0) 6 ∧ u.2 (39, 0, 0) 7 = Γ (39, 0, 0) 7 ∧ u.2 (39, 0, 0) 8 = Γ (39, 0, 0) 8 ∧ Γ (39, 0, 0) 1 ≤ u.2 (39, 0, 0) 1 ∧ u.2 (39, 0, 0) 1 ≤ T0 ∧ (¬ τ (Γ (39, 0, 0) 1).toNat = 32 → u.2 (39, 0, 0) 1 = Γ (39, 0, 0) 1)) (tp_BG D cy L K Γ f [39]) A) #[.ref o, .long p0] s 0 0 A) (F0 m 10 ls [])) (α := (Nat → va_E) × Int32 × Int64) (fun aq => (401 - aq.2.1.toInt).toNat) (fun aq H locs ls => (0 ≤ aq.2.1.toInt ∧ Γ_27 (39, 0, 0) 1 + aq.2.1.toInt ≤ 400) ∧ (∀ j : Nat, (j : Int) < aq.2.1.toInt → tr_L τ T0 (Γ_27 (39, 0, 0) 1 + j)) ∧ (aq.2.2 = tr_v τ (Γ_27 (39, 0, 0) 1) aq.2.1.toInt.toNat) ∧ va_P D vwCl (va_pl L aq.1) H ∧ tp_I cy L K Γ_27 aq.1 ∧ (∀ b, (K b).1 ∉ ([39] : List Nat) → aq.1 b = f b) ∧ va_S A s.heap H locs ∧ lv_has ls 6 [(5, .int aq.2.1), (3, .long aq.2.2), (0, .ref o), (1, .long p0)]) ?_ (f_25, (0 : Int32), (0 : Int64)) H locs ls ⟨(show 0 ≤ (0 : Int) ∧ Γ_27 (39, 0, 0) 1 + (0 : Int) ≤ 400 from (by omega)), (show ∀ j : Nat, (j : Int) < (0 : Int) → tr_L τ T0 (Γ_27 (39, 0, 0) 1 + j) from (fun j hj => absurd hj (by omega))), (show 0 = tr_v τ (Γ_27 (39, 0, 0) 1) (0 : Int).toNat from rfl), hP, hI, hfr, hS, lv_sub hl [0, 1, 2, 3] rfl⟩
  rintro ⟨f_29, v5, v3⟩ H locs ls ⟨h5, hlt, hv, hP, hI, hfr, hS, hl⟩ ih10
  have hP : va_P D vwCl (va_pl L f_29) H := hP
  have hI : tp_I cy L K Γ_27 f_29 := hI
  have hfr : ∀ b, (K b).1 ∉ ([39] : List Nat) → f_29 b = f b := hfr
  have hD : va_D A (va_pl L f_29) := tp_D hL hAL
  have h5 : 0 ≤ v5.toInt ∧ Γ_27 (39, 0, 0) 1 + v5.toInt ≤ 400 := h5
  have hlt : ∀ j : Nat, (j : Int) < v5.toInt → tr_L τ T0 (Γ_27 (39, 0, 0) 1 + j) := hlt
  have hv : v3 = tr_v τ (Γ_27 (39, 0, 0) 1) v5.toInt.toNat := hv
  have hl : lv_has ls 6 [(5, .int v5), (3, .long v3), (0, .ref o), (1, .long p0)] := hl
  refine lv_aload_n hx hb dX12_isWord_10 rfl (lv_at hl 2 rfl) ?_
  refine lv_aload_n hx hb dX12_isWord_11 rfl (lv_at hl 2 rfl) ?_
  obtain ⟨r_31, v_32, q_33, hf_30, hr_34, hv_35⟩ := (show tp_o_M L K 0 0 (Γ_27 (39, 0, 0)) (f_29 o) from hI.at ho)
  have hx_37 : (v_32 1).toInt = Γ_27 (39, 0, 0) 1 := hv_35 1 (by decide)
  refine tp_get (cy := cy) (ci := 12) (v := .int (v_32 1)) (C := RX12) (T := TX12) (N := 49) hx hb hta inlX12 hown hK hP ho.1 hf_30 rfl 17 (by decide) (hta _ wk_539) (fun _ h9 => h9) rfl dX12_isWord_12 ?_
  refine lv_iload hx hb dX12_isWord_15 (lv_at hl 0 rfl) ?_
  refine lv_iadd hx hb dX12_isWord_17 ?_
  refine lv_topi (fun z_52 ez_52 => ?_)
  try have iz_52 : z_52.toInt = (v_32 1).toInt + v5.toInt := by rw [ez_52]; exact tl_addN (v_32 1) v5 rfl rfl (by omega) (by omega)
  refine tl_si (tq_rV (As := [.int z_52]) (rest := []) ⟨hx, hb, hml, hown, hta⟩ (tp_P.pre hK hN hL hU hI hP) (tp_recv hK hP ho.1 hf_30 rfl) lk_X12_171 (r_X12_isLetter l D cy H.size L K Γ_27 f_29 o z_52 τ T0 ho ((hgr _ (by decide)).trans ht) (by first | omega | (simp only [Int32.toInt_toInt64]; omega) | decide | assumption) (by first | omega | (simp only [Int32.toInt_toInt64]; omega) | decide | assumption)) rfl rfl ⟨Nat.le_of_ble_eq_true rfl, Nat.le_of_ble_eq_true rfl⟩ rfl hl.1 rfl (Nat.le_of_ble_eq_true rfl) dX12_isWord_18 ⟨Nat.le_of_ble_eq_true rfl, Nat.le_of_ble_eq_true rfl⟩) (fun r_54 hw_53 => ?_)
  have hw_53 : tl_E r_54 (z_52.toInt < T0 ∧ 97 ≤ τ (z_52.toInt).toNat ∧ τ (z_52.toInt).toNat ≤ 122) 1 0 := hw_53
  refine lv_if_eq (tgt := 56) hx hb dX12_isWord_21 (by decide) (fun c_55 => ?_) (fun c_55 => ?_)
  · have c_55 := hw_53.f c_55
    have hl9 : ∀ j : Nat, j < v5.toInt.toNat → tr_L τ T0 (Γ_27 (39, 0, 0) 1 + j) := fun j hj => hlt j (by omega)
    have hn9 : ¬ tr_L τ T0 (Γ_27 (39, 0, 0) 1 + ((v5.toInt.toNat : Nat) : Int)) := by rw [show Γ_27 (39, 0, 0) 1 + ((v5.toInt.toNat : Nat) : Int) = z_52.toInt from by omega]; exact (by assumption : ¬ (z_52.toInt < T0 ∧ 97 ≤ τ (z_52.toInt).toNat ∧ τ (z_52.toInt).toNat ≤ 122))
    refine lv_iload hx hb dX12_isWord_56 (lv_at hl 0 rfl) ?_
    refine lv_if_le (tgt := 78) hx hb dX12_isWord_58 (by decide) (fun c_56 => ?_) (fun c_56 => ?_)
    · have c_56 : v5.toInt ≤ (0 : Int) := tl_le c_56
      refine lv_iconst (v := 0) hx hb dX12_isWord_78 (by decide) ?_
      have hpo9 : tl_E (0 : Int32) (tr_W τ T0 (Γ_27 (39, 0, 0) 1) p0) 1 0 ∧ Γ_27 (39, 0, 0) 0 = Γ (39, 0, 0) 0 ∧ Γ_27 (39, 0, 0) 3 = Γ (39, 0, 0) 3 ∧ Γ_27 (39, 0, 0) 4 = Γ (39, 0, 0) 4 ∧ Γ_27 (39, 0, 0) 5 = Γ (39, 0, 0) 5 ∧ Γ_27 (39, 0, 0) 6 = Γ (39, 0, 0) 6 ∧ Γ_27 (39, 0, 0) 7 = Γ (39, 0, 0) 7 ∧ Γ_27 (39, 0, 0) 8 = Γ (39, 0, 0) 8 ∧ Γ (39, 0, 0) 1 ≤ Γ_27 (39, 0, 0) 1 ∧ Γ_27 (39, 0, 0) 1 ≤ T0 ∧ (¬ τ (Γ (39, 0, 0) 1).toNat = 32 → Γ_27 (39, 0, 0) 1 = Γ (39, 0, 0) 1) := ⟨(Or.inr ⟨(fun q9 => by have q8 := (tr_Wn hl9 hn9).mp q9; rw [← hv] at q8; first | omega | (have q7 := congrArg Int64.toInt q8.2.2; omega)), rfl⟩), ⟨(by omega), (by omega), (by omega), (by omega), (by omega), (by omega), (by omega), (by omega), (by omega), hnsi⟩⟩
      exact W.zret (ty := .boolean) (v := 0) hx hb hr rfl (fun t ht hW => ⟨⟨_, (f_29, Γ_27), rfl, hpo9, by rw [ht]; exact hP, hI, hfr, hgr⟩, hS.F ht⟩) hS.2.2 dX12_isWord_79
    · have c_56 : (0 : Int) < v5.toInt := tl_nle c_56
      refine lv_iload hx hb dX12_isWord_61 (lv_at hl 0 rfl) ?_
      refine lv_bipush (v := 8) hx hb dX12_isWord_63 (by decide) ?_
      refine lv_icmp_ge (tgt := 78) hx hb dX12_isWord_65 (by decide) (fun c_57 => ?_) (fun c_57 => ?_)
      · have c_57 : (8 : Int) ≤ v5.toInt := tl_le c_57
        refine lv_iconst (v := 0) hx hb dX12_isWord_78 (by decide) ?_
        have hpo9 : tl_E (0 : Int32) (tr_W τ T0 (Γ_27 (39, 0, 0) 1) p0) 1 0 ∧ Γ_27 (39, 0, 0) 0 = Γ (39, 0, 0) 0 ∧ Γ_27 (39, 0, 0) 3 = Γ (39, 0, 0) 3 ∧ Γ_27 (39, 0, 0) 4 = Γ (39, 0, 0) 4 ∧ Γ_27 (39, 0, 0) 5 = Γ (39, 0, 0) 5 ∧ Γ_27 (39, 0, 0) 6 = Γ (39, 0, 0) 6 ∧ Γ_27 (39, 0, 0) 7 = Γ (39, 0, 0) 7 ∧ Γ_27 (39, 0, 0) 8 = Γ (39, 0, 0) 8 ∧ Γ (39, 0, 0) 1 ≤ Γ_27 (39, 0, 0) 1 ∧ Γ_27 (39, 0, 0) 1 ≤ T0 ∧ (¬ τ (Γ (39, 0, 0) 1).toNat = 32 → Γ_27 (39, 0, 0) 1 = Γ (39, 0, 0) 1) := ⟨(Or.inr ⟨(fun q9 => by have q8 := (tr_Wn hl9 hn9).mp q9; rw [← hv] at q8; first | omega | (have q7 := congrArg Int64.toInt q8.2.2; omega)), rfl⟩), ⟨(by omega), (by omega), (by omega), (by omega), (by omega), (by omega), (by omega), (by omega), (by omega), hnsi⟩⟩
        exact W.zret (ty := .boolean) (v := 0) hx hb hr rfl (fun t ht hW => ⟨⟨_, (f_29, Γ_27), rfl, hpo9, by rw [ht]; exact hP, hI, hfr, hgr⟩, hS.F ht⟩) hS.2.2 dX12_isWord_79
      · have c_57 : v5.toInt < (8 : Int) := tl_nle c_57
        refine lv_lload_n hx hb dX12_isWord_68 rfl (lv_at hl 1 rfl) ?_
        refine lv_lload_n hx hb dX12_isWord_69 rfl (lv_at hl 3 rfl) ?_
        refine W.lcmp hx hb dX12_isWord_70 ?_
        refine lv_if_ne (tgt := 78) hx hb dX12_isWord_71 (by decide) (fun c_58 => ?_) (fun c_58 => ?_)
        · have c_58 : ¬ v3.toInt = p0.toInt := tl_cmp_ne c_58
          refine lv_iconst (v := 0) hx hb dX12_isWord_78 (by decide) ?_
          have hpo9 : tl_E (0 : Int32) (tr_W τ T0 (Γ_27 (39, 0, 0) 1) p0) 1 0 ∧ Γ_27 (39, 0, 0) 0 = Γ (39, 0, 0) 0 ∧ Γ_27 (39, 0, 0) 3 = Γ (39, 0, 0) 3 ∧ Γ_27 (39, 0, 0) 4 = Γ (39, 0, 0) 4 ∧ Γ_27 (39, 0, 0) 5 = Γ (39, 0, 0) 5 ∧ Γ_27 (39, 0, 0) 6 = Γ (39, 0, 0) 6 ∧ Γ_27 (39, 0, 0) 7 = Γ (39, 0, 0) 7 ∧ Γ_27 (39, 0, 0) 8 = Γ (39, 0, 0) 8 ∧ Γ (39, 0, 0) 1 ≤ Γ_27 (39, 0, 0) 1 ∧ Γ_27 (39, 0, 0) 1 ≤ T0 ∧ (¬ τ (Γ (39, 0, 0) 1).toNat = 32 → Γ_27 (39, 0, 0) 1 = Γ (39, 0, 0) 1) := ⟨(Or.inr ⟨(fun q9 => by have q8 := (tr_Wn hl9 hn9).mp q9; rw [← hv] at q8; first | omega | (have q7 := congrArg Int64.toInt q8.2.2; omega)), rfl⟩), ⟨(by omega), (by omega), (by omega), (by omega), (by omega), (by omega), (by omega), (by omega), (by omega), hnsi⟩⟩
          exact W.zret (ty := .boolean) (v := 0) hx hb hr rfl (fun t ht hW => ⟨⟨_, (f_29, Γ_27), rfl, hpo9, by rw [ht]; exact hP, hI, hfr, hgr⟩, hS.F ht⟩) hS.2.2 dX12_isWord_79
        · have c_58 : v3.toInt = p0.toInt := tl_cmp_nne c_58
          refine lv_iconst (v := 1) hx hb dX12_isWord_74 (by decide) ?_
          refine lv_goto (tgt := 79) hx hb dX12_isWord_75 (by decide) ?_
          have hpo9 : tl_E (1 : Int32) (tr_W τ T0 (Γ_27 (39, 0, 0) 1) p0) 1 0 ∧ Γ_27 (39, 0, 0) 0 = Γ (39, 0, 0) 0 ∧ Γ_27 (39, 0, 0) 3 = Γ (39, 0, 0) 3 ∧ Γ_27 (39, 0, 0) 4 = Γ (39, 0, 0) 4 ∧ Γ_27 (39, 0, 0) 5 = Γ (39, 0, 0) 5 ∧ Γ_27 (39, 0, 0) 6 = Γ (39, 0, 0) 6 ∧ Γ_27 (39, 0, 0) 7 = Γ (39, 0, 0) 7 ∧ Γ_27 (39, 0, 0) 8 = Γ (39, 0, 0) 8 ∧ Γ (39, 0, 0) 1 ≤ Γ_27 (39, 0, 0) 1 ∧ Γ_27 (39, 0, 0) 1 ≤ T0 ∧ (¬ τ (Γ (39, 0, 0) 1).toNat = 32 → Γ_27 (39, 0, 0) 1 = Γ (39, 0, 0) 1) := ⟨(Or.inl ⟨(tr_Wn hl9 hn9).mpr ⟨by omega, by omega, hv.symm.trans (Int64.toInt_inj.mp (by omega))⟩, rfl⟩), ⟨(by omega), (by omega), (by omega), (by omega), (by omega), (by omega), (by omega), (by omega), (by omega), hnsi⟩⟩
          exact W.zret (ty := .boolean) (v := 1) hx hb hr rfl (fun t ht hW => ⟨⟨_, (f_29, Γ_27), rfl, hpo9, by rw [ht]; exact hP, hI, hfr, hgr⟩, hS.F ht⟩) hS.2.2 dX12_isWord_79
  · have c_55 := hw_53.t c_55
    refine lv_iload hx hb dX12_isWord_24 (lv_at hl 0 rfl) ?_
    refine lv_bipush (v := 8) hx hb dX12_isWord_26 (by decide) ?_
    refine lv_icmp_ge (tgt := 50) hx hb dX12_isWord_28 (by decide) (fun c_59 => ?_) (fun c_59 => ?_)
    · have c_59 : (8 : Int) ≤ v5.toInt := tl_le c_59
      obtain ⟨z_60, ez_60⟩ : ∃ y : Int32, y = v5 + 1 := ⟨_, rfl⟩
      refine lv_iinc (v := z_60) (lv' := [(5, .int z_60), (3, .long v3), (0, .ref o), (1, .long p0)]) hx hb dX12_isWord_50 hl (k := 0) rfl (by rw [ez_60]; rfl) (by decide) rfl (fun ls hl => ?_)
      try have iz_60 : z_60.toInt = v5.toInt + 1 := by rw [ez_60]; exact tl_addL v5 1 (by decide) (by omega) (by omega)
      refine lv_goto (tgt := 10) hx hb dX12_isWord_53 (by decide) ?_
      exact ih10 (f_29, z_60, v3) H locs ls (by show (401 - z_60.toInt).toNat < (401 - v5.toInt).toNat; omega) ⟨(show 0 ≤ z_60.toInt ∧ Γ_27 (39, 0, 0) 1 + z_60.toInt ≤ 400 from (by omega)), (show ∀ j : Nat, (j : Int) < z_60.toInt → tr_L τ T0 (Γ_27 (39, 0, 0) 1 + j) from (fun j hj => by by_cases q9 : (j : Int) = v5.toInt; (rw [show Γ_27 (39, 0, 0) 1 + (j : Int) = z_52.toInt from by omega]; exact (by assumption : z_52.toInt < T0 ∧ 97 ≤ τ (z_52.toInt).toNat ∧ τ (z_52.toInt).toNat ≤ 122)); exact hlt j (by omega))), (show v3 = tr_v τ (Γ_27 (39, 0, 0) 1) z_60.toInt.toNat from (by rw [show z_60.toInt.toNat = v5.toInt.toNat + 1 from by omega]; rw [tr_v2 (by omega)]; exact hv)), hP, hI, hfr, hS, lv_sub hl [0, 1, 2, 3] rfl⟩
    · have c_59 : v5.toInt < (8 : Int) := tl_nle c_59
      refine lv_lload_n hx hb dX12_isWord_31 rfl (lv_at hl 1 rfl) ?_
      refine lv_bipush (v := 8) hx hb dX12_isWord_32 (by decide) ?_
      refine lv_lshl hx hb dX12_isWord_34 rfl ?_
      refine lv_topl (fun z_61 ez_61 => ?_)
      refine lv_aload_n hx hb dX12_isWord_35 rfl (lv_at hl 2 rfl) ?_
      refine tp_get (cy := cy) (ci := 12) (v := .ref (r_31 1)) (C := RX12) (T := TX12) (N := 49) hx hb hta inlX12 hown hK hP ho.1 hf_30 rfl 1 (by decide) (hta _ wk_151) (fun _ h9 => h9) rfl dX12_isWord_36 ?_
      refine lv_aload_n hx hb dX12_isWord_39 rfl (lv_at hl 2 rfl) ?_
      refine tp_get (cy := cy) (ci := 12) (v := .int (v_32 1)) (C := RX12) (T := TX12) (N := 49) hx hb hta inlX12 hown hK hP ho.1 hf_30 rfl 17 (by decide) (hta _ wk_539) (fun _ h9 => h9) rfl dX12_isWord_40 ?_
      refine lv_iload hx hb dX12_isWord_43 (lv_at hl 0 rfl) ?_
      refine lv_iadd hx hb dX12_isWord_45 ?_
      refine lv_topi (fun z_62 ez_62 => ?_)
      try have iz_62 : z_62.toInt = (v_32 1).toInt + v5.toInt := by rw [ez_62]; exact tl_addN (v_32 1) v5 rfl rfl (by omega) (by omega)
      obtain ⟨g_64, hf_63, hg_65⟩ := (show tp_g8 cy (400) (Γ (41, 400, 0)) (f (r_31 1)) from hI0.at (show tp_r L K 41 400 0 (r_31 1) from hr_34 1 (by decide)))
      have hn_66 : vp_in z_62 (400) := tl_in (by omega) (by omega)
      refine tp_bald (cy := cy) hx hb hK hP (show tp_r L K 41 400 0 (r_31 1) from hr_34 1 (by decide)).1 ((tp_un hfr (show tp_r L K 41 400 0 (r_31 1) from hr_34 1 (by decide)) (by decide)).trans hf_63) hn_66 dX12_isWord_46 ?_
      refine lv_topi (fun z_67 ez_67 => ?_)
      have iz_67 : z_67.toInt = τ z_62.toInt.toNat := by rw [ez_67, ← ht]; exact hg_65 _ (tp_pin hn_66)
      refine lv_i2l (v := z_67.toInt64) hx hb dX12_isWord_47 (by first | rfl | decide) ?_
      refine lv_lor hx hb dX12_isWord_48 ?_
      refine lv_topl (fun z_68 ez_68 => ?_)
      refine lv_lstore_n (lv' := [(3, .long z_68), (5, .int v5), (0, .ref o), (1, .long p0)]) hx hb dX12_isWord_49 rfl hl (by decide) rfl (fun ls hl => ?_)
      obtain ⟨z_69, ez_69⟩ : ∃ y : Int32, y = v5 + 1 := ⟨_, rfl⟩
      refine lv_iinc (v := z_69) (lv' := [(5, .int z_69), (3, .long z_68), (0, .ref o), (1, .long p0)]) hx hb dX12_isWord_50 hl (k := 1) rfl (by rw [ez_69]; rfl) (by decide) rfl (fun ls hl => ?_)
      try have iz_69 : z_69.toInt = v5.toInt + 1 := by rw [ez_69]; exact tl_addL v5 1 (by decide) (by omega) (by omega)
      refine lv_goto (tgt := 10) hx hb dX12_isWord_53 (by decide) ?_
      exact ih10 (f_29, z_69, z_68) H locs ls (by show (401 - z_69.toInt).toNat < (401 - v5.toInt).toNat; omega) ⟨(show 0 ≤ z_69.toInt ∧ Γ_27 (39, 0, 0) 1 + z_69.toInt ≤ 400 from (by omega)), (show ∀ j : Nat, (j : Int) < z_69.toInt → tr_L τ T0 (Γ_27 (39, 0, 0) 1 + j) from (fun j hj => by by_cases q9 : (j : Int) = v5.toInt; (rw [show Γ_27 (39, 0, 0) 1 + (j : Int) = z_52.toInt from by omega]; exact (by assumption : z_52.toInt < T0 ∧ 97 ≤ τ (z_52.toInt).toNat ∧ τ (z_52.toInt).toNat ≤ 122)); exact hlt j (by omega))), (show z_68 = tr_v τ (Γ_27 (39, 0, 0) 1) z_69.toInt.toNat from (by rw [show z_69.toInt.toNat = v5.toInt.toNat + 1 from by omega]; exact tr_step (by omega) hv ez_61 ez_68 iz_67 (by omega))), hP, hI, hfr, hS, lv_sub hl [0, 1, 2, 3] rfl⟩
set_option maxHeartbeats 4000000 in
set_option maxRecDepth 100000 in
theorem r_X12_passWord (l : Launch) (D : va_G) (cy : Nat → ClassId) (sz : Nat) (L : List Nat) (K : Nat → tk_K) (Γ : tk_G) (f : Nat → va_E) (o : Nat) (τ : Nat → Int) (T0 : Int) (ho : tp_r L K 39 (0) 0 o) (ht : Γ (41, 400, 0) = τ) (hT : Γ (39, 0, 0) 0 = T0) (hb0 : 0 ≤ Γ (39, 0, 0) 1 ∧ Γ (39, 0, 0) 1 ≤ T0 ∧ T0 ≤ 400) : Met l yX12_passWord (tl_w yX12_passWord cX12_passWord 1 none) ({ frames := 1, cells := 0, slots := 0, locals := 21 }) (va_Pc [.ref o] (tp_P D cy L K Γ f sz)) (va_Qv (fun (u : (Nat → va_E) × tk_G) => u.2 (39, 0, 0) 0 = Γ (39, 0, 0) 0 ∧ u.2 (39, 0, 0) 3 = Γ (39, 0, 0) 3 ∧ u.2 (39, 0, 0) 4 = Γ (39, 0, 0) 4 ∧ u.2 (39, 0, 0) 5 = Γ (39, 0, 0) 5 ∧ u.2 (39, 0, 0) 6 = Γ (39, 0, 0) 6 ∧ u.2 (39, 0, 0) 7 = Γ (39, 0, 0) 7 ∧ u.2 (39, 0, 0) 8 = Γ (39, 0, 0) 8 ∧ Γ (39, 0, 0) 1 ≤ u.2 (39, 0, 0) 1 ∧ u.2 (39, 0, 0) 1 ≤ T0 ∧ (tr_L τ T0 (Γ (39, 0, 0) 1) → Γ (39, 0, 0) 1 + 1 ≤ u.2 (39, 0, 0) 1)) (tp_BG D cy L K Γ f [39]) (tp_A L sz)) 0 0 (tp_A L sz) := by
  refine Met.ofW (cc := cX12_passWord) (maxL := 1) (ret := none) (by decide) rfl ?_
  intro p e s m args below meth c s₁ B hml hv
  obtain ⟨rfl, hsz, hP, hK, hL, hI, hN, hU⟩ := hv
  have hx := B.exec
  have hb := B.bytes
  have hr := B.returns
  have hta := tl_hta (atoms_spec (ws := tl_w yX12_passWord cX12_passWord 1 none) B.pre)
  have hown : s.vm.findClass RX12 = some m.cls := findClass_of_methodNamed B.named
  have hlocks := B.notSynchronized
  subst hsz
  have hI0 := hI
  generalize hAe : tp_A L s.heap.size = A
  have hA : ∀ q : Nat, s.heap.size ≤ q → A q := fun q h => by rw [← hAe]; exact Or.inr h
  have hAL : ∀ q ∈ L, A q := fun q h => by rw [← hAe]; exact Or.inl h
  have hAf : ∀ (H : Heap), s.heap.size ≤ H.size → ∀ q, tp_A L H.size q → A q := fun H h q hq => hq.elim (hAL q) (fun h2 => hA q (Nat.le_trans h h2))
  have hS : va_S A s.heap s.heap [] := va_S.rf
  have hD : va_D A (va_pl L f) := tp_D hL hAL
  have hfr : ∀ b, (K b).1 ∉ ([39] : List Nat) → f b = f b := fun _ _ => rfl
  have hgr : ∀ κ : tk_K, κ.1 ∉ ([39] : List Nat) → Γ κ = Γ κ := fun _ _ => rfl
  have hl := lv_entry ([.ref o]) (n := 1) (Nat.le_of_ble_eq_true rfl)
  rw [lg_entry_eq]
  generalize (lg_sl ([.ref o]) ++ List.replicate (1 - (lg_sl ([.ref o])).length) Slot.unset).toArray = ls at hl ⊢
  have hl : lv_has ls 1 [(0, .ref o)] := hl
  refine tq_start hP hS (fun H locs hP hS => ?_)
  refine tl_ind (G := fun H locs ls => W p l e ((headSpec (tl_w yX12_passWord cX12_passWord 1 none) ({ frames := 1, cells := 0, slots := 0, locals := 21 })).room) s m #[.ref o] below meth c H locs 0 0 (MQ below (va_Qv (fun (u : (Nat → va_E) × tk_G) => u.2 (39, 0, 0) 0 = Γ (39, 0, 0) 0 ∧ u.2 (39, 0, 0) 3 = Γ (39, 0, 0) 3 ∧ u.2 (39, 0, 0) 4 = Γ (39, 0, 0) 4 ∧ u.2 (39, 0, 0) 5 = Γ (39, 0, 0) 5 ∧ u.2 (39, 0, 0) 6 = Γ (39, 0, 0) 6 ∧ u.2 (39, 0, 0) 7 = Γ (39, 0, 0) 7 ∧ u.2 (39, 0, 0) 8 = Γ (39, 0, 0) 8 ∧ Γ (39, 0, 0) 1 ≤ u.2 (39, 0, 0) 1 ∧ u.2 (39, 0, 0) 1 ≤ T0 ∧ (tr_L τ T0 (Γ (39, 0, 0) 1) → Γ (39, 0, 0) 1 + 1 ≤ u.2 (39, 0, 0) 1)) (tp_BG D cy L K Γ f [39]) A) #[.ref o] s 0 0 A) (F0 m 0 ls [])) (α := (Nat → va_E) × tk_G) (fun aq => (400 - aq.2 (39, 0, 0) 1).toNat) (fun aq H locs ls => (aq.2 (39, 0, 0) 0 = Γ (39, 0, 0) 0) ∧ (aq.2 (39, 0, 0) 3 = Γ (39, 0, 0) 3) ∧ (aq.2 (39, 0, 0) 4 = Γ (39, 0, 0) 4) ∧ (aq.2 (39, 0, 0) 5 = Γ (39, 0, 0) 5) ∧ (aq.2 (39, 0, 0) 6 = Γ (39, 0, 0) 6) ∧ (aq.2 (39, 0, 0) 7 = Γ (39, 0, 0) 7) ∧ (aq.2 (39, 0, 0) 8 = Γ (39, 0, 0) 8) ∧ (Γ (39, 0, 0) 1 ≤ aq.2 (39, 0, 0) 1 ∧ aq.2 (39, 0, 0) 1 ≤ T0) ∧ (tr_L τ T0 (Γ (39, 0, 0) 1) → (Γ (39, 0, 0) 1 + 1 ≤ aq.2 (39, 0, 0) 1 ∨ aq.2 (39, 0, 0) 1 = Γ (39, 0, 0) 1)) ∧ va_P D vwCl (va_pl L aq.1) H ∧ tp_I cy L K aq.2 aq.1 ∧ (∀ b, (K b).1 ∉ ([39] : List Nat) → aq.1 b = f b) ∧ (∀ κ : tk_K, κ.1 ∉ ([39] : List Nat) → aq.2 κ = Γ κ) ∧ va_S A s.heap H locs ∧ lv_has ls 1 [(0, .ref o)]) ?_ (f, Γ) H locs ls ⟨(show Γ (39, 0, 0) 0 = Γ (39, 0, 0) 0 from (by omega)), (show Γ (39, 0, 0) 3 = Γ (39, 0, 0) 3 from (by omega)), (show Γ (39, 0, 0) 4 = Γ (39, 0, 0) 4 from (by omega)), (show Γ (39, 0, 0) 5 = Γ (39, 0, 0) 5 from (by omega)), (show Γ (39, 0, 0) 6 = Γ (39, 0, 0) 6 from (by omega)), (show Γ (39, 0, 0) 7 = Γ (39, 0, 0) 7 from (by omega)), (show Γ (39, 0, 0) 8 = Γ (39, 0, 0) 8 from (by omega)), (show Γ (39, 0, 0) 1 ≤ Γ (39, 0, 0) 1 ∧ Γ (39, 0, 0) 1 ≤ T0 from (by omega)), (show tr_L τ T0 (Γ (39, 0, 0) 1) → (Γ (39, 0, 0) 1 + 1 ≤ Γ (39, 0, 0) 1 ∨ Γ (39, 0, 0) 1 = Γ (39, 0, 0) 1) from (fun _ => Or.inr rfl)), hP, hI, hfr, hgr, hS, lv_sub hl [0] rfl⟩
  rintro ⟨f_1, Γ_2⟩ H locs ls ⟨q0, q3, q4, q5, q6, q7, q8, h1, hf, hP, hI, hfr, hgr, hS, hl⟩ ih0
  have hgr : ∀ κ : tk_K, κ.1 ∉ ([39] : List Nat) → Γ_2 κ = Γ κ := hgr
  have hP : va_P D vwCl (va_pl L f_1) H := hP
  have hI : tp_I cy L K Γ_2 f_1 := hI
  have hfr : ∀ b, (K b).1 ∉ ([39] : List Nat) → f_1 b = f b := hfr
  have hD : va_D A (va_pl L f_1) := tp_D hL hAL
  have q0 : Γ_2 (39, 0, 0) 0 = Γ (39, 0, 0) 0 := q0
  have q3 : Γ_2 (39, 0, 0) 3 = Γ (39, 0, 0) 3 := q3
  have q4 : Γ_2 (39, 0, 0) 4 = Γ (39, 0, 0) 4 := q4
  have q5 : Γ_2 (39, 0, 0) 5 = Γ (39, 0, 0) 5 := q5
  have q6 : Γ_2 (39, 0, 0) 6 = Γ (39, 0, 0) 6 := q6
  have q7 : Γ_2 (39, 0, 0) 7 = Γ (39, 0, 0) 7 := q7
  have q8 : Γ_2 (39, 0, 0) 8 = Γ (39, 0, 0) 8 := q8
  have h1 : Γ (39, 0, 0) 1 ≤ Γ_2 (39, 0, 0) 1 ∧ Γ_2 (39, 0, 0) 1 ≤ T0 := h1
  have hf : tr_L τ T0 (Γ (39, 0, 0) 1) → (Γ (39, 0, 0) 1 + 1 ≤ Γ_2 (39, 0, 0) 1 ∨ Γ_2 (39, 0, 0) 1 = Γ (39, 0, 0) 1) := hf
  have hl : lv_has ls 1 [(0, .ref o)] := hl
  refine lv_aload_n hx hb dX12_passWord_0 rfl (lv_at hl 0 rfl) ?_
  refine lv_aload_n hx hb dX12_passWord_1 rfl (lv_at hl 0 rfl) ?_
  obtain ⟨r_4, v_5, q_6, hf_3, hr_7, hv_8⟩ := (show tp_o_M L K 0 0 (Γ_2 (39, 0, 0)) (f_1 o) from hI.at ho)
  have hx_9 : (v_5 0).toInt = Γ_2 (39, 0, 0) 0 := hv_8 0 (by decide)
  have hx_10 : (v_5 1).toInt = Γ_2 (39, 0, 0) 1 := hv_8 1 (by decide)
  have hx_11 : (v_5 2).toInt = Γ_2 (39, 0, 0) 2 := hv_8 2 (by decide)
  have hx_12 : (v_5 3).toInt = Γ_2 (39, 0, 0) 3 := hv_8 3 (by decide)
  have hx_13 : (v_5 4).toInt = Γ_2 (39, 0, 0) 4 := hv_8 4 (by decide)
  have hx_14 : (v_5 5).toInt = Γ_2 (39, 0, 0) 5 := hv_8 5 (by decide)
  have hx_15 : (v_5 6).toInt = Γ_2 (39, 0, 0) 6 := hv_8 6 (by decide)
  have hx_16 : (v_5 7).toInt = Γ_2 (39, 0, 0) 7 := hv_8 7 (by decide)
  have hx_17 : (v_5 8).toInt = Γ_2 (39, 0, 0) 8 := hv_8 8 (by decide)
  have hx_18 : (v_5 9).toInt = Γ_2 (39, 0, 0) 9 := hv_8 9 (by decide)
  have hx_19 : (v_5 10).toInt = Γ_2 (39, 0, 0) 10 := hv_8 10 (by decide)
  have hx_20 : (v_5 11).toInt = Γ_2 (39, 0, 0) 11 := hv_8 11 (by decide)
  have hx_21 : (v_5 12).toInt = Γ_2 (39, 0, 0) 12 := hv_8 12 (by decide)
  have hx_22 : (v_5 13).toInt = Γ_2 (39, 0, 0) 13 := hv_8 13 (by decide)
  have hx_23 : (v_5 14).toInt = Γ_2 (39, 0, 0) 14 := hv_8 14 (by decide)
  have hx_24 : (v_5 15).toInt = Γ_2 (39, 0, 0) 15 := hv_8 15 (by decide)
  refine tp_get (cy := cy) (ci := 12) (v := .int (v_5 1)) (C := RX12) (T := TX12) (N := 49) hx hb hta inlX12 hown hK hP ho.1 hf_3 rfl 17 (by decide) (hta _ wk_539) (fun _ h9 => h9) rfl dX12_passWord_2 ?_
  refine tl_si (tq_rV (As := [.int (v_5 1)]) (rest := []) ⟨hx, hb, hml, hown, hta⟩ (tp_P.pre hK hN hL hU hI hP) (tp_recv hK hP ho.1 hf_3 rfl) lk_X12_171 (r_X12_isLetter l D cy H.size L K Γ_2 f_1 o (v_5 1) τ T0 ho ((hgr _ (by decide)).trans ht) (by first | omega | (simp only [Int32.toInt_toInt64]; omega) | decide | assumption) (by first | omega | (simp only [Int32.toInt_toInt64]; omega) | decide | assumption)) rfl rfl ⟨Nat.le_of_ble_eq_true rfl, Nat.le_of_ble_eq_true rfl⟩ rfl hl.1 rfl (Nat.le_of_ble_eq_true rfl) dX12_passWord_5 ⟨Nat.le_of_ble_eq_true rfl, Nat.le_of_ble_eq_true rfl⟩) (fun r_26 hw_25 => ?_)
  have hw_25 : tl_E r_26 ((v_5 1).toInt < T0 ∧ 97 ≤ τ ((v_5 1).toInt).toNat ∧ τ ((v_5 1).toInt).toNat ≤ 122) 1 0 := hw_25
  refine lv_if_eq (tgt := 24) hx hb dX12_passWord_8 (by decide) (fun c_27 => ?_) (fun c_27 => ?_)
  · have c_27 := hw_25.f c_27
    have hpo9 : Γ_2 (39, 0, 0) 0 = Γ (39, 0, 0) 0 ∧ Γ_2 (39, 0, 0) 3 = Γ (39, 0, 0) 3 ∧ Γ_2 (39, 0, 0) 4 = Γ (39, 0, 0) 4 ∧ Γ_2 (39, 0, 0) 5 = Γ (39, 0, 0) 5 ∧ Γ_2 (39, 0, 0) 6 = Γ (39, 0, 0) 6 ∧ Γ_2 (39, 0, 0) 7 = Γ (39, 0, 0) 7 ∧ Γ_2 (39, 0, 0) 8 = Γ (39, 0, 0) 8 ∧ Γ (39, 0, 0) 1 ≤ Γ_2 (39, 0, 0) 1 ∧ Γ_2 (39, 0, 0) 1 ≤ T0 ∧ (tr_L τ T0 (Γ (39, 0, 0) 1) → Γ (39, 0, 0) 1 + 1 ≤ Γ_2 (39, 0, 0) 1) := ⟨(by omega), (by omega), (by omega), (by omega), (by omega), (by omega), (by omega), (by omega), (by omega), (fun q9 => (hf q9).elim (fun q8 => q8) (fun q8 => absurd (show (v_5 1).toInt < T0 ∧ 97 ≤ τ ((v_5 1).toInt).toNat ∧ τ ((v_5 1).toInt).toNat ≤ 122 from by rw [show (v_5 1).toInt = Γ (39, 0, 0) 1 from by omega]; exact q9) (by assumption)))⟩
    exact W.vret hx hb hr (fun t ht hW => ⟨⟨(f_1, Γ_2), rfl, hpo9, by rw [ht]; exact hP, hI, hfr, hgr⟩, hS.F ht⟩) hS.2.2 dX12_passWord_24
  · have c_27 := hw_25.t c_27
    refine lv_aload_n hx hb dX12_passWord_11 rfl (lv_at hl 0 rfl) ?_
    refine lv_dup hx hb dX12_passWord_12 rfl ?_
    refine tp_get (cy := cy) (ci := 12) (v := .int (v_5 1)) (C := RX12) (T := TX12) (N := 49) hx hb hta inlX12 hown hK hP ho.1 hf_3 rfl 17 (by decide) (hta _ wk_539) (fun _ h9 => h9) rfl dX12_passWord_13 ?_
    refine lv_iconst (v := 1) hx hb dX12_passWord_16 (by decide) ?_
    refine lv_iadd hx hb dX12_passWord_17 ?_
    refine lv_topi (fun z_28 ez_28 => ?_)
    try have iz_28 : z_28.toInt = (v_5 1).toInt + (1 : Int) := by rw [ez_28]; exact tl_addN (v_5 1) 1 rfl rfl (by omega) (by omega)
    obtain ⟨Γ_29, eΓ_29⟩ : ∃ y : tk_G, y = tg Γ_2 (39, 0, 0) 1 z_28.toInt := ⟨_, rfl⟩
    have hv_30 : ∀ i : Nat, i < 16 → ((upd v_5 1 z_28) i).toInt = Γ_29 (39, 0, 0) i := by rw [eΓ_29, tg_f]; exact tp_gi_upd hv_8
    have hI9 : tp_I cy L K Γ_29 (va_up f_1 o (.inr (12, [.ref (r_4 0), .ref (r_4 1), .int (v_5 0), .ref (r_4 2), .ref (r_4 3), .ref (r_4 4), .ref (r_4 5), .ref (r_4 6), .ref (r_4 7), .ref (r_4 8), .ref (r_4 9), .ref (r_4 10), .ref (r_4 11), .ref (r_4 12), .ref (r_4 13), .ref (r_4 14), .ref (r_4 15), .int z_28, .int (v_5 2), .int (v_5 3), .int (v_5 4), .int (v_5 5), .int (v_5 6), .int (v_5 7), .ref (r_4 16), .int (v_5 8), .ref (r_4 17), .int (v_5 9), .ref (r_4 18), .long q_6, .ref (r_4 19), .ref (r_4 20), .int (v_5 10), .int (v_5 11), .int (v_5 12), .ref (r_4 21), .ref (r_4 22), .int (v_5 13), .ref (r_4 23), .int (v_5 14), .int (v_5 15), .ref (r_4 24), .ref (r_4 25), .ref (r_4 26), .ref (r_4 27), .ref (r_4 28), .ref (r_4 29), .ref (r_4 30), .ref (r_4 31)]))) := by have q9 := hv_30; rw [eΓ_29, tg_f] at q9; rw [eΓ_29]; exact hI.setg hU rfl ho (show tp_o_M L K 0 0 (tgu (Γ_2 (39, 0, 0)) 1 z_28.toInt) _ from ⟨r_4, (upd v_5 1 z_28), q_6, rfl, hr_7, q9⟩)
    have hfr9 : ∀ b, (K b).1 ∉ ([39] : List Nat) → va_up f_1 o (.inr (12, [.ref (r_4 0), .ref (r_4 1), .int (v_5 0), .ref (r_4 2), .ref (r_4 3), .ref (r_4 4), .ref (r_4 5), .ref (r_4 6), .ref (r_4 7), .ref (r_4 8), .ref (r_4 9), .ref (r_4 10), .ref (r_4 11), .ref (r_4 12), .ref (r_4 13), .ref (r_4 14), .ref (r_4 15), .int z_28, .int (v_5 2), .int (v_5 3), .int (v_5 4), .int (v_5 5), .int (v_5 6), .int (v_5 7), .ref (r_4 16), .int (v_5 8), .ref (r_4 17), .int (v_5 9), .ref (r_4 18), .long q_6, .ref (r_4 19), .ref (r_4 20), .int (v_5 10), .int (v_5 11), .int (v_5 12), .ref (r_4 21), .ref (r_4 22), .int (v_5 13), .ref (r_4 23), .int (v_5 14), .int (v_5 15), .ref (r_4 24), .ref (r_4 25), .ref (r_4 26), .ref (r_4 27), .ref (r_4 28), .ref (r_4 29), .ref (r_4 30), .ref (r_4 31)])) b = f b := tp_fr hfr ho (by decide)
    refine tp_put (cy := cy) (ci := 12) (v := .int z_28) (ty := tyX12 17) (C := RX12) (T := TX12) (N := 49) hx hb hta inlX12 tyX12 tyX12_ok nmX12 hown hK hP hD hS ho.1 hf_3 rfl 17 (by decide) (hta _ wk_539) (fun _ h9 => h9) rfl (tyX12_ok 17 (by decide)) rfl rfl (Nat.le_of_ble_eq_true rfl) dX12_passWord_18 (fun H locs hP hD hS => ?_)
    have hP : va_P D vwCl (va_pl L (va_up f_1 o (.inr (12, [.ref (r_4 0), .ref (r_4 1), .int (v_5 0), .ref (r_4 2), .ref (r_4 3), .ref (r_4 4), .ref (r_4 5), .ref (r_4 6), .ref (r_4 7), .ref (r_4 8), .ref (r_4 9), .ref (r_4 10), .ref (r_4 11), .ref (r_4 12), .ref (r_4 13), .ref (r_4 14), .ref (r_4 15), .int z_28, .int (v_5 2), .int (v_5 3), .int (v_5 4), .int (v_5 5), .int (v_5 6), .int (v_5 7), .ref (r_4 16), .int (v_5 8), .ref (r_4 17), .int (v_5 9), .ref (r_4 18), .long q_6, .ref (r_4 19), .ref (r_4 20), .int (v_5 10), .int (v_5 11), .int (v_5 12), .ref (r_4 21), .ref (r_4 22), .int (v_5 13), .ref (r_4 23), .int (v_5 14), .int (v_5 15), .ref (r_4 24), .ref (r_4 25), .ref (r_4 26), .ref (r_4 27), .ref (r_4 28), .ref (r_4 29), .ref (r_4 30), .ref (r_4 31)])))) H := hP
    generalize hfe : va_up f_1 o (.inr (12, [.ref (r_4 0), .ref (r_4 1), .int (v_5 0), .ref (r_4 2), .ref (r_4 3), .ref (r_4 4), .ref (r_4 5), .ref (r_4 6), .ref (r_4 7), .ref (r_4 8), .ref (r_4 9), .ref (r_4 10), .ref (r_4 11), .ref (r_4 12), .ref (r_4 13), .ref (r_4 14), .ref (r_4 15), .int z_28, .int (v_5 2), .int (v_5 3), .int (v_5 4), .int (v_5 5), .int (v_5 6), .int (v_5 7), .ref (r_4 16), .int (v_5 8), .ref (r_4 17), .int (v_5 9), .ref (r_4 18), .long q_6, .ref (r_4 19), .ref (r_4 20), .int (v_5 10), .int (v_5 11), .int (v_5 12), .ref (r_4 21), .ref (r_4 22), .int (v_5 13), .ref (r_4 23), .int (v_5 14), .int (v_5 15), .ref (r_4 24), .ref (r_4 25), .ref (r_4 26), .ref (r_4 27), .ref (r_4 28), .ref (r_4 29), .ref (r_4 30), .ref (r_4 31)])) = f_31 at hP hI9 hfr9
    have hD : va_D A (va_pl L f_31) := tp_D hL hAL
    have hf_32 : f_31 o = .inr (12, [.ref (r_4 0), .ref (r_4 1), .int (v_5 0), .ref (r_4 2), .ref (r_4 3), .ref (r_4 4), .ref (r_4 5), .ref (r_4 6), .ref (r_4 7), .ref (r_4 8), .ref (r_4 9), .ref (r_4 10), .ref (r_4 11), .ref (r_4 12), .ref (r_4 13), .ref (r_4 14), .ref (r_4 15), .int z_28, .int (v_5 2), .int (v_5 3), .int (v_5 4), .int (v_5 5), .int (v_5 6), .int (v_5 7), .ref (r_4 16), .int (v_5 8), .ref (r_4 17), .int (v_5 9), .ref (r_4 18), .long q_6, .ref (r_4 19), .ref (r_4 20), .int (v_5 10), .int (v_5 11), .int (v_5 12), .ref (r_4 21), .ref (r_4 22), .int (v_5 13), .ref (r_4 23), .int (v_5 14), .int (v_5 15), .ref (r_4 24), .ref (r_4 25), .ref (r_4 26), .ref (r_4 27), .ref (r_4 28), .ref (r_4 29), .ref (r_4 30), .ref (r_4 31)]) := by rw [← hfe]; exact va_up_self _ _ _
    clear hfe
    have hI := hI9
    have hfr := hfr9
    clear hI9 hfr9
    have hgr : ∀ κ : tk_K, κ.1 ∉ ([39] : List Nat) → Γ_29 κ = Γ κ := tg_fr hgr eΓ_29 (by decide)
    have hx_33 : (v_5 0).toInt = Γ_29 (39, 0, 0) 0 := hv_30 0 (by decide)
    have hx_34 : z_28.toInt = Γ_29 (39, 0, 0) 1 := hv_30 1 (by decide)
    have hx_35 : (v_5 2).toInt = Γ_29 (39, 0, 0) 2 := hv_30 2 (by decide)
    have hx_36 : (v_5 3).toInt = Γ_29 (39, 0, 0) 3 := hv_30 3 (by decide)
    have hx_37 : (v_5 4).toInt = Γ_29 (39, 0, 0) 4 := hv_30 4 (by decide)
    have hx_38 : (v_5 5).toInt = Γ_29 (39, 0, 0) 5 := hv_30 5 (by decide)
    have hx_39 : (v_5 6).toInt = Γ_29 (39, 0, 0) 6 := hv_30 6 (by decide)
    have hx_40 : (v_5 7).toInt = Γ_29 (39, 0, 0) 7 := hv_30 7 (by decide)
    have hx_41 : (v_5 8).toInt = Γ_29 (39, 0, 0) 8 := hv_30 8 (by decide)
    have hx_42 : (v_5 9).toInt = Γ_29 (39, 0, 0) 9 := hv_30 9 (by decide)
    have hx_43 : (v_5 10).toInt = Γ_29 (39, 0, 0) 10 := hv_30 10 (by decide)
    have hx_44 : (v_5 11).toInt = Γ_29 (39, 0, 0) 11 := hv_30 11 (by decide)
    have hx_45 : (v_5 12).toInt = Γ_29 (39, 0, 0) 12 := hv_30 12 (by decide)
    have hx_46 : (v_5 13).toInt = Γ_29 (39, 0, 0) 13 := hv_30 13 (by decide)
    have hx_47 : (v_5 14).toInt = Γ_29 (39, 0, 0) 14 := hv_30 14 (by decide)
    have hx_48 : (v_5 15).toInt = Γ_29 (39, 0, 0) 15 := hv_30 15 (by decide)
    refine lv_goto (tgt := 0) hx hb dX12_passWord_21 (by decide) ?_
    exact ih0 (f_31, Γ_29) H locs ls (by show (400 - Γ_29 (39, 0, 0) 1).toNat < (400 - Γ_2 (39, 0, 0) 1).toNat; omega) ⟨(show Γ_29 (39, 0, 0) 0 = Γ (39, 0, 0) 0 from (by omega)), (show Γ_29 (39, 0, 0) 3 = Γ (39, 0, 0) 3 from (by omega)), (show Γ_29 (39, 0, 0) 4 = Γ (39, 0, 0) 4 from (by omega)), (show Γ_29 (39, 0, 0) 5 = Γ (39, 0, 0) 5 from (by omega)), (show Γ_29 (39, 0, 0) 6 = Γ (39, 0, 0) 6 from (by omega)), (show Γ_29 (39, 0, 0) 7 = Γ (39, 0, 0) 7 from (by omega)), (show Γ_29 (39, 0, 0) 8 = Γ (39, 0, 0) 8 from (by omega)), (show Γ (39, 0, 0) 1 ≤ Γ_29 (39, 0, 0) 1 ∧ Γ_29 (39, 0, 0) 1 ≤ T0 from (by omega)), (show tr_L τ T0 (Γ (39, 0, 0) 1) → (Γ (39, 0, 0) 1 + 1 ≤ Γ_29 (39, 0, 0) 1 ∨ Γ_29 (39, 0, 0) 1 = Γ (39, 0, 0) 1) from (fun _ => Or.inl (by omega))), hP, hI, hfr, hgr, hS, lv_sub hl [0] rfl⟩
set_option maxHeartbeats 4000000 in
set_option maxRecDepth 100000 in
theorem r_X12_takesWord (l : Launch) (D : va_G) (cy : Nat → ClassId) (sz : Nat) (L : List Nat) (K : Nat → tk_K) (Γ : tk_G) (f : Nat → va_E) (o : Nat) (p0 : Int64) (τ : Nat → Int) (T0 : Int) (ho : tp_r L K 39 (0) 0 o) (ht : Γ (41, 400, 0) = τ) (hT : Γ (39, 0, 0) 0 = T0) (hb0 : 0 ≤ Γ (39, 0, 0) 1 ∧ Γ (39, 0, 0) 1 ≤ T0 ∧ T0 ≤ 400) : Met l yX12_takesWord (tl_w yX12_takesWord cX12_takesWord 3 (some .boolean)) ({ frames := 2, cells := 0, slots := 0, locals := 46 }) (va_Pc [.ref o, .long p0] (tp_P D cy L K Γ f sz)) (va_Qi (fun (r : Int32) (u : (Nat → va_E) × tk_G) => tl_J r (Γ (39, 0, 0) 1 + 1 ≤ u.2 (39, 0, 0) 1) ∧ u.2 (39, 0, 0) 0 = Γ (39, 0, 0) 0 ∧ u.2 (39, 0, 0) 3 = Γ (39, 0, 0) 3 ∧ u.2 (39, 0, 0) 4 = Γ (39, 0, 0) 4 ∧ u.2 (39, 0, 0) 5 = Γ (39, 0, 0) 5 ∧ u.2 (39, 0, 0) 6 = Γ (39, 0, 0) 6 ∧ u.2 (39, 0, 0) 7 = Γ (39, 0, 0) 7 ∧ u.2 (39, 0, 0) 8 = Γ (39, 0, 0) 8 ∧ Γ (39, 0, 0) 1 ≤ u.2 (39, 0, 0) 1 ∧ u.2 (39, 0, 0) 1 ≤ T0) (tp_BG D cy L K Γ f [39]) (tp_A L sz)) 0 0 (tp_A L sz) := by
  refine Met.ofW (cc := cX12_takesWord) (maxL := 3) (ret := (some .boolean)) (by decide) rfl ?_
  intro p e s m args below meth c s₁ B hml hv
  obtain ⟨rfl, hsz, hP, hK, hL, hI, hN, hU⟩ := hv
  have hx := B.exec
  have hb := B.bytes
  have hr := B.returns
  have hta := tl_hta (atoms_spec (ws := tl_w yX12_takesWord cX12_takesWord 3 (some .boolean)) B.pre)
  have hown : s.vm.findClass RX12 = some m.cls := findClass_of_methodNamed B.named
  have hlocks := B.notSynchronized
  subst hsz
  have hI0 := hI
  generalize hAe : tp_A L s.heap.size = A
  have hA : ∀ q : Nat, s.heap.size ≤ q → A q := fun q h => by rw [← hAe]; exact Or.inr h
  have hAL : ∀ q ∈ L, A q := fun q h => by rw [← hAe]; exact Or.inl h
  have hAf : ∀ (H : Heap), s.heap.size ≤ H.size → ∀ q, tp_A L H.size q → A q := fun H h q hq => hq.elim (hAL q) (fun h2 => hA q (Nat.le_trans h h2))
  have hS : va_S A s.heap s.heap [] := va_S.rf
  have hD : va_D A (va_pl L f) := tp_D hL hAL
  have hfr : ∀ b, (K b).1 ∉ ([39] : List Nat) → f b = f b := fun _ _ => rfl
  have hgr : ∀ κ : tk_K, κ.1 ∉ ([39] : List Nat) → Γ κ = Γ κ := fun _ _ => rfl
  have hl := lv_entry ([.ref o, .long p0]) (n := 3) (Nat.le_of_ble_eq_true rfl)
  rw [lg_entry_eq]
  generalize (lg_sl ([.ref o, .long p0]) ++ List.replicate (3 - (lg_sl ([.ref o, .long p0])).length) Slot.unset).toArray = ls at hl ⊢
  have hl : lv_has ls 3 [(0, .ref o), (1, .long p0)] := hl
  refine lv_aload_n hx hb dX12_takesWord_0 rfl (lv_at hl 0 rfl) ?_
  refine lv_lload_n hx hb dX12_takesWord_1 rfl (lv_at hl 1 rfl) ?_
  obtain ⟨r_2, v_3, q_4, hf_1, hr_5, hv_6⟩ := (show tp_o_M L K 0 0 (Γ (39, 0, 0)) (f o) from hI.at ho)
  refine tq_ciR hS (hAf _ hS.1) (tq_rV (As := [.long p0]) (rest := []) ⟨hx, hb, hml, hown, hta⟩ (tp_P.pre hK hN hL hU hI hP) (tp_recv hK hP ho.1 hf_1 rfl) lk_X12_174 (r_X12_isWord l D cy s.heap.size L K Γ f o p0 τ T0 ho ht (by first | omega | (simp only [Int32.toInt_toInt64]; omega) | decide | assumption) (by first | omega | (simp only [Int32.toInt_toInt64]; omega) | decide | assumption)) rfl rfl ⟨Nat.le_of_ble_eq_true rfl, Nat.le_of_ble_eq_true rfl⟩ rfl hl.1 rfl (Nat.le_of_ble_eq_true rfl) dX12_takesWord_2 ⟨Nat.le_of_ble_eq_true rfl, Nat.le_of_ble_eq_true rfl⟩) (fun r_24 f_25 Γ_27 H locs hw_23 hP hI hc_26 hcg_28 hS => ?_)
  have hD : va_D A (va_pl L f_25) := tp_D hL hAL
  have hfr := tp_fr2 hfr hc_26 (by decide)
  have hgr : ∀ κ : tk_K, κ.1 ∉ ([39] : List Nat) → Γ_27 κ = Γ κ := tg_fr2 hgr hcg_28 (by decide)
  obtain ⟨hE_29, hw_23⟩ := hw_23
  have hE_29 : tl_E r_24 (tr_W τ T0 (Γ_27 (39, 0, 0) 1) p0) 1 0 := hE_29
  have hw_23 : Γ_27 (39, 0, 0) 0 = Γ (39, 0, 0) 0 ∧ Γ_27 (39, 0, 0) 3 = Γ (39, 0, 0) 3 ∧ Γ_27 (39, 0, 0) 4 = Γ (39, 0, 0) 4 ∧ Γ_27 (39, 0, 0) 5 = Γ (39, 0, 0) 5 ∧ Γ_27 (39, 0, 0) 6 = Γ (39, 0, 0) 6 ∧ Γ_27 (39, 0, 0) 7 = Γ (39, 0, 0) 7 ∧ Γ_27 (39, 0, 0) 8 = Γ (39, 0, 0) 8 ∧ Γ (39, 0, 0) 1 ≤ Γ_27 (39, 0, 0) 1 ∧ Γ_27 (39, 0, 0) 1 ≤ T0 ∧ (¬ τ (Γ (39, 0, 0) 1).toNat = 32 → Γ_27 (39, 0, 0) 1 = Γ (39, 0, 0) 1) := hw_23
  refine lv_if_ne (tgt := 10) hx hb dX12_takesWord_5 (by decide) (fun c_30 => ?_) (fun c_30 => ?_)
  · have c_30 := hE_29.t c_30
    refine lv_aload_n hx hb dX12_takesWord_10 rfl (lv_at hl 0 rfl) ?_
    obtain ⟨r_32, v_33, q_34, hf_31, hr_35, hv_36⟩ := (show tp_o_M L K 0 0 (Γ_27 (39, 0, 0)) (f_25 o) from hI.at ho)
    refine tq_cvR hS (hAf _ hS.1) (tq_rV (As := []) (rest := []) ⟨hx, hb, hml, hown, hta⟩ (tp_P.pre hK hN hL hU hI hP) (tp_recv hK hP ho.1 hf_31 rfl) lk_X12_178 (r_X12_passWord l D cy H.size L K Γ_27 f_25 o τ T0 ho ((hgr _ (by decide)).trans ht) (by first | omega | (simp only [Int32.toInt_toInt64]; omega) | decide | assumption) (by first | omega | (simp only [Int32.toInt_toInt64]; omega) | decide | assumption)) rfl rfl ⟨Nat.le_of_ble_eq_true rfl, Nat.le_of_ble_eq_true rfl⟩ rfl hl.1 rfl (Nat.le_of_ble_eq_true rfl) dX12_takesWord_11 ⟨Nat.le_of_ble_eq_true rfl, Nat.le_of_ble_eq_true rfl⟩) (fun f_55 Γ_57 H locs hw_53 hP hI hc_56 hcg_58 hS => ?_)
    have hD : va_D A (va_pl L f_55) := tp_D hL hAL
    have hfr := tp_fr2 hfr hc_56 (by decide)
    have hgr : ∀ κ : tk_K, κ.1 ∉ ([39] : List Nat) → Γ_57 κ = Γ κ := tg_fr2 hgr hcg_58 (by decide)
    have hw_53 : Γ_57 (39, 0, 0) 0 = Γ_27 (39, 0, 0) 0 ∧ Γ_57 (39, 0, 0) 3 = Γ_27 (39, 0, 0) 3 ∧ Γ_57 (39, 0, 0) 4 = Γ_27 (39, 0, 0) 4 ∧ Γ_57 (39, 0, 0) 5 = Γ_27 (39, 0, 0) 5 ∧ Γ_57 (39, 0, 0) 6 = Γ_27 (39, 0, 0) 6 ∧ Γ_57 (39, 0, 0) 7 = Γ_27 (39, 0, 0) 7 ∧ Γ_57 (39, 0, 0) 8 = Γ_27 (39, 0, 0) 8 ∧ Γ_27 (39, 0, 0) 1 ≤ Γ_57 (39, 0, 0) 1 ∧ Γ_57 (39, 0, 0) 1 ≤ T0 ∧ (tr_L τ T0 (Γ_27 (39, 0, 0) 1) → Γ_27 (39, 0, 0) 1 + 1 ≤ Γ_57 (39, 0, 0) 1) := hw_53
    have hpw := hw_53.2.2.2.2.2.2.2.2.2 (by first | assumption | exact (tr_W.L (by assumption)))
    refine lv_iconst (v := 1) hx hb dX12_takesWord_14 (by decide) ?_
    have hpo9 : tl_J (1 : Int32) (Γ (39, 0, 0) 1 + 1 ≤ Γ_57 (39, 0, 0) 1) ∧ Γ_57 (39, 0, 0) 0 = Γ (39, 0, 0) 0 ∧ Γ_57 (39, 0, 0) 3 = Γ (39, 0, 0) 3 ∧ Γ_57 (39, 0, 0) 4 = Γ (39, 0, 0) 4 ∧ Γ_57 (39, 0, 0) 5 = Γ (39, 0, 0) 5 ∧ Γ_57 (39, 0, 0) 6 = Γ (39, 0, 0) 6 ∧ Γ_57 (39, 0, 0) 7 = Γ (39, 0, 0) 7 ∧ Γ_57 (39, 0, 0) 8 = Γ (39, 0, 0) 8 ∧ Γ (39, 0, 0) 1 ≤ Γ_57 (39, 0, 0) 1 ∧ Γ_57 (39, 0, 0) 1 ≤ T0 := ⟨(Or.inl ⟨rfl, (by omega)⟩), ⟨(by omega), (by omega), (by omega), (by omega), (by omega), (by omega), (by omega), (by omega), (by omega)⟩⟩
    exact W.zret (ty := .boolean) (v := 1) hx hb hr rfl (fun t ht hW => ⟨⟨_, (f_55, Γ_57), rfl, hpo9, by rw [ht]; exact hP, hI, hfr, hgr⟩, hS.F ht⟩) hS.2.2 dX12_takesWord_15
  · have c_30 := hE_29.f c_30
    refine lv_iconst (v := 0) hx hb dX12_takesWord_8 (by decide) ?_
    have hpo9 : tl_J (0 : Int32) (Γ (39, 0, 0) 1 + 1 ≤ Γ_27 (39, 0, 0) 1) ∧ Γ_27 (39, 0, 0) 0 = Γ (39, 0, 0) 0 ∧ Γ_27 (39, 0, 0) 3 = Γ (39, 0, 0) 3 ∧ Γ_27 (39, 0, 0) 4 = Γ (39, 0, 0) 4 ∧ Γ_27 (39, 0, 0) 5 = Γ (39, 0, 0) 5 ∧ Γ_27 (39, 0, 0) 6 = Γ (39, 0, 0) 6 ∧ Γ_27 (39, 0, 0) 7 = Γ (39, 0, 0) 7 ∧ Γ_27 (39, 0, 0) 8 = Γ (39, 0, 0) 8 ∧ Γ (39, 0, 0) 1 ≤ Γ_27 (39, 0, 0) 1 ∧ Γ_27 (39, 0, 0) 1 ≤ T0 := ⟨(Or.inr rfl), ⟨(by omega), (by omega), (by omega), (by omega), (by omega), (by omega), (by omega), (by omega), (by omega)⟩⟩
    exact W.zret (ty := .boolean) (v := 0) hx hb hr rfl (fun t ht hW => ⟨⟨_, (f_25, Γ_27), rfl, hpo9, by rw [ht]; exact hP, hI, hfr, hgr⟩, hS.F ht⟩) hS.2.2 dX12_takesWord_9
set_option maxHeartbeats 4000000 in
set_option maxRecDepth 100000 in
theorem r_X12_numberHere (l : Launch) (D : va_G) (cy : Nat → ClassId) (sz : Nat) (L : List Nat) (K : Nat → tk_K) (Γ : tk_G) (f : Nat → va_E) (o : Nat) (p0 : Int32) (p1 : Int32) (τ : Nat → Int) (T0 : Int) (ho : tp_r L K 39 (0) 0 o) (ht : Γ (41, 400, 0) = τ) (hT : Γ (39, 0, 0) 0 = T0) (hb0 : 0 ≤ Γ (39, 0, 0) 1 ∧ Γ (39, 0, 0) 1 ≤ T0 ∧ T0 ≤ 400) : Met l yX12_numberHere (tl_w yX12_numberHere cX12_numberHere 5 (some .boolean)) ({ frames := 1, cells := 0, slots := 0, locals := 25 }) (va_Pc [.ref o, .int p0, .int p1] (tp_P D cy L K Γ f sz)) (va_Qi (fun (r : Int32) (u : (Nat → va_E) × tk_G) => tl_J r (p0.toInt ≤ u.2 (39, 0, 0) 3 ∧ u.2 (39, 0, 0) 3 ≤ p1.toInt ∧ Γ (39, 0, 0) 1 + 1 ≤ u.2 (39, 0, 0) 1) ∧ u.2 (39, 0, 0) 0 = Γ (39, 0, 0) 0 ∧ u.2 (39, 0, 0) 4 = Γ (39, 0, 0) 4 ∧ u.2 (39, 0, 0) 5 = Γ (39, 0, 0) 5 ∧ u.2 (39, 0, 0) 6 = Γ (39, 0, 0) 6 ∧ u.2 (39, 0, 0) 7 = Γ (39, 0, 0) 7 ∧ u.2 (39, 0, 0) 8 = Γ (39, 0, 0) 8 ∧ Γ (39, 0, 0) 1 ≤ u.2 (39, 0, 0) 1 ∧ u.2 (39, 0, 0) 1 ≤ T0) (tp_BG D cy L K Γ f [39]) (tp_A L sz)) 0 0 (tp_A L sz) := by
  refine Met.ofW (cc := cX12_numberHere) (maxL := 5) (ret := (some .boolean)) (by decide) rfl ?_
  intro p e s m args below meth c s₁ B hml hv
  obtain ⟨rfl, hsz, hP, hK, hL, hI, hN, hU⟩ := hv
  have hx := B.exec
  have hb := B.bytes
  have hr := B.returns
  have hta := tl_hta (atoms_spec (ws := tl_w yX12_numberHere cX12_numberHere 5 (some .boolean)) B.pre)
  have hown : s.vm.findClass RX12 = some m.cls := findClass_of_methodNamed B.named
  have hlocks := B.notSynchronized
  subst hsz
  have hI0 := hI
  generalize hAe : tp_A L s.heap.size = A
  have hA : ∀ q : Nat, s.heap.size ≤ q → A q := fun q h => by rw [← hAe]; exact Or.inr h
  have hAL : ∀ q ∈ L, A q := fun q h => by rw [← hAe]; exact Or.inl h
  have hAf : ∀ (H : Heap), s.heap.size ≤ H.size → ∀ q, tp_A L H.size q → A q := fun H h q hq => hq.elim (hAL q) (fun h2 => hA q (Nat.le_trans h h2))
  have hS : va_S A s.heap s.heap [] := va_S.rf
  have hD : va_D A (va_pl L f) := tp_D hL hAL
  have hfr : ∀ b, (K b).1 ∉ ([39] : List Nat) → f b = f b := fun _ _ => rfl
  have hgr : ∀ κ : tk_K, κ.1 ∉ ([39] : List Nat) → Γ κ = Γ κ := fun _ _ => rfl
  have hl := lv_entry ([.ref o, .int p0, .int p1]) (n := 5) (Nat.le_of_ble_eq_true rfl)
  rw [lg_entry_eq]
  generalize (lg_sl ([.ref o, .int p0, .int p1]) ++ List.replicate (5 - (lg_sl ([.ref o, .int p0, .int p1])).length) Slot.unset).toArray = ls at hl ⊢
  have hl : lv_has ls 5 [(0, .ref o), (1, .int p0), (2, .int p1)] := hl
  refine lv_aload_n hx hb dX12_numberHere_0 rfl (lv_at hl 0 rfl) ?_
  obtain ⟨r_2, v_3, q_4, hf_1, hr_5, hv_6⟩ := (show tp_o_M L K 0 0 (Γ (39, 0, 0)) (f o) from hI.at ho)
  refine tq_ciR hS (hAf _ hS.1) (tq_rV (As := []) (rest := []) ⟨hx, hb, hml, hown, hta⟩ (tp_P.pre hK hN hL hU hI hP) (tp_recv hK hP ho.1 hf_1 rfl) lk_X12_167 (r_X12_see l D cy s.heap.size L K Γ f o τ T0 ho ht (by first | omega | (simp only [Int32.toInt_toInt64]; omega) | decide | assumption) (by first | omega | (simp only [Int32.toInt_toInt64]; omega) | decide | assumption)) rfl rfl ⟨Nat.le_of_ble_eq_true rfl, Nat.le_of_ble_eq_true rfl⟩ rfl hl.1 rfl (Nat.le_of_ble_eq_true rfl) dX12_numberHere_1 ⟨Nat.le_of_ble_eq_true rfl, Nat.le_of_ble_eq_true rfl⟩) (fun r_24 f_25 Γ_27 H locs hw_23 hP hI hc_26 hcg_28 hS => ?_)
  have hD : va_D A (va_pl L f_25) := tp_D hL hAL
  have hfr := tp_fr2 hfr hc_26 (by decide)
  have hgr : ∀ κ : tk_K, κ.1 ∉ ([39] : List Nat) → Γ_27 κ = Γ κ := tg_fr2 hgr hcg_28 (by decide)
  have hw_23 : Γ_27 (39, 0, 0) 0 = Γ (39, 0, 0) 0 ∧ Γ_27 (39, 0, 0) 3 = Γ (39, 0, 0) 3 ∧ Γ_27 (39, 0, 0) 4 = Γ (39, 0, 0) 4 ∧ Γ_27 (39, 0, 0) 5 = Γ (39, 0, 0) 5 ∧ Γ_27 (39, 0, 0) 6 = Γ (39, 0, 0) 6 ∧ Γ_27 (39, 0, 0) 7 = Γ (39, 0, 0) 7 ∧ Γ_27 (39, 0, 0) 8 = Γ (39, 0, 0) 8 ∧ Γ (39, 0, 0) 1 ≤ Γ_27 (39, 0, 0) 1 ∧ Γ_27 (39, 0, 0) 1 ≤ T0 ∧ (¬ τ (Γ (39, 0, 0) 1).toNat = 32 → Γ_27 (39, 0, 0) 1 = Γ (39, 0, 0) 1) ∧ ((r_24.toInt = -1 ∧ Γ_27 (39, 0, 0) 1 = T0) ∨ (0 ≤ r_24.toInt ∧ r_24.toInt ≤ 255 ∧ Γ_27 (39, 0, 0) 1 < T0 ∧ ¬ τ (Γ_27 (39, 0, 0) 1).toNat = 32)) := hw_23
  refine lv_pop hx hb dX12_numberHere_4 rfl ?_
  refine lv_aload_n hx hb dX12_numberHere_5 rfl (lv_at hl 0 rfl) ?_
  refine lv_aload_n hx hb dX12_numberHere_6 rfl (lv_at hl 0 rfl) ?_
  obtain ⟨r_30, v_31, q_32, hf_29, hr_33, hv_34⟩ := (show tp_o_M L K 0 0 (Γ_27 (39, 0, 0)) (f_25 o) from hI.at ho)
  have hx_36 : (v_31 1).toInt = Γ_27 (39, 0, 0) 1 := hv_34 1 (by decide)
  refine tp_get (cy := cy) (ci := 12) (v := .int (v_31 1)) (C := RX12) (T := TX12) (N := 49) hx hb hta inlX12 hown hK hP ho.1 hf_29 rfl 17 (by decide) (hta _ wk_539) (fun _ h9 => h9) rfl dX12_numberHere_7 ?_
  refine tl_si (tq_rV (As := [.int (v_31 1)]) (rest := []) ⟨hx, hb, hml, hown, hta⟩ (tp_P.pre hK hN hL hU hI hP) (tp_recv hK hP ho.1 hf_29 rfl) lk_X12_181 (r_X12_isDigit l D cy H.size L K Γ_27 f_25 o (v_31 1) τ T0 ho ((hgr _ (by decide)).trans ht) (by first | omega | (simp only [Int32.toInt_toInt64]; omega) | decide | assumption) (by first | omega | (simp only [Int32.toInt_toInt64]; omega) | decide | assumption)) rfl rfl ⟨Nat.le_of_ble_eq_true rfl, Nat.le_of_ble_eq_true rfl⟩ rfl hl.1 rfl (Nat.le_of_ble_eq_true rfl) dX12_numberHere_10 ⟨Nat.le_of_ble_eq_true rfl, Nat.le_of_ble_eq_true rfl⟩) (fun r_52 hw_51 => ?_)
  have hw_51 : tl_E r_52 ((v_31 1).toInt < T0 ∧ 48 ≤ τ ((v_31 1).toInt).toNat ∧ τ ((v_31 1).toInt).toNat ≤ 57) 1 0 := hw_51
  refine lv_if_ne (tgt := 26) hx hb dX12_numberHere_13 (by decide) (fun c_53 => ?_) (fun c_53 => ?_)
  · have c_53 := hw_51.t c_53
    refine lv_aload_n hx hb dX12_numberHere_26 rfl (lv_at hl 0 rfl) ?_
    refine tp_get (cy := cy) (ci := 12) (v := .int (v_31 1)) (C := RX12) (T := TX12) (N := 49) hx hb hta inlX12 hown hK hP ho.1 hf_29 rfl 17 (by decide) (hta _ wk_539) (fun _ h9 => h9) rfl dX12_numberHere_27 ?_
    refine lv_istore_n (lv' := [(3, .int (v_31 1)), (0, .ref o), (1, .int p0), (2, .int p1)]) hx hb dX12_numberHere_30 rfl hl (by decide) rfl (fun ls hl => ?_)
    refine lv_iconst (v := 0) hx hb dX12_numberHere_31 (by decide) ?_
    refine lv_istore (lv' := [(4, .int 0), (3, .int (v_31 1)), (0, .ref o), (1, .int p0), (2, .int p1)]) hx hb dX12_numberHere_32 hl (by decide) rfl (fun ls hl => ?_)
    refine tl_ind (G := fun H locs ls => W p l e ((headSpec (tl_w yX12_numberHere cX12_numberHere 5 (some .boolean)) ({ frames := 1, cells := 0, slots := 0, locals := 25 })).room) s m #[.ref o, .int p0, .int p1] below meth c H locs 0 0 (MQ below (va_Qi (fun (r : Int32) (u : (Nat → va_E) × tk_G) => tl_J r (p0.toInt ≤ u.2 (39, 0, 0) 3 ∧ u.2 (39, 0, 0) 3 ≤ p1.toInt ∧ Γ (39, 0, 0) 1 + 1 ≤ u.2 (39, 0, 0) 1) ∧ u.2 (39, 0, 0) 0 = Γ (39, 0, 0) 0 ∧ u.2 (39, 0, 0) 4 = Γ (39, 0, 0) 4 ∧ u.2 (39, 0, 0) 5 = Γ (39, 0, 0) 5 ∧ u.2 (39, 0, 0) 6 = Γ (39, 0, 0) 6 ∧ u.2 (39, 0, 0) 7 = Γ (39, 0, 0) 7 ∧ u.2 (39, 0, 0) 8 = Γ (39, 0, 0) 8 ∧ Γ (39, 0, 0) 1 ≤ u.2 (39, 0, 0) 1 ∧ u.2 (39, 0, 0) 1 ≤ T0) (tp_BG D cy L K Γ f [39]) A) #[.ref o, .int p0, .int p1] s 0 0 A) (F0 m 34 ls [])) (α := (Nat → va_E) × tk_G × Int32) (fun aq => (400 - aq.2.1 (39, 0, 0) 1).toNat) (fun aq H locs ls => (aq.2.1 (39, 0, 0) 0 = Γ (39, 0, 0) 0) ∧ (aq.2.1 (39, 0, 0) 4 = Γ (39, 0, 0) 4) ∧ (aq.2.1 (39, 0, 0) 5 = Γ (39, 0, 0) 5) ∧ (aq.2.1 (39, 0, 0) 6 = Γ (39, 0, 0) 6) ∧ (aq.2.1 (39, 0, 0) 7 = Γ (39, 0, 0) 7) ∧ (aq.2.1 (39, 0, 0) 8 = Γ (39, 0, 0) 8) ∧ ((v_31 1).toInt ≤ aq.2.1 (39, 0, 0) 1 ∧ aq.2.1 (39, 0, 0) 1 ≤ T0) ∧ ((v_31 1).toInt + 1 ≤ aq.2.1 (39, 0, 0) 1 ∨ aq.2.1 (39, 0, 0) 1 = (v_31 1).toInt) ∧ va_P D vwCl (va_pl L aq.1) H ∧ tp_I cy L K aq.2.1 aq.1 ∧ (∀ b, (K b).1 ∉ ([39] : List Nat) → aq.1 b = f b) ∧ (∀ κ : tk_K, κ.1 ∉ ([39] : List Nat) → aq.2.1 κ = Γ κ) ∧ va_S A s.heap H locs ∧ lv_has ls 5 [(4, .int aq.2.2), (3, .int (v_31 1)), (0, .ref o), (1, .int p0), (2, .int p1)]) ?_ (f_25, Γ_27, (0 : Int32)) H locs ls ⟨(show Γ_27 (39, 0, 0) 0 = Γ (39, 0, 0) 0 from (by omega)), (show Γ_27 (39, 0, 0) 4 = Γ (39, 0, 0) 4 from (by omega)), (show Γ_27 (39, 0, 0) 5 = Γ (39, 0, 0) 5 from (by omega)), (show Γ_27 (39, 0, 0) 6 = Γ (39, 0, 0) 6 from (by omega)), (show Γ_27 (39, 0, 0) 7 = Γ (39, 0, 0) 7 from (by omega)), (show Γ_27 (39, 0, 0) 8 = Γ (39, 0, 0) 8 from (by omega)), (show (v_31 1).toInt ≤ Γ_27 (39, 0, 0) 1 ∧ Γ_27 (39, 0, 0) 1 ≤ T0 from (by omega)), (show (v_31 1).toInt + 1 ≤ Γ_27 (39, 0, 0) 1 ∨ Γ_27 (39, 0, 0) 1 = (v_31 1).toInt from (by omega)), hP, hI, hfr, hgr, hS, lv_sub hl [0, 1, 2, 3, 4] rfl⟩
    rintro ⟨f_54, Γ_55, v4⟩ H locs ls ⟨q0, q4, q5, q6, q7, q8, h1, hf, hP, hI, hfr, hgr, hS, hl⟩ ih34
    have hgr : ∀ κ : tk_K, κ.1 ∉ ([39] : List Nat) → Γ_55 κ = Γ κ := hgr
    have hP : va_P D vwCl (va_pl L f_54) H := hP
    have hI : tp_I cy L K Γ_55 f_54 := hI
    have hfr : ∀ b, (K b).1 ∉ ([39] : List Nat) → f_54 b = f b := hfr
    have hD : va_D A (va_pl L f_54) := tp_D hL hAL
    have q0 : Γ_55 (39, 0, 0) 0 = Γ (39, 0, 0) 0 := q0
    have q4 : Γ_55 (39, 0, 0) 4 = Γ (39, 0, 0) 4 := q4
    have q5 : Γ_55 (39, 0, 0) 5 = Γ (39, 0, 0) 5 := q5
    have q6 : Γ_55 (39, 0, 0) 6 = Γ (39, 0, 0) 6 := q6
    have q7 : Γ_55 (39, 0, 0) 7 = Γ (39, 0, 0) 7 := q7
    have q8 : Γ_55 (39, 0, 0) 8 = Γ (39, 0, 0) 8 := q8
    have h1 : (v_31 1).toInt ≤ Γ_55 (39, 0, 0) 1 ∧ Γ_55 (39, 0, 0) 1 ≤ T0 := h1
    have hf : (v_31 1).toInt + 1 ≤ Γ_55 (39, 0, 0) 1 ∨ Γ_55 (39, 0, 0) 1 = (v_31 1).toInt := hf
    have hl : lv_has ls 5 [(4, .int v4), (3, .int (v_31 1)), (0, .ref o), (1, .int p0), (2, .int p1)] := hl
    refine lv_aload_n hx hb dX12_numberHere_34 rfl (lv_at hl 2 rfl) ?_
    refine lv_aload_n hx hb dX12_numberHere_35 rfl (lv_at hl 2 rfl) ?_
    obtain ⟨r_57, v_58, q_59, hf_56, hr_60, hv_61⟩ := (show tp_o_M L K 0 0 (Γ_55 (39, 0, 0)) (f_54 o) from hI.at ho)
    have hx_62 : (v_58 0).toInt = Γ_55 (39, 0, 0) 0 := hv_61 0 (by decide)
    have hx_63 : (v_58 1).toInt = Γ_55 (39, 0, 0) 1 := hv_61 1 (by decide)
    have hx_64 : (v_58 2).toInt = Γ_55 (39, 0, 0) 2 := hv_61 2 (by decide)
    have hx_65 : (v_58 3).toInt = Γ_55 (39, 0, 0) 3 := hv_61 3 (by decide)
    have hx_66 : (v_58 4).toInt = Γ_55 (39, 0, 0) 4 := hv_61 4 (by decide)
    have hx_67 : (v_58 5).toInt = Γ_55 (39, 0, 0) 5 := hv_61 5 (by decide)
    have hx_68 : (v_58 6).toInt = Γ_55 (39, 0, 0) 6 := hv_61 6 (by decide)
    have hx_69 : (v_58 7).toInt = Γ_55 (39, 0, 0) 7 := hv_61 7 (by decide)
    have hx_70 : (v_58 8).toInt = Γ_55 (39, 0, 0) 8 := hv_61 8 (by decide)
    have hx_71 : (v_58 9).toInt = Γ_55 (39, 0, 0) 9 := hv_61 9 (by decide)
    have hx_72 : (v_58 10).toInt = Γ_55 (39, 0, 0) 10 := hv_61 10 (by decide)
    have hx_73 : (v_58 11).toInt = Γ_55 (39, 0, 0) 11 := hv_61 11 (by decide)
    have hx_74 : (v_58 12).toInt = Γ_55 (39, 0, 0) 12 := hv_61 12 (by decide)
    have hx_75 : (v_58 13).toInt = Γ_55 (39, 0, 0) 13 := hv_61 13 (by decide)
    have hx_76 : (v_58 14).toInt = Γ_55 (39, 0, 0) 14 := hv_61 14 (by decide)
    have hx_77 : (v_58 15).toInt = Γ_55 (39, 0, 0) 15 := hv_61 15 (by decide)
    refine tp_get (cy := cy) (ci := 12) (v := .int (v_58 1)) (C := RX12) (T := TX12) (N := 49) hx hb hta inlX12 hown hK hP ho.1 hf_56 rfl 17 (by decide) (hta _ wk_539) (fun _ h9 => h9) rfl dX12_numberHere_36 ?_
    refine tl_si (tq_rV (As := [.int (v_58 1)]) (rest := []) ⟨hx, hb, hml, hown, hta⟩ (tp_P.pre hK hN hL hU hI hP) (tp_recv hK hP ho.1 hf_56 rfl) lk_X12_181 (r_X12_isDigit l D cy H.size L K Γ_55 f_54 o (v_58 1) τ T0 ho ((hgr _ (by decide)).trans ht) (by first | omega | (simp only [Int32.toInt_toInt64]; omega) | decide | assumption) (by first | omega | (simp only [Int32.toInt_toInt64]; omega) | decide | assumption)) rfl rfl ⟨Nat.le_of_ble_eq_true rfl, Nat.le_of_ble_eq_true rfl⟩ rfl hl.1 rfl (Nat.le_of_ble_eq_true rfl) dX12_numberHere_39 ⟨Nat.le_of_ble_eq_true rfl, Nat.le_of_ble_eq_true rfl⟩) (fun r_79 hw_78 => ?_)
    have hw_78 : tl_E r_79 ((v_58 1).toInt < T0 ∧ 48 ≤ τ ((v_58 1).toInt).toNat ∧ τ ((v_58 1).toInt).toNat ≤ 57) 1 0 := hw_78
    refine lv_if_eq (tgt := 88) hx hb dX12_numberHere_42 (by decide) (fun c_80 => ?_) (fun c_80 => ?_)
    · have c_80 := hw_78.f c_80
      have hadv : (v_31 1).toInt + 1 ≤ Γ_55 (39, 0, 0) 1 := by rcases hf with q9 | q9; exact q9; exact absurd (show (v_58 1).toInt < T0 ∧ 48 ≤ τ ((v_58 1).toInt).toNat ∧ τ ((v_58 1).toInt).toNat ≤ 57 from by rw [show (v_58 1).toInt = (v_31 1).toInt from by omega]; exact (by assumption : (v_31 1).toInt < T0 ∧ 48 ≤ τ ((v_31 1).toInt).toNat ∧ τ ((v_31 1).toInt).toNat ≤ 57)) (by assumption)
      refine lv_aload_n hx hb dX12_numberHere_88 rfl (lv_at hl 2 rfl) ?_
      refine lv_iload hx hb dX12_numberHere_89 (lv_at hl 0 rfl) ?_
      obtain ⟨Γ_81, eΓ_81⟩ : ∃ y : tk_G, y = tg Γ_55 (39, 0, 0) 3 v4.toInt := ⟨_, rfl⟩
      have hv_82 : ∀ i : Nat, i < 16 → ((upd v_58 3 v4) i).toInt = Γ_81 (39, 0, 0) i := by rw [eΓ_81, tg_f]; exact tp_gi_upd hv_61
      have hI9 : tp_I cy L K Γ_81 (va_up f_54 o (.inr (12, [.ref (r_57 0), .ref (r_57 1), .int (v_58 0), .ref (r_57 2), .ref (r_57 3), .ref (r_57 4), .ref (r_57 5), .ref (r_57 6), .ref (r_57 7), .ref (r_57 8), .ref (r_57 9), .ref (r_57 10), .ref (r_57 11), .ref (r_57 12), .ref (r_57 13), .ref (r_57 14), .ref (r_57 15), .int (v_58 1), .int (v_58 2), .int v4, .int (v_58 4), .int (v_58 5), .int (v_58 6), .int (v_58 7), .ref (r_57 16), .int (v_58 8), .ref (r_57 17), .int (v_58 9), .ref (r_57 18), .long q_59, .ref (r_57 19), .ref (r_57 20), .int (v_58 10), .int (v_58 11), .int (v_58 12), .ref (r_57 21), .ref (r_57 22), .int (v_58 13), .ref (r_57 23), .int (v_58 14), .int (v_58 15), .ref (r_57 24), .ref (r_57 25), .ref (r_57 26), .ref (r_57 27), .ref (r_57 28), .ref (r_57 29), .ref (r_57 30), .ref (r_57 31)]))) := by have q9 := hv_82; rw [eΓ_81, tg_f] at q9; rw [eΓ_81]; exact hI.setg hU rfl ho (show tp_o_M L K 0 0 (tgu (Γ_55 (39, 0, 0)) 3 v4.toInt) _ from ⟨r_57, (upd v_58 3 v4), q_59, rfl, hr_60, q9⟩)
      have hfr9 : ∀ b, (K b).1 ∉ ([39] : List Nat) → va_up f_54 o (.inr (12, [.ref (r_57 0), .ref (r_57 1), .int (v_58 0), .ref (r_57 2), .ref (r_57 3), .ref (r_57 4), .ref (r_57 5), .ref (r_57 6), .ref (r_57 7), .ref (r_57 8), .ref (r_57 9), .ref (r_57 10), .ref (r_57 11), .ref (r_57 12), .ref (r_57 13), .ref (r_57 14), .ref (r_57 15), .int (v_58 1), .int (v_58 2), .int v4, .int (v_58 4), .int (v_58 5), .int (v_58 6), .int (v_58 7), .ref (r_57 16), .int (v_58 8), .ref (r_57 17), .int (v_58 9), .ref (r_57 18), .long q_59, .ref (r_57 19), .ref (r_57 20), .int (v_58 10), .int (v_58 11), .int (v_58 12), .ref (r_57 21), .ref (r_57 22), .int (v_58 13), .ref (r_57 23), .int (v_58 14), .int (v_58 15), .ref (r_57 24), .ref (r_57 25), .ref (r_57 26), .ref (r_57 27), .ref (r_57 28), .ref (r_57 29), .ref (r_57 30), .ref (r_57 31)])) b = f b := tp_fr hfr ho (by decide)
      refine tp_put (cy := cy) (ci := 12) (v := .int v4) (ty := tyX12 19) (C := RX12) (T := TX12) (N := 49) hx hb hta inlX12 tyX12 tyX12_ok nmX12 hown hK hP hD hS ho.1 hf_56 rfl 19 (by decide) (hta _ wk_585) (fun _ h9 => h9) rfl (tyX12_ok 19 (by decide)) rfl rfl (Nat.le_of_ble_eq_true rfl) dX12_numberHere_91 (fun H locs hP hD hS => ?_)
      have hP : va_P D vwCl (va_pl L (va_up f_54 o (.inr (12, [.ref (r_57 0), .ref (r_57 1), .int (v_58 0), .ref (r_57 2), .ref (r_57 3), .ref (r_57 4), .ref (r_57 5), .ref (r_57 6), .ref (r_57 7), .ref (r_57 8), .ref (r_57 9), .ref (r_57 10), .ref (r_57 11), .ref (r_57 12), .ref (r_57 13), .ref (r_57 14), .ref (r_57 15), .int (v_58 1), .int (v_58 2), .int v4, .int (v_58 4), .int (v_58 5), .int (v_58 6), .int (v_58 7), .ref (r_57 16), .int (v_58 8), .ref (r_57 17), .int (v_58 9), .ref (r_57 18), .long q_59, .ref (r_57 19), .ref (r_57 20), .int (v_58 10), .int (v_58 11), .int (v_58 12), .ref (r_57 21), .ref (r_57 22), .int (v_58 13), .ref (r_57 23), .int (v_58 14), .int (v_58 15), .ref (r_57 24), .ref (r_57 25), .ref (r_57 26), .ref (r_57 27), .ref (r_57 28), .ref (r_57 29), .ref (r_57 30), .ref (r_57 31)])))) H := hP
      generalize hfe : va_up f_54 o (.inr (12, [.ref (r_57 0), .ref (r_57 1), .int (v_58 0), .ref (r_57 2), .ref (r_57 3), .ref (r_57 4), .ref (r_57 5), .ref (r_57 6), .ref (r_57 7), .ref (r_57 8), .ref (r_57 9), .ref (r_57 10), .ref (r_57 11), .ref (r_57 12), .ref (r_57 13), .ref (r_57 14), .ref (r_57 15), .int (v_58 1), .int (v_58 2), .int v4, .int (v_58 4), .int (v_58 5), .int (v_58 6), .int (v_58 7), .ref (r_57 16), .int (v_58 8), .ref (r_57 17), .int (v_58 9), .ref (r_57 18), .long q_59, .ref (r_57 19), .ref (r_57 20), .int (v_58 10), .int (v_58 11), .int (v_58 12), .ref (r_57 21), .ref (r_57 22), .int (v_58 13), .ref (r_57 23), .int (v_58 14), .int (v_58 15), .ref (r_57 24), .ref (r_57 25), .ref (r_57 26), .ref (r_57 27), .ref (r_57 28), .ref (r_57 29), .ref (r_57 30), .ref (r_57 31)])) = f_83 at hP hI9 hfr9
      have hD : va_D A (va_pl L f_83) := tp_D hL hAL
      have hf_84 : f_83 o = .inr (12, [.ref (r_57 0), .ref (r_57 1), .int (v_58 0), .ref (r_57 2), .ref (r_57 3), .ref (r_57 4), .ref (r_57 5), .ref (r_57 6), .ref (r_57 7), .ref (r_57 8), .ref (r_57 9), .ref (r_57 10), .ref (r_57 11), .ref (r_57 12), .ref (r_57 13), .ref (r_57 14), .ref (r_57 15), .int (v_58 1), .int (v_58 2), .int v4, .int (v_58 4), .int (v_58 5), .int (v_58 6), .int (v_58 7), .ref (r_57 16), .int (v_58 8), .ref (r_57 17), .int (v_58 9), .ref (r_57 18), .long q_59, .ref (r_57 19), .ref (r_57 20), .int (v_58 10), .int (v_58 11), .int (v_58 12), .ref (r_57 21), .ref (r_57 22), .int (v_58 13), .ref (r_57 23), .int (v_58 14), .int (v_58 15), .ref (r_57 24), .ref (r_57 25), .ref (r_57 26), .ref (r_57 27), .ref (r_57 28), .ref (r_57 29), .ref (r_57 30), .ref (r_57 31)]) := by rw [← hfe]; exact va_up_self _ _ _
      clear hfe
      have hI := hI9
      have hfr := hfr9
      clear hI9 hfr9
      have hgr : ∀ κ : tk_K, κ.1 ∉ ([39] : List Nat) → Γ_81 κ = Γ κ := tg_fr hgr eΓ_81 (by decide)
      have hx_85 : (v_58 0).toInt = Γ_81 (39, 0, 0) 0 := hv_82 0 (by decide)
      have hx_86 : (v_58 1).toInt = Γ_81 (39, 0, 0) 1 := hv_82 1 (by decide)
      have hx_87 : (v_58 2).toInt = Γ_81 (39, 0, 0) 2 := hv_82 2 (by decide)
      have hx_88 : v4.toInt = Γ_81 (39, 0, 0) 3 := hv_82 3 (by decide)
      have hx_89 : (v_58 4).toInt = Γ_81 (39, 0, 0) 4 := hv_82 4 (by decide)
      have hx_90 : (v_58 5).toInt = Γ_81 (39, 0, 0) 5 := hv_82 5 (by decide)
      have hx_91 : (v_58 6).toInt = Γ_81 (39, 0, 0) 6 := hv_82 6 (by decide)
      have hx_92 : (v_58 7).toInt = Γ_81 (39, 0, 0) 7 := hv_82 7 (by decide)
      have hx_93 : (v_58 8).toInt = Γ_81 (39, 0, 0) 8 := hv_82 8 (by decide)
      have hx_94 : (v_58 9).toInt = Γ_81 (39, 0, 0) 9 := hv_82 9 (by decide)
      have hx_95 : (v_58 10).toInt = Γ_81 (39, 0, 0) 10 := hv_82 10 (by decide)
      have hx_96 : (v_58 11).toInt = Γ_81 (39, 0, 0) 11 := hv_82 11 (by decide)
      have hx_97 : (v_58 12).toInt = Γ_81 (39, 0, 0) 12 := hv_82 12 (by decide)
      have hx_98 : (v_58 13).toInt = Γ_81 (39, 0, 0) 13 := hv_82 13 (by decide)
      have hx_99 : (v_58 14).toInt = Γ_81 (39, 0, 0) 14 := hv_82 14 (by decide)
      have hx_100 : (v_58 15).toInt = Γ_81 (39, 0, 0) 15 := hv_82 15 (by decide)
      refine lv_aload_n hx hb dX12_numberHere_94 rfl (lv_at hl 2 rfl) ?_
      refine tp_get (cy := cy) (ci := 12) (v := .int (v_58 1)) (C := RX12) (T := TX12) (N := 49) hx hb hta inlX12 hown hK hP ho.1 hf_84 rfl 17 (by decide) (hta _ wk_539) (fun _ h9 => h9) rfl dX12_numberHere_95 ?_
      refine lv_iload_n hx hb dX12_numberHere_98 rfl (lv_at hl 1 rfl) ?_
      refine lv_isub hx hb dX12_numberHere_99 ?_
      refine lv_topi (fun z_101 ez_101 => ?_)
      try have iz_101 : z_101.toInt = (v_58 1).toInt - (v_31 1).toInt := by rw [ez_101]; exact tl_subN (v_58 1) (v_31 1) rfl rfl (by omega) (by omega)
      refine lv_iconst (v := 5) hx hb dX12_numberHere_100 (by decide) ?_
      refine lv_icmp_gt (tgt := 117) hx hb dX12_numberHere_101 (by decide) (fun c_102 => ?_) (fun c_102 => ?_)
      · have c_102 : (5 : Int) < z_101.toInt := tl_lt c_102
        refine lv_aload_n hx hb dX12_numberHere_117 rfl (lv_at hl 2 rfl) ?_
        refine lv_iconst (v := 1) hx hb dX12_numberHere_118 (by decide) ?_
        refine lv_iload_n hx hb dX12_numberHere_119 rfl (lv_at hl 1 rfl) ?_
        refine tq_ciR hS (hAf _ hS.1) (tq_rV (As := [.int 1, .int (v_31 1)]) (rest := []) ⟨hx, hb, hml, hown, hta⟩ (tp_P.pre hK hN hL hU hI hP) (tp_recv hK hP ho.1 hf_84 rfl) lk_X12_184 (r_X12_fails l D cy H.size L K Γ_81 f_83 o 1 (v_31 1) ho) rfl rfl ⟨Nat.le_of_ble_eq_true rfl, Nat.le_of_ble_eq_true rfl⟩ rfl hl.1 rfl (Nat.le_of_ble_eq_true rfl) dX12_numberHere_120 ⟨Nat.le_of_ble_eq_true rfl, Nat.le_of_ble_eq_true rfl⟩) (fun r_104 f_105 Γ_107 H locs hw_103 hP hI hc_106 hcg_108 hS => ?_)
        have hD : va_D A (va_pl L f_105) := tp_D hL hAL
        have hfr := tp_fr2 hfr hc_106 (by decide)
        have hgr : ∀ κ : tk_K, κ.1 ∉ ([39] : List Nat) → Γ_107 κ = Γ κ := tg_fr2 hgr hcg_108 (by decide)
        obtain ⟨rfl, hw_103⟩ := hw_103
        have hw_103 : Γ_107 (39, 0, 0) 0 = Γ_81 (39, 0, 0) 0 ∧ Γ_107 (39, 0, 0) 1 = Γ_81 (39, 0, 0) 1 ∧ Γ_107 (39, 0, 0) 3 = Γ_81 (39, 0, 0) 3 ∧ Γ_107 (39, 0, 0) 4 = Γ_81 (39, 0, 0) 4 ∧ Γ_107 (39, 0, 0) 5 = Γ_81 (39, 0, 0) 5 ∧ Γ_107 (39, 0, 0) 6 = Γ_81 (39, 0, 0) 6 ∧ Γ_107 (39, 0, 0) 7 = Γ_81 (39, 0, 0) 7 ∧ Γ_107 (39, 0, 0) 8 = Γ_81 (39, 0, 0) 8 := hw_103
        refine lv_if_eq (tgt := 130) hx hb dX12_numberHere_123 (by decide) (fun _ => ?_) (fun c => absurd c (by decide))
        refine lv_iconst (v := 0) hx hb dX12_numberHere_130 (by decide) ?_
        have hpo9 : tl_J (0 : Int32) (p0.toInt ≤ Γ_107 (39, 0, 0) 3 ∧ Γ_107 (39, 0, 0) 3 ≤ p1.toInt ∧ Γ (39, 0, 0) 1 + 1 ≤ Γ_107 (39, 0, 0) 1) ∧ Γ_107 (39, 0, 0) 0 = Γ (39, 0, 0) 0 ∧ Γ_107 (39, 0, 0) 4 = Γ (39, 0, 0) 4 ∧ Γ_107 (39, 0, 0) 5 = Γ (39, 0, 0) 5 ∧ Γ_107 (39, 0, 0) 6 = Γ (39, 0, 0) 6 ∧ Γ_107 (39, 0, 0) 7 = Γ (39, 0, 0) 7 ∧ Γ_107 (39, 0, 0) 8 = Γ (39, 0, 0) 8 ∧ Γ (39, 0, 0) 1 ≤ Γ_107 (39, 0, 0) 1 ∧ Γ_107 (39, 0, 0) 1 ≤ T0 := ⟨(Or.inr rfl), ⟨(by omega), (by omega), (by omega), (by omega), (by omega), (by omega), (by omega), (by omega)⟩⟩
        exact W.zret (ty := .boolean) (v := 0) hx hb hr rfl (fun t ht hW => ⟨⟨_, (f_105, Γ_107), rfl, hpo9, by rw [ht]; exact hP, hI, hfr, hgr⟩, hS.F ht⟩) hS.2.2 dX12_numberHere_131
      · have c_102 : z_101.toInt ≤ (5 : Int) := tl_nlt c_102
        refine lv_iload hx hb dX12_numberHere_104 (lv_at hl 0 rfl) ?_
        refine lv_i2l (v := v4.toInt64) hx hb dX12_numberHere_106 (by first | rfl | decide) ?_
        refine lv_iload_n hx hb dX12_numberHere_107 rfl (lv_at hl 3 rfl) ?_
        refine lv_i2l (v := p0.toInt64) hx hb dX12_numberHere_108 (by first | rfl | decide) ?_
        refine lv_iload_n hx hb dX12_numberHere_109 rfl (lv_at hl 4 rfl) ?_
        refine lv_i2l (v := p1.toInt64) hx hb dX12_numberHere_110 (by first | rfl | decide) ?_
        refine tl_si (tq_rS (As := [.long v4.toInt64, .long p0.toInt64, .long p1.toInt64]) (rest := []) ⟨hx, hb, hml, hown, hta⟩ (tp_P.pre hK hN hL hU hI hP) lk_X12_112 (r_X12_in l D cy H.size L K Γ_81 f_83 v4.toInt64 p0.toInt64 p1.toInt64 ) rfl rfl ⟨Nat.le_of_ble_eq_true rfl, Nat.le_of_ble_eq_true rfl⟩ rfl hl.1 rfl (Nat.le_of_ble_eq_true rfl) dX12_numberHere_111 ⟨Nat.le_of_ble_eq_true rfl, Nat.le_of_ble_eq_true rfl⟩) (fun r_110 hw_109 => ?_)
        simp only [Int32.toInt_toInt64] at hw_109
        have hw_109 : tl_E r_110 (p0.toInt ≤ v4.toInt ∧ v4.toInt ≤ p1.toInt) 1 0 := hw_109
        refine lv_if_ne (tgt := 126) hx hb dX12_numberHere_114 (by decide) (fun c_111 => ?_) (fun c_111 => ?_)
        · have c_111 := hw_109.t c_111
          refine lv_iconst (v := 1) hx hb dX12_numberHere_126 (by decide) ?_
          refine lv_goto (tgt := 131) hx hb dX12_numberHere_127 (by decide) ?_
          have hpo9 : tl_J (1 : Int32) (p0.toInt ≤ Γ_81 (39, 0, 0) 3 ∧ Γ_81 (39, 0, 0) 3 ≤ p1.toInt ∧ Γ (39, 0, 0) 1 + 1 ≤ Γ_81 (39, 0, 0) 1) ∧ Γ_81 (39, 0, 0) 0 = Γ (39, 0, 0) 0 ∧ Γ_81 (39, 0, 0) 4 = Γ (39, 0, 0) 4 ∧ Γ_81 (39, 0, 0) 5 = Γ (39, 0, 0) 5 ∧ Γ_81 (39, 0, 0) 6 = Γ (39, 0, 0) 6 ∧ Γ_81 (39, 0, 0) 7 = Γ (39, 0, 0) 7 ∧ Γ_81 (39, 0, 0) 8 = Γ (39, 0, 0) 8 ∧ Γ (39, 0, 0) 1 ≤ Γ_81 (39, 0, 0) 1 ∧ Γ_81 (39, 0, 0) 1 ≤ T0 := ⟨(Or.inl ⟨rfl, ⟨(by omega), (by omega), (by omega)⟩⟩), ⟨(by omega), (by omega), (by omega), (by omega), (by omega), (by omega), (by omega), (by omega)⟩⟩
          exact W.zret (ty := .boolean) (v := 1) hx hb hr rfl (fun t ht hW => ⟨⟨_, (f_83, Γ_81), rfl, hpo9, by rw [ht]; exact hP, hI, hfr, hgr⟩, hS.F ht⟩) hS.2.2 dX12_numberHere_131
        · have c_111 := hw_109.f c_111
          refine lv_aload_n hx hb dX12_numberHere_117 rfl (lv_at hl 2 rfl) ?_
          refine lv_iconst (v := 1) hx hb dX12_numberHere_118 (by decide) ?_
          refine lv_iload_n hx hb dX12_numberHere_119 rfl (lv_at hl 1 rfl) ?_
          refine tq_ciR hS (hAf _ hS.1) (tq_rV (As := [.int 1, .int (v_31 1)]) (rest := []) ⟨hx, hb, hml, hown, hta⟩ (tp_P.pre hK hN hL hU hI hP) (tp_recv hK hP ho.1 hf_84 rfl) lk_X12_184 (r_X12_fails l D cy H.size L K Γ_81 f_83 o 1 (v_31 1) ho) rfl rfl ⟨Nat.le_of_ble_eq_true rfl, Nat.le_of_ble_eq_true rfl⟩ rfl hl.1 rfl (Nat.le_of_ble_eq_true rfl) dX12_numberHere_120 ⟨Nat.le_of_ble_eq_true rfl, Nat.le_of_ble_eq_true rfl⟩) (fun r_113 f_114 Γ_116 H locs hw_112 hP hI hc_115 hcg_117 hS => ?_)
          have hD : va_D A (va_pl L f_114) := tp_D hL hAL
          have hfr := tp_fr2 hfr hc_115 (by decide)
          have hgr : ∀ κ : tk_K, κ.1 ∉ ([39] : List Nat) → Γ_116 κ = Γ κ := tg_fr2 hgr hcg_117 (by decide)
          obtain ⟨rfl, hw_112⟩ := hw_112
          have hw_112 : Γ_116 (39, 0, 0) 0 = Γ_81 (39, 0, 0) 0 ∧ Γ_116 (39, 0, 0) 1 = Γ_81 (39, 0, 0) 1 ∧ Γ_116 (39, 0, 0) 3 = Γ_81 (39, 0, 0) 3 ∧ Γ_116 (39, 0, 0) 4 = Γ_81 (39, 0, 0) 4 ∧ Γ_116 (39, 0, 0) 5 = Γ_81 (39, 0, 0) 5 ∧ Γ_116 (39, 0, 0) 6 = Γ_81 (39, 0, 0) 6 ∧ Γ_116 (39, 0, 0) 7 = Γ_81 (39, 0, 0) 7 ∧ Γ_116 (39, 0, 0) 8 = Γ_81 (39, 0, 0) 8 := hw_112
          refine lv_if_eq (tgt := 130) hx hb dX12_numberHere_123 (by decide) (fun _ => ?_) (fun c => absurd c (by decide))
          refine lv_iconst (v := 0) hx hb dX12_numberHere_130 (by decide) ?_
          have hpo9 : tl_J (0 : Int32) (p0.toInt ≤ Γ_116 (39, 0, 0) 3 ∧ Γ_116 (39, 0, 0) 3 ≤ p1.toInt ∧ Γ (39, 0, 0) 1 + 1 ≤ Γ_116 (39, 0, 0) 1) ∧ Γ_116 (39, 0, 0) 0 = Γ (39, 0, 0) 0 ∧ Γ_116 (39, 0, 0) 4 = Γ (39, 0, 0) 4 ∧ Γ_116 (39, 0, 0) 5 = Γ (39, 0, 0) 5 ∧ Γ_116 (39, 0, 0) 6 = Γ (39, 0, 0) 6 ∧ Γ_116 (39, 0, 0) 7 = Γ (39, 0, 0) 7 ∧ Γ_116 (39, 0, 0) 8 = Γ (39, 0, 0) 8 ∧ Γ (39, 0, 0) 1 ≤ Γ_116 (39, 0, 0) 1 ∧ Γ_116 (39, 0, 0) 1 ≤ T0 := ⟨(Or.inr rfl), ⟨(by omega), (by omega), (by omega), (by omega), (by omega), (by omega), (by omega), (by omega)⟩⟩
          exact W.zret (ty := .boolean) (v := 0) hx hb hr rfl (fun t ht hW => ⟨⟨_, (f_114, Γ_116), rfl, hpo9, by rw [ht]; exact hP, hI, hfr, hgr⟩, hS.F ht⟩) hS.2.2 dX12_numberHere_131
    · have c_80 := hw_78.t c_80
      refine lv_aload_n hx hb dX12_numberHere_45 rfl (lv_at hl 2 rfl) ?_
      refine tp_get (cy := cy) (ci := 12) (v := .int (v_58 1)) (C := RX12) (T := TX12) (N := 49) hx hb hta inlX12 hown hK hP ho.1 hf_56 rfl 17 (by decide) (hta _ wk_539) (fun _ h9 => h9) rfl dX12_numberHere_46 ?_
      refine lv_iload_n hx hb dX12_numberHere_49 rfl (lv_at hl 1 rfl) ?_
      refine lv_isub hx hb dX12_numberHere_50 ?_
      refine lv_topi (fun z_118 ez_118 => ?_)
      try have iz_118 : z_118.toInt = (v_58 1).toInt - (v_31 1).toInt := by rw [ez_118]; exact tl_subN (v_58 1) (v_31 1) rfl rfl (by omega) (by omega)
      refine lv_iconst (v := 5) hx hb dX12_numberHere_51 (by decide) ?_
      refine lv_icmp_ge (tgt := 75) hx hb dX12_numberHere_52 (by decide) (fun c_119 => ?_) (fun c_119 => ?_)
      · have c_119 : (5 : Int) ≤ z_118.toInt := tl_le c_119
        refine lv_aload_n hx hb dX12_numberHere_75 rfl (lv_at hl 2 rfl) ?_
        refine lv_dup hx hb dX12_numberHere_76 rfl ?_
        refine tp_get (cy := cy) (ci := 12) (v := .int (v_58 1)) (C := RX12) (T := TX12) (N := 49) hx hb hta inlX12 hown hK hP ho.1 hf_56 rfl 17 (by decide) (hta _ wk_539) (fun _ h9 => h9) rfl dX12_numberHere_77 ?_
        refine lv_iconst (v := 1) hx hb dX12_numberHere_80 (by decide) ?_
        refine lv_iadd hx hb dX12_numberHere_81 ?_
        refine lv_topi (fun z_120 ez_120 => ?_)
        try have iz_120 : z_120.toInt = (v_58 1).toInt + (1 : Int) := by rw [ez_120]; exact tl_addN (v_58 1) 1 rfl rfl (by omega) (by omega)
        obtain ⟨Γ_121, eΓ_121⟩ : ∃ y : tk_G, y = tg Γ_55 (39, 0, 0) 1 z_120.toInt := ⟨_, rfl⟩
        have hv_122 : ∀ i : Nat, i < 16 → ((upd v_58 1 z_120) i).toInt = Γ_121 (39, 0, 0) i := by rw [eΓ_121, tg_f]; exact tp_gi_upd hv_61
        have hI9 : tp_I cy L K Γ_121 (va_up f_54 o (.inr (12, [.ref (r_57 0), .ref (r_57 1), .int (v_58 0), .ref (r_57 2), .ref (r_57 3), .ref (r_57 4), .ref (r_57 5), .ref (r_57 6), .ref (r_57 7), .ref (r_57 8), .ref (r_57 9), .ref (r_57 10), .ref (r_57 11), .ref (r_57 12), .ref (r_57 13), .ref (r_57 14), .ref (r_57 15), .int z_120, .int (v_58 2), .int (v_58 3), .int (v_58 4), .int (v_58 5), .int (v_58 6), .int (v_58 7), .ref (r_57 16), .int (v_58 8), .ref (r_57 17), .int (v_58 9), .ref (r_57 18), .long q_59, .ref (r_57 19), .ref (r_57 20), .int (v_58 10), .int (v_58 11), .int (v_58 12), .ref (r_57 21), .ref (r_57 22), .int (v_58 13), .ref (r_57 23), .int (v_58 14), .int (v_58 15), .ref (r_57 24), .ref (r_57 25), .ref (r_57 26), .ref (r_57 27), .ref (r_57 28), .ref (r_57 29), .ref (r_57 30), .ref (r_57 31)]))) := by have q9 := hv_122; rw [eΓ_121, tg_f] at q9; rw [eΓ_121]; exact hI.setg hU rfl ho (show tp_o_M L K 0 0 (tgu (Γ_55 (39, 0, 0)) 1 z_120.toInt) _ from ⟨r_57, (upd v_58 1 z_120), q_59, rfl, hr_60, q9⟩)
        have hfr9 : ∀ b, (K b).1 ∉ ([39] : List Nat) → va_up f_54 o (.inr (12, [.ref (r_57 0), .ref (r_57 1), .int (v_58 0), .ref (r_57 2), .ref (r_57 3), .ref (r_57 4), .ref (r_57 5), .ref (r_57 6), .ref (r_57 7), .ref (r_57 8), .ref (r_57 9), .ref (r_57 10), .ref (r_57 11), .ref (r_57 12), .ref (r_57 13), .ref (r_57 14), .ref (r_57 15), .int z_120, .int (v_58 2), .int (v_58 3), .int (v_58 4), .int (v_58 5), .int (v_58 6), .int (v_58 7), .ref (r_57 16), .int (v_58 8), .ref (r_57 17), .int (v_58 9), .ref (r_57 18), .long q_59, .ref (r_57 19), .ref (r_57 20), .int (v_58 10), .int (v_58 11), .int (v_58 12), .ref (r_57 21), .ref (r_57 22), .int (v_58 13), .ref (r_57 23), .int (v_58 14), .int (v_58 15), .ref (r_57 24), .ref (r_57 25), .ref (r_57 26), .ref (r_57 27), .ref (r_57 28), .ref (r_57 29), .ref (r_57 30), .ref (r_57 31)])) b = f b := tp_fr hfr ho (by decide)
        refine tp_put (cy := cy) (ci := 12) (v := .int z_120) (ty := tyX12 17) (C := RX12) (T := TX12) (N := 49) hx hb hta inlX12 tyX12 tyX12_ok nmX12 hown hK hP hD hS ho.1 hf_56 rfl 17 (by decide) (hta _ wk_539) (fun _ h9 => h9) rfl (tyX12_ok 17 (by decide)) rfl rfl (Nat.le_of_ble_eq_true rfl) dX12_numberHere_82 (fun H locs hP hD hS => ?_)
        have hP : va_P D vwCl (va_pl L (va_up f_54 o (.inr (12, [.ref (r_57 0), .ref (r_57 1), .int (v_58 0), .ref (r_57 2), .ref (r_57 3), .ref (r_57 4), .ref (r_57 5), .ref (r_57 6), .ref (r_57 7), .ref (r_57 8), .ref (r_57 9), .ref (r_57 10), .ref (r_57 11), .ref (r_57 12), .ref (r_57 13), .ref (r_57 14), .ref (r_57 15), .int z_120, .int (v_58 2), .int (v_58 3), .int (v_58 4), .int (v_58 5), .int (v_58 6), .int (v_58 7), .ref (r_57 16), .int (v_58 8), .ref (r_57 17), .int (v_58 9), .ref (r_57 18), .long q_59, .ref (r_57 19), .ref (r_57 20), .int (v_58 10), .int (v_58 11), .int (v_58 12), .ref (r_57 21), .ref (r_57 22), .int (v_58 13), .ref (r_57 23), .int (v_58 14), .int (v_58 15), .ref (r_57 24), .ref (r_57 25), .ref (r_57 26), .ref (r_57 27), .ref (r_57 28), .ref (r_57 29), .ref (r_57 30), .ref (r_57 31)])))) H := hP
        generalize hfe : va_up f_54 o (.inr (12, [.ref (r_57 0), .ref (r_57 1), .int (v_58 0), .ref (r_57 2), .ref (r_57 3), .ref (r_57 4), .ref (r_57 5), .ref (r_57 6), .ref (r_57 7), .ref (r_57 8), .ref (r_57 9), .ref (r_57 10), .ref (r_57 11), .ref (r_57 12), .ref (r_57 13), .ref (r_57 14), .ref (r_57 15), .int z_120, .int (v_58 2), .int (v_58 3), .int (v_58 4), .int (v_58 5), .int (v_58 6), .int (v_58 7), .ref (r_57 16), .int (v_58 8), .ref (r_57 17), .int (v_58 9), .ref (r_57 18), .long q_59, .ref (r_57 19), .ref (r_57 20), .int (v_58 10), .int (v_58 11), .int (v_58 12), .ref (r_57 21), .ref (r_57 22), .int (v_58 13), .ref (r_57 23), .int (v_58 14), .int (v_58 15), .ref (r_57 24), .ref (r_57 25), .ref (r_57 26), .ref (r_57 27), .ref (r_57 28), .ref (r_57 29), .ref (r_57 30), .ref (r_57 31)])) = f_123 at hP hI9 hfr9
        have hD : va_D A (va_pl L f_123) := tp_D hL hAL
        have hf_124 : f_123 o = .inr (12, [.ref (r_57 0), .ref (r_57 1), .int (v_58 0), .ref (r_57 2), .ref (r_57 3), .ref (r_57 4), .ref (r_57 5), .ref (r_57 6), .ref (r_57 7), .ref (r_57 8), .ref (r_57 9), .ref (r_57 10), .ref (r_57 11), .ref (r_57 12), .ref (r_57 13), .ref (r_57 14), .ref (r_57 15), .int z_120, .int (v_58 2), .int (v_58 3), .int (v_58 4), .int (v_58 5), .int (v_58 6), .int (v_58 7), .ref (r_57 16), .int (v_58 8), .ref (r_57 17), .int (v_58 9), .ref (r_57 18), .long q_59, .ref (r_57 19), .ref (r_57 20), .int (v_58 10), .int (v_58 11), .int (v_58 12), .ref (r_57 21), .ref (r_57 22), .int (v_58 13), .ref (r_57 23), .int (v_58 14), .int (v_58 15), .ref (r_57 24), .ref (r_57 25), .ref (r_57 26), .ref (r_57 27), .ref (r_57 28), .ref (r_57 29), .ref (r_57 30), .ref (r_57 31)]) := by rw [← hfe]; exact va_up_self _ _ _
        clear hfe
        have hI := hI9
        have hfr := hfr9
        clear hI9 hfr9
        have hgr : ∀ κ : tk_K, κ.1 ∉ ([39] : List Nat) → Γ_121 κ = Γ κ := tg_fr hgr eΓ_121 (by decide)
        have hx_125 : (v_58 0).toInt = Γ_121 (39, 0, 0) 0 := hv_122 0 (by decide)
        have hx_126 : z_120.toInt = Γ_121 (39, 0, 0) 1 := hv_122 1 (by decide)
        have hx_127 : (v_58 2).toInt = Γ_121 (39, 0, 0) 2 := hv_122 2 (by decide)
        have hx_128 : (v_58 3).toInt = Γ_121 (39, 0, 0) 3 := hv_122 3 (by decide)
        have hx_129 : (v_58 4).toInt = Γ_121 (39, 0, 0) 4 := hv_122 4 (by decide)
        have hx_130 : (v_58 5).toInt = Γ_121 (39, 0, 0) 5 := hv_122 5 (by decide)
        have hx_131 : (v_58 6).toInt = Γ_121 (39, 0, 0) 6 := hv_122 6 (by decide)
        have hx_132 : (v_58 7).toInt = Γ_121 (39, 0, 0) 7 := hv_122 7 (by decide)
        have hx_133 : (v_58 8).toInt = Γ_121 (39, 0, 0) 8 := hv_122 8 (by decide)
        have hx_134 : (v_58 9).toInt = Γ_121 (39, 0, 0) 9 := hv_122 9 (by decide)
        have hx_135 : (v_58 10).toInt = Γ_121 (39, 0, 0) 10 := hv_122 10 (by decide)
        have hx_136 : (v_58 11).toInt = Γ_121 (39, 0, 0) 11 := hv_122 11 (by decide)
        have hx_137 : (v_58 12).toInt = Γ_121 (39, 0, 0) 12 := hv_122 12 (by decide)
        have hx_138 : (v_58 13).toInt = Γ_121 (39, 0, 0) 13 := hv_122 13 (by decide)
        have hx_139 : (v_58 14).toInt = Γ_121 (39, 0, 0) 14 := hv_122 14 (by decide)
        have hx_140 : (v_58 15).toInt = Γ_121 (39, 0, 0) 15 := hv_122 15 (by decide)
        refine lv_goto (tgt := 34) hx hb dX12_numberHere_85 (by decide) ?_
        exact ih34 (f_123, Γ_121, v4) H locs ls (by show (400 - Γ_121 (39, 0, 0) 1).toNat < (400 - Γ_55 (39, 0, 0) 1).toNat; omega) ⟨(show Γ_121 (39, 0, 0) 0 = Γ (39, 0, 0) 0 from (by omega)), (show Γ_121 (39, 0, 0) 4 = Γ (39, 0, 0) 4 from (by omega)), (show Γ_121 (39, 0, 0) 5 = Γ (39, 0, 0) 5 from (by omega)), (show Γ_121 (39, 0, 0) 6 = Γ (39, 0, 0) 6 from (by omega)), (show Γ_121 (39, 0, 0) 7 = Γ (39, 0, 0) 7 from (by omega)), (show Γ_121 (39, 0, 0) 8 = Γ (39, 0, 0) 8 from (by omega)), (show (v_31 1).toInt ≤ Γ_121 (39, 0, 0) 1 ∧ Γ_121 (39, 0, 0) 1 ≤ T0 from (by omega)), (show (v_31 1).toInt + 1 ≤ Γ_121 (39, 0, 0) 1 ∨ Γ_121 (39, 0, 0) 1 = (v_31 1).toInt from (by omega)), hP, hI, hfr, hgr, hS, lv_sub hl [0, 1, 2, 3, 4] rfl⟩
      · have c_119 : z_118.toInt < (5 : Int) := tl_nle c_119
        refine lv_bipush (v := 10) hx hb dX12_numberHere_55 (by decide) ?_
        refine lv_iload hx hb dX12_numberHere_57 (lv_at hl 0 rfl) ?_
        refine lv_imul hx hb dX12_numberHere_59 ?_
        refine lv_topi (fun z_141 ez_141 => ?_)
        try have iz_141 : z_141.toInt = (10 : Int) * v4.toInt := by rw [ez_141]; exact tl_mulN 10 v4 rfl rfl (by omega) (by omega)
        refine lv_aload_n hx hb dX12_numberHere_60 rfl (lv_at hl 2 rfl) ?_
        refine tp_get (cy := cy) (ci := 12) (v := .ref (r_57 1)) (C := RX12) (T := TX12) (N := 49) hx hb hta inlX12 hown hK hP ho.1 hf_56 rfl 1 (by decide) (hta _ wk_151) (fun _ h9 => h9) rfl dX12_numberHere_61 ?_
        refine lv_aload_n hx hb dX12_numberHere_64 rfl (lv_at hl 2 rfl) ?_
        refine tp_get (cy := cy) (ci := 12) (v := .int (v_58 1)) (C := RX12) (T := TX12) (N := 49) hx hb hta inlX12 hown hK hP ho.1 hf_56 rfl 17 (by decide) (hta _ wk_539) (fun _ h9 => h9) rfl dX12_numberHere_65 ?_
        obtain ⟨g_143, hf_142, hg_144⟩ := (show tp_g8 cy (400) (Γ (41, 400, 0)) (f (r_57 1)) from hI0.at (show tp_r L K 41 400 0 (r_57 1) from hr_60 1 (by decide)))
        have hn_145 : vp_in (v_58 1) (400) := tl_in (by omega) (by omega)
        refine tp_bald (cy := cy) hx hb hK hP (show tp_r L K 41 400 0 (r_57 1) from hr_60 1 (by decide)).1 ((tp_un hfr (show tp_r L K 41 400 0 (r_57 1) from hr_60 1 (by decide)) (by decide)).trans hf_142) hn_145 dX12_numberHere_68 ?_
        refine lv_topi (fun z_146 ez_146 => ?_)
        have iz_146 : z_146.toInt = τ (v_58 1).toInt.toNat := by rw [ez_146, ← ht]; exact hg_144 _ (tp_pin hn_145)
        have jz_146 : z_146.toInt = τ  (Γ_55 (39, 0, 0) 1).toNat := by rw [← hx_63]; exact iz_146
        refine lv_iadd hx hb dX12_numberHere_69 ?_
        refine lv_topi (fun z_147 ez_147 => ?_)
        try have iz_147 : z_147.toInt = z_141.toInt + z_146.toInt := by rw [ez_147]; exact tl_addN z_141 z_146 rfl rfl (by omega) (by omega)
        refine lv_bipush (v := 48) hx hb dX12_numberHere_70 (by decide) ?_
        refine lv_isub hx hb dX12_numberHere_72 ?_
        refine lv_topi (fun z_148 ez_148 => ?_)
        try have iz_148 : z_148.toInt = z_147.toInt - (48 : Int) := by rw [ez_148]; exact tl_subN z_147 48 rfl rfl (by omega) (by omega)
        refine lv_istore (lv' := [(4, .int z_148), (3, .int (v_31 1)), (0, .ref o), (1, .int p0), (2, .int p1)]) hx hb dX12_numberHere_73 hl (by decide) rfl (fun ls hl => ?_)
        refine lv_aload_n hx hb dX12_numberHere_75 rfl (lv_at hl 2 rfl) ?_
        refine lv_dup hx hb dX12_numberHere_76 rfl ?_
        refine tp_get (cy := cy) (ci := 12) (v := .int (v_58 1)) (C := RX12) (T := TX12) (N := 49) hx hb hta inlX12 hown hK hP ho.1 hf_56 rfl 17 (by decide) (hta _ wk_539) (fun _ h9 => h9) rfl dX12_numberHere_77 ?_
        refine lv_iconst (v := 1) hx hb dX12_numberHere_80 (by decide) ?_
        refine lv_iadd hx hb dX12_numberHere_81 ?_
        refine lv_topi (fun z_149 ez_149 => ?_)
        try have iz_149 : z_149.toInt = (v_58 1).toInt + (1 : Int) := by rw [ez_149]; exact tl_addN (v_58 1) 1 rfl rfl (by omega) (by omega)
        obtain ⟨Γ_150, eΓ_150⟩ : ∃ y : tk_G, y = tg Γ_55 (39, 0, 0) 1 z_149.toInt := ⟨_, rfl⟩
        have hv_151 : ∀ i : Nat, i < 16 → ((upd v_58 1 z_149) i).toInt = Γ_150 (39, 0, 0) i := by rw [eΓ_150, tg_f]; exact tp_gi_upd hv_61
        have hI9 : tp_I cy L K Γ_150 (va_up f_54 o (.inr (12, [.ref (r_57 0), .ref (r_57 1), .int (v_58 0), .ref (r_57 2), .ref (r_57 3), .ref (r_57 4), .ref (r_57 5), .ref (r_57 6), .ref (r_57 7), .ref (r_57 8), .ref (r_57 9), .ref (r_57 10), .ref (r_57 11), .ref (r_57 12), .ref (r_57 13), .ref (r_57 14), .ref (r_57 15), .int z_149, .int (v_58 2), .int (v_58 3), .int (v_58 4), .int (v_58 5), .int (v_58 6), .int (v_58 7), .ref (r_57 16), .int (v_58 8), .ref (r_57 17), .int (v_58 9), .ref (r_57 18), .long q_59, .ref (r_57 19), .ref (r_57 20), .int (v_58 10), .int (v_58 11), .int (v_58 12), .ref (r_57 21), .ref (r_57 22), .int (v_58 13), .ref (r_57 23), .int (v_58 14), .int (v_58 15), .ref (r_57 24), .ref (r_57 25), .ref (r_57 26), .ref (r_57 27), .ref (r_57 28), .ref (r_57 29), .ref (r_57 30), .ref (r_57 31)]))) := by have q9 := hv_151; rw [eΓ_150, tg_f] at q9; rw [eΓ_150]; exact hI.setg hU rfl ho (show tp_o_M L K 0 0 (tgu (Γ_55 (39, 0, 0)) 1 z_149.toInt) _ from ⟨r_57, (upd v_58 1 z_149), q_59, rfl, hr_60, q9⟩)
        have hfr9 : ∀ b, (K b).1 ∉ ([39] : List Nat) → va_up f_54 o (.inr (12, [.ref (r_57 0), .ref (r_57 1), .int (v_58 0), .ref (r_57 2), .ref (r_57 3), .ref (r_57 4), .ref (r_57 5), .ref (r_57 6), .ref (r_57 7), .ref (r_57 8), .ref (r_57 9), .ref (r_57 10), .ref (r_57 11), .ref (r_57 12), .ref (r_57 13), .ref (r_57 14), .ref (r_57 15), .int z_149, .int (v_58 2), .int (v_58 3), .int (v_58 4), .int (v_58 5), .int (v_58 6), .int (v_58 7), .ref (r_57 16), .int (v_58 8), .ref (r_57 17), .int (v_58 9), .ref (r_57 18), .long q_59, .ref (r_57 19), .ref (r_57 20), .int (v_58 10), .int (v_58 11), .int (v_58 12), .ref (r_57 21), .ref (r_57 22), .int (v_58 13), .ref (r_57 23), .int (v_58 14), .int (v_58 15), .ref (r_57 24), .ref (r_57 25), .ref (r_57 26), .ref (r_57 27), .ref (r_57 28), .ref (r_57 29), .ref (r_57 30), .ref (r_57 31)])) b = f b := tp_fr hfr ho (by decide)
        refine tp_put (cy := cy) (ci := 12) (v := .int z_149) (ty := tyX12 17) (C := RX12) (T := TX12) (N := 49) hx hb hta inlX12 tyX12 tyX12_ok nmX12 hown hK hP hD hS ho.1 hf_56 rfl 17 (by decide) (hta _ wk_539) (fun _ h9 => h9) rfl (tyX12_ok 17 (by decide)) rfl rfl (Nat.le_of_ble_eq_true rfl) dX12_numberHere_82 (fun H locs hP hD hS => ?_)
        have hP : va_P D vwCl (va_pl L (va_up f_54 o (.inr (12, [.ref (r_57 0), .ref (r_57 1), .int (v_58 0), .ref (r_57 2), .ref (r_57 3), .ref (r_57 4), .ref (r_57 5), .ref (r_57 6), .ref (r_57 7), .ref (r_57 8), .ref (r_57 9), .ref (r_57 10), .ref (r_57 11), .ref (r_57 12), .ref (r_57 13), .ref (r_57 14), .ref (r_57 15), .int z_149, .int (v_58 2), .int (v_58 3), .int (v_58 4), .int (v_58 5), .int (v_58 6), .int (v_58 7), .ref (r_57 16), .int (v_58 8), .ref (r_57 17), .int (v_58 9), .ref (r_57 18), .long q_59, .ref (r_57 19), .ref (r_57 20), .int (v_58 10), .int (v_58 11), .int (v_58 12), .ref (r_57 21), .ref (r_57 22), .int (v_58 13), .ref (r_57 23), .int (v_58 14), .int (v_58 15), .ref (r_57 24), .ref (r_57 25), .ref (r_57 26), .ref (r_57 27), .ref (r_57 28), .ref (r_57 29), .ref (r_57 30), .ref (r_57 31)])))) H := hP
        generalize hfe : va_up f_54 o (.inr (12, [.ref (r_57 0), .ref (r_57 1), .int (v_58 0), .ref (r_57 2), .ref (r_57 3), .ref (r_57 4), .ref (r_57 5), .ref (r_57 6), .ref (r_57 7), .ref (r_57 8), .ref (r_57 9), .ref (r_57 10), .ref (r_57 11), .ref (r_57 12), .ref (r_57 13), .ref (r_57 14), .ref (r_57 15), .int z_149, .int (v_58 2), .int (v_58 3), .int (v_58 4), .int (v_58 5), .int (v_58 6), .int (v_58 7), .ref (r_57 16), .int (v_58 8), .ref (r_57 17), .int (v_58 9), .ref (r_57 18), .long q_59, .ref (r_57 19), .ref (r_57 20), .int (v_58 10), .int (v_58 11), .int (v_58 12), .ref (r_57 21), .ref (r_57 22), .int (v_58 13), .ref (r_57 23), .int (v_58 14), .int (v_58 15), .ref (r_57 24), .ref (r_57 25), .ref (r_57 26), .ref (r_57 27), .ref (r_57 28), .ref (r_57 29), .ref (r_57 30), .ref (r_57 31)])) = f_152 at hP hI9 hfr9
        have hD : va_D A (va_pl L f_152) := tp_D hL hAL
        have hf_153 : f_152 o = .inr (12, [.ref (r_57 0), .ref (r_57 1), .int (v_58 0), .ref (r_57 2), .ref (r_57 3), .ref (r_57 4), .ref (r_57 5), .ref (r_57 6), .ref (r_57 7), .ref (r_57 8), .ref (r_57 9), .ref (r_57 10), .ref (r_57 11), .ref (r_57 12), .ref (r_57 13), .ref (r_57 14), .ref (r_57 15), .int z_149, .int (v_58 2), .int (v_58 3), .int (v_58 4), .int (v_58 5), .int (v_58 6), .int (v_58 7), .ref (r_57 16), .int (v_58 8), .ref (r_57 17), .int (v_58 9), .ref (r_57 18), .long q_59, .ref (r_57 19), .ref (r_57 20), .int (v_58 10), .int (v_58 11), .int (v_58 12), .ref (r_57 21), .ref (r_57 22), .int (v_58 13), .ref (r_57 23), .int (v_58 14), .int (v_58 15), .ref (r_57 24), .ref (r_57 25), .ref (r_57 26), .ref (r_57 27), .ref (r_57 28), .ref (r_57 29), .ref (r_57 30), .ref (r_57 31)]) := by rw [← hfe]; exact va_up_self _ _ _
        clear hfe
        have hI := hI9
        have hfr := hfr9
        clear hI9 hfr9
        have hgr : ∀ κ : tk_K, κ.1 ∉ ([39] : List Nat) → Γ_150 κ = Γ κ := tg_fr hgr eΓ_150 (by decide)
        have hx_154 : (v_58 0).toInt = Γ_150 (39, 0, 0) 0 := hv_151 0 (by decide)
        have hx_155 : z_149.toInt = Γ_150 (39, 0, 0) 1 := hv_151 1 (by decide)
        have hx_156 : (v_58 2).toInt = Γ_150 (39, 0, 0) 2 := hv_151 2 (by decide)
        have hx_157 : (v_58 3).toInt = Γ_150 (39, 0, 0) 3 := hv_151 3 (by decide)
        have hx_158 : (v_58 4).toInt = Γ_150 (39, 0, 0) 4 := hv_151 4 (by decide)
        have hx_159 : (v_58 5).toInt = Γ_150 (39, 0, 0) 5 := hv_151 5 (by decide)
        have hx_160 : (v_58 6).toInt = Γ_150 (39, 0, 0) 6 := hv_151 6 (by decide)
        have hx_161 : (v_58 7).toInt = Γ_150 (39, 0, 0) 7 := hv_151 7 (by decide)
        have hx_162 : (v_58 8).toInt = Γ_150 (39, 0, 0) 8 := hv_151 8 (by decide)
        have hx_163 : (v_58 9).toInt = Γ_150 (39, 0, 0) 9 := hv_151 9 (by decide)
        have hx_164 : (v_58 10).toInt = Γ_150 (39, 0, 0) 10 := hv_151 10 (by decide)
        have hx_165 : (v_58 11).toInt = Γ_150 (39, 0, 0) 11 := hv_151 11 (by decide)
        have hx_166 : (v_58 12).toInt = Γ_150 (39, 0, 0) 12 := hv_151 12 (by decide)
        have hx_167 : (v_58 13).toInt = Γ_150 (39, 0, 0) 13 := hv_151 13 (by decide)
        have hx_168 : (v_58 14).toInt = Γ_150 (39, 0, 0) 14 := hv_151 14 (by decide)
        have hx_169 : (v_58 15).toInt = Γ_150 (39, 0, 0) 15 := hv_151 15 (by decide)
        refine lv_goto (tgt := 34) hx hb dX12_numberHere_85 (by decide) ?_
        exact ih34 (f_152, Γ_150, z_148) H locs ls (by show (400 - Γ_150 (39, 0, 0) 1).toNat < (400 - Γ_55 (39, 0, 0) 1).toNat; omega) ⟨(show Γ_150 (39, 0, 0) 0 = Γ (39, 0, 0) 0 from (by omega)), (show Γ_150 (39, 0, 0) 4 = Γ (39, 0, 0) 4 from (by omega)), (show Γ_150 (39, 0, 0) 5 = Γ (39, 0, 0) 5 from (by omega)), (show Γ_150 (39, 0, 0) 6 = Γ (39, 0, 0) 6 from (by omega)), (show Γ_150 (39, 0, 0) 7 = Γ (39, 0, 0) 7 from (by omega)), (show Γ_150 (39, 0, 0) 8 = Γ (39, 0, 0) 8 from (by omega)), (show (v_31 1).toInt ≤ Γ_150 (39, 0, 0) 1 ∧ Γ_150 (39, 0, 0) 1 ≤ T0 from (by omega)), (show (v_31 1).toInt + 1 ≤ Γ_150 (39, 0, 0) 1 ∨ Γ_150 (39, 0, 0) 1 = (v_31 1).toInt from (by omega)), hP, hI, hfr, hgr, hS, lv_sub hl [0, 1, 2, 3, 4] rfl⟩
  · have c_53 := hw_51.f c_53
    refine lv_aload_n hx hb dX12_numberHere_16 rfl (lv_at hl 0 rfl) ?_
    refine lv_iconst (v := 0) hx hb dX12_numberHere_17 (by decide) ?_
    refine lv_aload_n hx hb dX12_numberHere_18 rfl (lv_at hl 0 rfl) ?_
    refine tp_get (cy := cy) (ci := 12) (v := .int (v_31 1)) (C := RX12) (T := TX12) (N := 49) hx hb hta inlX12 hown hK hP ho.1 hf_29 rfl 17 (by decide) (hta _ wk_539) (fun _ h9 => h9) rfl dX12_numberHere_19 ?_
    refine tq_ciR hS (hAf _ hS.1) (tq_rV (As := [.int 0, .int (v_31 1)]) (rest := []) ⟨hx, hb, hml, hown, hta⟩ (tp_P.pre hK hN hL hU hI hP) (tp_recv hK hP ho.1 hf_29 rfl) lk_X12_184 (r_X12_fails l D cy H.size L K Γ_27 f_25 o 0 (v_31 1) ho) rfl rfl ⟨Nat.le_of_ble_eq_true rfl, Nat.le_of_ble_eq_true rfl⟩ rfl hl.1 rfl (Nat.le_of_ble_eq_true rfl) dX12_numberHere_22 ⟨Nat.le_of_ble_eq_true rfl, Nat.le_of_ble_eq_true rfl⟩) (fun r_171 f_172 Γ_174 H locs hw_170 hP hI hc_173 hcg_175 hS => ?_)
    have hD : va_D A (va_pl L f_172) := tp_D hL hAL
    have hfr := tp_fr2 hfr hc_173 (by decide)
    have hgr : ∀ κ : tk_K, κ.1 ∉ ([39] : List Nat) → Γ_174 κ = Γ κ := tg_fr2 hgr hcg_175 (by decide)
    obtain ⟨rfl, hw_170⟩ := hw_170
    have hw_170 : Γ_174 (39, 0, 0) 0 = Γ_27 (39, 0, 0) 0 ∧ Γ_174 (39, 0, 0) 1 = Γ_27 (39, 0, 0) 1 ∧ Γ_174 (39, 0, 0) 3 = Γ_27 (39, 0, 0) 3 ∧ Γ_174 (39, 0, 0) 4 = Γ_27 (39, 0, 0) 4 ∧ Γ_174 (39, 0, 0) 5 = Γ_27 (39, 0, 0) 5 ∧ Γ_174 (39, 0, 0) 6 = Γ_27 (39, 0, 0) 6 ∧ Γ_174 (39, 0, 0) 7 = Γ_27 (39, 0, 0) 7 ∧ Γ_174 (39, 0, 0) 8 = Γ_27 (39, 0, 0) 8 := hw_170
    have hpo9 : tl_J (0 : Int32) (p0.toInt ≤ Γ_174 (39, 0, 0) 3 ∧ Γ_174 (39, 0, 0) 3 ≤ p1.toInt ∧ Γ (39, 0, 0) 1 + 1 ≤ Γ_174 (39, 0, 0) 1) ∧ Γ_174 (39, 0, 0) 0 = Γ (39, 0, 0) 0 ∧ Γ_174 (39, 0, 0) 4 = Γ (39, 0, 0) 4 ∧ Γ_174 (39, 0, 0) 5 = Γ (39, 0, 0) 5 ∧ Γ_174 (39, 0, 0) 6 = Γ (39, 0, 0) 6 ∧ Γ_174 (39, 0, 0) 7 = Γ (39, 0, 0) 7 ∧ Γ_174 (39, 0, 0) 8 = Γ (39, 0, 0) 8 ∧ Γ (39, 0, 0) 1 ≤ Γ_174 (39, 0, 0) 1 ∧ Γ_174 (39, 0, 0) 1 ≤ T0 := ⟨(Or.inr rfl), ⟨(by omega), (by omega), (by omega), (by omega), (by omega), (by omega), (by omega), (by omega)⟩⟩
    exact W.zret (ty := .boolean) (v := 0) hx hb hr rfl (fun t ht hW => ⟨⟨_, (f_172, Γ_174), rfl, hpo9, by rw [ht]; exact hP, hI, hfr, hgr⟩, hS.F ht⟩) hS.2.2 dX12_numberHere_25
set_option maxHeartbeats 4000000 in
set_option maxRecDepth 100000 in
theorem r_X12_makes (l : Launch) (D : va_G) (cy : Nat → ClassId) (sz : Nat) (L : List Nat) (K : Nat → tk_K) (Γ : tk_G) (f : Nat → va_E) (o : Nat) (p0 : Int32) (ho : tp_r L K 39 (0) 0 o) (h5 : 0 ≤ Γ (39, 0, 0) 5 ∧ Γ (39, 0, 0) 5 ≤ 60) : Met l yX12_makes (tl_w yX12_makes cX12_makes 2 (some .boolean)) ({ frames := 1, cells := 0, slots := 0, locals := 22 }) (va_Pc [.ref o, .int p0] (tp_P D cy L K Γ f sz)) (va_Qi (fun (r : Int32) (u : (Nat → va_E) × tk_G) => tl_J r (u.2 (39, 0, 0) 5 = Γ (39, 0, 0) 5 + 1) ∧ u.2 (39, 0, 0) 0 = Γ (39, 0, 0) 0 ∧ u.2 (39, 0, 0) 1 = Γ (39, 0, 0) 1 ∧ u.2 (39, 0, 0) 3 = Γ (39, 0, 0) 3 ∧ u.2 (39, 0, 0) 4 = Γ (39, 0, 0) 4 ∧ u.2 (39, 0, 0) 6 = Γ (39, 0, 0) 6 ∧ u.2 (39, 0, 0) 7 = Γ (39, 0, 0) 7 ∧ u.2 (39, 0, 0) 8 = Γ (39, 0, 0) 8 ∧ Γ (39, 0, 0) 5 ≤ u.2 (39, 0, 0) 5 ∧ u.2 (39, 0, 0) 5 ≤ 60) (tp_BG D cy L K Γ f [39]) (tp_A L sz)) 0 0 (tp_A L sz) := by
  refine Met.ofW (cc := cX12_makes) (maxL := 2) (ret := (some .boolean)) (by decide) rfl ?_
  intro p e s m args below meth c s₁ B hml hv
  obtain ⟨rfl, hsz, hP, hK, hL, hI, hN, hU⟩ := hv
  have hx := B.exec
  have hb := B.bytes
  have hr := B.returns
  have hta := tl_hta (atoms_spec (ws := tl_w yX12_makes cX12_makes 2 (some .boolean)) B.pre)
  have hown : s.vm.findClass RX12 = some m.cls := findClass_of_methodNamed B.named
  have hlocks := B.notSynchronized
  subst hsz
  have hI0 := hI
  generalize hAe : tp_A L s.heap.size = A
  have hA : ∀ q : Nat, s.heap.size ≤ q → A q := fun q h => by rw [← hAe]; exact Or.inr h
  have hAL : ∀ q ∈ L, A q := fun q h => by rw [← hAe]; exact Or.inl h
  have hAf : ∀ (H : Heap), s.heap.size ≤ H.size → ∀ q, tp_A L H.size q → A q := fun H h q hq => hq.elim (hAL q) (fun h2 => hA q (Nat.le_trans h h2))
  have hS : va_S A s.heap s.heap [] := va_S.rf
  have hD : va_D A (va_pl L f) := tp_D hL hAL
  have hfr : ∀ b, (K b).1 ∉ ([39] : List Nat) → f b = f b := fun _ _ => rfl
  have hgr : ∀ κ : tk_K, κ.1 ∉ ([39] : List Nat) → Γ κ = Γ κ := fun _ _ => rfl
  have hl := lv_entry ([.ref o, .int p0]) (n := 2) (Nat.le_of_ble_eq_true rfl)
  rw [lg_entry_eq]
  generalize (lg_sl ([.ref o, .int p0]) ++ List.replicate (2 - (lg_sl ([.ref o, .int p0])).length) Slot.unset).toArray = ls at hl ⊢
  have hl : lv_has ls 2 [(0, .ref o), (1, .int p0)] := hl
  refine lv_aload_n hx hb dX12_makes_0 rfl (lv_at hl 0 rfl) ?_
  obtain ⟨r_2, v_3, q_4, hf_1, hr_5, hv_6⟩ := (show tp_o_M L K 0 0 (Γ (39, 0, 0)) (f o) from hI.at ho)
  have hx_7 : (v_3 0).toInt = Γ (39, 0, 0) 0 := hv_6 0 (by decide)
  have hx_8 : (v_3 1).toInt = Γ (39, 0, 0) 1 := hv_6 1 (by decide)
  have hx_9 : (v_3 2).toInt = Γ (39, 0, 0) 2 := hv_6 2 (by decide)
  have hx_10 : (v_3 3).toInt = Γ (39, 0, 0) 3 := hv_6 3 (by decide)
  have hx_11 : (v_3 4).toInt = Γ (39, 0, 0) 4 := hv_6 4 (by decide)
  have hx_12 : (v_3 5).toInt = Γ (39, 0, 0) 5 := hv_6 5 (by decide)
  have hx_13 : (v_3 6).toInt = Γ (39, 0, 0) 6 := hv_6 6 (by decide)
  have hx_14 : (v_3 7).toInt = Γ (39, 0, 0) 7 := hv_6 7 (by decide)
  have hx_15 : (v_3 8).toInt = Γ (39, 0, 0) 8 := hv_6 8 (by decide)
  have hx_16 : (v_3 9).toInt = Γ (39, 0, 0) 9 := hv_6 9 (by decide)
  have hx_17 : (v_3 10).toInt = Γ (39, 0, 0) 10 := hv_6 10 (by decide)
  have hx_18 : (v_3 11).toInt = Γ (39, 0, 0) 11 := hv_6 11 (by decide)
  have hx_19 : (v_3 12).toInt = Γ (39, 0, 0) 12 := hv_6 12 (by decide)
  have hx_20 : (v_3 13).toInt = Γ (39, 0, 0) 13 := hv_6 13 (by decide)
  have hx_21 : (v_3 14).toInt = Γ (39, 0, 0) 14 := hv_6 14 (by decide)
  have hx_22 : (v_3 15).toInt = Γ (39, 0, 0) 15 := hv_6 15 (by decide)
  refine tp_get (cy := cy) (ci := 12) (v := .int (v_3 5)) (C := RX12) (T := TX12) (N := 49) hx hb hta inlX12 hown hK hP ho.1 hf_1 rfl 21 (by decide) (hta _ wk_541) (fun _ h9 => h9) rfl dX12_makes_1 ?_
  refine lv_bipush (v := 60) hx hb dX12_makes_4 (by decide) ?_
  refine lv_icmp_ne (tgt := 16) hx hb dX12_makes_6 (by decide) (fun c_23 => ?_) (fun c_23 => ?_)
  · have c_23 : ¬ (v_3 5).toInt = (60 : Int) := tl_neq c_23
    refine lv_aload_n hx hb dX12_makes_16 rfl (lv_at hl 0 rfl) ?_
    refine lv_dup hx hb dX12_makes_17 rfl ?_
    refine tp_get (cy := cy) (ci := 12) (v := .int (v_3 5)) (C := RX12) (T := TX12) (N := 49) hx hb hta inlX12 hown hK hP ho.1 hf_1 rfl 21 (by decide) (hta _ wk_541) (fun _ h9 => h9) rfl dX12_makes_18 ?_
    refine lv_iconst (v := 1) hx hb dX12_makes_21 (by decide) ?_
    refine lv_iadd hx hb dX12_makes_22 ?_
    refine lv_topi (fun z_24 ez_24 => ?_)
    try have iz_24 : z_24.toInt = (v_3 5).toInt + (1 : Int) := by rw [ez_24]; exact tl_addN (v_3 5) 1 rfl rfl (by omega) (by omega)
    obtain ⟨Γ_25, eΓ_25⟩ : ∃ y : tk_G, y = tg Γ (39, 0, 0) 5 z_24.toInt := ⟨_, rfl⟩
    have hv_26 : ∀ i : Nat, i < 16 → ((upd v_3 5 z_24) i).toInt = Γ_25 (39, 0, 0) i := by rw [eΓ_25, tg_f]; exact tp_gi_upd hv_6
    have hI9 : tp_I cy L K Γ_25 (va_up f o (.inr (12, [.ref (r_2 0), .ref (r_2 1), .int (v_3 0), .ref (r_2 2), .ref (r_2 3), .ref (r_2 4), .ref (r_2 5), .ref (r_2 6), .ref (r_2 7), .ref (r_2 8), .ref (r_2 9), .ref (r_2 10), .ref (r_2 11), .ref (r_2 12), .ref (r_2 13), .ref (r_2 14), .ref (r_2 15), .int (v_3 1), .int (v_3 2), .int (v_3 3), .int (v_3 4), .int z_24, .int (v_3 6), .int (v_3 7), .ref (r_2 16), .int (v_3 8), .ref (r_2 17), .int (v_3 9), .ref (r_2 18), .long q_4, .ref (r_2 19), .ref (r_2 20), .int (v_3 10), .int (v_3 11), .int (v_3 12), .ref (r_2 21), .ref (r_2 22), .int (v_3 13), .ref (r_2 23), .int (v_3 14), .int (v_3 15), .ref (r_2 24), .ref (r_2 25), .ref (r_2 26), .ref (r_2 27), .ref (r_2 28), .ref (r_2 29), .ref (r_2 30), .ref (r_2 31)]))) := by have q9 := hv_26; rw [eΓ_25, tg_f] at q9; rw [eΓ_25]; exact hI.setg hU rfl ho (show tp_o_M L K 0 0 (tgu (Γ (39, 0, 0)) 5 z_24.toInt) _ from ⟨r_2, (upd v_3 5 z_24), q_4, rfl, hr_5, q9⟩)
    have hfr9 : ∀ b, (K b).1 ∉ ([39] : List Nat) → va_up f o (.inr (12, [.ref (r_2 0), .ref (r_2 1), .int (v_3 0), .ref (r_2 2), .ref (r_2 3), .ref (r_2 4), .ref (r_2 5), .ref (r_2 6), .ref (r_2 7), .ref (r_2 8), .ref (r_2 9), .ref (r_2 10), .ref (r_2 11), .ref (r_2 12), .ref (r_2 13), .ref (r_2 14), .ref (r_2 15), .int (v_3 1), .int (v_3 2), .int (v_3 3), .int (v_3 4), .int z_24, .int (v_3 6), .int (v_3 7), .ref (r_2 16), .int (v_3 8), .ref (r_2 17), .int (v_3 9), .ref (r_2 18), .long q_4, .ref (r_2 19), .ref (r_2 20), .int (v_3 10), .int (v_3 11), .int (v_3 12), .ref (r_2 21), .ref (r_2 22), .int (v_3 13), .ref (r_2 23), .int (v_3 14), .int (v_3 15), .ref (r_2 24), .ref (r_2 25), .ref (r_2 26), .ref (r_2 27), .ref (r_2 28), .ref (r_2 29), .ref (r_2 30), .ref (r_2 31)])) b = f b := tp_fr hfr ho (by decide)
    refine tp_put (cy := cy) (ci := 12) (v := .int z_24) (ty := tyX12 21) (C := RX12) (T := TX12) (N := 49) hx hb hta inlX12 tyX12 tyX12_ok nmX12 hown hK hP hD hS ho.1 hf_1 rfl 21 (by decide) (hta _ wk_541) (fun _ h9 => h9) rfl (tyX12_ok 21 (by decide)) rfl rfl (Nat.le_of_ble_eq_true rfl) dX12_makes_23 (fun H locs hP hD hS => ?_)
    have hP : va_P D vwCl (va_pl L (va_up f o (.inr (12, [.ref (r_2 0), .ref (r_2 1), .int (v_3 0), .ref (r_2 2), .ref (r_2 3), .ref (r_2 4), .ref (r_2 5), .ref (r_2 6), .ref (r_2 7), .ref (r_2 8), .ref (r_2 9), .ref (r_2 10), .ref (r_2 11), .ref (r_2 12), .ref (r_2 13), .ref (r_2 14), .ref (r_2 15), .int (v_3 1), .int (v_3 2), .int (v_3 3), .int (v_3 4), .int z_24, .int (v_3 6), .int (v_3 7), .ref (r_2 16), .int (v_3 8), .ref (r_2 17), .int (v_3 9), .ref (r_2 18), .long q_4, .ref (r_2 19), .ref (r_2 20), .int (v_3 10), .int (v_3 11), .int (v_3 12), .ref (r_2 21), .ref (r_2 22), .int (v_3 13), .ref (r_2 23), .int (v_3 14), .int (v_3 15), .ref (r_2 24), .ref (r_2 25), .ref (r_2 26), .ref (r_2 27), .ref (r_2 28), .ref (r_2 29), .ref (r_2 30), .ref (r_2 31)])))) H := hP
    generalize hfe : va_up f o (.inr (12, [.ref (r_2 0), .ref (r_2 1), .int (v_3 0), .ref (r_2 2), .ref (r_2 3), .ref (r_2 4), .ref (r_2 5), .ref (r_2 6), .ref (r_2 7), .ref (r_2 8), .ref (r_2 9), .ref (r_2 10), .ref (r_2 11), .ref (r_2 12), .ref (r_2 13), .ref (r_2 14), .ref (r_2 15), .int (v_3 1), .int (v_3 2), .int (v_3 3), .int (v_3 4), .int z_24, .int (v_3 6), .int (v_3 7), .ref (r_2 16), .int (v_3 8), .ref (r_2 17), .int (v_3 9), .ref (r_2 18), .long q_4, .ref (r_2 19), .ref (r_2 20), .int (v_3 10), .int (v_3 11), .int (v_3 12), .ref (r_2 21), .ref (r_2 22), .int (v_3 13), .ref (r_2 23), .int (v_3 14), .int (v_3 15), .ref (r_2 24), .ref (r_2 25), .ref (r_2 26), .ref (r_2 27), .ref (r_2 28), .ref (r_2 29), .ref (r_2 30), .ref (r_2 31)])) = f_27 at hP hI9 hfr9
    have hD : va_D A (va_pl L f_27) := tp_D hL hAL
    have hf_28 : f_27 o = .inr (12, [.ref (r_2 0), .ref (r_2 1), .int (v_3 0), .ref (r_2 2), .ref (r_2 3), .ref (r_2 4), .ref (r_2 5), .ref (r_2 6), .ref (r_2 7), .ref (r_2 8), .ref (r_2 9), .ref (r_2 10), .ref (r_2 11), .ref (r_2 12), .ref (r_2 13), .ref (r_2 14), .ref (r_2 15), .int (v_3 1), .int (v_3 2), .int (v_3 3), .int (v_3 4), .int z_24, .int (v_3 6), .int (v_3 7), .ref (r_2 16), .int (v_3 8), .ref (r_2 17), .int (v_3 9), .ref (r_2 18), .long q_4, .ref (r_2 19), .ref (r_2 20), .int (v_3 10), .int (v_3 11), .int (v_3 12), .ref (r_2 21), .ref (r_2 22), .int (v_3 13), .ref (r_2 23), .int (v_3 14), .int (v_3 15), .ref (r_2 24), .ref (r_2 25), .ref (r_2 26), .ref (r_2 27), .ref (r_2 28), .ref (r_2 29), .ref (r_2 30), .ref (r_2 31)]) := by rw [← hfe]; exact va_up_self _ _ _
    clear hfe
    have hI := hI9
    have hfr := hfr9
    clear hI9 hfr9
    have hgr : ∀ κ : tk_K, κ.1 ∉ ([39] : List Nat) → Γ_25 κ = Γ κ := tg_fr hgr eΓ_25 (by decide)
    have hx_29 : (v_3 0).toInt = Γ_25 (39, 0, 0) 0 := hv_26 0 (by decide)
    have hx_30 : (v_3 1).toInt = Γ_25 (39, 0, 0) 1 := hv_26 1 (by decide)
    have hx_31 : (v_3 2).toInt = Γ_25 (39, 0, 0) 2 := hv_26 2 (by decide)
    have hx_32 : (v_3 3).toInt = Γ_25 (39, 0, 0) 3 := hv_26 3 (by decide)
    have hx_33 : (v_3 4).toInt = Γ_25 (39, 0, 0) 4 := hv_26 4 (by decide)
    have hx_34 : z_24.toInt = Γ_25 (39, 0, 0) 5 := hv_26 5 (by decide)
    have hx_35 : (v_3 6).toInt = Γ_25 (39, 0, 0) 6 := hv_26 6 (by decide)
    have hx_36 : (v_3 7).toInt = Γ_25 (39, 0, 0) 7 := hv_26 7 (by decide)
    have hx_37 : (v_3 8).toInt = Γ_25 (39, 0, 0) 8 := hv_26 8 (by decide)
    have hx_38 : (v_3 9).toInt = Γ_25 (39, 0, 0) 9 := hv_26 9 (by decide)
    have hx_39 : (v_3 10).toInt = Γ_25 (39, 0, 0) 10 := hv_26 10 (by decide)
    have hx_40 : (v_3 11).toInt = Γ_25 (39, 0, 0) 11 := hv_26 11 (by decide)
    have hx_41 : (v_3 12).toInt = Γ_25 (39, 0, 0) 12 := hv_26 12 (by decide)
    have hx_42 : (v_3 13).toInt = Γ_25 (39, 0, 0) 13 := hv_26 13 (by decide)
    have hx_43 : (v_3 14).toInt = Γ_25 (39, 0, 0) 14 := hv_26 14 (by decide)
    have hx_44 : (v_3 15).toInt = Γ_25 (39, 0, 0) 15 := hv_26 15 (by decide)
    refine lv_iconst (v := 1) hx hb dX12_makes_26 (by decide) ?_
    have hpo9 : tl_J (1 : Int32) (Γ_25 (39, 0, 0) 5 = Γ (39, 0, 0) 5 + 1) ∧ Γ_25 (39, 0, 0) 0 = Γ (39, 0, 0) 0 ∧ Γ_25 (39, 0, 0) 1 = Γ (39, 0, 0) 1 ∧ Γ_25 (39, 0, 0) 3 = Γ (39, 0, 0) 3 ∧ Γ_25 (39, 0, 0) 4 = Γ (39, 0, 0) 4 ∧ Γ_25 (39, 0, 0) 6 = Γ (39, 0, 0) 6 ∧ Γ_25 (39, 0, 0) 7 = Γ (39, 0, 0) 7 ∧ Γ_25 (39, 0, 0) 8 = Γ (39, 0, 0) 8 ∧ Γ (39, 0, 0) 5 ≤ Γ_25 (39, 0, 0) 5 ∧ Γ_25 (39, 0, 0) 5 ≤ 60 := ⟨(Or.inl ⟨rfl, (by omega)⟩), ⟨(by omega), (by omega), (by omega), (by omega), (by omega), (by omega), (by omega), (by omega), (by omega)⟩⟩
    exact W.zret (ty := .boolean) (v := 1) hx hb hr rfl (fun t ht hW => ⟨⟨_, (f_27, Γ_25), rfl, hpo9, by rw [ht]; exact hP, hI, hfr, hgr⟩, hS.F ht⟩) hS.2.2 dX12_makes_27
  · have c_23 : (v_3 5).toInt = (60 : Int) := tl_eq c_23
    refine lv_aload_n hx hb dX12_makes_9 rfl (lv_at hl 0 rfl) ?_
    refine lv_iconst (v := 3) hx hb dX12_makes_10 (by decide) ?_
    refine lv_iload_n hx hb dX12_makes_11 rfl (lv_at hl 1 rfl) ?_
    refine tq_ciR hS (hAf _ hS.1) (tq_rV (As := [.int 3, .int p0]) (rest := []) ⟨hx, hb, hml, hown, hta⟩ (tp_P.pre hK hN hL hU hI hP) (tp_recv hK hP ho.1 hf_1 rfl) lk_X12_184 (r_X12_fails l D cy s.heap.size L K Γ f o 3 p0 ho) rfl rfl ⟨Nat.le_of_ble_eq_true rfl, Nat.le_of_ble_eq_true rfl⟩ rfl hl.1 rfl (Nat.le_of_ble_eq_true rfl) dX12_makes_12 ⟨Nat.le_of_ble_eq_true rfl, Nat.le_of_ble_eq_true rfl⟩) (fun r_46 f_47 Γ_49 H locs hw_45 hP hI hc_48 hcg_50 hS => ?_)
    have hD : va_D A (va_pl L f_47) := tp_D hL hAL
    have hfr := tp_fr2 hfr hc_48 (by decide)
    have hgr : ∀ κ : tk_K, κ.1 ∉ ([39] : List Nat) → Γ_49 κ = Γ κ := tg_fr2 hgr hcg_50 (by decide)
    obtain ⟨rfl, hw_45⟩ := hw_45
    have hw_45 : Γ_49 (39, 0, 0) 0 = Γ (39, 0, 0) 0 ∧ Γ_49 (39, 0, 0) 1 = Γ (39, 0, 0) 1 ∧ Γ_49 (39, 0, 0) 3 = Γ (39, 0, 0) 3 ∧ Γ_49 (39, 0, 0) 4 = Γ (39, 0, 0) 4 ∧ Γ_49 (39, 0, 0) 5 = Γ (39, 0, 0) 5 ∧ Γ_49 (39, 0, 0) 6 = Γ (39, 0, 0) 6 ∧ Γ_49 (39, 0, 0) 7 = Γ (39, 0, 0) 7 ∧ Γ_49 (39, 0, 0) 8 = Γ (39, 0, 0) 8 := hw_45
    have hpo9 : tl_J (0 : Int32) (Γ_49 (39, 0, 0) 5 = Γ (39, 0, 0) 5 + 1) ∧ Γ_49 (39, 0, 0) 0 = Γ (39, 0, 0) 0 ∧ Γ_49 (39, 0, 0) 1 = Γ (39, 0, 0) 1 ∧ Γ_49 (39, 0, 0) 3 = Γ (39, 0, 0) 3 ∧ Γ_49 (39, 0, 0) 4 = Γ (39, 0, 0) 4 ∧ Γ_49 (39, 0, 0) 6 = Γ (39, 0, 0) 6 ∧ Γ_49 (39, 0, 0) 7 = Γ (39, 0, 0) 7 ∧ Γ_49 (39, 0, 0) 8 = Γ (39, 0, 0) 8 ∧ Γ (39, 0, 0) 5 ≤ Γ_49 (39, 0, 0) 5 ∧ Γ_49 (39, 0, 0) 5 ≤ 60 := ⟨(Or.inr rfl), ⟨(by omega), (by omega), (by omega), (by omega), (by omega), (by omega), (by omega), (by omega), (by omega)⟩⟩
    exact W.zret (ty := .boolean) (v := 0) hx hb hr rfl (fun t ht hW => ⟨⟨_, (f_47, Γ_49), rfl, hpo9, by rw [ht]; exact hP, hI, hfr, hgr⟩, hS.F ht⟩) hS.2.2 dX12_makes_15
set_option maxHeartbeats 4000000 in
set_option maxRecDepth 100000 in
theorem r_X12_wordHere (l : Launch) (D : va_G) (cy : Nat → ClassId) (sz : Nat) (L : List Nat) (K : Nat → tk_K) (Γ : tk_G) (f : Nat → va_E) (o : Nat) (τ : Nat → Int) (T0 : Int) (ho : tp_r L K 39 (0) 0 o) (ht : Γ (41, 400, 0) = τ) (hT : Γ (39, 0, 0) 0 = T0) (hb0 : 0 ≤ Γ (39, 0, 0) 1 ∧ Γ (39, 0, 0) 1 ≤ T0 ∧ T0 ≤ 400) : Met l yX12_wordHere (tl_w yX12_wordHere cX12_wordHere 1 (some .int)) ({ frames := 2, cells := 0, slots := 0, locals := 46 }) (va_Pc [.ref o] (tp_P D cy L K Γ f sz)) (va_Qi (fun (r : Int32) (u : (Nat → va_E) × tk_G) => u.2 (39, 0, 0) 0 = Γ (39, 0, 0) 0 ∧ u.2 (39, 0, 0) 3 = Γ (39, 0, 0) 3 ∧ u.2 (39, 0, 0) 4 = Γ (39, 0, 0) 4 ∧ u.2 (39, 0, 0) 5 = Γ (39, 0, 0) 5 ∧ u.2 (39, 0, 0) 6 = Γ (39, 0, 0) 6 ∧ u.2 (39, 0, 0) 7 = Γ (39, 0, 0) 7 ∧ u.2 (39, 0, 0) 8 = Γ (39, 0, 0) 8 ∧ Γ (39, 0, 0) 1 ≤ u.2 (39, 0, 0) 1 ∧ u.2 (39, 0, 0) 1 ≤ T0 ∧ (r.toInt = -1 ∨ (0 ≤ r.toInt ∧ r.toInt ≤ 4 ∧ tr_L τ T0 (u.2 (39, 0, 0) 1)))) (tp_BG D cy L K Γ f [39]) (tp_A L sz)) 0 0 (tp_A L sz) := by
  refine Met.ofW (cc := cX12_wordHere) (maxL := 1) (ret := (some .int)) (by decide) rfl ?_
  intro p e s m args below meth c s₁ B hml hv
  obtain ⟨rfl, hsz, hP, hK, hL, hI, hN, hU⟩ := hv
  have hx := B.exec
  have hb := B.bytes
  have hr := B.returns
  have hta := tl_hta (atoms_spec (ws := tl_w yX12_wordHere cX12_wordHere 1 (some .int)) B.pre)
  have hown : s.vm.findClass RX12 = some m.cls := findClass_of_methodNamed B.named
  have hlocks := B.notSynchronized
  subst hsz
  have hI0 := hI
  generalize hAe : tp_A L s.heap.size = A
  have hA : ∀ q : Nat, s.heap.size ≤ q → A q := fun q h => by rw [← hAe]; exact Or.inr h
  have hAL : ∀ q ∈ L, A q := fun q h => by rw [← hAe]; exact Or.inl h
  have hAf : ∀ (H : Heap), s.heap.size ≤ H.size → ∀ q, tp_A L H.size q → A q := fun H h q hq => hq.elim (hAL q) (fun h2 => hA q (Nat.le_trans h h2))
  have hS : va_S A s.heap s.heap [] := va_S.rf
  have hD : va_D A (va_pl L f) := tp_D hL hAL
  have hfr : ∀ b, (K b).1 ∉ ([39] : List Nat) → f b = f b := fun _ _ => rfl
  have hgr : ∀ κ : tk_K, κ.1 ∉ ([39] : List Nat) → Γ κ = Γ κ := fun _ _ => rfl
  have hl := lv_entry ([.ref o]) (n := 1) (Nat.le_of_ble_eq_true rfl)
  rw [lg_entry_eq]
  generalize (lg_sl ([.ref o]) ++ List.replicate (1 - (lg_sl ([.ref o])).length) Slot.unset).toArray = ls at hl ⊢
  have hl : lv_has ls 1 [(0, .ref o)] := hl
  refine lv_aload_n hx hb dX12_wordHere_0 rfl (lv_at hl 0 rfl) ?_
  refine lv_aload_n hx hb dX12_wordHere_1 rfl (lv_at hl 0 rfl) ?_
  obtain ⟨r_2, v_3, q_4, hf_1, hr_5, hv_6⟩ := (show tp_o_M L K 0 0 (Γ (39, 0, 0)) (f o) from hI.at ho)
  have hx_11 : (v_3 4).toInt = Γ (39, 0, 0) 4 := hv_6 4 (by decide)
  refine tp_get (cy := cy) (ci := 12) (v := .int (v_3 4)) (C := RX12) (T := TX12) (N := 49) hx hb hta inlX12 hown hK hP ho.1 hf_1 rfl 20 (by decide) (hta _ wk_537) (fun _ h9 => h9) rfl dX12_wordHere_2 ?_
  refine tl_si (tq_rV (As := [.int (v_3 4)]) (rest := []) ⟨hx, hb, hml, hown, hta⟩ (tp_P.pre hK hN hL hU hI hP) (tp_recv hK hP ho.1 hf_1 rfl) lk_X12_194 (r_X12_kindOf l D cy s.heap.size L K Γ f o (v_3 4) ho) rfl rfl ⟨Nat.le_of_ble_eq_true rfl, Nat.le_of_ble_eq_true rfl⟩ rfl hl.1 rfl (Nat.le_of_ble_eq_true rfl) dX12_wordHere_5 ⟨Nat.le_of_ble_eq_true rfl, Nat.le_of_ble_eq_true rfl⟩) (fun r_24 hw_23 => ?_)
  have hw_23 : ((v_3 4).toInt < 6 ∧ r_24.toInt = 0) ∨ (6 ≤ (v_3 4).toInt ∧ (v_3 4).toInt < 14 ∧ r_24.toInt = 1) ∨ (14 ≤ (v_3 4).toInt ∧ r_24.toInt = 2) := hw_23
  refine lv_iconst (v := 2) hx hb dX12_wordHere_8 (by decide) ?_
  refine lv_icmp_ge (tgt := 70) hx hb dX12_wordHere_9 (by decide) (fun c_25 => ?_) (fun c_25 => ?_)
  · have c_25 : (2 : Int) ≤ r_24.toInt := tl_le c_25
    refine lv_aload_n hx hb dX12_wordHere_70 rfl (lv_at hl 0 rfl) ?_
    refine lv_ldc2 (v := 465624852596) hx hb hown (hta _ wk_644) dX12_wordHere_71 ?_
    refine tq_ciR hS (hAf _ hS.1) (tq_rV (As := [.long 465624852596]) (rest := []) ⟨hx, hb, hml, hown, hta⟩ (tp_P.pre hK hN hL hU hI hP) (tp_recv hK hP ho.1 hf_1 rfl) lk_X12_174 (r_X12_isWord l D cy s.heap.size L K Γ f o 465624852596 τ T0 ho ht (by first | omega | (simp only [Int32.toInt_toInt64]; omega) | decide | assumption) (by first | omega | (simp only [Int32.toInt_toInt64]; omega) | decide | assumption)) rfl rfl ⟨Nat.le_of_ble_eq_true rfl, Nat.le_of_ble_eq_true rfl⟩ rfl hl.1 rfl (Nat.le_of_ble_eq_true rfl) dX12_wordHere_74 ⟨Nat.le_of_ble_eq_true rfl, Nat.le_of_ble_eq_true rfl⟩) (fun r_27 f_28 Γ_30 H locs hw_26 hP hI hc_29 hcg_31 hS => ?_)
    have hD : va_D A (va_pl L f_28) := tp_D hL hAL
    have hfr := tp_fr2 hfr hc_29 (by decide)
    have hgr : ∀ κ : tk_K, κ.1 ∉ ([39] : List Nat) → Γ_30 κ = Γ κ := tg_fr2 hgr hcg_31 (by decide)
    obtain ⟨hE_32, hw_26⟩ := hw_26
    have hE_32 : tl_E r_27 (tr_W τ T0 (Γ_30 (39, 0, 0) 1) 465624852596) 1 0 := hE_32
    have hw_26 : Γ_30 (39, 0, 0) 0 = Γ (39, 0, 0) 0 ∧ Γ_30 (39, 0, 0) 3 = Γ (39, 0, 0) 3 ∧ Γ_30 (39, 0, 0) 4 = Γ (39, 0, 0) 4 ∧ Γ_30 (39, 0, 0) 5 = Γ (39, 0, 0) 5 ∧ Γ_30 (39, 0, 0) 6 = Γ (39, 0, 0) 6 ∧ Γ_30 (39, 0, 0) 7 = Γ (39, 0, 0) 7 ∧ Γ_30 (39, 0, 0) 8 = Γ (39, 0, 0) 8 ∧ Γ (39, 0, 0) 1 ≤ Γ_30 (39, 0, 0) 1 ∧ Γ_30 (39, 0, 0) 1 ≤ T0 ∧ (¬ τ (Γ (39, 0, 0) 1).toNat = 32 → Γ_30 (39, 0, 0) 1 = Γ (39, 0, 0) 1) := hw_26
    refine lv_if_eq (tgt := 84) hx hb dX12_wordHere_77 (by decide) (fun c_33 => ?_) (fun c_33 => ?_)
    · have c_33 := hE_32.f c_33
      refine lv_aload_n hx hb dX12_wordHere_84 rfl (lv_at hl 0 rfl) ?_
      refine lv_ldc2 (v := 1751474548) hx hb hown (hta _ wk_645) dX12_wordHere_85 ?_
      obtain ⟨r_35, v_36, q_37, hf_34, hr_38, hv_39⟩ := (show tp_o_M L K 0 0 (Γ_30 (39, 0, 0)) (f_28 o) from hI.at ho)
      refine tq_ciR hS (hAf _ hS.1) (tq_rV (As := [.long 1751474548]) (rest := []) ⟨hx, hb, hml, hown, hta⟩ (tp_P.pre hK hN hL hU hI hP) (tp_recv hK hP ho.1 hf_34 rfl) lk_X12_174 (r_X12_isWord l D cy H.size L K Γ_30 f_28 o 1751474548 τ T0 ho ((hgr _ (by decide)).trans ht) (by first | omega | (simp only [Int32.toInt_toInt64]; omega) | decide | assumption) (by first | omega | (simp only [Int32.toInt_toInt64]; omega) | decide | assumption)) rfl rfl ⟨Nat.le_of_ble_eq_true rfl, Nat.le_of_ble_eq_true rfl⟩ rfl hl.1 rfl (Nat.le_of_ble_eq_true rfl) dX12_wordHere_88 ⟨Nat.le_of_ble_eq_true rfl, Nat.le_of_ble_eq_true rfl⟩) (fun r_57 f_58 Γ_60 H locs hw_56 hP hI hc_59 hcg_61 hS => ?_)
      have hD : va_D A (va_pl L f_58) := tp_D hL hAL
      have hfr := tp_fr2 hfr hc_59 (by decide)
      have hgr : ∀ κ : tk_K, κ.1 ∉ ([39] : List Nat) → Γ_60 κ = Γ κ := tg_fr2 hgr hcg_61 (by decide)
      obtain ⟨hE_62, hw_56⟩ := hw_56
      have hE_62 : tl_E r_57 (tr_W τ T0 (Γ_60 (39, 0, 0) 1) 1751474548) 1 0 := hE_62
      have hw_56 : Γ_60 (39, 0, 0) 0 = Γ_30 (39, 0, 0) 0 ∧ Γ_60 (39, 0, 0) 3 = Γ_30 (39, 0, 0) 3 ∧ Γ_60 (39, 0, 0) 4 = Γ_30 (39, 0, 0) 4 ∧ Γ_60 (39, 0, 0) 5 = Γ_30 (39, 0, 0) 5 ∧ Γ_60 (39, 0, 0) 6 = Γ_30 (39, 0, 0) 6 ∧ Γ_60 (39, 0, 0) 7 = Γ_30 (39, 0, 0) 7 ∧ Γ_60 (39, 0, 0) 8 = Γ_30 (39, 0, 0) 8 ∧ Γ_30 (39, 0, 0) 1 ≤ Γ_60 (39, 0, 0) 1 ∧ Γ_60 (39, 0, 0) 1 ≤ T0 ∧ (¬ τ (Γ_30 (39, 0, 0) 1).toNat = 32 → Γ_60 (39, 0, 0) 1 = Γ_30 (39, 0, 0) 1) := hw_56
      refine lv_if_eq (tgt := 98) hx hb dX12_wordHere_91 (by decide) (fun c_63 => ?_) (fun c_63 => ?_)
      · have c_63 := hE_62.f c_63
        refine lv_aload_n hx hb dX12_wordHere_98 rfl (lv_at hl 0 rfl) ?_
        refine lv_ldc2 (v := 495874699885) hx hb hown (hta _ wk_646) dX12_wordHere_99 ?_
        obtain ⟨r_65, v_66, q_67, hf_64, hr_68, hv_69⟩ := (show tp_o_M L K 0 0 (Γ_60 (39, 0, 0)) (f_58 o) from hI.at ho)
        refine tq_ciR hS (hAf _ hS.1) (tq_rV (As := [.long 495874699885]) (rest := []) ⟨hx, hb, hml, hown, hta⟩ (tp_P.pre hK hN hL hU hI hP) (tp_recv hK hP ho.1 hf_64 rfl) lk_X12_174 (r_X12_isWord l D cy H.size L K Γ_60 f_58 o 495874699885 τ T0 ho ((hgr _ (by decide)).trans ht) (by first | omega | (simp only [Int32.toInt_toInt64]; omega) | decide | assumption) (by first | omega | (simp only [Int32.toInt_toInt64]; omega) | decide | assumption)) rfl rfl ⟨Nat.le_of_ble_eq_true rfl, Nat.le_of_ble_eq_true rfl⟩ rfl hl.1 rfl (Nat.le_of_ble_eq_true rfl) dX12_wordHere_102 ⟨Nat.le_of_ble_eq_true rfl, Nat.le_of_ble_eq_true rfl⟩) (fun r_87 f_88 Γ_90 H locs hw_86 hP hI hc_89 hcg_91 hS => ?_)
        have hD : va_D A (va_pl L f_88) := tp_D hL hAL
        have hfr := tp_fr2 hfr hc_89 (by decide)
        have hgr : ∀ κ : tk_K, κ.1 ∉ ([39] : List Nat) → Γ_90 κ = Γ κ := tg_fr2 hgr hcg_91 (by decide)
        obtain ⟨hE_92, hw_86⟩ := hw_86
        have hE_92 : tl_E r_87 (tr_W τ T0 (Γ_90 (39, 0, 0) 1) 495874699885) 1 0 := hE_92
        have hw_86 : Γ_90 (39, 0, 0) 0 = Γ_60 (39, 0, 0) 0 ∧ Γ_90 (39, 0, 0) 3 = Γ_60 (39, 0, 0) 3 ∧ Γ_90 (39, 0, 0) 4 = Γ_60 (39, 0, 0) 4 ∧ Γ_90 (39, 0, 0) 5 = Γ_60 (39, 0, 0) 5 ∧ Γ_90 (39, 0, 0) 6 = Γ_60 (39, 0, 0) 6 ∧ Γ_90 (39, 0, 0) 7 = Γ_60 (39, 0, 0) 7 ∧ Γ_90 (39, 0, 0) 8 = Γ_60 (39, 0, 0) 8 ∧ Γ_60 (39, 0, 0) 1 ≤ Γ_90 (39, 0, 0) 1 ∧ Γ_90 (39, 0, 0) 1 ≤ T0 ∧ (¬ τ (Γ_60 (39, 0, 0) 1).toNat = 32 → Γ_90 (39, 0, 0) 1 = Γ_60 (39, 0, 0) 1) := hw_86
        refine lv_if_eq (tgt := 112) hx hb dX12_wordHere_105 (by decide) (fun c_93 => ?_) (fun c_93 => ?_)
        · have c_93 := hE_92.f c_93
          refine lv_aload_n hx hb dX12_wordHere_112 rfl (lv_at hl 0 rfl) ?_
          refine lv_ldc2 (v := 1717660780) hx hb hown (hta _ wk_647) dX12_wordHere_113 ?_
          obtain ⟨r_95, v_96, q_97, hf_94, hr_98, hv_99⟩ := (show tp_o_M L K 0 0 (Γ_90 (39, 0, 0)) (f_88 o) from hI.at ho)
          refine tq_ciR hS (hAf _ hS.1) (tq_rV (As := [.long 1717660780]) (rest := []) ⟨hx, hb, hml, hown, hta⟩ (tp_P.pre hK hN hL hU hI hP) (tp_recv hK hP ho.1 hf_94 rfl) lk_X12_174 (r_X12_isWord l D cy H.size L K Γ_90 f_88 o 1717660780 τ T0 ho ((hgr _ (by decide)).trans ht) (by first | omega | (simp only [Int32.toInt_toInt64]; omega) | decide | assumption) (by first | omega | (simp only [Int32.toInt_toInt64]; omega) | decide | assumption)) rfl rfl ⟨Nat.le_of_ble_eq_true rfl, Nat.le_of_ble_eq_true rfl⟩ rfl hl.1 rfl (Nat.le_of_ble_eq_true rfl) dX12_wordHere_116 ⟨Nat.le_of_ble_eq_true rfl, Nat.le_of_ble_eq_true rfl⟩) (fun r_117 f_118 Γ_120 H locs hw_116 hP hI hc_119 hcg_121 hS => ?_)
          have hD : va_D A (va_pl L f_118) := tp_D hL hAL
          have hfr := tp_fr2 hfr hc_119 (by decide)
          have hgr : ∀ κ : tk_K, κ.1 ∉ ([39] : List Nat) → Γ_120 κ = Γ κ := tg_fr2 hgr hcg_121 (by decide)
          obtain ⟨hE_122, hw_116⟩ := hw_116
          have hE_122 : tl_E r_117 (tr_W τ T0 (Γ_120 (39, 0, 0) 1) 1717660780) 1 0 := hE_122
          have hw_116 : Γ_120 (39, 0, 0) 0 = Γ_90 (39, 0, 0) 0 ∧ Γ_120 (39, 0, 0) 3 = Γ_90 (39, 0, 0) 3 ∧ Γ_120 (39, 0, 0) 4 = Γ_90 (39, 0, 0) 4 ∧ Γ_120 (39, 0, 0) 5 = Γ_90 (39, 0, 0) 5 ∧ Γ_120 (39, 0, 0) 6 = Γ_90 (39, 0, 0) 6 ∧ Γ_120 (39, 0, 0) 7 = Γ_90 (39, 0, 0) 7 ∧ Γ_120 (39, 0, 0) 8 = Γ_90 (39, 0, 0) 8 ∧ Γ_90 (39, 0, 0) 1 ≤ Γ_120 (39, 0, 0) 1 ∧ Γ_120 (39, 0, 0) 1 ≤ T0 ∧ (¬ τ (Γ_90 (39, 0, 0) 1).toNat = 32 → Γ_120 (39, 0, 0) 1 = Γ_90 (39, 0, 0) 1) := hw_116
          refine lv_if_eq (tgt := 126) hx hb dX12_wordHere_119 (by decide) (fun c_123 => ?_) (fun c_123 => ?_)
          · have c_123 := hE_122.f c_123
            refine lv_aload_n hx hb dX12_wordHere_126 rfl (lv_at hl 0 rfl) ?_
            refine lv_ldc2 (v := 2003133803) hx hb hown (hta _ wk_648) dX12_wordHere_127 ?_
            obtain ⟨r_125, v_126, q_127, hf_124, hr_128, hv_129⟩ := (show tp_o_M L K 0 0 (Γ_120 (39, 0, 0)) (f_118 o) from hI.at ho)
            refine tq_ciR hS (hAf _ hS.1) (tq_rV (As := [.long 2003133803]) (rest := []) ⟨hx, hb, hml, hown, hta⟩ (tp_P.pre hK hN hL hU hI hP) (tp_recv hK hP ho.1 hf_124 rfl) lk_X12_174 (r_X12_isWord l D cy H.size L K Γ_120 f_118 o 2003133803 τ T0 ho ((hgr _ (by decide)).trans ht) (by first | omega | (simp only [Int32.toInt_toInt64]; omega) | decide | assumption) (by first | omega | (simp only [Int32.toInt_toInt64]; omega) | decide | assumption)) rfl rfl ⟨Nat.le_of_ble_eq_true rfl, Nat.le_of_ble_eq_true rfl⟩ rfl hl.1 rfl (Nat.le_of_ble_eq_true rfl) dX12_wordHere_130 ⟨Nat.le_of_ble_eq_true rfl, Nat.le_of_ble_eq_true rfl⟩) (fun r_147 f_148 Γ_150 H locs hw_146 hP hI hc_149 hcg_151 hS => ?_)
            have hD : va_D A (va_pl L f_148) := tp_D hL hAL
            have hfr := tp_fr2 hfr hc_149 (by decide)
            have hgr : ∀ κ : tk_K, κ.1 ∉ ([39] : List Nat) → Γ_150 κ = Γ κ := tg_fr2 hgr hcg_151 (by decide)
            obtain ⟨hE_152, hw_146⟩ := hw_146
            have hE_152 : tl_E r_147 (tr_W τ T0 (Γ_150 (39, 0, 0) 1) 2003133803) 1 0 := hE_152
            have hw_146 : Γ_150 (39, 0, 0) 0 = Γ_120 (39, 0, 0) 0 ∧ Γ_150 (39, 0, 0) 3 = Γ_120 (39, 0, 0) 3 ∧ Γ_150 (39, 0, 0) 4 = Γ_120 (39, 0, 0) 4 ∧ Γ_150 (39, 0, 0) 5 = Γ_120 (39, 0, 0) 5 ∧ Γ_150 (39, 0, 0) 6 = Γ_120 (39, 0, 0) 6 ∧ Γ_150 (39, 0, 0) 7 = Γ_120 (39, 0, 0) 7 ∧ Γ_150 (39, 0, 0) 8 = Γ_120 (39, 0, 0) 8 ∧ Γ_120 (39, 0, 0) 1 ≤ Γ_150 (39, 0, 0) 1 ∧ Γ_150 (39, 0, 0) 1 ≤ T0 ∧ (¬ τ (Γ_120 (39, 0, 0) 1).toNat = 32 → Γ_150 (39, 0, 0) 1 = Γ_120 (39, 0, 0) 1) := hw_146
            refine lv_if_eq (tgt := 140) hx hb dX12_wordHere_133 (by decide) (fun c_153 => ?_) (fun c_153 => ?_)
            · have c_153 := hE_152.f c_153
              refine lv_iconst (v := (-1)) hx hb dX12_wordHere_140 (by decide) ?_
              have hpo9 : Γ_150 (39, 0, 0) 0 = Γ (39, 0, 0) 0 ∧ Γ_150 (39, 0, 0) 3 = Γ (39, 0, 0) 3 ∧ Γ_150 (39, 0, 0) 4 = Γ (39, 0, 0) 4 ∧ Γ_150 (39, 0, 0) 5 = Γ (39, 0, 0) 5 ∧ Γ_150 (39, 0, 0) 6 = Γ (39, 0, 0) 6 ∧ Γ_150 (39, 0, 0) 7 = Γ (39, 0, 0) 7 ∧ Γ_150 (39, 0, 0) 8 = Γ (39, 0, 0) 8 ∧ Γ (39, 0, 0) 1 ≤ Γ_150 (39, 0, 0) 1 ∧ Γ_150 (39, 0, 0) 1 ≤ T0 ∧ (((-1) : Int32).toInt = -1 ∨ (0 ≤ ((-1) : Int32).toInt ∧ ((-1) : Int32).toInt ≤ 4 ∧ tr_L τ T0 (Γ_150 (39, 0, 0) 1))) := ⟨(by omega), (by omega), (by omega), (by omega), (by omega), (by omega), (by omega), (by omega), (by omega), (Or.inl (by decide))⟩
              exact W.iret (v := (-1)) hx hb hr (fun t ht hW => ⟨⟨_, (f_148, Γ_150), rfl, hpo9, by rw [ht]; exact hP, hI, hfr, hgr⟩, hS.F ht⟩) hS.2.2 dX12_wordHere_141
            · have c_153 := hE_152.t c_153
              refine lv_iconst (v := 4) hx hb dX12_wordHere_136 (by decide) ?_
              refine lv_goto (tgt := 141) hx hb dX12_wordHere_137 (by decide) ?_
              have hpo9 : Γ_150 (39, 0, 0) 0 = Γ (39, 0, 0) 0 ∧ Γ_150 (39, 0, 0) 3 = Γ (39, 0, 0) 3 ∧ Γ_150 (39, 0, 0) 4 = Γ (39, 0, 0) 4 ∧ Γ_150 (39, 0, 0) 5 = Γ (39, 0, 0) 5 ∧ Γ_150 (39, 0, 0) 6 = Γ (39, 0, 0) 6 ∧ Γ_150 (39, 0, 0) 7 = Γ (39, 0, 0) 7 ∧ Γ_150 (39, 0, 0) 8 = Γ (39, 0, 0) 8 ∧ Γ (39, 0, 0) 1 ≤ Γ_150 (39, 0, 0) 1 ∧ Γ_150 (39, 0, 0) 1 ≤ T0 ∧ ((4 : Int32).toInt = -1 ∨ (0 ≤ (4 : Int32).toInt ∧ (4 : Int32).toInt ≤ 4 ∧ tr_L τ T0 (Γ_150 (39, 0, 0) 1))) := ⟨(by omega), (by omega), (by omega), (by omega), (by omega), (by omega), (by omega), (by omega), (by omega), (Or.inr ⟨by decide, by decide, tr_W.L (by assumption)⟩)⟩
              exact W.iret (v := 4) hx hb hr (fun t ht hW => ⟨⟨_, (f_148, Γ_150), rfl, hpo9, by rw [ht]; exact hP, hI, hfr, hgr⟩, hS.F ht⟩) hS.2.2 dX12_wordHere_141
          · have c_123 := hE_122.t c_123
            refine lv_iconst (v := 3) hx hb dX12_wordHere_122 (by decide) ?_
            refine lv_goto (tgt := 141) hx hb dX12_wordHere_123 (by decide) ?_
            have hpo9 : Γ_120 (39, 0, 0) 0 = Γ (39, 0, 0) 0 ∧ Γ_120 (39, 0, 0) 3 = Γ (39, 0, 0) 3 ∧ Γ_120 (39, 0, 0) 4 = Γ (39, 0, 0) 4 ∧ Γ_120 (39, 0, 0) 5 = Γ (39, 0, 0) 5 ∧ Γ_120 (39, 0, 0) 6 = Γ (39, 0, 0) 6 ∧ Γ_120 (39, 0, 0) 7 = Γ (39, 0, 0) 7 ∧ Γ_120 (39, 0, 0) 8 = Γ (39, 0, 0) 8 ∧ Γ (39, 0, 0) 1 ≤ Γ_120 (39, 0, 0) 1 ∧ Γ_120 (39, 0, 0) 1 ≤ T0 ∧ ((3 : Int32).toInt = -1 ∨ (0 ≤ (3 : Int32).toInt ∧ (3 : Int32).toInt ≤ 4 ∧ tr_L τ T0 (Γ_120 (39, 0, 0) 1))) := ⟨(by omega), (by omega), (by omega), (by omega), (by omega), (by omega), (by omega), (by omega), (by omega), (Or.inr ⟨by decide, by decide, tr_W.L (by assumption)⟩)⟩
            exact W.iret (v := 3) hx hb hr (fun t ht hW => ⟨⟨_, (f_118, Γ_120), rfl, hpo9, by rw [ht]; exact hP, hI, hfr, hgr⟩, hS.F ht⟩) hS.2.2 dX12_wordHere_141
        · have c_93 := hE_92.t c_93
          refine lv_iconst (v := 2) hx hb dX12_wordHere_108 (by decide) ?_
          refine lv_goto (tgt := 141) hx hb dX12_wordHere_109 (by decide) ?_
          have hpo9 : Γ_90 (39, 0, 0) 0 = Γ (39, 0, 0) 0 ∧ Γ_90 (39, 0, 0) 3 = Γ (39, 0, 0) 3 ∧ Γ_90 (39, 0, 0) 4 = Γ (39, 0, 0) 4 ∧ Γ_90 (39, 0, 0) 5 = Γ (39, 0, 0) 5 ∧ Γ_90 (39, 0, 0) 6 = Γ (39, 0, 0) 6 ∧ Γ_90 (39, 0, 0) 7 = Γ (39, 0, 0) 7 ∧ Γ_90 (39, 0, 0) 8 = Γ (39, 0, 0) 8 ∧ Γ (39, 0, 0) 1 ≤ Γ_90 (39, 0, 0) 1 ∧ Γ_90 (39, 0, 0) 1 ≤ T0 ∧ ((2 : Int32).toInt = -1 ∨ (0 ≤ (2 : Int32).toInt ∧ (2 : Int32).toInt ≤ 4 ∧ tr_L τ T0 (Γ_90 (39, 0, 0) 1))) := ⟨(by omega), (by omega), (by omega), (by omega), (by omega), (by omega), (by omega), (by omega), (by omega), (Or.inr ⟨by decide, by decide, tr_W.L (by assumption)⟩)⟩
          exact W.iret (v := 2) hx hb hr (fun t ht hW => ⟨⟨_, (f_88, Γ_90), rfl, hpo9, by rw [ht]; exact hP, hI, hfr, hgr⟩, hS.F ht⟩) hS.2.2 dX12_wordHere_141
      · have c_63 := hE_62.t c_63
        refine lv_iconst (v := 1) hx hb dX12_wordHere_94 (by decide) ?_
        refine lv_goto (tgt := 141) hx hb dX12_wordHere_95 (by decide) ?_
        have hpo9 : Γ_60 (39, 0, 0) 0 = Γ (39, 0, 0) 0 ∧ Γ_60 (39, 0, 0) 3 = Γ (39, 0, 0) 3 ∧ Γ_60 (39, 0, 0) 4 = Γ (39, 0, 0) 4 ∧ Γ_60 (39, 0, 0) 5 = Γ (39, 0, 0) 5 ∧ Γ_60 (39, 0, 0) 6 = Γ (39, 0, 0) 6 ∧ Γ_60 (39, 0, 0) 7 = Γ (39, 0, 0) 7 ∧ Γ_60 (39, 0, 0) 8 = Γ (39, 0, 0) 8 ∧ Γ (39, 0, 0) 1 ≤ Γ_60 (39, 0, 0) 1 ∧ Γ_60 (39, 0, 0) 1 ≤ T0 ∧ ((1 : Int32).toInt = -1 ∨ (0 ≤ (1 : Int32).toInt ∧ (1 : Int32).toInt ≤ 4 ∧ tr_L τ T0 (Γ_60 (39, 0, 0) 1))) := ⟨(by omega), (by omega), (by omega), (by omega), (by omega), (by omega), (by omega), (by omega), (by omega), (Or.inr ⟨by decide, by decide, tr_W.L (by assumption)⟩)⟩
        exact W.iret (v := 1) hx hb hr (fun t ht hW => ⟨⟨_, (f_58, Γ_60), rfl, hpo9, by rw [ht]; exact hP, hI, hfr, hgr⟩, hS.F ht⟩) hS.2.2 dX12_wordHere_141
    · have c_33 := hE_32.t c_33
      refine lv_iconst (v := 0) hx hb dX12_wordHere_80 (by decide) ?_
      refine lv_goto (tgt := 141) hx hb dX12_wordHere_81 (by decide) ?_
      have hpo9 : Γ_30 (39, 0, 0) 0 = Γ (39, 0, 0) 0 ∧ Γ_30 (39, 0, 0) 3 = Γ (39, 0, 0) 3 ∧ Γ_30 (39, 0, 0) 4 = Γ (39, 0, 0) 4 ∧ Γ_30 (39, 0, 0) 5 = Γ (39, 0, 0) 5 ∧ Γ_30 (39, 0, 0) 6 = Γ (39, 0, 0) 6 ∧ Γ_30 (39, 0, 0) 7 = Γ (39, 0, 0) 7 ∧ Γ_30 (39, 0, 0) 8 = Γ (39, 0, 0) 8 ∧ Γ (39, 0, 0) 1 ≤ Γ_30 (39, 0, 0) 1 ∧ Γ_30 (39, 0, 0) 1 ≤ T0 ∧ ((0 : Int32).toInt = -1 ∨ (0 ≤ (0 : Int32).toInt ∧ (0 : Int32).toInt ≤ 4 ∧ tr_L τ T0 (Γ_30 (39, 0, 0) 1))) := ⟨(by omega), (by omega), (by omega), (by omega), (by omega), (by omega), (by omega), (by omega), (by omega), (Or.inr ⟨by decide, by decide, tr_W.L (by assumption)⟩)⟩
      exact W.iret (v := 0) hx hb hr (fun t ht hW => ⟨⟨_, (f_28, Γ_30), rfl, hpo9, by rw [ht]; exact hP, hI, hfr, hgr⟩, hS.F ht⟩) hS.2.2 dX12_wordHere_141
  · have c_25 : r_24.toInt < (2 : Int) := tl_nle c_25
    refine lv_aload_n hx hb dX12_wordHere_12 rfl (lv_at hl 0 rfl) ?_
    refine lv_ldc2 (v := 109330211763570) hx hb hown (hta _ wk_640) dX12_wordHere_13 ?_
    refine tq_ciR hS (hAf _ hS.1) (tq_rV (As := [.long 109330211763570]) (rest := []) ⟨hx, hb, hml, hown, hta⟩ (tp_P.pre hK hN hL hU hI hP) (tp_recv hK hP ho.1 hf_1 rfl) lk_X12_174 (r_X12_isWord l D cy s.heap.size L K Γ f o 109330211763570 τ T0 ho ht (by first | omega | (simp only [Int32.toInt_toInt64]; omega) | decide | assumption) (by first | omega | (simp only [Int32.toInt_toInt64]; omega) | decide | assumption)) rfl rfl ⟨Nat.le_of_ble_eq_true rfl, Nat.le_of_ble_eq_true rfl⟩ rfl hl.1 rfl (Nat.le_of_ble_eq_true rfl) dX12_wordHere_16 ⟨Nat.le_of_ble_eq_true rfl, Nat.le_of_ble_eq_true rfl⟩) (fun r_155 f_156 Γ_158 H locs hw_154 hP hI hc_157 hcg_159 hS => ?_)
    have hD : va_D A (va_pl L f_156) := tp_D hL hAL
    have hfr := tp_fr2 hfr hc_157 (by decide)
    have hgr : ∀ κ : tk_K, κ.1 ∉ ([39] : List Nat) → Γ_158 κ = Γ κ := tg_fr2 hgr hcg_159 (by decide)
    obtain ⟨hE_160, hw_154⟩ := hw_154
    have hE_160 : tl_E r_155 (tr_W τ T0 (Γ_158 (39, 0, 0) 1) 109330211763570) 1 0 := hE_160
    have hw_154 : Γ_158 (39, 0, 0) 0 = Γ (39, 0, 0) 0 ∧ Γ_158 (39, 0, 0) 3 = Γ (39, 0, 0) 3 ∧ Γ_158 (39, 0, 0) 4 = Γ (39, 0, 0) 4 ∧ Γ_158 (39, 0, 0) 5 = Γ (39, 0, 0) 5 ∧ Γ_158 (39, 0, 0) 6 = Γ (39, 0, 0) 6 ∧ Γ_158 (39, 0, 0) 7 = Γ (39, 0, 0) 7 ∧ Γ_158 (39, 0, 0) 8 = Γ (39, 0, 0) 8 ∧ Γ (39, 0, 0) 1 ≤ Γ_158 (39, 0, 0) 1 ∧ Γ_158 (39, 0, 0) 1 ≤ T0 ∧ (¬ τ (Γ (39, 0, 0) 1).toNat = 32 → Γ_158 (39, 0, 0) 1 = Γ (39, 0, 0) 1) := hw_154
    refine lv_if_eq (tgt := 26) hx hb dX12_wordHere_19 (by decide) (fun c_161 => ?_) (fun c_161 => ?_)
    · have c_161 := hE_160.f c_161
      refine lv_aload_n hx hb dX12_wordHere_26 rfl (lv_at hl 0 rfl) ?_
      refine lv_ldc2 (v := 444199957363) hx hb hown (hta _ wk_641) dX12_wordHere_27 ?_
      obtain ⟨r_163, v_164, q_165, hf_162, hr_166, hv_167⟩ := (show tp_o_M L K 0 0 (Γ_158 (39, 0, 0)) (f_156 o) from hI.at ho)
      refine tq_ciR hS (hAf _ hS.1) (tq_rV (As := [.long 444199957363]) (rest := []) ⟨hx, hb, hml, hown, hta⟩ (tp_P.pre hK hN hL hU hI hP) (tp_recv hK hP ho.1 hf_162 rfl) lk_X12_174 (r_X12_isWord l D cy H.size L K Γ_158 f_156 o 444199957363 τ T0 ho ((hgr _ (by decide)).trans ht) (by first | omega | (simp only [Int32.toInt_toInt64]; omega) | decide | assumption) (by first | omega | (simp only [Int32.toInt_toInt64]; omega) | decide | assumption)) rfl rfl ⟨Nat.le_of_ble_eq_true rfl, Nat.le_of_ble_eq_true rfl⟩ rfl hl.1 rfl (Nat.le_of_ble_eq_true rfl) dX12_wordHere_30 ⟨Nat.le_of_ble_eq_true rfl, Nat.le_of_ble_eq_true rfl⟩) (fun r_185 f_186 Γ_188 H locs hw_184 hP hI hc_187 hcg_189 hS => ?_)
      have hD : va_D A (va_pl L f_186) := tp_D hL hAL
      have hfr := tp_fr2 hfr hc_187 (by decide)
      have hgr : ∀ κ : tk_K, κ.1 ∉ ([39] : List Nat) → Γ_188 κ = Γ κ := tg_fr2 hgr hcg_189 (by decide)
      obtain ⟨hE_190, hw_184⟩ := hw_184
      have hE_190 : tl_E r_185 (tr_W τ T0 (Γ_188 (39, 0, 0) 1) 444199957363) 1 0 := hE_190
      have hw_184 : Γ_188 (39, 0, 0) 0 = Γ_158 (39, 0, 0) 0 ∧ Γ_188 (39, 0, 0) 3 = Γ_158 (39, 0, 0) 3 ∧ Γ_188 (39, 0, 0) 4 = Γ_158 (39, 0, 0) 4 ∧ Γ_188 (39, 0, 0) 5 = Γ_158 (39, 0, 0) 5 ∧ Γ_188 (39, 0, 0) 6 = Γ_158 (39, 0, 0) 6 ∧ Γ_188 (39, 0, 0) 7 = Γ_158 (39, 0, 0) 7 ∧ Γ_188 (39, 0, 0) 8 = Γ_158 (39, 0, 0) 8 ∧ Γ_158 (39, 0, 0) 1 ≤ Γ_188 (39, 0, 0) 1 ∧ Γ_188 (39, 0, 0) 1 ≤ T0 ∧ (¬ τ (Γ_158 (39, 0, 0) 1).toNat = 32 → Γ_188 (39, 0, 0) 1 = Γ_158 (39, 0, 0) 1) := hw_184
      refine lv_if_eq (tgt := 40) hx hb dX12_wordHere_33 (by decide) (fun c_191 => ?_) (fun c_191 => ?_)
      · have c_191 := hE_190.f c_191
        refine lv_aload_n hx hb dX12_wordHere_40 rfl (lv_at hl 0 rfl) ?_
        refine lv_ldc2 (v := 1752135026) hx hb hown (hta _ wk_642) dX12_wordHere_41 ?_
        obtain ⟨r_193, v_194, q_195, hf_192, hr_196, hv_197⟩ := (show tp_o_M L K 0 0 (Γ_188 (39, 0, 0)) (f_186 o) from hI.at ho)
        refine tq_ciR hS (hAf _ hS.1) (tq_rV (As := [.long 1752135026]) (rest := []) ⟨hx, hb, hml, hown, hta⟩ (tp_P.pre hK hN hL hU hI hP) (tp_recv hK hP ho.1 hf_192 rfl) lk_X12_174 (r_X12_isWord l D cy H.size L K Γ_188 f_186 o 1752135026 τ T0 ho ((hgr _ (by decide)).trans ht) (by first | omega | (simp only [Int32.toInt_toInt64]; omega) | decide | assumption) (by first | omega | (simp only [Int32.toInt_toInt64]; omega) | decide | assumption)) rfl rfl ⟨Nat.le_of_ble_eq_true rfl, Nat.le_of_ble_eq_true rfl⟩ rfl hl.1 rfl (Nat.le_of_ble_eq_true rfl) dX12_wordHere_44 ⟨Nat.le_of_ble_eq_true rfl, Nat.le_of_ble_eq_true rfl⟩) (fun r_215 f_216 Γ_218 H locs hw_214 hP hI hc_217 hcg_219 hS => ?_)
        have hD : va_D A (va_pl L f_216) := tp_D hL hAL
        have hfr := tp_fr2 hfr hc_217 (by decide)
        have hgr : ∀ κ : tk_K, κ.1 ∉ ([39] : List Nat) → Γ_218 κ = Γ κ := tg_fr2 hgr hcg_219 (by decide)
        obtain ⟨hE_220, hw_214⟩ := hw_214
        have hE_220 : tl_E r_215 (tr_W τ T0 (Γ_218 (39, 0, 0) 1) 1752135026) 1 0 := hE_220
        have hw_214 : Γ_218 (39, 0, 0) 0 = Γ_188 (39, 0, 0) 0 ∧ Γ_218 (39, 0, 0) 3 = Γ_188 (39, 0, 0) 3 ∧ Γ_218 (39, 0, 0) 4 = Γ_188 (39, 0, 0) 4 ∧ Γ_218 (39, 0, 0) 5 = Γ_188 (39, 0, 0) 5 ∧ Γ_218 (39, 0, 0) 6 = Γ_188 (39, 0, 0) 6 ∧ Γ_218 (39, 0, 0) 7 = Γ_188 (39, 0, 0) 7 ∧ Γ_218 (39, 0, 0) 8 = Γ_188 (39, 0, 0) 8 ∧ Γ_188 (39, 0, 0) 1 ≤ Γ_218 (39, 0, 0) 1 ∧ Γ_218 (39, 0, 0) 1 ≤ T0 ∧ (¬ τ (Γ_188 (39, 0, 0) 1).toNat = 32 → Γ_218 (39, 0, 0) 1 = Γ_188 (39, 0, 0) 1) := hw_214
        refine lv_if_eq (tgt := 54) hx hb dX12_wordHere_47 (by decide) (fun c_221 => ?_) (fun c_221 => ?_)
        · have c_221 := hE_220.f c_221
          refine lv_aload_n hx hb dX12_wordHere_54 rfl (lv_at hl 0 rfl) ?_
          refine lv_ldc2 (v := 7499639) hx hb hown (hta _ wk_643) dX12_wordHere_55 ?_
          obtain ⟨r_223, v_224, q_225, hf_222, hr_226, hv_227⟩ := (show tp_o_M L K 0 0 (Γ_218 (39, 0, 0)) (f_216 o) from hI.at ho)
          refine tq_ciR hS (hAf _ hS.1) (tq_rV (As := [.long 7499639]) (rest := []) ⟨hx, hb, hml, hown, hta⟩ (tp_P.pre hK hN hL hU hI hP) (tp_recv hK hP ho.1 hf_222 rfl) lk_X12_174 (r_X12_isWord l D cy H.size L K Γ_218 f_216 o 7499639 τ T0 ho ((hgr _ (by decide)).trans ht) (by first | omega | (simp only [Int32.toInt_toInt64]; omega) | decide | assumption) (by first | omega | (simp only [Int32.toInt_toInt64]; omega) | decide | assumption)) rfl rfl ⟨Nat.le_of_ble_eq_true rfl, Nat.le_of_ble_eq_true rfl⟩ rfl hl.1 rfl (Nat.le_of_ble_eq_true rfl) dX12_wordHere_58 ⟨Nat.le_of_ble_eq_true rfl, Nat.le_of_ble_eq_true rfl⟩) (fun r_245 f_246 Γ_248 H locs hw_244 hP hI hc_247 hcg_249 hS => ?_)
          have hD : va_D A (va_pl L f_246) := tp_D hL hAL
          have hfr := tp_fr2 hfr hc_247 (by decide)
          have hgr : ∀ κ : tk_K, κ.1 ∉ ([39] : List Nat) → Γ_248 κ = Γ κ := tg_fr2 hgr hcg_249 (by decide)
          obtain ⟨hE_250, hw_244⟩ := hw_244
          have hE_250 : tl_E r_245 (tr_W τ T0 (Γ_248 (39, 0, 0) 1) 7499639) 1 0 := hE_250
          have hw_244 : Γ_248 (39, 0, 0) 0 = Γ_218 (39, 0, 0) 0 ∧ Γ_248 (39, 0, 0) 3 = Γ_218 (39, 0, 0) 3 ∧ Γ_248 (39, 0, 0) 4 = Γ_218 (39, 0, 0) 4 ∧ Γ_248 (39, 0, 0) 5 = Γ_218 (39, 0, 0) 5 ∧ Γ_248 (39, 0, 0) 6 = Γ_218 (39, 0, 0) 6 ∧ Γ_248 (39, 0, 0) 7 = Γ_218 (39, 0, 0) 7 ∧ Γ_248 (39, 0, 0) 8 = Γ_218 (39, 0, 0) 8 ∧ Γ_218 (39, 0, 0) 1 ≤ Γ_248 (39, 0, 0) 1 ∧ Γ_248 (39, 0, 0) 1 ≤ T0 ∧ (¬ τ (Γ_218 (39, 0, 0) 1).toNat = 32 → Γ_248 (39, 0, 0) 1 = Γ_218 (39, 0, 0) 1) := hw_244
          refine lv_if_eq (tgt := 68) hx hb dX12_wordHere_61 (by decide) (fun c_251 => ?_) (fun c_251 => ?_)
          · have c_251 := hE_250.f c_251
            refine lv_iconst (v := (-1)) hx hb dX12_wordHere_68 (by decide) ?_
            have hpo9 : Γ_248 (39, 0, 0) 0 = Γ (39, 0, 0) 0 ∧ Γ_248 (39, 0, 0) 3 = Γ (39, 0, 0) 3 ∧ Γ_248 (39, 0, 0) 4 = Γ (39, 0, 0) 4 ∧ Γ_248 (39, 0, 0) 5 = Γ (39, 0, 0) 5 ∧ Γ_248 (39, 0, 0) 6 = Γ (39, 0, 0) 6 ∧ Γ_248 (39, 0, 0) 7 = Γ (39, 0, 0) 7 ∧ Γ_248 (39, 0, 0) 8 = Γ (39, 0, 0) 8 ∧ Γ (39, 0, 0) 1 ≤ Γ_248 (39, 0, 0) 1 ∧ Γ_248 (39, 0, 0) 1 ≤ T0 ∧ (((-1) : Int32).toInt = -1 ∨ (0 ≤ ((-1) : Int32).toInt ∧ ((-1) : Int32).toInt ≤ 4 ∧ tr_L τ T0 (Γ_248 (39, 0, 0) 1))) := ⟨(by omega), (by omega), (by omega), (by omega), (by omega), (by omega), (by omega), (by omega), (by omega), (Or.inl (by decide))⟩
            exact W.iret (v := (-1)) hx hb hr (fun t ht hW => ⟨⟨_, (f_246, Γ_248), rfl, hpo9, by rw [ht]; exact hP, hI, hfr, hgr⟩, hS.F ht⟩) hS.2.2 dX12_wordHere_69
          · have c_251 := hE_250.t c_251
            refine lv_iconst (v := 3) hx hb dX12_wordHere_64 (by decide) ?_
            refine lv_goto (tgt := 69) hx hb dX12_wordHere_65 (by decide) ?_
            have hpo9 : Γ_248 (39, 0, 0) 0 = Γ (39, 0, 0) 0 ∧ Γ_248 (39, 0, 0) 3 = Γ (39, 0, 0) 3 ∧ Γ_248 (39, 0, 0) 4 = Γ (39, 0, 0) 4 ∧ Γ_248 (39, 0, 0) 5 = Γ (39, 0, 0) 5 ∧ Γ_248 (39, 0, 0) 6 = Γ (39, 0, 0) 6 ∧ Γ_248 (39, 0, 0) 7 = Γ (39, 0, 0) 7 ∧ Γ_248 (39, 0, 0) 8 = Γ (39, 0, 0) 8 ∧ Γ (39, 0, 0) 1 ≤ Γ_248 (39, 0, 0) 1 ∧ Γ_248 (39, 0, 0) 1 ≤ T0 ∧ ((3 : Int32).toInt = -1 ∨ (0 ≤ (3 : Int32).toInt ∧ (3 : Int32).toInt ≤ 4 ∧ tr_L τ T0 (Γ_248 (39, 0, 0) 1))) := ⟨(by omega), (by omega), (by omega), (by omega), (by omega), (by omega), (by omega), (by omega), (by omega), (Or.inr ⟨by decide, by decide, tr_W.L (by assumption)⟩)⟩
            exact W.iret (v := 3) hx hb hr (fun t ht hW => ⟨⟨_, (f_246, Γ_248), rfl, hpo9, by rw [ht]; exact hP, hI, hfr, hgr⟩, hS.F ht⟩) hS.2.2 dX12_wordHere_69
        · have c_221 := hE_220.t c_221
          refine lv_iconst (v := 2) hx hb dX12_wordHere_50 (by decide) ?_
          refine lv_goto (tgt := 69) hx hb dX12_wordHere_51 (by decide) ?_
          have hpo9 : Γ_218 (39, 0, 0) 0 = Γ (39, 0, 0) 0 ∧ Γ_218 (39, 0, 0) 3 = Γ (39, 0, 0) 3 ∧ Γ_218 (39, 0, 0) 4 = Γ (39, 0, 0) 4 ∧ Γ_218 (39, 0, 0) 5 = Γ (39, 0, 0) 5 ∧ Γ_218 (39, 0, 0) 6 = Γ (39, 0, 0) 6 ∧ Γ_218 (39, 0, 0) 7 = Γ (39, 0, 0) 7 ∧ Γ_218 (39, 0, 0) 8 = Γ (39, 0, 0) 8 ∧ Γ (39, 0, 0) 1 ≤ Γ_218 (39, 0, 0) 1 ∧ Γ_218 (39, 0, 0) 1 ≤ T0 ∧ ((2 : Int32).toInt = -1 ∨ (0 ≤ (2 : Int32).toInt ∧ (2 : Int32).toInt ≤ 4 ∧ tr_L τ T0 (Γ_218 (39, 0, 0) 1))) := ⟨(by omega), (by omega), (by omega), (by omega), (by omega), (by omega), (by omega), (by omega), (by omega), (Or.inr ⟨by decide, by decide, tr_W.L (by assumption)⟩)⟩
          exact W.iret (v := 2) hx hb hr (fun t ht hW => ⟨⟨_, (f_216, Γ_218), rfl, hpo9, by rw [ht]; exact hP, hI, hfr, hgr⟩, hS.F ht⟩) hS.2.2 dX12_wordHere_69
      · have c_191 := hE_190.t c_191
        refine lv_iconst (v := 1) hx hb dX12_wordHere_36 (by decide) ?_
        refine lv_goto (tgt := 69) hx hb dX12_wordHere_37 (by decide) ?_
        have hpo9 : Γ_188 (39, 0, 0) 0 = Γ (39, 0, 0) 0 ∧ Γ_188 (39, 0, 0) 3 = Γ (39, 0, 0) 3 ∧ Γ_188 (39, 0, 0) 4 = Γ (39, 0, 0) 4 ∧ Γ_188 (39, 0, 0) 5 = Γ (39, 0, 0) 5 ∧ Γ_188 (39, 0, 0) 6 = Γ (39, 0, 0) 6 ∧ Γ_188 (39, 0, 0) 7 = Γ (39, 0, 0) 7 ∧ Γ_188 (39, 0, 0) 8 = Γ (39, 0, 0) 8 ∧ Γ (39, 0, 0) 1 ≤ Γ_188 (39, 0, 0) 1 ∧ Γ_188 (39, 0, 0) 1 ≤ T0 ∧ ((1 : Int32).toInt = -1 ∨ (0 ≤ (1 : Int32).toInt ∧ (1 : Int32).toInt ≤ 4 ∧ tr_L τ T0 (Γ_188 (39, 0, 0) 1))) := ⟨(by omega), (by omega), (by omega), (by omega), (by omega), (by omega), (by omega), (by omega), (by omega), (Or.inr ⟨by decide, by decide, tr_W.L (by assumption)⟩)⟩
        exact W.iret (v := 1) hx hb hr (fun t ht hW => ⟨⟨_, (f_186, Γ_188), rfl, hpo9, by rw [ht]; exact hP, hI, hfr, hgr⟩, hS.F ht⟩) hS.2.2 dX12_wordHere_69
    · have c_161 := hE_160.t c_161
      refine lv_iconst (v := 0) hx hb dX12_wordHere_22 (by decide) ?_
      refine lv_goto (tgt := 69) hx hb dX12_wordHere_23 (by decide) ?_
      have hpo9 : Γ_158 (39, 0, 0) 0 = Γ (39, 0, 0) 0 ∧ Γ_158 (39, 0, 0) 3 = Γ (39, 0, 0) 3 ∧ Γ_158 (39, 0, 0) 4 = Γ (39, 0, 0) 4 ∧ Γ_158 (39, 0, 0) 5 = Γ (39, 0, 0) 5 ∧ Γ_158 (39, 0, 0) 6 = Γ (39, 0, 0) 6 ∧ Γ_158 (39, 0, 0) 7 = Γ (39, 0, 0) 7 ∧ Γ_158 (39, 0, 0) 8 = Γ (39, 0, 0) 8 ∧ Γ (39, 0, 0) 1 ≤ Γ_158 (39, 0, 0) 1 ∧ Γ_158 (39, 0, 0) 1 ≤ T0 ∧ ((0 : Int32).toInt = -1 ∨ (0 ≤ (0 : Int32).toInt ∧ (0 : Int32).toInt ≤ 4 ∧ tr_L τ T0 (Γ_158 (39, 0, 0) 1))) := ⟨(by omega), (by omega), (by omega), (by omega), (by omega), (by omega), (by omega), (by omega), (by omega), (Or.inr ⟨by decide, by decide, tr_W.L (by assumption)⟩)⟩
      exact W.iret (v := 0) hx hb hr (fun t ht hW => ⟨⟨_, (f_156, Γ_158), rfl, hpo9, by rw [ht]; exact hP, hI, hfr, hgr⟩, hS.F ht⟩) hS.2.2 dX12_wordHere_69
set_option maxHeartbeats 4000000 in
set_option maxRecDepth 100000 in
theorem r_X12_puts (l : Launch) (D : va_G) (cy : Nat → ClassId) (sz : Nat) (L : List Nat) (K : Nat → tk_K) (Γ : tk_G) (f : Nat → va_E) (o : Nat) (p0 : Int32) (p1 : Int32) (t0 : Int) (ho : tp_r L K 39 (0) 0 o) (h4 : Γ (39, 0, 0) 4 = t0 ∧ 0 ≤ t0 ∧ t0 ≤ 21) (hl : 0 ≤ Γ (44, 22, 0) t0.toNat ∧ Γ (44, 22, 0) t0.toNat < 400) (hs : 0 ≤ p0.toInt ∧ p0.toInt ≤ 15) (hv : 0 ≤ p1.toInt ∧ p1.toInt ≤ 99999) : Met l yX12_puts (tl_w yX12_puts cX12_puts 3 none) ({ frames := 0, cells := 0, slots := 0, locals := 0 }) (va_Pc [.ref o, .int p0, .int p1] (tp_P D cy L K Γ f sz)) (va_Qv (fun (u : (Nat → va_E) × tk_G) => u.2 (43, 8800, 0) = tgu (Γ (43, 8800, 0)) (400 * t0 + Γ (44, 22, 0) t0.toNat).toNat (p0.toInt + 16 * p1.toInt) ∧ u.2 (44, 22, 0) = tgu (Γ (44, 22, 0)) t0.toNat (Γ (44, 22, 0) t0.toNat + 1)) (tp_BG D cy L K Γ f [43, 44]) (tp_A L sz)) 0 0 (tp_A L sz) := by
  refine Met.ofW (cc := cX12_puts) (maxL := 3) (ret := none) (by decide) rfl ?_
  intro p e s m args below meth c s₁ B hml hv
  obtain ⟨rfl, hsz, hP, hK, hL, hI, hN, hU⟩ := hv
  have hx := B.exec
  have hb := B.bytes
  have hr := B.returns
  have hta := tl_hta (atoms_spec (ws := tl_w yX12_puts cX12_puts 3 none) B.pre)
  have hown : s.vm.findClass RX12 = some m.cls := findClass_of_methodNamed B.named
  have hlocks := B.notSynchronized
  subst hsz
  have hI0 := hI
  generalize hAe : tp_A L s.heap.size = A
  have hA : ∀ q : Nat, s.heap.size ≤ q → A q := fun q h => by rw [← hAe]; exact Or.inr h
  have hAL : ∀ q ∈ L, A q := fun q h => by rw [← hAe]; exact Or.inl h
  have hAf : ∀ (H : Heap), s.heap.size ≤ H.size → ∀ q, tp_A L H.size q → A q := fun H h q hq => hq.elim (hAL q) (fun h2 => hA q (Nat.le_trans h h2))
  have hS : va_S A s.heap s.heap [] := va_S.rf
  have hD : va_D A (va_pl L f) := tp_D hL hAL
  have hfr : ∀ b, (K b).1 ∉ ([43, 44] : List Nat) → f b = f b := fun _ _ => rfl
  have hgr : ∀ κ : tk_K, κ.1 ∉ ([43, 44] : List Nat) → Γ κ = Γ κ := fun _ _ => rfl
  have hl := lv_entry ([.ref o, .int p0, .int p1]) (n := 3) (Nat.le_of_ble_eq_true rfl)
  rw [lg_entry_eq]
  generalize (lg_sl ([.ref o, .int p0, .int p1]) ++ List.replicate (3 - (lg_sl ([.ref o, .int p0, .int p1])).length) Slot.unset).toArray = ls at hl ⊢
  have hl : lv_has ls 3 [(0, .ref o), (1, .int p0), (2, .int p1)] := hl
  refine lv_aload_n hx hb dX12_puts_0 rfl (lv_at hl 0 rfl) ?_
  obtain ⟨r_2, v_3, q_4, hf_1, hr_5, hv_6⟩ := (show tp_o_M L K 0 0 (Γ (39, 0, 0)) (f o) from hI0.at ho)
  have hx_7 : (v_3 4).toInt = Γ (39, 0, 0) 4 := hv_6 4 (by decide)
  refine tp_get (cy := cy) (ci := 12) (v := .ref (r_2 3)) (C := RX12) (T := TX12) (N := 49) hx hb hta inlX12 hown hK hP ho.1 hf_1 rfl 4 (by decide) (hta _ wk_153) (fun _ h9 => h9) rfl dX12_puts_1 ?_
  refine lv_sipush (v := 400) hx hb dX12_puts_4 (by decide) ?_
  refine lv_aload_n hx hb dX12_puts_7 rfl (lv_at hl 0 rfl) ?_
  refine tp_get (cy := cy) (ci := 12) (v := .int (v_3 4)) (C := RX12) (T := TX12) (N := 49) hx hb hta inlX12 hown hK hP ho.1 hf_1 rfl 20 (by decide) (hta _ wk_537) (fun _ h9 => h9) rfl dX12_puts_8 ?_
  refine lv_imul hx hb dX12_puts_11 ?_
  refine lv_topi (fun z_8 ez_8 => ?_)
  try have iz_8 : z_8.toInt = (400 : Int) * (v_3 4).toInt := by rw [ez_8]; exact tl_mulN 400 (v_3 4) rfl rfl (by omega) (by omega)
  refine lv_aload_n hx hb dX12_puts_12 rfl (lv_at hl 0 rfl) ?_
  refine tp_get (cy := cy) (ci := 12) (v := .ref (r_2 4)) (C := RX12) (T := TX12) (N := 49) hx hb hta inlX12 hown hK hP ho.1 hf_1 rfl 5 (by decide) (hta _ wk_154) (fun _ h9 => h9) rfl dX12_puts_13 ?_
  refine lv_aload_n hx hb dX12_puts_16 rfl (lv_at hl 0 rfl) ?_
  refine tp_get (cy := cy) (ci := 12) (v := .int (v_3 4)) (C := RX12) (T := TX12) (N := 49) hx hb hta inlX12 hown hK hP ho.1 hf_1 rfl 20 (by decide) (hta _ wk_537) (fun _ h9 => h9) rfl dX12_puts_17 ?_
  obtain ⟨g_10, hf_9, hg_11⟩ := (show tp_gi cy (22) (Γ (44, 22, 0)) (f (r_2 4)) from hI.at (show tp_r L K 44 22 0 (r_2 4) from hr_5 4 (by decide)))
  have hn_12 : vp_in (v_3 4) (22) := tl_in (by omega) (by omega)
  refine tp_iald (cy := cy) hx hb hK hP (show tp_r L K 44 22 0 (r_2 4) from hr_5 4 (by decide)).1 hf_9 hn_12 dX12_puts_20 ?_
  refine lv_topi (fun z_13 ez_13 => ?_)
  have iz_13 : z_13.toInt = Γ (44, 22, 0) (v_3 4).toInt.toNat := by rw [ez_13]; exact hg_11 _ (tp_pin hn_12)
  have jz_13 : z_13.toInt = Γ (44, 22, 0) t0.toNat := by rw [show t0 = (v_3 4).toInt from by omega]; exact iz_13
  refine lv_iadd hx hb dX12_puts_21 ?_
  refine lv_topi (fun z_14 ez_14 => ?_)
  try have iz_14 : z_14.toInt = z_8.toInt + z_13.toInt := by rw [ez_14]; exact tl_addN z_8 z_13 rfl rfl (by omega) (by omega)
  refine lv_iload_n hx hb dX12_puts_22 rfl (lv_at hl 1 rfl) ?_
  refine lv_bipush (v := 16) hx hb dX12_puts_23 (by decide) ?_
  refine lv_iload_n hx hb dX12_puts_25 rfl (lv_at hl 2 rfl) ?_
  refine lv_imul hx hb dX12_puts_26 ?_
  refine lv_topi (fun z_15 ez_15 => ?_)
  try have iz_15 : z_15.toInt = (16 : Int) * p1.toInt := by rw [ez_15]; exact tl_mulN 16 p1 rfl rfl (by omega) (by omega)
  refine lv_iadd hx hb dX12_puts_27 ?_
  refine lv_topi (fun z_16 ez_16 => ?_)
  try have iz_16 : z_16.toInt = p0.toInt + z_15.toInt := by rw [ez_16]; exact tl_addN p0 z_15 rfl rfl (by omega) (by omega)
  obtain ⟨g_18, hf_17, hg_19⟩ := (show tp_gi cy (8800) (Γ (43, 8800, 0)) (f (r_2 3)) from hI.at (show tp_r L K 43 8800 0 (r_2 3) from hr_5 3 (by decide)))
  have hn_20 : vp_in z_14 (8800) := tl_in (by omega) (by omega)
  have hj_21 : z_14.toNatClampNeg = (400 * t0 + Γ (44, 22, 0) t0.toNat).toNat := by show z_14.toInt.toNat = _; omega
  have hv_22 : z_16.toInt = p0.toInt + 16 * p1.toInt := by omega
  obtain ⟨Γ_23, eΓ_23⟩ : ∃ y : tk_G, y = tg Γ (43, 8800, 0) ((400 * t0 + Γ (44, 22, 0) t0.toNat).toNat) (p0.toInt + 16 * p1.toInt) := ⟨_, rfl⟩
  have hI9 : tp_I cy L K Γ_23 (va_up f (r_2 3) (.inl (cy 0, 8800, .inl (upd g_18 z_14.toNatClampNeg z_16)))) := by have q9 : tg Γ (43, 8800, 0) ((400 * t0 + Γ (44, 22, 0) t0.toNat).toNat) (p0.toInt + 16 * p1.toInt) = tg Γ (43, 8800, 0) z_14.toNatClampNeg z_16.toInt := (by rw [hj_21, hv_22]); rw [eΓ_23, q9]; exact hI.setg hU rfl (show tp_r L K 43 8800 0 (r_2 3) from hr_5 3 (by decide)) (show tp_gi cy (8800) (tgu (Γ (43, 8800, 0)) _ _) _ from ⟨_, rfl, tp_gi_upd hg_19⟩)
  have hfr9 : ∀ b, (K b).1 ∉ ([43, 44] : List Nat) → va_up f (r_2 3) (.inl (cy 0, 8800, .inl (upd g_18 z_14.toNatClampNeg z_16))) b = f b := tp_fr hfr (show tp_r L K 43 8800 0 (r_2 3) from hr_5 3 (by decide)) (by decide)
  refine tp_iast (cy := cy) hx hb hK hP hD hS (show tp_r L K 43 8800 0 (r_2 3) from hr_5 3 (by decide)).1 hf_17 hn_20 dX12_puts_28 (fun H locs hP hD hS => ?_)
  have hP : va_P D vwCl (va_pl L (va_up f (r_2 3) (.inl (cy 0, 8800, .inl (upd g_18 z_14.toNatClampNeg z_16))))) H := hP
  generalize hfe : va_up f (r_2 3) (.inl (cy 0, 8800, .inl (upd g_18 z_14.toNatClampNeg z_16))) = f_24 at hP hI9 hfr9
  have hD : va_D A (va_pl L f_24) := tp_D hL hAL
  have hf_25 := (show f_24 (r_2 4) = _ from by rw [← hfe, va_up_ne _ _ (tp_ne (show tp_r L K 44 22 0 (r_2 4) from hr_5 4 (by decide)) (show tp_r L K 43 8800 0 (r_2 3) from hr_5 3 (by decide)) (by decide))]).trans hf_9
  have hf_26 : f_24 (r_2 3) = .inl (cy 0, 8800, .inl (upd g_18 z_14.toNatClampNeg z_16)) := by rw [← hfe]; exact va_up_self _ _ _
  clear hfe
  have hI := hI9
  have hfr := hfr9
  clear hI9 hfr9
  have wxΓ_23_MLEN : Γ_23 (44, 22, 0) t0.toNat = Γ (44, 22, 0) t0.toNat := by rw [eΓ_23, tg_r (by decide)]
  have wsΓ_23 : Γ_23 (43, 8800, 0) ((400 * t0 + Γ (44, 22, 0) t0.toNat).toNat) = p0.toInt + 16 * p1.toInt := by rw [eΓ_23]; exact tg_s
  have hgr : ∀ κ : tk_K, κ.1 ∉ ([43, 44] : List Nat) → Γ_23 κ = Γ κ := tg_fr hgr eΓ_23 (by decide)
  have hg_27 : ∀ j : Nat, j < 22 → (g_10 j).toInt = Γ_23 (44, 22, 0) j := fun j hj => by rw [eΓ_23, tg_r (by decide)]; exact hg_11 j hj
  refine lv_aload_n hx hb dX12_puts_29 rfl (lv_at hl 0 rfl) ?_
  refine tp_get (cy := cy) (ci := 12) (v := .ref (r_2 4)) (C := RX12) (T := TX12) (N := 49) hx hb hta inlX12 hown hK hP ho.1 ((tp_un hfr ho (by decide)).trans hf_1) rfl 5 (by decide) (hta _ wk_154) (fun _ h9 => h9) rfl dX12_puts_30 ?_
  refine lv_aload_n hx hb dX12_puts_33 rfl (lv_at hl 0 rfl) ?_
  refine tp_get (cy := cy) (ci := 12) (v := .int (v_3 4)) (C := RX12) (T := TX12) (N := 49) hx hb hta inlX12 hown hK hP ho.1 ((tp_un hfr ho (by decide)).trans hf_1) rfl 20 (by decide) (hta _ wk_537) (fun _ h9 => h9) rfl dX12_puts_34 ?_
  refine lv_dup2_11 hx hb dX12_puts_37 rfl rfl ?_
  have hn_28 : vp_in (v_3 4) (22) := tl_in (by omega) (by omega)
  refine tp_iald (cy := cy) hx hb hK hP (show tp_r L K 44 22 0 (r_2 4) from hr_5 4 (by decide)).1 hf_25 hn_28 dX12_puts_38 ?_
  refine lv_topi (fun z_29 ez_29 => ?_)
  obtain rfl : z_13 = z_29 := ez_13.trans ez_29.symm
  refine lv_iconst (v := 1) hx hb dX12_puts_39 (by decide) ?_
  refine lv_iadd hx hb dX12_puts_40 ?_
  refine lv_topi (fun z_30 ez_30 => ?_)
  try have iz_30 : z_30.toInt = z_13.toInt + (1 : Int) := by rw [ez_30]; exact tl_addN z_13 1 rfl rfl (by omega) (by omega)
  have hn_31 : vp_in (v_3 4) (22) := tl_in (by omega) (by omega)
  have hj_32 : (v_3 4).toNatClampNeg = t0.toNat := by show (v_3 4).toInt.toNat = _; omega
  have hv_33 : z_30.toInt = Γ (44, 22, 0) t0.toNat + 1 := by omega
  obtain ⟨Γ_34, eΓ_34⟩ : ∃ y : tk_G, y = tg Γ_23 (44, 22, 0) t0.toNat (Γ (44, 22, 0) t0.toNat + 1) := ⟨_, rfl⟩
  have hI9 : tp_I cy L K Γ_34 (va_up f_24 (r_2 4) (.inl (cy 0, 22, .inl (upd g_10 (v_3 4).toNatClampNeg z_30)))) := by have q9 : tg Γ_23 (44, 22, 0) t0.toNat (Γ (44, 22, 0) t0.toNat + 1) = tg Γ_23 (44, 22, 0) (v_3 4).toNatClampNeg z_30.toInt := (by rw [hj_32, hv_33]); rw [eΓ_34, q9]; exact hI.setg hU rfl (show tp_r L K 44 22 0 (r_2 4) from hr_5 4 (by decide)) (show tp_gi cy (22) (tgu (Γ_23 (44, 22, 0)) _ _) _ from ⟨_, rfl, tp_gi_upd hg_27⟩)
  have hfr9 : ∀ b, (K b).1 ∉ ([43, 44] : List Nat) → va_up f_24 (r_2 4) (.inl (cy 0, 22, .inl (upd g_10 (v_3 4).toNatClampNeg z_30))) b = f b := tp_fr hfr (show tp_r L K 44 22 0 (r_2 4) from hr_5 4 (by decide)) (by decide)
  refine tp_iast (cy := cy) hx hb hK hP hD hS (show tp_r L K 44 22 0 (r_2 4) from hr_5 4 (by decide)).1 hf_25 hn_31 dX12_puts_41 (fun H locs hP hD hS => ?_)
  have hP : va_P D vwCl (va_pl L (va_up f_24 (r_2 4) (.inl (cy 0, 22, .inl (upd g_10 (v_3 4).toNatClampNeg z_30))))) H := hP
  generalize hfe : va_up f_24 (r_2 4) (.inl (cy 0, 22, .inl (upd g_10 (v_3 4).toNatClampNeg z_30))) = f_35 at hP hI9 hfr9
  have hD : va_D A (va_pl L f_35) := tp_D hL hAL
  have hf_36 : f_35 (r_2 4) = .inl (cy 0, 22, .inl (upd g_10 (v_3 4).toNatClampNeg z_30)) := by rw [← hfe]; exact va_up_self _ _ _
  clear hfe
  have hI := hI9
  have hfr := hfr9
  clear hI9 hfr9
  have wsΓ_34 : Γ_34 (44, 22, 0) t0.toNat = Γ (44, 22, 0) t0.toNat + 1 := by rw [eΓ_34]; exact tg_s
  have hgr : ∀ κ : tk_K, κ.1 ∉ ([43, 44] : List Nat) → Γ_34 κ = Γ κ := tg_fr hgr eΓ_34 (by decide)
  have hpo9 : Γ_34 (43, 8800, 0) = tgu (Γ (43, 8800, 0)) (400 * t0 + Γ (44, 22, 0) t0.toNat).toNat (p0.toInt + 16 * p1.toInt) ∧ Γ_34 (44, 22, 0) = tgu (Γ (44, 22, 0)) t0.toNat (Γ (44, 22, 0) t0.toNat + 1) := ⟨(by rw [eΓ_34, tg_rf (by decide), eΓ_23, tg_f]), (by rw [eΓ_34, tg_f, eΓ_23, tg_rf (by decide)])⟩
  exact W.vret hx hb hr (fun t ht hW => ⟨⟨(f_35, Γ_34), rfl, hpo9, by rw [ht]; exact hP, hI, hfr, hgr⟩, hS.F ht⟩) hS.2.2 dX12_puts_42
set_option maxHeartbeats 4000000 in
set_option maxRecDepth 100000 in
theorem r_X12_opens (l : Launch) (D : va_G) (cy : Nat → ClassId) (sz : Nat) (L : List Nat) (K : Nat → tk_K) (Γ : tk_G) (f : Nat → va_E) (o : Nat) (p0 : Int32) (ho : tp_r L K 39 (0) 0 o) (h8 : 0 ≤ Γ (39, 0, 0) 8 ∧ Γ (39, 0, 0) 8 < 400) : Met l yX12_opens (tl_w yX12_opens cX12_opens 2 (some .boolean)) ({ frames := 1, cells := 0, slots := 0, locals := 22 }) (va_Pc [.ref o, .int p0] (tp_P D cy L K Γ f sz)) (va_Qi (fun (r : Int32) (u : (Nat → va_E) × tk_G) => tl_J r (u.2 (39, 0, 0) 8 = Γ (39, 0, 0) 8 + 1 ∧ u.2 (52, 400, 0) = tgu (Γ (52, 400, 0)) (Γ (39, 0, 0) 8).toNat p0.toInt) ∧ u.2 (39, 0, 0) 0 = Γ (39, 0, 0) 0 ∧ u.2 (39, 0, 0) 1 = Γ (39, 0, 0) 1 ∧ u.2 (39, 0, 0) 3 = Γ (39, 0, 0) 3 ∧ u.2 (39, 0, 0) 4 = Γ (39, 0, 0) 4 ∧ u.2 (39, 0, 0) 5 = Γ (39, 0, 0) 5 ∧ u.2 (39, 0, 0) 7 = Γ (39, 0, 0) 7) (tp_BG D cy L K Γ f [39, 52]) (tp_A L sz)) 0 0 (tp_A L sz) := by
  refine Met.ofW (cc := cX12_opens) (maxL := 2) (ret := (some .boolean)) (by decide) rfl ?_
  intro p e s m args below meth c s₁ B hml hv
  obtain ⟨rfl, hsz, hP, hK, hL, hI, hN, hU⟩ := hv
  have hx := B.exec
  have hb := B.bytes
  have hr := B.returns
  have hta := tl_hta (atoms_spec (ws := tl_w yX12_opens cX12_opens 2 (some .boolean)) B.pre)
  have hown : s.vm.findClass RX12 = some m.cls := findClass_of_methodNamed B.named
  have hlocks := B.notSynchronized
  subst hsz
  have hI0 := hI
  generalize hAe : tp_A L s.heap.size = A
  have hA : ∀ q : Nat, s.heap.size ≤ q → A q := fun q h => by rw [← hAe]; exact Or.inr h
  have hAL : ∀ q ∈ L, A q := fun q h => by rw [← hAe]; exact Or.inl h
  have hAf : ∀ (H : Heap), s.heap.size ≤ H.size → ∀ q, tp_A L H.size q → A q := fun H h q hq => hq.elim (hAL q) (fun h2 => hA q (Nat.le_trans h h2))
  have hS : va_S A s.heap s.heap [] := va_S.rf
  have hD : va_D A (va_pl L f) := tp_D hL hAL
  have hfr : ∀ b, (K b).1 ∉ ([39, 52] : List Nat) → f b = f b := fun _ _ => rfl
  have hgr : ∀ κ : tk_K, κ.1 ∉ ([39, 52] : List Nat) → Γ κ = Γ κ := fun _ _ => rfl
  have hl := lv_entry ([.ref o, .int p0]) (n := 2) (Nat.le_of_ble_eq_true rfl)
  rw [lg_entry_eq]
  generalize (lg_sl ([.ref o, .int p0]) ++ List.replicate (2 - (lg_sl ([.ref o, .int p0])).length) Slot.unset).toArray = ls at hl ⊢
  have hl : lv_has ls 2 [(0, .ref o), (1, .int p0)] := hl
  refine lv_aload_n hx hb dX12_opens_0 rfl (lv_at hl 0 rfl) ?_
  obtain ⟨r_2, v_3, q_4, hf_1, hr_5, hv_6⟩ := (show tp_o_M L K 0 0 (Γ (39, 0, 0)) (f o) from hI.at ho)
  have hx_7 : (v_3 0).toInt = Γ (39, 0, 0) 0 := hv_6 0 (by decide)
  have hx_8 : (v_3 1).toInt = Γ (39, 0, 0) 1 := hv_6 1 (by decide)
  have hx_9 : (v_3 2).toInt = Γ (39, 0, 0) 2 := hv_6 2 (by decide)
  have hx_10 : (v_3 3).toInt = Γ (39, 0, 0) 3 := hv_6 3 (by decide)
  have hx_11 : (v_3 4).toInt = Γ (39, 0, 0) 4 := hv_6 4 (by decide)
  have hx_12 : (v_3 5).toInt = Γ (39, 0, 0) 5 := hv_6 5 (by decide)
  have hx_13 : (v_3 6).toInt = Γ (39, 0, 0) 6 := hv_6 6 (by decide)
  have hx_14 : (v_3 7).toInt = Γ (39, 0, 0) 7 := hv_6 7 (by decide)
  have hx_15 : (v_3 8).toInt = Γ (39, 0, 0) 8 := hv_6 8 (by decide)
  have hx_16 : (v_3 9).toInt = Γ (39, 0, 0) 9 := hv_6 9 (by decide)
  have hx_17 : (v_3 10).toInt = Γ (39, 0, 0) 10 := hv_6 10 (by decide)
  have hx_18 : (v_3 11).toInt = Γ (39, 0, 0) 11 := hv_6 11 (by decide)
  have hx_19 : (v_3 12).toInt = Γ (39, 0, 0) 12 := hv_6 12 (by decide)
  have hx_20 : (v_3 13).toInt = Γ (39, 0, 0) 13 := hv_6 13 (by decide)
  have hx_21 : (v_3 14).toInt = Γ (39, 0, 0) 14 := hv_6 14 (by decide)
  have hx_22 : (v_3 15).toInt = Γ (39, 0, 0) 15 := hv_6 15 (by decide)
  refine tp_get (cy := cy) (ci := 12) (v := .int (v_3 6)) (C := RX12) (T := TX12) (N := 49) hx hb hta inlX12 hown hK hP ho.1 hf_1 rfl 22 (by decide) (hta _ wk_658) (fun _ h9 => h9) rfl dX12_opens_1 ?_
  refine lv_bipush (v := 10) hx hb dX12_opens_4 (by decide) ?_
  refine lv_icmp_ne (tgt := 19) hx hb dX12_opens_6 (by decide) (fun c_23 => ?_) (fun c_23 => ?_)
  · have c_23 : ¬ (v_3 6).toInt = (10 : Int) := tl_neq c_23
    refine lv_aload_n hx hb dX12_opens_19 rfl (lv_at hl 0 rfl) ?_
    refine lv_dup hx hb dX12_opens_20 rfl ?_
    refine tp_get (cy := cy) (ci := 12) (v := .int (v_3 6)) (C := RX12) (T := TX12) (N := 49) hx hb hta inlX12 hown hK hP ho.1 hf_1 rfl 22 (by decide) (hta _ wk_658) (fun _ h9 => h9) rfl dX12_opens_21 ?_
    refine lv_iconst (v := 1) hx hb dX12_opens_24 (by decide) ?_
    refine lv_iadd hx hb dX12_opens_25 ?_
    refine lv_topi (fun z_24 ez_24 => ?_)
    try have iz_24 : z_24.toInt = (v_3 6).toInt + (1 : Int) := by rw [ez_24]; exact tl_addN (v_3 6) 1 rfl rfl (by omega) (by omega)
    obtain ⟨Γ_25, eΓ_25⟩ : ∃ y : tk_G, y = tg Γ (39, 0, 0) 6 z_24.toInt := ⟨_, rfl⟩
    have hv_26 : ∀ i : Nat, i < 16 → ((upd v_3 6 z_24) i).toInt = Γ_25 (39, 0, 0) i := by rw [eΓ_25, tg_f]; exact tp_gi_upd hv_6
    have hI9 : tp_I cy L K Γ_25 (va_up f o (.inr (12, [.ref (r_2 0), .ref (r_2 1), .int (v_3 0), .ref (r_2 2), .ref (r_2 3), .ref (r_2 4), .ref (r_2 5), .ref (r_2 6), .ref (r_2 7), .ref (r_2 8), .ref (r_2 9), .ref (r_2 10), .ref (r_2 11), .ref (r_2 12), .ref (r_2 13), .ref (r_2 14), .ref (r_2 15), .int (v_3 1), .int (v_3 2), .int (v_3 3), .int (v_3 4), .int (v_3 5), .int z_24, .int (v_3 7), .ref (r_2 16), .int (v_3 8), .ref (r_2 17), .int (v_3 9), .ref (r_2 18), .long q_4, .ref (r_2 19), .ref (r_2 20), .int (v_3 10), .int (v_3 11), .int (v_3 12), .ref (r_2 21), .ref (r_2 22), .int (v_3 13), .ref (r_2 23), .int (v_3 14), .int (v_3 15), .ref (r_2 24), .ref (r_2 25), .ref (r_2 26), .ref (r_2 27), .ref (r_2 28), .ref (r_2 29), .ref (r_2 30), .ref (r_2 31)]))) := by have q9 := hv_26; rw [eΓ_25, tg_f] at q9; rw [eΓ_25]; exact hI.setg hU rfl ho (show tp_o_M L K 0 0 (tgu (Γ (39, 0, 0)) 6 z_24.toInt) _ from ⟨r_2, (upd v_3 6 z_24), q_4, rfl, hr_5, q9⟩)
    have hfr9 : ∀ b, (K b).1 ∉ ([39, 52] : List Nat) → va_up f o (.inr (12, [.ref (r_2 0), .ref (r_2 1), .int (v_3 0), .ref (r_2 2), .ref (r_2 3), .ref (r_2 4), .ref (r_2 5), .ref (r_2 6), .ref (r_2 7), .ref (r_2 8), .ref (r_2 9), .ref (r_2 10), .ref (r_2 11), .ref (r_2 12), .ref (r_2 13), .ref (r_2 14), .ref (r_2 15), .int (v_3 1), .int (v_3 2), .int (v_3 3), .int (v_3 4), .int (v_3 5), .int z_24, .int (v_3 7), .ref (r_2 16), .int (v_3 8), .ref (r_2 17), .int (v_3 9), .ref (r_2 18), .long q_4, .ref (r_2 19), .ref (r_2 20), .int (v_3 10), .int (v_3 11), .int (v_3 12), .ref (r_2 21), .ref (r_2 22), .int (v_3 13), .ref (r_2 23), .int (v_3 14), .int (v_3 15), .ref (r_2 24), .ref (r_2 25), .ref (r_2 26), .ref (r_2 27), .ref (r_2 28), .ref (r_2 29), .ref (r_2 30), .ref (r_2 31)])) b = f b := tp_fr hfr ho (by decide)
    refine tp_put (cy := cy) (ci := 12) (v := .int z_24) (ty := tyX12 22) (C := RX12) (T := TX12) (N := 49) hx hb hta inlX12 tyX12 tyX12_ok nmX12 hown hK hP hD hS ho.1 hf_1 rfl 22 (by decide) (hta _ wk_658) (fun _ h9 => h9) rfl (tyX12_ok 22 (by decide)) rfl rfl (Nat.le_of_ble_eq_true rfl) dX12_opens_26 (fun H locs hP hD hS => ?_)
    have hP : va_P D vwCl (va_pl L (va_up f o (.inr (12, [.ref (r_2 0), .ref (r_2 1), .int (v_3 0), .ref (r_2 2), .ref (r_2 3), .ref (r_2 4), .ref (r_2 5), .ref (r_2 6), .ref (r_2 7), .ref (r_2 8), .ref (r_2 9), .ref (r_2 10), .ref (r_2 11), .ref (r_2 12), .ref (r_2 13), .ref (r_2 14), .ref (r_2 15), .int (v_3 1), .int (v_3 2), .int (v_3 3), .int (v_3 4), .int (v_3 5), .int z_24, .int (v_3 7), .ref (r_2 16), .int (v_3 8), .ref (r_2 17), .int (v_3 9), .ref (r_2 18), .long q_4, .ref (r_2 19), .ref (r_2 20), .int (v_3 10), .int (v_3 11), .int (v_3 12), .ref (r_2 21), .ref (r_2 22), .int (v_3 13), .ref (r_2 23), .int (v_3 14), .int (v_3 15), .ref (r_2 24), .ref (r_2 25), .ref (r_2 26), .ref (r_2 27), .ref (r_2 28), .ref (r_2 29), .ref (r_2 30), .ref (r_2 31)])))) H := hP
    generalize hfe : va_up f o (.inr (12, [.ref (r_2 0), .ref (r_2 1), .int (v_3 0), .ref (r_2 2), .ref (r_2 3), .ref (r_2 4), .ref (r_2 5), .ref (r_2 6), .ref (r_2 7), .ref (r_2 8), .ref (r_2 9), .ref (r_2 10), .ref (r_2 11), .ref (r_2 12), .ref (r_2 13), .ref (r_2 14), .ref (r_2 15), .int (v_3 1), .int (v_3 2), .int (v_3 3), .int (v_3 4), .int (v_3 5), .int z_24, .int (v_3 7), .ref (r_2 16), .int (v_3 8), .ref (r_2 17), .int (v_3 9), .ref (r_2 18), .long q_4, .ref (r_2 19), .ref (r_2 20), .int (v_3 10), .int (v_3 11), .int (v_3 12), .ref (r_2 21), .ref (r_2 22), .int (v_3 13), .ref (r_2 23), .int (v_3 14), .int (v_3 15), .ref (r_2 24), .ref (r_2 25), .ref (r_2 26), .ref (r_2 27), .ref (r_2 28), .ref (r_2 29), .ref (r_2 30), .ref (r_2 31)])) = f_27 at hP hI9 hfr9
    have hD : va_D A (va_pl L f_27) := tp_D hL hAL
    have hf_28 : f_27 o = .inr (12, [.ref (r_2 0), .ref (r_2 1), .int (v_3 0), .ref (r_2 2), .ref (r_2 3), .ref (r_2 4), .ref (r_2 5), .ref (r_2 6), .ref (r_2 7), .ref (r_2 8), .ref (r_2 9), .ref (r_2 10), .ref (r_2 11), .ref (r_2 12), .ref (r_2 13), .ref (r_2 14), .ref (r_2 15), .int (v_3 1), .int (v_3 2), .int (v_3 3), .int (v_3 4), .int (v_3 5), .int z_24, .int (v_3 7), .ref (r_2 16), .int (v_3 8), .ref (r_2 17), .int (v_3 9), .ref (r_2 18), .long q_4, .ref (r_2 19), .ref (r_2 20), .int (v_3 10), .int (v_3 11), .int (v_3 12), .ref (r_2 21), .ref (r_2 22), .int (v_3 13), .ref (r_2 23), .int (v_3 14), .int (v_3 15), .ref (r_2 24), .ref (r_2 25), .ref (r_2 26), .ref (r_2 27), .ref (r_2 28), .ref (r_2 29), .ref (r_2 30), .ref (r_2 31)]) := by rw [← hfe]; exact va_up_self _ _ _
    clear hfe
    have hI := hI9
    have hfr := hfr9
    clear hI9 hfr9
    have hgr : ∀ κ : tk_K, κ.1 ∉ ([39, 52] : List Nat) → Γ_25 κ = Γ κ := tg_fr hgr eΓ_25 (by decide)
    have hx_29 : (v_3 0).toInt = Γ_25 (39, 0, 0) 0 := hv_26 0 (by decide)
    have hx_30 : (v_3 1).toInt = Γ_25 (39, 0, 0) 1 := hv_26 1 (by decide)
    have hx_31 : (v_3 2).toInt = Γ_25 (39, 0, 0) 2 := hv_26 2 (by decide)
    have hx_32 : (v_3 3).toInt = Γ_25 (39, 0, 0) 3 := hv_26 3 (by decide)
    have hx_33 : (v_3 4).toInt = Γ_25 (39, 0, 0) 4 := hv_26 4 (by decide)
    have hx_34 : (v_3 5).toInt = Γ_25 (39, 0, 0) 5 := hv_26 5 (by decide)
    have hx_35 : z_24.toInt = Γ_25 (39, 0, 0) 6 := hv_26 6 (by decide)
    have hx_36 : (v_3 7).toInt = Γ_25 (39, 0, 0) 7 := hv_26 7 (by decide)
    have hx_37 : (v_3 8).toInt = Γ_25 (39, 0, 0) 8 := hv_26 8 (by decide)
    have hx_38 : (v_3 9).toInt = Γ_25 (39, 0, 0) 9 := hv_26 9 (by decide)
    have hx_39 : (v_3 10).toInt = Γ_25 (39, 0, 0) 10 := hv_26 10 (by decide)
    have hx_40 : (v_3 11).toInt = Γ_25 (39, 0, 0) 11 := hv_26 11 (by decide)
    have hx_41 : (v_3 12).toInt = Γ_25 (39, 0, 0) 12 := hv_26 12 (by decide)
    have hx_42 : (v_3 13).toInt = Γ_25 (39, 0, 0) 13 := hv_26 13 (by decide)
    have hx_43 : (v_3 14).toInt = Γ_25 (39, 0, 0) 14 := hv_26 14 (by decide)
    have hx_44 : (v_3 15).toInt = Γ_25 (39, 0, 0) 15 := hv_26 15 (by decide)
    refine lv_aload_n hx hb dX12_opens_29 rfl (lv_at hl 0 rfl) ?_
    refine tp_get (cy := cy) (ci := 12) (v := .ref (r_2 16)) (C := RX12) (T := TX12) (N := 49) hx hb hta inlX12 hown hK hP ho.1 hf_28 rfl 24 (by decide) (hta _ wk_166) (fun _ h9 => h9) rfl dX12_opens_30 ?_
    refine lv_aload_n hx hb dX12_opens_33 rfl (lv_at hl 0 rfl) ?_
    refine tp_get (cy := cy) (ci := 12) (v := .int (v_3 8)) (C := RX12) (T := TX12) (N := 49) hx hb hta inlX12 hown hK hP ho.1 hf_28 rfl 25 (by decide) (hta _ wk_657) (fun _ h9 => h9) rfl dX12_opens_34 ?_
    refine lv_iload_n hx hb dX12_opens_37 rfl (lv_at hl 1 rfl) ?_
    obtain ⟨g_46, hf_45, hg_47⟩ := (show tp_gi cy (400) (Γ_25 (52, 400, 0)) (f_27 (r_2 16)) from hI.at (show tp_r L K 52 400 0 (r_2 16) from hr_5 16 (by decide)))
    have hn_48 : vp_in (v_3 8) (400) := tl_in (by omega) (by omega)
    have hj_49 : (v_3 8).toNatClampNeg = (Γ (39, 0, 0) 8).toNat := by show (v_3 8).toInt.toNat = _; omega
    have hv_50 : p0.toInt = p0.toInt := rfl
    obtain ⟨Γ_51, eΓ_51⟩ : ∃ y : tk_G, y = tg Γ_25 (52, 400, 0) ((Γ (39, 0, 0) 8).toNat) p0.toInt := ⟨_, rfl⟩
    have hI9 : tp_I cy L K Γ_51 (va_up f_27 (r_2 16) (.inl (cy 0, 400, .inl (upd g_46 (v_3 8).toNatClampNeg p0)))) := by have q9 : tg Γ_25 (52, 400, 0) ((Γ (39, 0, 0) 8).toNat) p0.toInt = tg Γ_25 (52, 400, 0) (v_3 8).toNatClampNeg p0.toInt := (by rw [hj_49, hv_50]); rw [eΓ_51, q9]; exact hI.setg hU rfl (show tp_r L K 52 400 0 (r_2 16) from hr_5 16 (by decide)) (show tp_gi cy (400) (tgu (Γ_25 (52, 400, 0)) _ _) _ from ⟨_, rfl, tp_gi_upd hg_47⟩)
    have hfr9 : ∀ b, (K b).1 ∉ ([39, 52] : List Nat) → va_up f_27 (r_2 16) (.inl (cy 0, 400, .inl (upd g_46 (v_3 8).toNatClampNeg p0))) b = f b := tp_fr hfr (show tp_r L K 52 400 0 (r_2 16) from hr_5 16 (by decide)) (by decide)
    refine tp_iast (cy := cy) hx hb hK hP hD hS (show tp_r L K 52 400 0 (r_2 16) from hr_5 16 (by decide)).1 hf_45 hn_48 dX12_opens_38 (fun H locs hP hD hS => ?_)
    have hP : va_P D vwCl (va_pl L (va_up f_27 (r_2 16) (.inl (cy 0, 400, .inl (upd g_46 (v_3 8).toNatClampNeg p0))))) H := hP
    generalize hfe : va_up f_27 (r_2 16) (.inl (cy 0, 400, .inl (upd g_46 (v_3 8).toNatClampNeg p0))) = f_52 at hP hI9 hfr9
    have hD : va_D A (va_pl L f_52) := tp_D hL hAL
    have hf_53 := (show f_52 o = _ from by rw [← hfe, va_up_ne _ _ (tp_ne ho (show tp_r L K 52 400 0 (r_2 16) from hr_5 16 (by decide)) (by decide))]).trans hf_28
    have hf_54 : f_52 (r_2 16) = .inl (cy 0, 400, .inl (upd g_46 (v_3 8).toNatClampNeg p0)) := by rw [← hfe]; exact va_up_self _ _ _
    clear hfe
    have hI := hI9
    have hfr := hfr9
    clear hI9 hfr9
    have wsΓ_51 : Γ_51 (52, 400, 0) ((Γ (39, 0, 0) 8).toNat) = p0.toInt := by rw [eΓ_51]; exact tg_s
    have hgr : ∀ κ : tk_K, κ.1 ∉ ([39, 52] : List Nat) → Γ_51 κ = Γ κ := tg_fr hgr eΓ_51 (by decide)
    have hv_55 : ∀ i : Nat, i < 16 → ((upd v_3 6 z_24) i).toInt = Γ_51 (39, 0, 0) i := fun i hi => by rw [eΓ_51, tg_r (by decide)]; exact hv_26 i hi
    have hx_56 : (v_3 0).toInt = Γ_51 (39, 0, 0) 0 := hv_55 0 (by decide)
    have hx_57 : (v_3 1).toInt = Γ_51 (39, 0, 0) 1 := hv_55 1 (by decide)
    have hx_58 : (v_3 2).toInt = Γ_51 (39, 0, 0) 2 := hv_55 2 (by decide)
    have hx_59 : (v_3 3).toInt = Γ_51 (39, 0, 0) 3 := hv_55 3 (by decide)
    have hx_60 : (v_3 4).toInt = Γ_51 (39, 0, 0) 4 := hv_55 4 (by decide)
    have hx_61 : (v_3 5).toInt = Γ_51 (39, 0, 0) 5 := hv_55 5 (by decide)
    have hx_62 : z_24.toInt = Γ_51 (39, 0, 0) 6 := hv_55 6 (by decide)
    have hx_63 : (v_3 7).toInt = Γ_51 (39, 0, 0) 7 := hv_55 7 (by decide)
    have hx_64 : (v_3 8).toInt = Γ_51 (39, 0, 0) 8 := hv_55 8 (by decide)
    have hx_65 : (v_3 9).toInt = Γ_51 (39, 0, 0) 9 := hv_55 9 (by decide)
    have hx_66 : (v_3 10).toInt = Γ_51 (39, 0, 0) 10 := hv_55 10 (by decide)
    have hx_67 : (v_3 11).toInt = Γ_51 (39, 0, 0) 11 := hv_55 11 (by decide)
    have hx_68 : (v_3 12).toInt = Γ_51 (39, 0, 0) 12 := hv_55 12 (by decide)
    have hx_69 : (v_3 13).toInt = Γ_51 (39, 0, 0) 13 := hv_55 13 (by decide)
    have hx_70 : (v_3 14).toInt = Γ_51 (39, 0, 0) 14 := hv_55 14 (by decide)
    have hx_71 : (v_3 15).toInt = Γ_51 (39, 0, 0) 15 := hv_55 15 (by decide)
    refine lv_aload_n hx hb dX12_opens_39 rfl (lv_at hl 0 rfl) ?_
    refine lv_dup hx hb dX12_opens_40 rfl ?_
    refine tp_get (cy := cy) (ci := 12) (v := .int (v_3 8)) (C := RX12) (T := TX12) (N := 49) hx hb hta inlX12 hown hK hP ho.1 hf_53 rfl 25 (by decide) (hta _ wk_657) (fun _ h9 => h9) rfl dX12_opens_41 ?_
    refine lv_iconst (v := 1) hx hb dX12_opens_44 (by decide) ?_
    refine lv_iadd hx hb dX12_opens_45 ?_
    refine lv_topi (fun z_72 ez_72 => ?_)
    try have iz_72 : z_72.toInt = (v_3 8).toInt + (1 : Int) := by rw [ez_72]; exact tl_addN (v_3 8) 1 rfl rfl (by omega) (by omega)
    obtain ⟨Γ_73, eΓ_73⟩ : ∃ y : tk_G, y = tg Γ_51 (39, 0, 0) 8 z_72.toInt := ⟨_, rfl⟩
    have hv_74 : ∀ i : Nat, i < 16 → ((upd (upd v_3 6 z_24) 8 z_72) i).toInt = Γ_73 (39, 0, 0) i := by rw [eΓ_73, tg_f]; exact tp_gi_upd hv_55
    have hI9 : tp_I cy L K Γ_73 (va_up f_52 o (.inr (12, [.ref (r_2 0), .ref (r_2 1), .int (v_3 0), .ref (r_2 2), .ref (r_2 3), .ref (r_2 4), .ref (r_2 5), .ref (r_2 6), .ref (r_2 7), .ref (r_2 8), .ref (r_2 9), .ref (r_2 10), .ref (r_2 11), .ref (r_2 12), .ref (r_2 13), .ref (r_2 14), .ref (r_2 15), .int (v_3 1), .int (v_3 2), .int (v_3 3), .int (v_3 4), .int (v_3 5), .int z_24, .int (v_3 7), .ref (r_2 16), .int z_72, .ref (r_2 17), .int (v_3 9), .ref (r_2 18), .long q_4, .ref (r_2 19), .ref (r_2 20), .int (v_3 10), .int (v_3 11), .int (v_3 12), .ref (r_2 21), .ref (r_2 22), .int (v_3 13), .ref (r_2 23), .int (v_3 14), .int (v_3 15), .ref (r_2 24), .ref (r_2 25), .ref (r_2 26), .ref (r_2 27), .ref (r_2 28), .ref (r_2 29), .ref (r_2 30), .ref (r_2 31)]))) := by have q9 := hv_74; rw [eΓ_73, tg_f] at q9; rw [eΓ_73]; exact hI.setg hU rfl ho (show tp_o_M L K 0 0 (tgu (Γ_51 (39, 0, 0)) 8 z_72.toInt) _ from ⟨r_2, (upd (upd v_3 6 z_24) 8 z_72), q_4, rfl, hr_5, q9⟩)
    have hfr9 : ∀ b, (K b).1 ∉ ([39, 52] : List Nat) → va_up f_52 o (.inr (12, [.ref (r_2 0), .ref (r_2 1), .int (v_3 0), .ref (r_2 2), .ref (r_2 3), .ref (r_2 4), .ref (r_2 5), .ref (r_2 6), .ref (r_2 7), .ref (r_2 8), .ref (r_2 9), .ref (r_2 10), .ref (r_2 11), .ref (r_2 12), .ref (r_2 13), .ref (r_2 14), .ref (r_2 15), .int (v_3 1), .int (v_3 2), .int (v_3 3), .int (v_3 4), .int (v_3 5), .int z_24, .int (v_3 7), .ref (r_2 16), .int z_72, .ref (r_2 17), .int (v_3 9), .ref (r_2 18), .long q_4, .ref (r_2 19), .ref (r_2 20), .int (v_3 10), .int (v_3 11), .int (v_3 12), .ref (r_2 21), .ref (r_2 22), .int (v_3 13), .ref (r_2 23), .int (v_3 14), .int (v_3 15), .ref (r_2 24), .ref (r_2 25), .ref (r_2 26), .ref (r_2 27), .ref (r_2 28), .ref (r_2 29), .ref (r_2 30), .ref (r_2 31)])) b = f b := tp_fr hfr ho (by decide)
    refine tp_put (cy := cy) (ci := 12) (v := .int z_72) (ty := tyX12 25) (C := RX12) (T := TX12) (N := 49) hx hb hta inlX12 tyX12 tyX12_ok nmX12 hown hK hP hD hS ho.1 hf_53 rfl 25 (by decide) (hta _ wk_657) (fun _ h9 => h9) rfl (tyX12_ok 25 (by decide)) rfl rfl (Nat.le_of_ble_eq_true rfl) dX12_opens_46 (fun H locs hP hD hS => ?_)
    have hP : va_P D vwCl (va_pl L (va_up f_52 o (.inr (12, [.ref (r_2 0), .ref (r_2 1), .int (v_3 0), .ref (r_2 2), .ref (r_2 3), .ref (r_2 4), .ref (r_2 5), .ref (r_2 6), .ref (r_2 7), .ref (r_2 8), .ref (r_2 9), .ref (r_2 10), .ref (r_2 11), .ref (r_2 12), .ref (r_2 13), .ref (r_2 14), .ref (r_2 15), .int (v_3 1), .int (v_3 2), .int (v_3 3), .int (v_3 4), .int (v_3 5), .int z_24, .int (v_3 7), .ref (r_2 16), .int z_72, .ref (r_2 17), .int (v_3 9), .ref (r_2 18), .long q_4, .ref (r_2 19), .ref (r_2 20), .int (v_3 10), .int (v_3 11), .int (v_3 12), .ref (r_2 21), .ref (r_2 22), .int (v_3 13), .ref (r_2 23), .int (v_3 14), .int (v_3 15), .ref (r_2 24), .ref (r_2 25), .ref (r_2 26), .ref (r_2 27), .ref (r_2 28), .ref (r_2 29), .ref (r_2 30), .ref (r_2 31)])))) H := hP
    generalize hfe : va_up f_52 o (.inr (12, [.ref (r_2 0), .ref (r_2 1), .int (v_3 0), .ref (r_2 2), .ref (r_2 3), .ref (r_2 4), .ref (r_2 5), .ref (r_2 6), .ref (r_2 7), .ref (r_2 8), .ref (r_2 9), .ref (r_2 10), .ref (r_2 11), .ref (r_2 12), .ref (r_2 13), .ref (r_2 14), .ref (r_2 15), .int (v_3 1), .int (v_3 2), .int (v_3 3), .int (v_3 4), .int (v_3 5), .int z_24, .int (v_3 7), .ref (r_2 16), .int z_72, .ref (r_2 17), .int (v_3 9), .ref (r_2 18), .long q_4, .ref (r_2 19), .ref (r_2 20), .int (v_3 10), .int (v_3 11), .int (v_3 12), .ref (r_2 21), .ref (r_2 22), .int (v_3 13), .ref (r_2 23), .int (v_3 14), .int (v_3 15), .ref (r_2 24), .ref (r_2 25), .ref (r_2 26), .ref (r_2 27), .ref (r_2 28), .ref (r_2 29), .ref (r_2 30), .ref (r_2 31)])) = f_75 at hP hI9 hfr9
    have hD : va_D A (va_pl L f_75) := tp_D hL hAL
    have hf_76 : f_75 o = .inr (12, [.ref (r_2 0), .ref (r_2 1), .int (v_3 0), .ref (r_2 2), .ref (r_2 3), .ref (r_2 4), .ref (r_2 5), .ref (r_2 6), .ref (r_2 7), .ref (r_2 8), .ref (r_2 9), .ref (r_2 10), .ref (r_2 11), .ref (r_2 12), .ref (r_2 13), .ref (r_2 14), .ref (r_2 15), .int (v_3 1), .int (v_3 2), .int (v_3 3), .int (v_3 4), .int (v_3 5), .int z_24, .int (v_3 7), .ref (r_2 16), .int z_72, .ref (r_2 17), .int (v_3 9), .ref (r_2 18), .long q_4, .ref (r_2 19), .ref (r_2 20), .int (v_3 10), .int (v_3 11), .int (v_3 12), .ref (r_2 21), .ref (r_2 22), .int (v_3 13), .ref (r_2 23), .int (v_3 14), .int (v_3 15), .ref (r_2 24), .ref (r_2 25), .ref (r_2 26), .ref (r_2 27), .ref (r_2 28), .ref (r_2 29), .ref (r_2 30), .ref (r_2 31)]) := by rw [← hfe]; exact va_up_self _ _ _
    clear hfe
    have hI := hI9
    have hfr := hfr9
    clear hI9 hfr9
    have hgr : ∀ κ : tk_K, κ.1 ∉ ([39, 52] : List Nat) → Γ_73 κ = Γ κ := tg_fr hgr eΓ_73 (by decide)
    have hx_77 : (v_3 0).toInt = Γ_73 (39, 0, 0) 0 := hv_74 0 (by decide)
    have hx_78 : (v_3 1).toInt = Γ_73 (39, 0, 0) 1 := hv_74 1 (by decide)
    have hx_79 : (v_3 2).toInt = Γ_73 (39, 0, 0) 2 := hv_74 2 (by decide)
    have hx_80 : (v_3 3).toInt = Γ_73 (39, 0, 0) 3 := hv_74 3 (by decide)
    have hx_81 : (v_3 4).toInt = Γ_73 (39, 0, 0) 4 := hv_74 4 (by decide)
    have hx_82 : (v_3 5).toInt = Γ_73 (39, 0, 0) 5 := hv_74 5 (by decide)
    have hx_83 : z_24.toInt = Γ_73 (39, 0, 0) 6 := hv_74 6 (by decide)
    have hx_84 : (v_3 7).toInt = Γ_73 (39, 0, 0) 7 := hv_74 7 (by decide)
    have hx_85 : z_72.toInt = Γ_73 (39, 0, 0) 8 := hv_74 8 (by decide)
    have hx_86 : (v_3 9).toInt = Γ_73 (39, 0, 0) 9 := hv_74 9 (by decide)
    have hx_87 : (v_3 10).toInt = Γ_73 (39, 0, 0) 10 := hv_74 10 (by decide)
    have hx_88 : (v_3 11).toInt = Γ_73 (39, 0, 0) 11 := hv_74 11 (by decide)
    have hx_89 : (v_3 12).toInt = Γ_73 (39, 0, 0) 12 := hv_74 12 (by decide)
    have hx_90 : (v_3 13).toInt = Γ_73 (39, 0, 0) 13 := hv_74 13 (by decide)
    have hx_91 : (v_3 14).toInt = Γ_73 (39, 0, 0) 14 := hv_74 14 (by decide)
    have hx_92 : (v_3 15).toInt = Γ_73 (39, 0, 0) 15 := hv_74 15 (by decide)
    refine lv_iconst (v := 1) hx hb dX12_opens_49 (by decide) ?_
    have hpo9 : tl_J (1 : Int32) (Γ_73 (39, 0, 0) 8 = Γ (39, 0, 0) 8 + 1 ∧ Γ_73 (52, 400, 0) = tgu (Γ (52, 400, 0)) (Γ (39, 0, 0) 8).toNat p0.toInt) ∧ Γ_73 (39, 0, 0) 0 = Γ (39, 0, 0) 0 ∧ Γ_73 (39, 0, 0) 1 = Γ (39, 0, 0) 1 ∧ Γ_73 (39, 0, 0) 3 = Γ (39, 0, 0) 3 ∧ Γ_73 (39, 0, 0) 4 = Γ (39, 0, 0) 4 ∧ Γ_73 (39, 0, 0) 5 = Γ (39, 0, 0) 5 ∧ Γ_73 (39, 0, 0) 7 = Γ (39, 0, 0) 7 := ⟨(Or.inl ⟨rfl, ⟨(by omega), (by rw [eΓ_73, tg_rf (by decide), eΓ_51, tg_f, eΓ_25, tg_rf (by decide)])⟩⟩), ⟨(by omega), (by omega), (by omega), (by omega), (by omega), (by omega)⟩⟩
    exact W.zret (ty := .boolean) (v := 1) hx hb hr rfl (fun t ht hW => ⟨⟨_, (f_75, Γ_73), rfl, hpo9, by rw [ht]; exact hP, hI, hfr, hgr⟩, hS.F ht⟩) hS.2.2 dX12_opens_50
  · have c_23 : (v_3 6).toInt = (10 : Int) := tl_eq c_23
    refine lv_aload_n hx hb dX12_opens_9 rfl (lv_at hl 0 rfl) ?_
    refine lv_iconst (v := 2) hx hb dX12_opens_10 (by decide) ?_
    refine lv_aload_n hx hb dX12_opens_11 rfl (lv_at hl 0 rfl) ?_
    refine tp_get (cy := cy) (ci := 12) (v := .int (v_3 1)) (C := RX12) (T := TX12) (N := 49) hx hb hta inlX12 hown hK hP ho.1 hf_1 rfl 17 (by decide) (hta _ wk_539) (fun _ h9 => h9) rfl dX12_opens_12 ?_
    refine tq_ciR hS (hAf _ hS.1) (tq_rV (As := [.int 2, .int (v_3 1)]) (rest := []) ⟨hx, hb, hml, hown, hta⟩ (tp_P.pre hK hN hL hU hI hP) (tp_recv hK hP ho.1 hf_1 rfl) lk_X12_184 (r_X12_fails l D cy s.heap.size L K Γ f o 2 (v_3 1) ho) rfl rfl ⟨Nat.le_of_ble_eq_true rfl, Nat.le_of_ble_eq_true rfl⟩ rfl hl.1 rfl (Nat.le_of_ble_eq_true rfl) dX12_opens_15 ⟨Nat.le_of_ble_eq_true rfl, Nat.le_of_ble_eq_true rfl⟩) (fun r_94 f_95 Γ_97 H locs hw_93 hP hI hc_96 hcg_98 hS => ?_)
    have hD : va_D A (va_pl L f_95) := tp_D hL hAL
    have hfr := tp_fr2 hfr hc_96 (by decide)
    have hgr : ∀ κ : tk_K, κ.1 ∉ ([39, 52] : List Nat) → Γ_97 κ = Γ κ := tg_fr2 hgr hcg_98 (by decide)
    obtain ⟨rfl, hw_93⟩ := hw_93
    have hw_93 : Γ_97 (39, 0, 0) 0 = Γ (39, 0, 0) 0 ∧ Γ_97 (39, 0, 0) 1 = Γ (39, 0, 0) 1 ∧ Γ_97 (39, 0, 0) 3 = Γ (39, 0, 0) 3 ∧ Γ_97 (39, 0, 0) 4 = Γ (39, 0, 0) 4 ∧ Γ_97 (39, 0, 0) 5 = Γ (39, 0, 0) 5 ∧ Γ_97 (39, 0, 0) 6 = Γ (39, 0, 0) 6 ∧ Γ_97 (39, 0, 0) 7 = Γ (39, 0, 0) 7 ∧ Γ_97 (39, 0, 0) 8 = Γ (39, 0, 0) 8 := hw_93
    have hpo9 : tl_J (0 : Int32) (Γ_97 (39, 0, 0) 8 = Γ (39, 0, 0) 8 + 1 ∧ Γ_97 (52, 400, 0) = tgu (Γ (52, 400, 0)) (Γ (39, 0, 0) 8).toNat p0.toInt) ∧ Γ_97 (39, 0, 0) 0 = Γ (39, 0, 0) 0 ∧ Γ_97 (39, 0, 0) 1 = Γ (39, 0, 0) 1 ∧ Γ_97 (39, 0, 0) 3 = Γ (39, 0, 0) 3 ∧ Γ_97 (39, 0, 0) 4 = Γ (39, 0, 0) 4 ∧ Γ_97 (39, 0, 0) 5 = Γ (39, 0, 0) 5 ∧ Γ_97 (39, 0, 0) 7 = Γ (39, 0, 0) 7 := ⟨(Or.inr rfl), ⟨(by omega), (by omega), (by omega), (by omega), (by omega), (by omega)⟩⟩
    exact W.zret (ty := .boolean) (v := 0) hx hb hr rfl (fun t ht hW => ⟨⟨_, (f_95, Γ_97), rfl, hpo9, by rw [ht]; exact hP, hI, hfr, hgr⟩, hS.F ht⟩) hS.2.2 dX12_opens_18
