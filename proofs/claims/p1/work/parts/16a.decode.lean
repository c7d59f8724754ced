theorem dX12_agreed_0 : decode cX12_agreed 0 = .ok (.iload_n 1, 1) := by decide +kernel
theorem dX12_agreed_1 : decode cX12_agreed 1 = .ok (.invokestatic 496, 3) := by decide +kernel
theorem dX12_agreed_4 : decode cX12_agreed 4 = .ok (.ifCond .ne 5, 3) := by decide +kernel
theorem dX12_agreed_7 : decode cX12_agreed 7 = .ok (.iconst (-1), 1) := by decide +kernel
theorem dX12_agreed_8 : decode cX12_agreed 8 = .ok (.ireturn, 1) := by decide +kernel
theorem dX12_agreed_9 : decode cX12_agreed 9 = .ok (.aload_n 0, 1) := by decide +kernel
theorem dX12_agreed_10 : decode cX12_agreed 10 = .ok (.invokevirtual 526, 3) := by decide +kernel
theorem dX12_agreed_13 : decode cX12_agreed 13 = .ok (.iconst 0, 1) := by decide +kernel
theorem dX12_agreed_14 : decode cX12_agreed 14 = .ok (.istore_n 2, 1) := by decide +kernel
theorem dX12_agreed_15 : decode cX12_agreed 15 = .ok (.iload_n 2, 1) := by decide +kernel
theorem dX12_agreed_16 : decode cX12_agreed 16 = .ok (.iload_n 1, 1) := by decide +kernel
theorem dX12_agreed_17 : decode cX12_agreed 17 = .ok (.if_icmp .gt 29, 3) := by decide +kernel
theorem dX12_agreed_20 : decode cX12_agreed 20 = .ok (.iconst 2, 1) := by decide +kernel
theorem dX12_agreed_21 : decode cX12_agreed 21 = .ok (.aload_n 0, 1) := by decide +kernel
theorem dX12_agreed_22 : decode cX12_agreed 22 = .ok (.iload_n 2, 1) := by decide +kernel
theorem dX12_agreed_23 : decode cX12_agreed 23 = .ok (.invokevirtual 529, 3) := by decide +kernel
theorem dX12_agreed_26 : decode cX12_agreed 26 = .ok (.imul, 1) := by decide +kernel
theorem dX12_agreed_27 : decode cX12_agreed 27 = .ok (.aload_n 0, 1) := by decide +kernel
theorem dX12_agreed_28 : decode cX12_agreed 28 = .ok (.getfield 7, 3) := by decide +kernel
theorem dX12_agreed_31 : decode cX12_agreed 31 = .ok (.sipush 7665, 3) := by decide +kernel
theorem dX12_agreed_34 : decode cX12_agreed 34 = .ok (.iaload, 1) := by decide +kernel
theorem dX12_agreed_35 : decode cX12_agreed 35 = .ok (.if_icmp .le 5, 3) := by decide +kernel
theorem dX12_agreed_40 : decode cX12_agreed 40 = .ok (.iinc 2 1, 3) := by decide +kernel
theorem dX12_agreed_43 : decode cX12_agreed 43 = .ok (.goto (-28), 3) := by decide +kernel
theorem dX12_agreed_46 : decode cX12_agreed 46 = .ok (.bipush (-2), 2) := by decide +kernel
theorem dX12_agreed_48 : decode cX12_agreed 48 = .ok (.ireturn, 1) := by decide +kernel
theorem dX12_alone_0 : decode cX12_alone 0 = .ok (.iload_n 1, 1) := by decide +kernel
theorem dX12_alone_1 : decode cX12_alone 1 = .ok (.invokestatic 496, 3) := by decide +kernel
theorem dX12_alone_4 : decode cX12_alone 4 = .ok (.ifCond .ne 5, 3) := by decide +kernel
theorem dX12_alone_7 : decode cX12_alone 7 = .ok (.iconst (-1), 1) := by decide +kernel
theorem dX12_alone_8 : decode cX12_alone 8 = .ok (.ireturn, 1) := by decide +kernel
theorem dX12_alone_9 : decode cX12_alone 9 = .ok (.aload_n 0, 1) := by decide +kernel
theorem dX12_alone_10 : decode cX12_alone 10 = .ok (.invokevirtual 526, 3) := by decide +kernel
theorem dX12_alone_13 : decode cX12_alone 13 = .ok (.aload_n 0, 1) := by decide +kernel
theorem dX12_alone_14 : decode cX12_alone 14 = .ok (.iload_n 1, 1) := by decide +kernel
theorem dX12_alone_15 : decode cX12_alone 15 = .ok (.invokevirtual 529, 3) := by decide +kernel
theorem dX12_alone_18 : decode cX12_alone 18 = .ok (.iconst 1, 1) := by decide +kernel
theorem dX12_alone_19 : decode cX12_alone 19 = .ok (.if_icmp .eq 6, 3) := by decide +kernel
theorem dX12_alone_22 : decode cX12_alone 22 = .ok (.bipush (-2), 2) := by decide +kernel
theorem dX12_alone_24 : decode cX12_alone 24 = .ok (.ireturn, 1) := by decide +kernel
theorem dX12_anew_0 : decode cX12_anew 0 = .ok (.iload_n 1, 1) := by decide +kernel
theorem dX12_anew_1 : decode cX12_anew 1 = .ok (.i2l, 1) := by decide +kernel
theorem dX12_anew_2 : decode cX12_anew 2 = .ok (.lconst 0, 1) := by decide +kernel
theorem dX12_anew_3 : decode cX12_anew 3 = .ok (.aload_n 0, 1) := by decide +kernel
theorem dX12_anew_4 : decode cX12_anew 4 = .ok (.getfield 7, 3) := by decide +kernel
theorem dX12_anew_7 : decode cX12_anew 7 = .ok (.iconst 2, 1) := by decide +kernel
theorem dX12_anew_8 : decode cX12_anew 8 = .ok (.iaload, 1) := by decide +kernel
theorem dX12_anew_9 : decode cX12_anew 9 = .ok (.iconst 1, 1) := by decide +kernel
theorem dX12_anew_10 : decode cX12_anew 10 = .ok (.isub, 1) := by decide +kernel
theorem dX12_anew_11 : decode cX12_anew 11 = .ok (.i2l, 1) := by decide +kernel
theorem dX12_anew_12 : decode cX12_anew 12 = .ok (.invokestatic 112, 3) := by decide +kernel
theorem dX12_anew_15 : decode cX12_anew 15 = .ok (.ifCond .eq 17, 3) := by decide +kernel
theorem dX12_anew_32 : decode cX12_anew 32 = .ok (.ldc 131, 2) := by decide +kernel
theorem dX12_anew_34 : decode cX12_anew 34 = .ok (.ireturn, 1) := by decide +kernel
theorem dX12_apart_0 : decode cX12_apart 0 = .ok (.aload_n 0, 1) := by decide +kernel
theorem dX12_apart_1 : decode cX12_apart 1 = .ok (.iconst 1, 1) := by decide +kernel
theorem dX12_apart_2 : decode cX12_apart 2 = .ok (.iload_n 1, 1) := by decide +kernel
theorem dX12_apart_3 : decode cX12_apart 3 = .ok (.invokevirtual 382, 3) := by decide +kernel
theorem dX12_apart_6 : decode cX12_apart 6 = .ok (.ifCond .eq 31, 3) := by decide +kernel
theorem dX12_apart_37 : decode cX12_apart 37 = .ok (.iconst (-1), 1) := by decide +kernel
theorem dX12_apart_38 : decode cX12_apart 38 = .ok (.ireturn, 1) := by decide +kernel
theorem dX12_back_0 : decode cX12_back 0 = .ok (.iload_n 1, 1) := by decide +kernel
theorem dX12_back_1 : decode cX12_back 1 = .ok (.i2l, 1) := by decide +kernel
theorem dX12_back_2 : decode cX12_back 2 = .ok (.lconst 0, 1) := by decide +kernel
theorem dX12_back_3 : decode cX12_back 3 = .ok (.ldc2_w 116, 3) := by decide +kernel
theorem dX12_back_6 : decode cX12_back 6 = .ok (.invokestatic 112, 3) := by decide +kernel
theorem dX12_back_9 : decode cX12_back 9 = .ok (.ifCond .eq 12, 3) := by decide +kernel
theorem dX12_back_12 : decode cX12_back 12 = .ok (.aload_n 0, 1) := by decide +kernel
theorem dX12_back_13 : decode cX12_back 13 = .ok (.getfield 106, 3) := by decide +kernel
theorem dX12_back_16 : decode cX12_back 16 = .ok (.iload_n 1, 1) := by decide +kernel
theorem dX12_back_17 : decode cX12_back 17 = .ok (.baload, 1) := by decide +kernel
theorem dX12_back_18 : decode cX12_back 18 = .ok (.ifCond .ne 5, 3) := by decide +kernel
theorem dX12_back_21 : decode cX12_back 21 = .ok (.iconst (-1), 1) := by decide +kernel
theorem dX12_back_22 : decode cX12_back 22 = .ok (.ireturn, 1) := by decide +kernel
theorem dX12_bent_0 : decode cX12_bent 0 = .ok (.aload_n 0, 1) := by decide +kernel
theorem dX12_bent_1 : decode cX12_bent 1 = .ok (.iload_n 1, 1) := by decide +kernel
theorem dX12_bent_2 : decode cX12_bent 2 = .ok (.iload_n 2, 1) := by decide +kernel
theorem dX12_bent_3 : decode cX12_bent 3 = .ok (.invokevirtual 447, 3) := by decide +kernel
theorem dX12_bent_6 : decode cX12_bent 6 = .ok (.ifCond .eq 15, 3) := by decide +kernel
theorem dX12_bent_21 : decode cX12_bent 21 = .ok (.ldc2_w 455, 3) := by decide +kernel
theorem dX12_bent_24 : decode cX12_bent 24 = .ok (.lreturn, 1) := by decide +kernel
theorem dX12_best_0 : decode cX12_best 0 = .ok (.aload_n 0, 1) := by decide +kernel
theorem dX12_best_1 : decode cX12_best 1 = .ok (.iload_n 1, 1) := by decide +kernel
theorem dX12_best_2 : decode cX12_best 2 = .ok (.iload_n 2, 1) := by decide +kernel
theorem dX12_best_3 : decode cX12_best 3 = .ok (.invokevirtual 447, 3) := by decide +kernel
theorem dX12_best_6 : decode cX12_best 6 = .ok (.ifCond .eq 26, 3) := by decide +kernel
theorem dX12_best_32 : decode cX12_best 32 = .ok (.ldc2_w 457, 3) := by decide +kernel
theorem dX12_best_35 : decode cX12_best 35 = .ok (.lreturn, 1) := by decide +kernel
theorem dX12_bits_0 : decode cX12_bits 0 = .ok (.iconst 0, 1) := by decide +kernel
theorem dX12_bits_1 : decode cX12_bits 1 = .ok (.istore_n 1, 1) := by decide +kernel
theorem dX12_bits_2 : decode cX12_bits 2 = .ok (.iload_n 0, 1) := by decide +kernel
theorem dX12_bits_3 : decode cX12_bits 3 = .ok (.istore_n 2, 1) := by decide +kernel
theorem dX12_bits_4 : decode cX12_bits 4 = .ok (.iload_n 2, 1) := by decide +kernel
theorem dX12_bits_5 : decode cX12_bits 5 = .ok (.ifCond .eq 15, 3) := by decide +kernel
theorem dX12_bits_20 : decode cX12_bits 20 = .ok (.iload_n 1, 1) := by decide +kernel
theorem dX12_bits_21 : decode cX12_bits 21 = .ok (.ireturn, 1) := by decide +kernel
theorem dX12_brief_0 : decode cX12_brief 0 = .ok (.iload_n 1, 1) := by decide +kernel
theorem dX12_brief_1 : decode cX12_brief 1 = .ok (.i2l, 1) := by decide +kernel
theorem dX12_brief_2 : decode cX12_brief 2 = .ok (.lconst 0, 1) := by decide +kernel
theorem dX12_brief_3 : decode cX12_brief 3 = .ok (.ldc2_w 545, 3) := by decide +kernel
theorem dX12_brief_6 : decode cX12_brief 6 = .ok (.invokestatic 112, 3) := by decide +kernel
theorem dX12_brief_9 : decode cX12_brief 9 = .ok (.ifCond .ne 5, 3) := by decide +kernel
theorem dX12_brief_12 : decode cX12_brief 12 = .ok (.iconst (-1), 1) := by decide +kernel
theorem dX12_brief_13 : decode cX12_brief 13 = .ok (.ireturn, 1) := by decide +kernel
theorem dX12_brief_14 : decode cX12_brief 14 = .ok (.iload_n 1, 1) := by decide +kernel
theorem dX12_brief_15 : decode cX12_brief 15 = .ok (.aload_n 0, 1) := by decide +kernel
theorem dX12_brief_16 : decode cX12_brief 16 = .ok (.sipush 255, 3) := by decide +kernel
theorem dX12_brief_19 : decode cX12_brief 19 = .ok (.invokevirtual 547, 3) := by decide +kernel
theorem dX12_brief_22 : decode cX12_brief 22 = .ok (.isub, 1) := by decide +kernel
theorem dX12_brief_23 : decode cX12_brief 23 = .ok (.istore_n 2, 1) := by decide +kernel
theorem dX12_brief_24 : decode cX12_brief 24 = .ok (.iload_n 2, 1) := by decide +kernel
theorem dX12_brief_25 : decode cX12_brief 25 = .ok (.ifCond .ge 7, 3) := by decide +kernel
theorem dX12_brief_32 : decode cX12_brief 32 = .ok (.iload_n 2, 1) := by decide +kernel
theorem dX12_brief_33 : decode cX12_brief 33 = .ok (.ireturn, 1) := by decide +kernel
theorem dX12_canAsk_0 : decode cX12_canAsk 0 = .ok (.aload_n 0, 1) := by decide +kernel
theorem dX12_canAsk_1 : decode cX12_canAsk 1 = .ok (.iconst 1, 1) := by decide +kernel
theorem dX12_canAsk_2 : decode cX12_canAsk 2 = .ok (.iload_n 1, 1) := by decide +kernel
theorem dX12_canAsk_3 : decode cX12_canAsk 3 = .ok (.invokevirtual 382, 3) := by decide +kernel
theorem dX12_canAsk_6 : decode cX12_canAsk 6 = .ok (.ifCond .eq 15, 3) := by decide +kernel
theorem dX12_canAsk_21 : decode cX12_canAsk 21 = .ok (.iconst 0, 1) := by decide +kernel
theorem dX12_canAsk_22 : decode cX12_canAsk 22 = .ok (.ireturn, 1) := by decide +kernel
theorem dX12_candidate_0 : decode cX12_candidate 0 = .ok (.aload_n 0, 1) := by decide +kernel
theorem dX12_candidate_1 : decode cX12_candidate 1 = .ok (.getfield 7, 3) := by decide +kernel
theorem dX12_candidate_4 : decode cX12_candidate 4 = .ok (.iconst 4, 1) := by decide +kernel
theorem dX12_candidate_5 : decode cX12_candidate 5 = .ok (.iaload, 1) := by decide +kernel
theorem dX12_candidate_6 : decode cX12_candidate 6 = .ok (.bipush 10, 2) := by decide +kernel
theorem dX12_candidate_8 : decode cX12_candidate 8 = .ok (.if_icmp .eq 27, 3) := by decide +kernel
theorem dX12_candidate_11 : decode cX12_candidate 11 = .ok (.iload_n 1, 1) := by decide +kernel
theorem dX12_candidate_12 : decode cX12_candidate 12 = .ok (.i2l, 1) := by decide +kernel
theorem dX12_candidate_13 : decode cX12_candidate 13 = .ok (.lconst 0, 1) := by decide +kernel
theorem dX12_candidate_14 : decode cX12_candidate 14 = .ok (.ldc2_w 116, 3) := by decide +kernel
theorem dX12_candidate_17 : decode cX12_candidate 17 = .ok (.invokestatic 112, 3) := by decide +kernel
theorem dX12_candidate_20 : decode cX12_candidate 20 = .ok (.ifCond .eq 15, 3) := by decide +kernel
theorem dX12_candidate_23 : decode cX12_candidate 23 = .ok (.iload_n 2, 1) := by decide +kernel
theorem dX12_candidate_24 : decode cX12_candidate 24 = .ok (.i2l, 1) := by decide +kernel
theorem dX12_candidate_25 : decode cX12_candidate 25 = .ok (.lconst 1, 1) := by decide +kernel
theorem dX12_candidate_26 : decode cX12_candidate 26 = .ok (.ldc2_w 471, 3) := by decide +kernel
theorem dX12_candidate_29 : decode cX12_candidate 29 = .ok (.invokestatic 112, 3) := by decide +kernel
theorem dX12_candidate_32 : decode cX12_candidate 32 = .ok (.ifCond .ne 5, 3) := by decide +kernel
theorem dX12_candidate_35 : decode cX12_candidate 35 = .ok (.iconst (-1), 1) := by decide +kernel
theorem dX12_candidate_36 : decode cX12_candidate 36 = .ok (.ireturn, 1) := by decide +kernel
theorem dX12_candidate_37 : decode cX12_candidate 37 = .ok (.sipush 421, 3) := by decide +kernel
theorem dX12_candidate_40 : decode cX12_candidate 40 = .ok (.iconst 2, 1) := by decide +kernel
theorem dX12_candidate_41 : decode cX12_candidate 41 = .ok (.aload_n 0, 1) := by decide +kernel
theorem dX12_candidate_42 : decode cX12_candidate 42 = .ok (.getfield 7, 3) := by decide +kernel
theorem dX12_candidate_45 : decode cX12_candidate 45 = .ok (.iconst 4, 1) := by decide +kernel
theorem dX12_candidate_46 : decode cX12_candidate 46 = .ok (.iaload, 1) := by decide +kernel
theorem dX12_candidate_47 : decode cX12_candidate 47 = .ok (.imul, 1) := by decide +kernel
theorem dX12_candidate_48 : decode cX12_candidate 48 = .ok (.iadd, 1) := by decide +kernel
theorem dX12_candidate_49 : decode cX12_candidate 49 = .ok (.istore_n 3, 1) := by decide +kernel
theorem dX12_candidate_50 : decode cX12_candidate 50 = .ok (.aload_n 0, 1) := by decide +kernel
theorem dX12_candidate_51 : decode cX12_candidate 51 = .ok (.getfield 7, 3) := by decide +kernel
theorem dX12_candidate_54 : decode cX12_candidate 54 = .ok (.iload_n 3, 1) := by decide +kernel
theorem dX12_candidate_55 : decode cX12_candidate 55 = .ok (.iload_n 1, 1) := by decide +kernel
theorem dX12_candidate_56 : decode cX12_candidate 56 = .ok (.iastore, 1) := by decide +kernel
theorem dX12_candidate_57 : decode cX12_candidate 57 = .ok (.aload_n 0, 1) := by decide +kernel
theorem dX12_candidate_58 : decode cX12_candidate 58 = .ok (.getfield 7, 3) := by decide +kernel
theorem dX12_candidate_61 : decode cX12_candidate 61 = .ok (.iload_n 3, 1) := by decide +kernel
theorem dX12_candidate_62 : decode cX12_candidate 62 = .ok (.iconst 1, 1) := by decide +kernel
theorem dX12_candidate_63 : decode cX12_candidate 63 = .ok (.iadd, 1) := by decide +kernel
theorem dX12_candidate_64 : decode cX12_candidate 64 = .ok (.iload_n 2, 1) := by decide +kernel
theorem dX12_candidate_65 : decode cX12_candidate 65 = .ok (.iastore, 1) := by decide +kernel
theorem dX12_candidate_66 : decode cX12_candidate 66 = .ok (.aload_n 0, 1) := by decide +kernel
theorem dX12_candidate_67 : decode cX12_candidate 67 = .ok (.getfield 7, 3) := by decide +kernel
theorem dX12_candidate_70 : decode cX12_candidate 70 = .ok (.iconst 4, 1) := by decide +kernel
theorem dX12_candidate_71 : decode cX12_candidate 71 = .ok (.dup2, 1) := by decide +kernel
theorem dX12_candidate_72 : decode cX12_candidate 72 = .ok (.iaload, 1) := by decide +kernel
theorem dX12_candidate_73 : decode cX12_candidate 73 = .ok (.iconst 1, 1) := by decide +kernel
theorem dX12_candidate_74 : decode cX12_candidate 74 = .ok (.iadd, 1) := by decide +kernel
theorem dX12_candidate_75 : decode cX12_candidate 75 = .ok (.iastore, 1) := by decide +kernel
theorem dX12_candidate_76 : decode cX12_candidate 76 = .ok (.aload_n 0, 1) := by decide +kernel
theorem dX12_candidate_77 : decode cX12_candidate 77 = .ok (.getfield 7, 3) := by decide +kernel
theorem dX12_candidate_80 : decode cX12_candidate 80 = .ok (.iconst 4, 1) := by decide +kernel
theorem dX12_candidate_81 : decode cX12_candidate 81 = .ok (.iaload, 1) := by decide +kernel
theorem dX12_candidate_82 : decode cX12_candidate 82 = .ok (.iconst 1, 1) := by decide +kernel
theorem dX12_candidate_83 : decode cX12_candidate 83 = .ok (.isub, 1) := by decide +kernel
theorem dX12_candidate_84 : decode cX12_candidate 84 = .ok (.ireturn, 1) := by decide +kernel
theorem dX12_clauseHere_0 : decode cX12_clauseHere 0 = .ok (.aload_n 0, 1) := by decide +kernel
theorem dX12_clauseHere_1 : decode cX12_clauseHere 1 = .ok (.invokevirtual 167, 3) := by decide +kernel
theorem dX12_clauseHere_4 : decode cX12_clauseHere 4 = .ok (.pop, 1) := by decide +kernel
theorem dX12_clauseHere_5 : decode cX12_clauseHere 5 = .ok (.aload_n 0, 1) := by decide +kernel
theorem dX12_clauseHere_6 : decode cX12_clauseHere 6 = .ok (.getfield 164, 3) := by decide +kernel
theorem dX12_clauseHere_9 : decode cX12_clauseHere 9 = .ok (.istore_n 1, 1) := by decide +kernel
theorem dX12_clauseHere_10 : decode cX12_clauseHere 10 = .ok (.aload_n 0, 1) := by decide +kernel
theorem dX12_clauseHere_11 : decode cX12_clauseHere 11 = .ok (.aload_n 0, 1) := by decide +kernel
theorem dX12_clauseHere_12 : decode cX12_clauseHere 12 = .ok (.getfield 191, 3) := by decide +kernel
theorem dX12_clauseHere_15 : decode cX12_clauseHere 15 = .ok (.invokevirtual 194, 3) := by decide +kernel
theorem dX12_clauseHere_18 : decode cX12_clauseHere 18 = .ok (.istore_n 2, 1) := by decide +kernel
theorem dX12_clauseHere_19 : decode cX12_clauseHere 19 = .ok (.iload_n 2, 1) := by decide +kernel
theorem dX12_clauseHere_20 : decode cX12_clauseHere 20 = .ok (.ifCond .ne 51, 3) := by decide +kernel
theorem dX12_clauseHere_23 : decode cX12_clauseHere 23 = .ok (.aload_n 0, 1) := by decide +kernel
theorem dX12_clauseHere_24 : decode cX12_clauseHere 24 = .ok (.ldc2_w 288, 3) := by decide +kernel
theorem dX12_clauseHere_27 : decode cX12_clauseHere 27 = .ok (.invokevirtual 174, 3) := by decide +kernel
theorem dX12_clauseHere_30 : decode cX12_clauseHere 30 = .ok (.ifCond .ne 33, 3) := by decide +kernel
theorem dX12_clauseHere_33 : decode cX12_clauseHere 33 = .ok (.aload_n 0, 1) := by decide +kernel
theorem dX12_clauseHere_34 : decode cX12_clauseHere 34 = .ok (.ldc2_w 290, 3) := by decide +kernel
theorem dX12_clauseHere_37 : decode cX12_clauseHere 37 = .ok (.invokevirtual 174, 3) := by decide +kernel
theorem dX12_clauseHere_40 : decode cX12_clauseHere 40 = .ok (.ifCond .ne 23, 3) := by decide +kernel
theorem dX12_clauseHere_43 : decode cX12_clauseHere 43 = .ok (.aload_n 0, 1) := by decide +kernel
theorem dX12_clauseHere_44 : decode cX12_clauseHere 44 = .ok (.ldc2_w 292, 3) := by decide +kernel
theorem dX12_clauseHere_47 : decode cX12_clauseHere 47 = .ok (.invokevirtual 174, 3) := by decide +kernel
theorem dX12_clauseHere_50 : decode cX12_clauseHere 50 = .ok (.ifCond .ne 13, 3) := by decide +kernel
theorem dX12_clauseHere_53 : decode cX12_clauseHere 53 = .ok (.aload_n 0, 1) := by decide +kernel
theorem dX12_clauseHere_54 : decode cX12_clauseHere 54 = .ok (.ldc2_w 294, 3) := by decide +kernel
theorem dX12_clauseHere_57 : decode cX12_clauseHere 57 = .ok (.invokevirtual 174, 3) := by decide +kernel
theorem dX12_clauseHere_60 : decode cX12_clauseHere 60 = .ok (.ifCond .eq 7, 3) := by decide +kernel
theorem dX12_clauseHere_67 : decode cX12_clauseHere 67 = .ok (.iconst 0, 1) := by decide +kernel
theorem dX12_clauseHere_68 : decode cX12_clauseHere 68 = .ok (.goto 63, 3) := by decide +kernel
theorem dX12_clauseHere_71 : decode cX12_clauseHere 71 = .ok (.iload_n 2, 1) := by decide +kernel
theorem dX12_clauseHere_72 : decode cX12_clauseHere 72 = .ok (.iconst 1, 1) := by decide +kernel
theorem dX12_clauseHere_73 : decode cX12_clauseHere 73 = .ok (.if_icmp .ne 51, 3) := by decide +kernel
theorem dX12_clauseHere_76 : decode cX12_clauseHere 76 = .ok (.aload_n 0, 1) := by decide +kernel
theorem dX12_clauseHere_77 : decode cX12_clauseHere 77 = .ok (.ldc2_w 296, 3) := by decide +kernel
theorem dX12_clauseHere_80 : decode cX12_clauseHere 80 = .ok (.invokevirtual 174, 3) := by decide +kernel
theorem dX12_clauseHere_83 : decode cX12_clauseHere 83 = .ok (.ifCond .ne 33, 3) := by decide +kernel
theorem dX12_clauseHere_86 : decode cX12_clauseHere 86 = .ok (.aload_n 0, 1) := by decide +kernel
theorem dX12_clauseHere_87 : decode cX12_clauseHere 87 = .ok (.ldc2_w 298, 3) := by decide +kernel
theorem dX12_clauseHere_90 : decode cX12_clauseHere 90 = .ok (.invokevirtual 174, 3) := by decide +kernel
theorem dX12_clauseHere_93 : decode cX12_clauseHere 93 = .ok (.ifCond .ne 23, 3) := by decide +kernel
theorem dX12_clauseHere_96 : decode cX12_clauseHere 96 = .ok (.aload_n 0, 1) := by decide +kernel
theorem dX12_clauseHere_97 : decode cX12_clauseHere 97 = .ok (.ldc2_w 300, 3) := by decide +kernel
theorem dX12_clauseHere_100 : decode cX12_clauseHere 100 = .ok (.invokevirtual 174, 3) := by decide +kernel
theorem dX12_clauseHere_103 : decode cX12_clauseHere 103 = .ok (.ifCond .ne 13, 3) := by decide +kernel
theorem dX12_clauseHere_106 : decode cX12_clauseHere 106 = .ok (.aload_n 0, 1) := by decide +kernel
theorem dX12_clauseHere_107 : decode cX12_clauseHere 107 = .ok (.ldc2_w 302, 3) := by decide +kernel
theorem dX12_clauseHere_110 : decode cX12_clauseHere 110 = .ok (.invokevirtual 174, 3) := by decide +kernel
theorem dX12_clauseHere_113 : decode cX12_clauseHere 113 = .ok (.ifCond .eq 7, 3) := by decide +kernel
theorem dX12_clauseHere_120 : decode cX12_clauseHere 120 = .ok (.iconst 0, 1) := by decide +kernel
theorem dX12_clauseHere_121 : decode cX12_clauseHere 121 = .ok (.goto 10, 3) := by decide +kernel
theorem dX12_clauseHere_124 : decode cX12_clauseHere 124 = .ok (.aload_n 0, 1) := by decide +kernel
theorem dX12_clauseHere_125 : decode cX12_clauseHere 125 = .ok (.ldc2_w 304, 3) := by decide +kernel
theorem dX12_clauseHere_128 : decode cX12_clauseHere 128 = .ok (.invokevirtual 174, 3) := by decide +kernel
theorem dX12_clauseHere_131 : decode cX12_clauseHere 131 = .ok (.istore_n 3, 1) := by decide +kernel
theorem dX12_clauseHere_132 : decode cX12_clauseHere 132 = .ok (.iload_n 3, 1) := by decide +kernel
theorem dX12_clauseHere_133 : decode cX12_clauseHere 133 = .ok (.ifCond .ne 10, 3) := by decide +kernel
theorem dX12_clauseHere_136 : decode cX12_clauseHere 136 = .ok (.aload_n 0, 1) := by decide +kernel
theorem dX12_clauseHere_137 : decode cX12_clauseHere 137 = .ok (.iconst 0, 1) := by decide +kernel
theorem dX12_clauseHere_138 : decode cX12_clauseHere 138 = .ok (.iload_n 1, 1) := by decide +kernel
theorem dX12_clauseHere_139 : decode cX12_clauseHere 139 = .ok (.invokevirtual 184, 3) := by decide +kernel
theorem dX12_clauseHere_142 : decode cX12_clauseHere 142 = .ok (.ireturn, 1) := by decide +kernel
theorem dX12_clock_0 : decode cX12_clock 0 = .ok (.iload_n 1, 1) := by decide +kernel
theorem dX12_clock_1 : decode cX12_clock 1 = .ok (.i2l, 1) := by decide +kernel
theorem dX12_clock_2 : decode cX12_clock 2 = .ok (.aload_n 0, 1) := by decide +kernel
theorem dX12_clock_3 : decode cX12_clock 3 = .ok (.getfield 7, 3) := by decide +kernel
theorem dX12_clock_6 : decode cX12_clock 6 = .ok (.iconst 0, 1) := by decide +kernel
theorem dX12_clock_7 : decode cX12_clock 7 = .ok (.iaload, 1) := by decide +kernel
theorem dX12_clock_8 : decode cX12_clock 8 = .ok (.i2l, 1) := by decide +kernel
theorem dX12_clock_9 : decode cX12_clock 9 = .ok (.ldc2_w 110, 3) := by decide +kernel
theorem dX12_clock_12 : decode cX12_clock 12 = .ok (.invokestatic 112, 3) := by decide +kernel
theorem dX12_clock_15 : decode cX12_clock 15 = .ok (.ifCond .ne 5, 3) := by decide +kernel
theorem dX12_clock_18 : decode cX12_clock 18 = .ok (.iconst 0, 1) := by decide +kernel
theorem dX12_clock_19 : decode cX12_clock 19 = .ok (.ireturn, 1) := by decide +kernel
theorem dX12_clock_20 : decode cX12_clock 20 = .ok (.aload_n 0, 1) := by decide +kernel
theorem dX12_clock_21 : decode cX12_clock 21 = .ok (.getfield 7, 3) := by decide +kernel
theorem dX12_clock_24 : decode cX12_clock 24 = .ok (.iconst 0, 1) := by decide +kernel
theorem dX12_clock_25 : decode cX12_clock 25 = .ok (.iload_n 1, 1) := by decide +kernel
theorem dX12_clock_26 : decode cX12_clock 26 = .ok (.iastore, 1) := by decide +kernel
theorem dX12_clock_27 : decode cX12_clock 27 = .ok (.iconst 1, 1) := by decide +kernel
theorem dX12_clock_28 : decode cX12_clock 28 = .ok (.ireturn, 1) := by decide +kernel
theorem dX12_count_0 : decode cX12_count 0 = .ok (.iconst 0, 1) := by decide +kernel
theorem dX12_count_1 : decode cX12_count 1 = .ok (.istore_n 2, 1) := by decide +kernel
theorem dX12_count_2 : decode cX12_count 2 = .ok (.iload_n 1, 1) := by decide +kernel
theorem dX12_count_3 : decode cX12_count 3 = .ok (.tableswitch 174 0 10 #[57, 64, 71, 78, 85, 92, 99, 106, 113, 160, 165], 57) := by decide +kernel
theorem dX12_count_60 : decode cX12_count 60 = .ok (.aload_n 0, 1) := by decide +kernel
theorem dX12_count_61 : decode cX12_count 61 = .ok (.getfield 7, 3) := by decide +kernel
theorem dX12_count_64 : decode cX12_count 64 = .ok (.iconst 0, 1) := by decide +kernel
theorem dX12_count_65 : decode cX12_count 65 = .ok (.iaload, 1) := by decide +kernel
theorem dX12_count_66 : decode cX12_count 66 = .ok (.ireturn, 1) := by decide +kernel
theorem dX12_count_67 : decode cX12_count 67 = .ok (.aload_n 0, 1) := by decide +kernel
theorem dX12_count_68 : decode cX12_count 68 = .ok (.getfield 7, 3) := by decide +kernel
theorem dX12_count_71 : decode cX12_count 71 = .ok (.iconst 1, 1) := by decide +kernel
theorem dX12_count_72 : decode cX12_count 72 = .ok (.iaload, 1) := by decide +kernel
theorem dX12_count_73 : decode cX12_count 73 = .ok (.ireturn, 1) := by decide +kernel
theorem dX12_count_74 : decode cX12_count 74 = .ok (.aload_n 0, 1) := by decide +kernel
theorem dX12_count_75 : decode cX12_count 75 = .ok (.getfield 7, 3) := by decide +kernel
theorem dX12_count_78 : decode cX12_count 78 = .ok (.iconst 2, 1) := by decide +kernel
theorem dX12_count_79 : decode cX12_count 79 = .ok (.iaload, 1) := by decide +kernel
theorem dX12_count_80 : decode cX12_count 80 = .ok (.ireturn, 1) := by decide +kernel
theorem dX12_count_81 : decode cX12_count 81 = .ok (.aload_n 0, 1) := by decide +kernel
theorem dX12_count_82 : decode cX12_count 82 = .ok (.getfield 7, 3) := by decide +kernel
theorem dX12_count_85 : decode cX12_count 85 = .ok (.iconst 3, 1) := by decide +kernel
theorem dX12_count_86 : decode cX12_count 86 = .ok (.iaload, 1) := by decide +kernel
theorem dX12_count_87 : decode cX12_count 87 = .ok (.ireturn, 1) := by decide +kernel
theorem dX12_count_88 : decode cX12_count 88 = .ok (.aload_n 0, 1) := by decide +kernel
theorem dX12_count_89 : decode cX12_count 89 = .ok (.getfield 17, 3) := by decide +kernel
theorem dX12_count_92 : decode cX12_count 92 = .ok (.iconst 0, 1) := by decide +kernel
theorem dX12_count_93 : decode cX12_count 93 = .ok (.iaload, 1) := by decide +kernel
theorem dX12_count_94 : decode cX12_count 94 = .ok (.ireturn, 1) := by decide +kernel
theorem dX12_count_95 : decode cX12_count 95 = .ok (.aload_n 0, 1) := by decide +kernel
theorem dX12_count_96 : decode cX12_count 96 = .ok (.getfield 17, 3) := by decide +kernel
theorem dX12_count_99 : decode cX12_count 99 = .ok (.iconst 1, 1) := by decide +kernel
theorem dX12_count_100 : decode cX12_count 100 = .ok (.iaload, 1) := by decide +kernel
theorem dX12_count_101 : decode cX12_count 101 = .ok (.ireturn, 1) := by decide +kernel
theorem dX12_count_102 : decode cX12_count 102 = .ok (.aload_n 0, 1) := by decide +kernel
theorem dX12_count_103 : decode cX12_count 103 = .ok (.getfield 17, 3) := by decide +kernel
theorem dX12_count_106 : decode cX12_count 106 = .ok (.iconst 2, 1) := by decide +kernel
theorem dX12_count_107 : decode cX12_count 107 = .ok (.iaload, 1) := by decide +kernel
theorem dX12_count_108 : decode cX12_count 108 = .ok (.ireturn, 1) := by decide +kernel
theorem dX12_count_109 : decode cX12_count 109 = .ok (.aload_n 0, 1) := by decide +kernel
theorem dX12_count_110 : decode cX12_count 110 = .ok (.getfield 7, 3) := by decide +kernel
theorem dX12_count_113 : decode cX12_count 113 = .ok (.iconst 4, 1) := by decide +kernel
theorem dX12_count_114 : decode cX12_count 114 = .ok (.iaload, 1) := by decide +kernel
theorem dX12_count_115 : decode cX12_count 115 = .ok (.ireturn, 1) := by decide +kernel
theorem dX12_count_116 : decode cX12_count 116 = .ok (.iconst 0, 1) := by decide +kernel
theorem dX12_count_117 : decode cX12_count 117 = .ok (.istore_n 3, 1) := by decide +kernel
theorem dX12_count_118 : decode cX12_count 118 = .ok (.iload_n 3, 1) := by decide +kernel
theorem dX12_count_119 : decode cX12_count 119 = .ok (.sipush 300, 3) := by decide +kernel
theorem dX12_count_122 : decode cX12_count 122 = .ok (.aload_n 0, 1) := by decide +kernel
theorem dX12_count_123 : decode cX12_count 123 = .ok (.getfield 7, 3) := by decide +kernel
theorem dX12_count_126 : decode cX12_count 126 = .ok (.iconst 1, 1) := by decide +kernel
theorem dX12_count_127 : decode cX12_count 127 = .ok (.iaload, 1) := by decide +kernel
theorem dX12_count_128 : decode cX12_count 128 = .ok (.imul, 1) := by decide +kernel
theorem dX12_count_129 : decode cX12_count 129 = .ok (.if_icmp .ge 32, 3) := by decide +kernel
theorem dX12_count_161 : decode cX12_count 161 = .ok (.iload_n 2, 1) := by decide +kernel
theorem dX12_count_162 : decode cX12_count 162 = .ok (.ireturn, 1) := by decide +kernel
theorem dX12_count_163 : decode cX12_count 163 = .ok (.aload_n 0, 1) := by decide +kernel
theorem dX12_count_164 : decode cX12_count 164 = .ok (.getfield 153, 3) := by decide +kernel
theorem dX12_count_167 : decode cX12_count 167 = .ok (.ireturn, 1) := by decide +kernel
theorem dX12_count_168 : decode cX12_count 168 = .ok (.aload_n 0, 1) := by decide +kernel
theorem dX12_count_169 : decode cX12_count 169 = .ok (.getfield 7, 3) := by decide +kernel
theorem dX12_count_172 : decode cX12_count 172 = .ok (.sipush 7665, 3) := by decide +kernel
theorem dX12_count_175 : decode cX12_count 175 = .ok (.iaload, 1) := by decide +kernel
theorem dX12_count_176 : decode cX12_count 176 = .ok (.ireturn, 1) := by decide +kernel
theorem dX12_count_177 : decode cX12_count 177 = .ok (.iconst (-1), 1) := by decide +kernel
theorem dX12_count_178 : decode cX12_count 178 = .ok (.ireturn, 1) := by decide +kernel
theorem dX12_curve_0 : decode cX12_curve 0 = .ok (.aload_n 0, 1) := by decide +kernel
theorem dX12_curve_1 : decode cX12_curve 1 = .ok (.iload_n 1, 1) := by decide +kernel
theorem dX12_curve_2 : decode cX12_curve 2 = .ok (.iload_n 2, 1) := by decide +kernel
theorem dX12_curve_3 : decode cX12_curve 3 = .ok (.invokevirtual 447, 3) := by decide +kernel
theorem dX12_curve_6 : decode cX12_curve 6 = .ok (.ifCond .eq 23, 3) := by decide +kernel
theorem dX12_curve_29 : decode cX12_curve 29 = .ok (.ldc 131, 2) := by decide +kernel
theorem dX12_curve_31 : decode cX12_curve 31 = .ok (.ireturn, 1) := by decide +kernel
theorem dX12_deep_0 : decode cX12_deep 0 = .ok (.aload_n 0, 1) := by decide +kernel
theorem dX12_deep_1 : decode cX12_deep 1 = .ok (.iload_n 1, 1) := by decide +kernel
theorem dX12_deep_2 : decode cX12_deep 2 = .ok (.iload_n 2, 1) := by decide +kernel
theorem dX12_deep_3 : decode cX12_deep 3 = .ok (.invokevirtual 447, 3) := by decide +kernel
theorem dX12_deep_6 : decode cX12_deep 6 = .ok (.ifCond .eq 15, 3) := by decide +kernel
theorem dX12_deep_21 : decode cX12_deep 21 = .ok (.ldc2_w 455, 3) := by decide +kernel
theorem dX12_deep_24 : decode cX12_deep 24 = .ok (.lreturn, 1) := by decide +kernel
theorem dX12_deepest_0 : decode cX12_deepest 0 = .ok (.aload_n 0, 1) := by decide +kernel
theorem dX12_deepest_1 : decode cX12_deepest 1 = .ok (.iload_n 1, 1) := by decide +kernel
theorem dX12_deepest_2 : decode cX12_deepest 2 = .ok (.iload_n 2, 1) := by decide +kernel
theorem dX12_deepest_3 : decode cX12_deepest 3 = .ok (.invokevirtual 447, 3) := by decide +kernel
theorem dX12_deepest_6 : decode cX12_deepest 6 = .ok (.ifCond .eq 13, 3) := by decide +kernel
theorem dX12_deepest_19 : decode cX12_deepest 19 = .ok (.ldc2_w 524, 3) := by decide +kernel
theorem dX12_deepest_22 : decode cX12_deepest 22 = .ok (.lreturn, 1) := by decide +kernel
theorem dX12_depthOf_0 : decode cX12_depthOf 0 = .ok (.iconst 0, 1) := by decide +kernel
theorem dX12_depthOf_1 : decode cX12_depthOf 1 = .ok (.istore_n 3, 1) := by decide +kernel
theorem dX12_depthOf_2 : decode cX12_depthOf 2 = .ok (.iload_n 3, 1) := by decide +kernel
theorem dX12_depthOf_3 : decode cX12_depthOf 3 = .ok (.aload_n 0, 1) := by decide +kernel
theorem dX12_depthOf_4 : decode cX12_depthOf 4 = .ok (.getfield 7, 3) := by decide +kernel
theorem dX12_depthOf_7 : decode cX12_depthOf 7 = .ok (.iconst 3, 1) := by decide +kernel
theorem dX12_depthOf_8 : decode cX12_depthOf 8 = .ok (.iaload, 1) := by decide +kernel
theorem dX12_depthOf_9 : decode cX12_depthOf 9 = .ok (.if_icmp .ge 36, 3) := by decide +kernel
theorem dX12_depthOf_45 : decode cX12_depthOf 45 = .ok (.iconst 0, 1) := by decide +kernel
theorem dX12_depthOf_46 : decode cX12_depthOf 46 = .ok (.ireturn, 1) := by decide +kernel
theorem dX12_drawn_0 : decode cX12_drawn 0 = .ok (.aload_n 0, 1) := by decide +kernel
theorem dX12_drawn_1 : decode cX12_drawn 1 = .ok (.iconst 0, 1) := by decide +kernel
theorem dX12_drawn_2 : decode cX12_drawn 2 = .ok (.iload_n 1, 1) := by decide +kernel
theorem dX12_drawn_3 : decode cX12_drawn 3 = .ok (.invokevirtual 382, 3) := by decide +kernel
theorem dX12_drawn_6 : decode cX12_drawn 6 = .ok (.ifCond .eq 30, 3) := by decide +kernel
theorem dX12_drawn_36 : decode cX12_drawn 36 = .ok (.iconst (-1), 1) := by decide +kernel
theorem dX12_drawn_37 : decode cX12_drawn 37 = .ok (.ireturn, 1) := by decide +kernel
theorem dX12_elsewhere_0 : decode cX12_elsewhere 0 = .ok (.aload_n 0, 1) := by decide +kernel
theorem dX12_elsewhere_1 : decode cX12_elsewhere 1 = .ok (.iload_n 1, 1) := by decide +kernel
theorem dX12_elsewhere_2 : decode cX12_elsewhere 2 = .ok (.iload_n 2, 1) := by decide +kernel
theorem dX12_elsewhere_3 : decode cX12_elsewhere 3 = .ok (.invokevirtual 447, 3) := by decide +kernel
theorem dX12_elsewhere_6 : decode cX12_elsewhere 6 = .ok (.ifCond .eq 13, 3) := by decide +kernel
theorem dX12_elsewhere_19 : decode cX12_elsewhere 19 = .ok (.iconst (-1), 1) := by decide +kernel
theorem dX12_elsewhere_20 : decode cX12_elsewhere 20 = .ok (.ireturn, 1) := by decide +kernel
theorem dX12_end_0 : decode cX12_end 0 = .ok (.iload_n 1, 1) := by decide +kernel
theorem dX12_end_1 : decode cX12_end 1 = .ok (.ifCond .lt 11, 3) := by decide +kernel
theorem dX12_end_4 : decode cX12_end 4 = .ok (.iload_n 1, 1) := by decide +kernel
theorem dX12_end_5 : decode cX12_end 5 = .ok (.aload_n 0, 1) := by decide +kernel
theorem dX12_end_6 : decode cX12_end 6 = .ok (.getfield 153, 3) := by decide +kernel
theorem dX12_end_9 : decode cX12_end 9 = .ok (.if_icmp .le 5, 3) := by decide +kernel
theorem dX12_end_12 : decode cX12_end 12 = .ok (.iconst (-1), 1) := by decide +kernel
theorem dX12_end_13 : decode cX12_end 13 = .ok (.ireturn, 1) := by decide +kernel
theorem dX12_end_14 : decode cX12_end 14 = .ok (.aload_n 0, 1) := by decide +kernel
theorem dX12_end_15 : decode cX12_end 15 = .ok (.iload_n 1, 1) := by decide +kernel
theorem dX12_end_16 : decode cX12_end 16 = .ok (.putfield 153, 3) := by decide +kernel
theorem dX12_end_19 : decode cX12_end 19 = .ok (.iload_n 1, 1) := by decide +kernel
theorem dX12_end_20 : decode cX12_end 20 = .ok (.ireturn, 1) := by decide +kernel
theorem dX12_fails_0 : decode cX12_fails 0 = .ok (.aload_n 0, 1) := by decide +kernel
theorem dX12_fails_1 : decode cX12_fails 1 = .ok (.getfield 161, 3) := by decide +kernel
theorem dX12_fails_4 : decode cX12_fails 4 = .ok (.ifCond .ne 15, 3) := by decide +kernel
theorem dX12_fails_7 : decode cX12_fails 7 = .ok (.aload_n 0, 1) := by decide +kernel
theorem dX12_fails_8 : decode cX12_fails 8 = .ok (.iconst 1, 1) := by decide +kernel
theorem dX12_fails_9 : decode cX12_fails 9 = .ok (.bipush 8, 2) := by decide +kernel
theorem dX12_fails_11 : decode cX12_fails 11 = .ok (.iload_n 2, 1) := by decide +kernel
theorem dX12_fails_12 : decode cX12_fails 12 = .ok (.imul, 1) := by decide +kernel
theorem dX12_fails_13 : decode cX12_fails 13 = .ok (.iadd, 1) := by decide +kernel
theorem dX12_fails_14 : decode cX12_fails 14 = .ok (.iload_n 1, 1) := by decide +kernel
theorem dX12_fails_15 : decode cX12_fails 15 = .ok (.iadd, 1) := by decide +kernel
theorem dX12_fails_16 : decode cX12_fails 16 = .ok (.putfield 161, 3) := by decide +kernel
theorem dX12_fails_19 : decode cX12_fails 19 = .ok (.iconst 0, 1) := by decide +kernel
theorem dX12_fails_20 : decode cX12_fails 20 = .ok (.ireturn, 1) := by decide +kernel
theorem dX12_feed_0 : decode cX12_feed 0 = .ok (.aload_n 0, 1) := by decide +kernel
theorem dX12_feed_1 : decode cX12_feed 1 = .ok (.getfield 153, 3) := by decide +kernel
theorem dX12_feed_4 : decode cX12_feed 4 = .ok (.bipush 20, 2) := by decide +kernel
theorem dX12_feed_6 : decode cX12_feed 6 = .ok (.iadd, 1) := by decide +kernel
theorem dX12_feed_7 : decode cX12_feed 7 = .ok (.sipush 400, 3) := by decide +kernel
theorem dX12_feed_10 : decode cX12_feed 10 = .ok (.if_icmp .le 5, 3) := by decide +kernel
theorem dX12_feed_15 : decode cX12_feed 15 = .ok (.aload_n 0, 1) := by decide +kernel
theorem dX12_feed_16 : decode cX12_feed 16 = .ok (.iload_n 1, 1) := by decide +kernel
theorem dX12_feed_17 : decode cX12_feed 17 = .ok (.invokevirtual 157, 3) := by decide +kernel
theorem dX12_feed_20 : decode cX12_feed 20 = .ok (.aload_n 0, 1) := by decide +kernel
theorem dX12_feed_21 : decode cX12_feed 21 = .ok (.iload_n 2, 1) := by decide +kernel
theorem dX12_feed_22 : decode cX12_feed 22 = .ok (.invokevirtual 157, 3) := by decide +kernel
theorem dX12_feed_25 : decode cX12_feed 25 = .ok (.aload_n 0, 1) := by decide +kernel
theorem dX12_feed_26 : decode cX12_feed 26 = .ok (.iload_n 3, 1) := by decide +kernel
theorem dX12_feed_27 : decode cX12_feed 27 = .ok (.invokevirtual 157, 3) := by decide +kernel
theorem dX12_feed_30 : decode cX12_feed 30 = .ok (.aload_n 0, 1) := by decide +kernel
theorem dX12_feed_31 : decode cX12_feed 31 = .ok (.iload 4, 2) := by decide +kernel
theorem dX12_feed_33 : decode cX12_feed 33 = .ok (.invokevirtual 157, 3) := by decide +kernel
theorem dX12_feed_36 : decode cX12_feed 36 = .ok (.aload_n 0, 1) := by decide +kernel
theorem dX12_feed_37 : decode cX12_feed 37 = .ok (.iload 5, 2) := by decide +kernel
theorem dX12_feed_39 : decode cX12_feed 39 = .ok (.invokevirtual 157, 3) := by decide +kernel
theorem dX12_feed_42 : decode cX12_feed 42 = .ok (.aload_n 0, 1) := by decide +kernel
theorem dX12_feed_43 : decode cX12_feed 43 = .ok (.getfield 153, 3) := by decide +kernel
theorem dX12_feed_46 : decode cX12_feed 46 = .ok (.ireturn, 1) := by decide +kernel
theorem dX12_fewest_0 : decode cX12_fewest 0 = .ok (.iload_n 1, 1) := by decide +kernel
theorem dX12_fewest_1 : decode cX12_fewest 1 = .ok (.i2l, 1) := by decide +kernel
theorem dX12_fewest_2 : decode cX12_fewest 2 = .ok (.lconst 0, 1) := by decide +kernel
theorem dX12_fewest_3 : decode cX12_fewest 3 = .ok (.ldc2_w 545, 3) := by decide +kernel
theorem dX12_fewest_6 : decode cX12_fewest 6 = .ok (.invokestatic 112, 3) := by decide +kernel
theorem dX12_fewest_9 : decode cX12_fewest 9 = .ok (.ifCond .eq 13, 3) := by decide +kernel
theorem dX12_fewest_12 : decode cX12_fewest 12 = .ok (.iload_n 2, 1) := by decide +kernel
theorem dX12_fewest_13 : decode cX12_fewest 13 = .ok (.i2l, 1) := by decide +kernel
theorem dX12_fewest_14 : decode cX12_fewest 14 = .ok (.lconst 0, 1) := by decide +kernel
theorem dX12_fewest_15 : decode cX12_fewest 15 = .ok (.lconst 1, 1) := by decide +kernel
theorem dX12_fewest_16 : decode cX12_fewest 16 = .ok (.invokestatic 112, 3) := by decide +kernel
theorem dX12_fewest_19 : decode cX12_fewest 19 = .ok (.ifCond .ne 5, 3) := by decide +kernel
theorem dX12_fewest_22 : decode cX12_fewest 22 = .ok (.iconst (-1), 1) := by decide +kernel
theorem dX12_fewest_23 : decode cX12_fewest 23 = .ok (.ireturn, 1) := by decide +kernel
theorem dX12_fewest_24 : decode cX12_fewest 24 = .ok (.bipush (-2), 2) := by decide +kernel
theorem dX12_fewest_26 : decode cX12_fewest 26 = .ok (.istore_n 3, 1) := by decide +kernel
theorem dX12_fewest_27 : decode cX12_fewest 27 = .ok (.iconst 0, 1) := by decide +kernel
theorem dX12_fewest_28 : decode cX12_fewest 28 = .ok (.istore 4, 2) := by decide +kernel
theorem dX12_fewest_30 : decode cX12_fewest 30 = .ok (.iconst 0, 1) := by decide +kernel
theorem dX12_fewest_31 : decode cX12_fewest 31 = .ok (.istore 5, 2) := by decide +kernel
theorem dX12_fewest_33 : decode cX12_fewest 33 = .ok (.iload 5, 2) := by decide +kernel
theorem dX12_fewest_35 : decode cX12_fewest 35 = .ok (.iconst 1, 1) := by decide +kernel
theorem dX12_fewest_36 : decode cX12_fewest 36 = .ok (.aload_n 0, 1) := by decide +kernel
theorem dX12_fewest_37 : decode cX12_fewest 37 = .ok (.getfield 17, 3) := by decide +kernel
theorem dX12_fewest_40 : decode cX12_fewest 40 = .ok (.iconst 2, 1) := by decide +kernel
theorem dX12_fewest_41 : decode cX12_fewest 41 = .ok (.iaload, 1) := by decide +kernel
theorem dX12_fewest_42 : decode cX12_fewest 42 = .ok (.ishl, 1) := by decide +kernel
theorem dX12_fewest_43 : decode cX12_fewest 43 = .ok (.if_icmp .ge 68, 3) := by decide +kernel
theorem dX12_fewest_46 : decode cX12_fewest 46 = .ok (.aload_n 0, 1) := by decide +kernel
theorem dX12_fewest_47 : decode cX12_fewest 47 = .ok (.iload 5, 2) := by decide +kernel
theorem dX12_fewest_49 : decode cX12_fewest 49 = .ok (.invokevirtual 547, 3) := by decide +kernel
theorem dX12_fewest_52 : decode cX12_fewest 52 = .ok (.istore 6, 2) := by decide +kernel
theorem dX12_fewest_54 : decode cX12_fewest 54 = .ok (.iload 6, 2) := by decide +kernel
theorem dX12_fewest_56 : decode cX12_fewest 56 = .ok (.iload_n 1, 1) := by decide +kernel
theorem dX12_fewest_57 : decode cX12_fewest 57 = .ok (.if_icmp .lt 48, 3) := by decide +kernel
theorem dX12_fewest_60 : decode cX12_fewest 60 = .ok (.iload_n 3, 1) := by decide +kernel
theorem dX12_fewest_61 : decode cX12_fewest 61 = .ok (.ifCond .lt 37, 3) := by decide +kernel
theorem dX12_fewest_98 : decode cX12_fewest 98 = .ok (.iload 5, 2) := by decide +kernel
theorem dX12_fewest_100 : decode cX12_fewest 100 = .ok (.istore_n 3, 1) := by decide +kernel
theorem dX12_fewest_101 : decode cX12_fewest 101 = .ok (.iload 6, 2) := by decide +kernel
theorem dX12_fewest_103 : decode cX12_fewest 103 = .ok (.istore 4, 2) := by decide +kernel
theorem dX12_fewest_105 : decode cX12_fewest 105 = .ok (.iinc 5 1, 3) := by decide +kernel
theorem dX12_fewest_108 : decode cX12_fewest 108 = .ok (.goto (-75), 3) := by decide +kernel
theorem dX12_fewest_111 : decode cX12_fewest 111 = .ok (.iload_n 3, 1) := by decide +kernel
theorem dX12_fewest_112 : decode cX12_fewest 112 = .ok (.ifCond .ge 8, 3) := by decide +kernel
theorem dX12_fewest_115 : decode cX12_fewest 115 = .ok (.bipush (-2), 2) := by decide +kernel
theorem dX12_fewest_117 : decode cX12_fewest 117 = .ok (.goto 15, 3) := by decide +kernel
theorem dX12_fewest_120 : decode cX12_fewest 120 = .ok (.iload_n 2, 1) := by decide +kernel
theorem dX12_fewest_121 : decode cX12_fewest 121 = .ok (.ifCond .ne 10, 3) := by decide +kernel
theorem dX12_fewest_124 : decode cX12_fewest 124 = .ok (.iload_n 3, 1) := by decide +kernel
theorem dX12_fewest_125 : decode cX12_fewest 125 = .ok (.invokestatic 550, 3) := by decide +kernel
theorem dX12_fewest_128 : decode cX12_fewest 128 = .ok (.goto 4, 3) := by decide +kernel
theorem dX12_fewest_131 : decode cX12_fewest 131 = .ok (.iload_n 3, 1) := by decide +kernel
theorem dX12_fewest_132 : decode cX12_fewest 132 = .ok (.ireturn, 1) := by decide +kernel
theorem dX12_firstOf_0 : decode cX12_firstOf 0 = .ok (.iload_n 0, 1) := by decide +kernel
theorem dX12_firstOf_1 : decode cX12_firstOf 1 = .ok (.ifCond .ne 7, 3) := by decide +kernel
theorem dX12_firstOf_4 : decode cX12_firstOf 4 = .ok (.iconst 0, 1) := by decide +kernel
theorem dX12_firstOf_5 : decode cX12_firstOf 5 = .ok (.goto 15, 3) := by decide +kernel
theorem dX12_firstOf_8 : decode cX12_firstOf 8 = .ok (.iload_n 0, 1) := by decide +kernel
theorem dX12_firstOf_9 : decode cX12_firstOf 9 = .ok (.iconst 1, 1) := by decide +kernel
theorem dX12_firstOf_10 : decode cX12_firstOf 10 = .ok (.if_icmp .ne 8, 3) := by decide +kernel
theorem dX12_firstOf_13 : decode cX12_firstOf 13 = .ok (.bipush 6, 2) := by decide +kernel
theorem dX12_firstOf_15 : decode cX12_firstOf 15 = .ok (.goto 5, 3) := by decide +kernel
theorem dX12_firstOf_18 : decode cX12_firstOf 18 = .ok (.bipush 14, 2) := by decide +kernel
theorem dX12_firstOf_20 : decode cX12_firstOf 20 = .ok (.ireturn, 1) := by decide +kernel
theorem dX12_firsts_0 : decode cX12_firsts 0 = .ok (.iconst 0, 1) := by decide +kernel
theorem dX12_firsts_1 : decode cX12_firsts 1 = .ok (.istore_n 1, 1) := by decide +kernel
theorem dX12_firsts_2 : decode cX12_firsts 2 = .ok (.iload_n 1, 1) := by decide +kernel
theorem dX12_firsts_3 : decode cX12_firsts 3 = .ok (.aload_n 0, 1) := by decide +kernel
theorem dX12_firsts_4 : decode cX12_firsts 4 = .ok (.getfield 7, 3) := by decide +kernel
theorem dX12_firsts_7 : decode cX12_firsts 7 = .ok (.sipush 7665, 3) := by decide +kernel
theorem dX12_firsts_10 : decode cX12_firsts 10 = .ok (.iaload, 1) := by decide +kernel
theorem dX12_firsts_11 : decode cX12_firsts 11 = .ok (.if_icmp .ge 138, 3) := by decide +kernel
theorem dX12_firsts_149 : decode cX12_firsts 149 = .ok (.return_, 1) := by decide +kernel
theorem dX12_four_0 : decode cX12_four 0 = .ok (.bipush 24, 2) := by decide +kernel
theorem dX12_four_2 : decode cX12_four 2 = .ok (.istore_n 2, 1) := by decide +kernel
theorem dX12_four_3 : decode cX12_four 3 = .ok (.iload_n 2, 1) := by decide +kernel
theorem dX12_four_4 : decode cX12_four 4 = .ok (.ifCond .lt 32, 3) := by decide +kernel
theorem dX12_four_7 : decode cX12_four 7 = .ok (.aload_n 0, 1) := by decide +kernel
theorem dX12_four_8 : decode cX12_four 8 = .ok (.getfield 13, 3) := by decide +kernel
theorem dX12_four_11 : decode cX12_four 11 = .ok (.aload_n 0, 1) := by decide +kernel
theorem dX12_four_12 : decode cX12_four 12 = .ok (.getfield 153, 3) := by decide +kernel
theorem dX12_four_15 : decode cX12_four 15 = .ok (.iload_n 1, 1) := by decide +kernel
theorem dX12_four_16 : decode cX12_four 16 = .ok (.iload_n 2, 1) := by decide +kernel
theorem dX12_four_17 : decode cX12_four 17 = .ok (.ishr, 1) := by decide +kernel
theorem dX12_four_18 : decode cX12_four 18 = .ok (.i2b, 1) := by decide +kernel
theorem dX12_four_19 : decode cX12_four 19 = .ok (.bastore, 1) := by decide +kernel
theorem dX12_four_20 : decode cX12_four 20 = .ok (.aload_n 0, 1) := by decide +kernel
theorem dX12_four_21 : decode cX12_four 21 = .ok (.dup, 1) := by decide +kernel
theorem dX12_four_22 : decode cX12_four 22 = .ok (.getfield 153, 3) := by decide +kernel
theorem dX12_four_25 : decode cX12_four 25 = .ok (.iconst 1, 1) := by decide +kernel
theorem dX12_four_26 : decode cX12_four 26 = .ok (.iadd, 1) := by decide +kernel
theorem dX12_four_27 : decode cX12_four 27 = .ok (.putfield 153, 3) := by decide +kernel
theorem dX12_four_30 : decode cX12_four 30 = .ok (.iinc 2 (-8), 3) := by decide +kernel
theorem dX12_four_33 : decode cX12_four 33 = .ok (.goto (-30), 3) := by decide +kernel
theorem dX12_four_36 : decode cX12_four 36 = .ok (.return_, 1) := by decide +kernel
theorem dX12_givenBy_0 : decode cX12_givenBy 0 = .ok (.iconst 0, 1) := by decide +kernel
theorem dX12_givenBy_1 : decode cX12_givenBy 1 = .ok (.istore_n 2, 1) := by decide +kernel
theorem dX12_givenBy_2 : decode cX12_givenBy 2 = .ok (.iconst 0, 1) := by decide +kernel
theorem dX12_givenBy_3 : decode cX12_givenBy 3 = .ok (.istore_n 3, 1) := by decide +kernel
theorem dX12_givenBy_4 : decode cX12_givenBy 4 = .ok (.iload_n 3, 1) := by decide +kernel
theorem dX12_givenBy_5 : decode cX12_givenBy 5 = .ok (.aload_n 0, 1) := by decide +kernel
theorem dX12_givenBy_6 : decode cX12_givenBy 6 = .ok (.getfield 17, 3) := by decide +kernel
theorem dX12_givenBy_9 : decode cX12_givenBy 9 = .ok (.iconst 2, 1) := by decide +kernel
theorem dX12_givenBy_10 : decode cX12_givenBy 10 = .ok (.iaload, 1) := by decide +kernel
theorem dX12_givenBy_11 : decode cX12_givenBy 11 = .ok (.if_icmp .ge 30, 3) := by decide +kernel
theorem dX12_givenBy_41 : decode cX12_givenBy 41 = .ok (.iload_n 2, 1) := by decide +kernel
theorem dX12_givenBy_42 : decode cX12_givenBy 42 = .ok (.ireturn, 1) := by decide +kernel
theorem dX12_gives_0 : decode cX12_gives 0 = .ok (.aload_n 0, 1) := by decide +kernel
theorem dX12_gives_1 : decode cX12_gives 1 = .ok (.iconst 2, 1) := by decide +kernel
theorem dX12_gives_2 : decode cX12_gives 2 = .ok (.iload_n 1, 1) := by decide +kernel
theorem dX12_gives_3 : decode cX12_gives 3 = .ok (.invokevirtual 382, 3) := by decide +kernel
theorem dX12_gives_6 : decode cX12_gives 6 = .ok (.ifCond .eq 11, 3) := by decide +kernel
theorem dX12_gives_17 : decode cX12_gives 17 = .ok (.iconst (-1), 1) := by decide +kernel
theorem dX12_gives_18 : decode cX12_gives 18 = .ok (.ireturn, 1) := by decide +kernel
theorem dX12_hour_0 : decode cX12_hour 0 = .ok (.aload_n 0, 1) := by decide +kernel
theorem dX12_hour_1 : decode cX12_hour 1 = .ok (.iconst 1, 1) := by decide +kernel
theorem dX12_hour_2 : decode cX12_hour 2 = .ok (.iload_n 1, 1) := by decide +kernel
theorem dX12_hour_3 : decode cX12_hour 3 = .ok (.invokevirtual 382, 3) := by decide +kernel
theorem dX12_hour_6 : decode cX12_hour 6 = .ok (.ifCond .eq 20, 3) := by decide +kernel
theorem dX12_hour_26 : decode cX12_hour 26 = .ok (.iconst (-1), 1) := by decide +kernel
theorem dX12_hour_27 : decode cX12_hour 27 = .ok (.ireturn, 1) := by decide +kernel
theorem dX12_house_0 : decode cX12_house 0 = .ok (.aload_n 0, 1) := by decide +kernel
theorem dX12_house_1 : decode cX12_house 1 = .ok (.getfield 7, 3) := by decide +kernel
theorem dX12_house_4 : decode cX12_house 4 = .ok (.sipush 7665, 3) := by decide +kernel
theorem dX12_house_7 : decode cX12_house 7 = .ok (.iaload, 1) := by decide +kernel
theorem dX12_house_8 : decode cX12_house 8 = .ok (.bipush 8, 2) := by decide +kernel
theorem dX12_house_10 : decode cX12_house 10 = .ok (.if_icmp .eq 38, 3) := by decide +kernel
theorem dX12_house_13 : decode cX12_house 13 = .ok (.aload_n 0, 1) := by decide +kernel
theorem dX12_house_14 : decode cX12_house 14 = .ok (.iconst 1, 1) := by decide +kernel
theorem dX12_house_15 : decode cX12_house 15 = .ok (.iload_n 1, 1) := by decide +kernel
theorem dX12_house_16 : decode cX12_house 16 = .ok (.invokevirtual 382, 3) := by decide +kernel
theorem dX12_house_19 : decode cX12_house 19 = .ok (.ifCond .eq 29, 3) := by decide +kernel
theorem dX12_house_48 : decode cX12_house 48 = .ok (.iconst (-1), 1) := by decide +kernel
theorem dX12_house_49 : decode cX12_house 49 = .ok (.ireturn, 1) := by decide +kernel
theorem dX12_image_0 : decode cX12_image 0 = .ok (.iload_n 1, 1) := by decide +kernel
theorem dX12_image_1 : decode cX12_image 1 = .ok (.i2l, 1) := by decide +kernel
theorem dX12_image_2 : decode cX12_image 2 = .ok (.lconst 0, 1) := by decide +kernel
theorem dX12_image_3 : decode cX12_image 3 = .ok (.ldc2_w 116, 3) := by decide +kernel
theorem dX12_image_6 : decode cX12_image 6 = .ok (.invokestatic 112, 3) := by decide +kernel
theorem dX12_image_9 : decode cX12_image 9 = .ok (.ifCond .ne 5, 3) := by decide +kernel
theorem dX12_image_12 : decode cX12_image 12 = .ok (.iconst (-1), 1) := by decide +kernel
theorem dX12_image_13 : decode cX12_image 13 = .ok (.ireturn, 1) := by decide +kernel
theorem dX12_image_14 : decode cX12_image 14 = .ok (.aload_n 0, 1) := by decide +kernel
theorem dX12_image_15 : decode cX12_image 15 = .ok (.getfield 106, 3) := by decide +kernel
theorem dX12_image_18 : decode cX12_image 18 = .ok (.iload_n 1, 1) := by decide +kernel
theorem dX12_image_19 : decode cX12_image 19 = .ok (.iconst 1, 1) := by decide +kernel
theorem dX12_image_20 : decode cX12_image 20 = .ok (.bastore, 1) := by decide +kernel
theorem dX12_image_21 : decode cX12_image 21 = .ok (.iconst 0, 1) := by decide +kernel
theorem dX12_image_22 : decode cX12_image 22 = .ok (.istore_n 2, 1) := by decide +kernel
theorem dX12_image_23 : decode cX12_image 23 = .ok (.iload_n 2, 1) := by decide +kernel
theorem dX12_image_24 : decode cX12_image 24 = .ok (.sipush 7666, 3) := by decide +kernel
theorem dX12_image_27 : decode cX12_image 27 = .ok (.if_icmp .ge 27, 3) := by decide +kernel
theorem dX12_image_30 : decode cX12_image 30 = .ok (.aload_n 0, 1) := by decide +kernel
theorem dX12_image_31 : decode cX12_image 31 = .ok (.getfield 103, 3) := by decide +kernel
theorem dX12_image_34 : decode cX12_image 34 = .ok (.sipush 7666, 3) := by decide +kernel
theorem dX12_image_37 : decode cX12_image 37 = .ok (.iload_n 1, 1) := by decide +kernel
theorem dX12_image_38 : decode cX12_image 38 = .ok (.imul, 1) := by decide +kernel
theorem dX12_image_39 : decode cX12_image 39 = .ok (.iload_n 2, 1) := by decide +kernel
theorem dX12_image_40 : decode cX12_image 40 = .ok (.iadd, 1) := by decide +kernel
theorem dX12_image_41 : decode cX12_image 41 = .ok (.aload_n 0, 1) := by decide +kernel
theorem dX12_image_42 : decode cX12_image 42 = .ok (.getfield 7, 3) := by decide +kernel
theorem dX12_image_45 : decode cX12_image 45 = .ok (.iload_n 2, 1) := by decide +kernel
theorem dX12_image_46 : decode cX12_image 46 = .ok (.iaload, 1) := by decide +kernel
theorem dX12_image_47 : decode cX12_image 47 = .ok (.iastore, 1) := by decide +kernel
theorem dX12_image_48 : decode cX12_image 48 = .ok (.iinc 2 1, 3) := by decide +kernel
theorem dX12_image_51 : decode cX12_image 51 = .ok (.goto (-28), 3) := by decide +kernel
theorem dX12_image_54 : decode cX12_image 54 = .ok (.aload_n 0, 1) := by decide +kernel
theorem dX12_image_55 : decode cX12_image 55 = .ok (.getfield 7, 3) := by decide +kernel
theorem dX12_image_58 : decode cX12_image 58 = .ok (.iconst 1, 1) := by decide +kernel
theorem dX12_image_59 : decode cX12_image 59 = .ok (.iaload, 1) := by decide +kernel
theorem dX12_image_60 : decode cX12_image 60 = .ok (.ireturn, 1) := by decide +kernel
theorem dX12_init_0 : decode cX12_init 0 = .ok (.aload_n 0, 1) := by decide +kernel
theorem dX12_init_1 : decode cX12_init 1 = .ok (.invokespecial 1, 3) := by decide +kernel
theorem dX12_init_4 : decode cX12_init 4 = .ok (.aload_n 0, 1) := by decide +kernel
theorem dX12_init_5 : decode cX12_init 5 = .ok (.sipush 7666, 3) := by decide +kernel
theorem dX12_init_8 : decode cX12_init 8 = .ok (.newarray .int, 2) := by decide +kernel
theorem dX12_init_10 : decode cX12_init 10 = .ok (.putfield 7, 3) := by decide +kernel
theorem dX12_init_13 : decode cX12_init 13 = .ok (.aload_n 0, 1) := by decide +kernel
theorem dX12_init_14 : decode cX12_init 14 = .ok (.sipush 400, 3) := by decide +kernel
theorem dX12_init_17 : decode cX12_init 17 = .ok (.newarray .byte, 2) := by decide +kernel
theorem dX12_init_19 : decode cX12_init 19 = .ok (.putfield 13, 3) := by decide +kernel
theorem dX12_init_22 : decode cX12_init 22 = .ok (.aload_n 0, 1) := by decide +kernel
theorem dX12_init_23 : decode cX12_init 23 = .ok (.iconst 3, 1) := by decide +kernel
theorem dX12_init_24 : decode cX12_init 24 = .ok (.newarray .int, 2) := by decide +kernel
theorem dX12_init_26 : decode cX12_init 26 = .ok (.putfield 17, 3) := by decide +kernel
theorem dX12_init_29 : decode cX12_init 29 = .ok (.aload_n 0, 1) := by decide +kernel
theorem dX12_init_30 : decode cX12_init 30 = .ok (.sipush 8800, 3) := by decide +kernel
theorem dX12_init_33 : decode cX12_init 33 = .ok (.newarray .int, 2) := by decide +kernel
theorem dX12_init_35 : decode cX12_init 35 = .ok (.putfield 20, 3) := by decide +kernel
theorem dX12_init_38 : decode cX12_init 38 = .ok (.aload_n 0, 1) := by decide +kernel
theorem dX12_init_39 : decode cX12_init 39 = .ok (.bipush 22, 2) := by decide +kernel
theorem dX12_init_41 : decode cX12_init 41 = .ok (.newarray .int, 2) := by decide +kernel
theorem dX12_init_43 : decode cX12_init 43 = .ok (.putfield 23, 3) := by decide +kernel
theorem dX12_init_46 : decode cX12_init 46 = .ok (.aload_n 0, 1) := by decide +kernel
theorem dX12_init_47 : decode cX12_init 47 = .ok (.sipush 1056, 3) := by decide +kernel
theorem dX12_init_50 : decode cX12_init 50 = .ok (.newarray .int, 2) := by decide +kernel
theorem dX12_init_52 : decode cX12_init 52 = .ok (.putfield 26, 3) := by decide +kernel
theorem dX12_init_55 : decode cX12_init 55 = .ok (.aload_n 0, 1) := by decide +kernel
theorem dX12_init_56 : decode cX12_init 56 = .ok (.bipush 22, 2) := by decide +kernel
theorem dX12_init_58 : decode cX12_init 58 = .ok (.newarray .int, 2) := by decide +kernel
theorem dX12_init_60 : decode cX12_init 60 = .ok (.putfield 29, 3) := by decide +kernel
theorem dX12_init_63 : decode cX12_init 63 = .ok (.aload_n 0, 1) := by decide +kernel
theorem dX12_init_64 : decode cX12_init 64 = .ok (.sipush 144, 3) := by decide +kernel
theorem dX12_init_67 : decode cX12_init 67 = .ok (.newarray .int, 2) := by decide +kernel
theorem dX12_init_69 : decode cX12_init 69 = .ok (.putfield 32, 3) := by decide +kernel
theorem dX12_init_72 : decode cX12_init 72 = .ok (.aload_n 0, 1) := by decide +kernel
theorem dX12_init_73 : decode cX12_init 73 = .ok (.bipush 6, 2) := by decide +kernel
theorem dX12_init_75 : decode cX12_init 75 = .ok (.newarray .int, 2) := by decide +kernel
theorem dX12_init_77 : decode cX12_init 77 = .ok (.putfield 35, 3) := by decide +kernel
theorem dX12_init_80 : decode cX12_init 80 = .ok (.aload_n 0, 1) := by decide +kernel
theorem dX12_init_81 : decode cX12_init 81 = .ok (.bipush 22, 2) := by decide +kernel
theorem dX12_init_83 : decode cX12_init 83 = .ok (.newarray .int, 2) := by decide +kernel
theorem dX12_init_85 : decode cX12_init 85 = .ok (.putfield 38, 3) := by decide +kernel
theorem dX12_init_88 : decode cX12_init 88 = .ok (.aload_n 0, 1) := by decide +kernel
theorem dX12_init_89 : decode cX12_init 89 = .ok (.bipush 22, 2) := by decide +kernel
theorem dX12_init_91 : decode cX12_init 91 = .ok (.newarray .int, 2) := by decide +kernel
theorem dX12_init_93 : decode cX12_init 93 = .ok (.putfield 41, 3) := by decide +kernel
theorem dX12_init_96 : decode cX12_init 96 = .ok (.aload_n 0, 1) := by decide +kernel
theorem dX12_init_97 : decode cX12_init 97 = .ok (.bipush 22, 2) := by decide +kernel
theorem dX12_init_99 : decode cX12_init 99 = .ok (.newarray .int, 2) := by decide +kernel
theorem dX12_init_101 : decode cX12_init 101 = .ok (.putfield 44, 3) := by decide +kernel
theorem dX12_init_104 : decode cX12_init 104 = .ok (.aload_n 0, 1) := by decide +kernel
theorem dX12_init_105 : decode cX12_init 105 = .ok (.bipush 22, 2) := by decide +kernel
theorem dX12_init_107 : decode cX12_init 107 = .ok (.newarray .int, 2) := by decide +kernel
theorem dX12_init_109 : decode cX12_init 109 = .ok (.putfield 47, 3) := by decide +kernel
theorem dX12_init_112 : decode cX12_init 112 = .ok (.aload_n 0, 1) := by decide +kernel
theorem dX12_init_113 : decode cX12_init 113 = .ok (.bipush 22, 2) := by decide +kernel
theorem dX12_init_115 : decode cX12_init 115 = .ok (.newarray .int, 2) := by decide +kernel
theorem dX12_init_117 : decode cX12_init 117 = .ok (.putfield 50, 3) := by decide +kernel
theorem dX12_init_120 : decode cX12_init 120 = .ok (.aload_n 0, 1) := by decide +kernel
theorem dX12_init_121 : decode cX12_init 121 = .ok (.bipush 22, 2) := by decide +kernel
theorem dX12_init_123 : decode cX12_init 123 = .ok (.newarray .int, 2) := by decide +kernel
theorem dX12_init_125 : decode cX12_init 125 = .ok (.putfield 53, 3) := by decide +kernel
theorem dX12_init_128 : decode cX12_init 128 = .ok (.aload_n 0, 1) := by decide +kernel
theorem dX12_init_129 : decode cX12_init 129 = .ok (.bipush 22, 2) := by decide +kernel
theorem dX12_init_131 : decode cX12_init 131 = .ok (.newarray .int, 2) := by decide +kernel
theorem dX12_init_133 : decode cX12_init 133 = .ok (.putfield 56, 3) := by decide +kernel
theorem dX12_init_136 : decode cX12_init 136 = .ok (.aload_n 0, 1) := by decide +kernel
theorem dX12_init_137 : decode cX12_init 137 = .ok (.sipush 400, 3) := by decide +kernel
theorem dX12_init_140 : decode cX12_init 140 = .ok (.newarray .int, 2) := by decide +kernel
theorem dX12_init_142 : decode cX12_init 142 = .ok (.putfield 59, 3) := by decide +kernel
theorem dX12_init_145 : decode cX12_init 145 = .ok (.aload_n 0, 1) := by decide +kernel
theorem dX12_init_146 : decode cX12_init 146 = .ok (.bipush 64, 2) := by decide +kernel
theorem dX12_init_148 : decode cX12_init 148 = .ok (.newarray .long, 2) := by decide +kernel
theorem dX12_init_150 : decode cX12_init 150 = .ok (.putfield 62, 3) := by decide +kernel
theorem dX12_init_153 : decode cX12_init 153 = .ok (.aload_n 0, 1) := by decide +kernel
theorem dX12_init_154 : decode cX12_init 154 = .ok (.iconst 5, 1) := by decide +kernel
theorem dX12_init_155 : decode cX12_init 155 = .ok (.newarray .long, 2) := by decide +kernel
theorem dX12_init_157 : decode cX12_init 157 = .ok (.putfield 66, 3) := by decide +kernel
theorem dX12_init_160 : decode cX12_init 160 = .ok (.aload_n 0, 1) := by decide +kernel
theorem dX12_init_161 : decode cX12_init 161 = .ok (.sipush 300, 3) := by decide +kernel
theorem dX12_init_164 : decode cX12_init 164 = .ok (.newarray .int, 2) := by decide +kernel
theorem dX12_init_166 : decode cX12_init 166 = .ok (.putfield 69, 3) := by decide +kernel
theorem dX12_init_169 : decode cX12_init 169 = .ok (.aload_n 0, 1) := by decide +kernel
theorem dX12_init_170 : decode cX12_init 170 = .ok (.sipush 300, 3) := by decide +kernel
theorem dX12_init_173 : decode cX12_init 173 = .ok (.newarray .boolean, 2) := by decide +kernel
theorem dX12_init_175 : decode cX12_init 175 = .ok (.putfield 72, 3) := by decide +kernel
theorem dX12_init_178 : decode cX12_init 178 = .ok (.aload_n 0, 1) := by decide +kernel
theorem dX12_init_179 : decode cX12_init 179 = .ok (.bipush 42, 2) := by decide +kernel
theorem dX12_init_181 : decode cX12_init 181 = .ok (.newarray .int, 2) := by decide +kernel
theorem dX12_init_183 : decode cX12_init 183 = .ok (.putfield 76, 3) := by decide +kernel
theorem dX12_init_186 : decode cX12_init 186 = .ok (.aload_n 0, 1) := by decide +kernel
theorem dX12_init_187 : decode cX12_init 187 = .ok (.bipush 42, 2) := by decide +kernel
theorem dX12_init_189 : decode cX12_init 189 = .ok (.newarray .long, 2) := by decide +kernel
theorem dX12_init_191 : decode cX12_init 191 = .ok (.putfield 79, 3) := by decide +kernel
theorem dX12_init_194 : decode cX12_init 194 = .ok (.aload_n 0, 1) := by decide +kernel
theorem dX12_init_195 : decode cX12_init 195 = .ok (.sipush 300, 3) := by decide +kernel
theorem dX12_init_198 : decode cX12_init 198 = .ok (.newarray .long, 2) := by decide +kernel
theorem dX12_init_200 : decode cX12_init 200 = .ok (.putfield 82, 3) := by decide +kernel
theorem dX12_init_203 : decode cX12_init 203 = .ok (.aload_n 0, 1) := by decide +kernel
theorem dX12_init_204 : decode cX12_init 204 = .ok (.bipush 24, 2) := by decide +kernel
theorem dX12_init_206 : decode cX12_init 206 = .ok (.newarray .long, 2) := by decide +kernel
theorem dX12_init_208 : decode cX12_init 208 = .ok (.putfield 85, 3) := by decide +kernel
theorem dX12_init_211 : decode cX12_init 211 = .ok (.aload_n 0, 1) := by decide +kernel
theorem dX12_init_212 : decode cX12_init 212 = .ok (.bipush 24, 2) := by decide +kernel
theorem dX12_init_214 : decode cX12_init 214 = .ok (.newarray .boolean, 2) := by decide +kernel
theorem dX12_init_216 : decode cX12_init 216 = .ok (.putfield 88, 3) := by decide +kernel
theorem dX12_init_219 : decode cX12_init 219 = .ok (.aload_n 0, 1) := by decide +kernel
theorem dX12_init_220 : decode cX12_init 220 = .ok (.bipush 24, 2) := by decide +kernel
theorem dX12_init_222 : decode cX12_init 222 = .ok (.newarray .long, 2) := by decide +kernel
theorem dX12_init_224 : decode cX12_init 224 = .ok (.putfield 91, 3) := by decide +kernel
theorem dX12_init_227 : decode cX12_init 227 = .ok (.aload_n 0, 1) := by decide +kernel
theorem dX12_init_228 : decode cX12_init 228 = .ok (.bipush 8, 2) := by decide +kernel
theorem dX12_init_230 : decode cX12_init 230 = .ok (.newarray .int, 2) := by decide +kernel
theorem dX12_init_232 : decode cX12_init 232 = .ok (.putfield 94, 3) := by decide +kernel
theorem dX12_init_235 : decode cX12_init 235 = .ok (.aload_n 0, 1) := by decide +kernel
theorem dX12_init_236 : decode cX12_init 236 = .ok (.iconst 4, 1) := by decide +kernel
theorem dX12_init_237 : decode cX12_init 237 = .ok (.newarray .long, 2) := by decide +kernel
theorem dX12_init_239 : decode cX12_init 239 = .ok (.putfield 97, 3) := by decide +kernel
theorem dX12_init_242 : decode cX12_init 242 = .ok (.aload_n 0, 1) := by decide +kernel
theorem dX12_init_243 : decode cX12_init 243 = .ok (.iconst 4, 1) := by decide +kernel
theorem dX12_init_244 : decode cX12_init 244 = .ok (.newarray .int, 2) := by decide +kernel
theorem dX12_init_246 : decode cX12_init 246 = .ok (.putfield 100, 3) := by decide +kernel
theorem dX12_init_249 : decode cX12_init 249 = .ok (.aload_n 0, 1) := by decide +kernel
theorem dX12_init_250 : decode cX12_init 250 = .ok (.sipush 30664, 3) := by decide +kernel
theorem dX12_init_253 : decode cX12_init 253 = .ok (.newarray .int, 2) := by decide +kernel
theorem dX12_init_255 : decode cX12_init 255 = .ok (.putfield 103, 3) := by decide +kernel
theorem dX12_init_258 : decode cX12_init 258 = .ok (.aload_n 0, 1) := by decide +kernel
theorem dX12_init_259 : decode cX12_init 259 = .ok (.iconst 4, 1) := by decide +kernel
theorem dX12_init_260 : decode cX12_init 260 = .ok (.newarray .boolean, 2) := by decide +kernel
theorem dX12_init_262 : decode cX12_init 262 = .ok (.putfield 106, 3) := by decide +kernel
theorem dX12_init_265 : decode cX12_init 265 = .ok (.sipush 441, 3) := by decide +kernel
theorem dX12_init_268 : decode cX12_init 268 = .ok (.istore_n 1, 1) := by decide +kernel
theorem dX12_init_269 : decode cX12_init 269 = .ok (.iload_n 1, 1) := by decide +kernel
theorem dX12_init_270 : decode cX12_init 270 = .ok (.sipush 7641, 3) := by decide +kernel
theorem dX12_init_273 : decode cX12_init 273 = .ok (.if_icmp .ge 17, 3) := by decide +kernel
theorem dX12_init_276 : decode cX12_init 276 = .ok (.aload_n 0, 1) := by decide +kernel
theorem dX12_init_277 : decode cX12_init 277 = .ok (.getfield 7, 3) := by decide +kernel
theorem dX12_init_280 : decode cX12_init 280 = .ok (.iload_n 1, 1) := by decide +kernel
theorem dX12_init_281 : decode cX12_init 281 = .ok (.ldc 109, 2) := by decide +kernel
theorem dX12_init_283 : decode cX12_init 283 = .ok (.iastore, 1) := by decide +kernel
theorem dX12_init_284 : decode cX12_init 284 = .ok (.iinc 1 1, 3) := by decide +kernel
theorem dX12_init_287 : decode cX12_init 287 = .ok (.goto (-18), 3) := by decide +kernel
theorem dX12_init_290 : decode cX12_init 290 = .ok (.return_, 1) := by decide +kernel
theorem dX12_isColour_0 : decode cX12_isColour 0 = .ok (.iload_n 0, 1) := by decide +kernel
theorem dX12_isColour_1 : decode cX12_isColour 1 = .ok (.ifCond .lt 14, 3) := by decide +kernel
theorem dX12_isColour_4 : decode cX12_isColour 4 = .ok (.iload_n 0, 1) := by decide +kernel
theorem dX12_isColour_5 : decode cX12_isColour 5 = .ok (.sipush 300, 3) := by decide +kernel
theorem dX12_isColour_8 : decode cX12_isColour 8 = .ok (.if_icmp .ge 7, 3) := by decide +kernel
theorem dX12_isColour_11 : decode cX12_isColour 11 = .ok (.iconst 1, 1) := by decide +kernel
theorem dX12_isColour_12 : decode cX12_isColour 12 = .ok (.goto 4, 3) := by decide +kernel
theorem dX12_isColour_15 : decode cX12_isColour 15 = .ok (.iconst 0, 1) := by decide +kernel
theorem dX12_isColour_16 : decode cX12_isColour 16 = .ok (.ireturn, 1) := by decide +kernel
theorem dX12_isLetter_0 : decode cX12_isLetter 0 = .ok (.iload_n 1, 1) := by decide +kernel
theorem dX12_isLetter_1 : decode cX12_isLetter 1 = .ok (.aload_n 0, 1) := by decide +kernel
theorem dX12_isLetter_2 : decode cX12_isLetter 2 = .ok (.getfield 153, 3) := by decide +kernel
theorem dX12_isLetter_5 : decode cX12_isLetter 5 = .ok (.if_icmp .ge 29, 3) := by decide +kernel
theorem dX12_isLetter_34 : decode cX12_isLetter 34 = .ok (.iconst 0, 1) := by decide +kernel
theorem dX12_isLetter_35 : decode cX12_isLetter 35 = .ok (.ireturn, 1) := by decide +kernel
theorem dX12_isRow_0 : decode cX12_isRow 0 = .ok (.iload_n 1, 1) := by decide +kernel
theorem dX12_isRow_1 : decode cX12_isRow 1 = .ok (.ifCond .lt 17, 3) := by decide +kernel
theorem dX12_isRow_4 : decode cX12_isRow 4 = .ok (.iload_n 1, 1) := by decide +kernel
theorem dX12_isRow_5 : decode cX12_isRow 5 = .ok (.aload_n 0, 1) := by decide +kernel
theorem dX12_isRow_6 : decode cX12_isRow 6 = .ok (.getfield 7, 3) := by decide +kernel
theorem dX12_isRow_9 : decode cX12_isRow 9 = .ok (.iconst 1, 1) := by decide +kernel
theorem dX12_isRow_10 : decode cX12_isRow 10 = .ok (.iaload, 1) := by decide +kernel
theorem dX12_isRow_11 : decode cX12_isRow 11 = .ok (.if_icmp .ge 7, 3) := by decide +kernel
theorem dX12_isRow_18 : decode cX12_isRow 18 = .ok (.iconst 0, 1) := by decide +kernel
theorem dX12_isRow_19 : decode cX12_isRow 19 = .ok (.ireturn, 1) := by decide +kernel
theorem dX12_isText_0 : decode cX12_isText 0 = .ok (.iload_n 2, 1) := by decide +kernel
theorem dX12_isText_1 : decode cX12_isText 1 = .ok (.ifCond .lt 17, 3) := by decide +kernel
theorem dX12_isText_4 : decode cX12_isText 4 = .ok (.iload_n 2, 1) := by decide +kernel
theorem dX12_isText_5 : decode cX12_isText 5 = .ok (.aload_n 0, 1) := by decide +kernel
theorem dX12_isText_6 : decode cX12_isText 6 = .ok (.getfield 17, 3) := by decide +kernel
theorem dX12_isText_9 : decode cX12_isText 9 = .ok (.iload_n 1, 1) := by decide +kernel
theorem dX12_isText_10 : decode cX12_isText 10 = .ok (.iaload, 1) := by decide +kernel
theorem dX12_isText_11 : decode cX12_isText 11 = .ok (.if_icmp .ge 7, 3) := by decide +kernel
theorem dX12_isText_18 : decode cX12_isText 18 = .ok (.iconst 0, 1) := by decide +kernel
theorem dX12_isText_19 : decode cX12_isText 19 = .ok (.ireturn, 1) := by decide +kernel
theorem dX12_isWeek_0 : decode cX12_isWeek 0 = .ok (.iload_n 0, 1) := by decide +kernel
theorem dX12_isWeek_1 : decode cX12_isWeek 1 = .ok (.ifCond .lt 14, 3) := by decide +kernel
theorem dX12_isWeek_4 : decode cX12_isWeek 4 = .ok (.iload_n 0, 1) := by decide +kernel
theorem dX12_isWeek_5 : decode cX12_isWeek 5 = .ok (.sipush 400, 3) := by decide +kernel
theorem dX12_isWeek_8 : decode cX12_isWeek 8 = .ok (.if_icmp .ge 7, 3) := by decide +kernel
theorem dX12_isWeek_11 : decode cX12_isWeek 11 = .ok (.iconst 1, 1) := by decide +kernel
theorem dX12_isWeek_12 : decode cX12_isWeek 12 = .ok (.goto 4, 3) := by decide +kernel
theorem dX12_isWeek_15 : decode cX12_isWeek 15 = .ok (.iconst 0, 1) := by decide +kernel
theorem dX12_isWeek_16 : decode cX12_isWeek 16 = .ok (.ireturn, 1) := by decide +kernel
theorem dX12_isWord_0 : decode cX12_isWord 0 = .ok (.aload_n 0, 1) := by decide +kernel
theorem dX12_isWord_1 : decode cX12_isWord 1 = .ok (.invokevirtual 167, 3) := by decide +kernel
theorem dX12_isWord_4 : decode cX12_isWord 4 = .ok (.pop, 1) := by decide +kernel
theorem dX12_isWord_5 : decode cX12_isWord 5 = .ok (.lconst 0, 1) := by decide +kernel
theorem dX12_isWord_6 : decode cX12_isWord 6 = .ok (.lstore_n 3, 1) := by decide +kernel
theorem dX12_isWord_7 : decode cX12_isWord 7 = .ok (.iconst 0, 1) := by decide +kernel
theorem dX12_isWord_8 : decode cX12_isWord 8 = .ok (.istore 5, 2) := by decide +kernel
theorem dX12_isWord_10 : decode cX12_isWord 10 = .ok (.aload_n 0, 1) := by decide +kernel
theorem dX12_isWord_11 : decode cX12_isWord 11 = .ok (.aload_n 0, 1) := by decide +kernel
theorem dX12_isWord_12 : decode cX12_isWord 12 = .ok (.getfield 164, 3) := by decide +kernel
theorem dX12_isWord_15 : decode cX12_isWord 15 = .ok (.iload 5, 2) := by decide +kernel
theorem dX12_isWord_17 : decode cX12_isWord 17 = .ok (.iadd, 1) := by decide +kernel
theorem dX12_isWord_18 : decode cX12_isWord 18 = .ok (.invokevirtual 171, 3) := by decide +kernel
theorem dX12_isWord_21 : decode cX12_isWord 21 = .ok (.ifCond .eq 35, 3) := by decide +kernel
theorem dX12_isWord_56 : decode cX12_isWord 56 = .ok (.iload 5, 2) := by decide +kernel
theorem dX12_isWord_58 : decode cX12_isWord 58 = .ok (.ifCond .le 20, 3) := by decide +kernel
theorem dX12_isWord_78 : decode cX12_isWord 78 = .ok (.iconst 0, 1) := by decide +kernel
theorem dX12_isWord_79 : decode cX12_isWord 79 = .ok (.ireturn, 1) := by decide +kernel
theorem dX12_kindOf_0 : decode cX12_kindOf 0 = .ok (.iload_n 1, 1) := by decide +kernel
theorem dX12_kindOf_1 : decode cX12_kindOf 1 = .ok (.bipush 6, 2) := by decide +kernel
theorem dX12_kindOf_3 : decode cX12_kindOf 3 = .ok (.if_icmp .ge 7, 3) := by decide +kernel
theorem dX12_kindOf_6 : decode cX12_kindOf 6 = .ok (.iconst 0, 1) := by decide +kernel
theorem dX12_kindOf_7 : decode cX12_kindOf 7 = .ok (.goto 14, 3) := by decide +kernel
theorem dX12_kindOf_10 : decode cX12_kindOf 10 = .ok (.iload_n 1, 1) := by decide +kernel
theorem dX12_kindOf_11 : decode cX12_kindOf 11 = .ok (.bipush 14, 2) := by decide +kernel
theorem dX12_kindOf_13 : decode cX12_kindOf 13 = .ok (.if_icmp .ge 7, 3) := by decide +kernel
theorem dX12_kindOf_16 : decode cX12_kindOf 16 = .ok (.iconst 1, 1) := by decide +kernel
theorem dX12_kindOf_17 : decode cX12_kindOf 17 = .ok (.goto 4, 3) := by decide +kernel
theorem dX12_kindOf_20 : decode cX12_kindOf 20 = .ok (.iconst 2, 1) := by decide +kernel
theorem dX12_kindOf_21 : decode cX12_kindOf 21 = .ok (.ireturn, 1) := by decide +kernel
theorem dX12_likeliest_0 : decode cX12_likeliest 0 = .ok (.aload_n 0, 1) := by decide +kernel
theorem dX12_likeliest_1 : decode cX12_likeliest 1 = .ok (.iload_n 1, 1) := by decide +kernel
theorem dX12_likeliest_2 : decode cX12_likeliest 2 = .ok (.iload_n 2, 1) := by decide +kernel
theorem dX12_likeliest_3 : decode cX12_likeliest 3 = .ok (.invokevirtual 447, 3) := by decide +kernel
theorem dX12_likeliest_6 : decode cX12_likeliest 6 = .ok (.ifCond .ne 5, 3) := by decide +kernel
theorem dX12_likeliest_9 : decode cX12_likeliest 9 = .ok (.iconst (-1), 1) := by decide +kernel
theorem dX12_likeliest_10 : decode cX12_likeliest 10 = .ok (.ireturn, 1) := by decide +kernel
theorem dX12_line_0 : decode cX12_line 0 = .ok (.aload_n 0, 1) := by decide +kernel
theorem dX12_line_1 : decode cX12_line 1 = .ok (.getfield 7, 3) := by decide +kernel
theorem dX12_line_4 : decode cX12_line 4 = .ok (.iconst 3, 1) := by decide +kernel
theorem dX12_line_5 : decode cX12_line 5 = .ok (.iaload, 1) := by decide +kernel
theorem dX12_line_6 : decode cX12_line 6 = .ok (.bipush 60, 2) := by decide +kernel
theorem dX12_line_8 : decode cX12_line 8 = .ok (.if_icmp .eq 43, 3) := by decide +kernel
theorem dX12_line_11 : decode cX12_line 11 = .ok (.iload_n 1, 1) := by decide +kernel
theorem dX12_line_12 : decode cX12_line 12 = .ok (.i2l, 1) := by decide +kernel
theorem dX12_line_13 : decode cX12_line 13 = .ok (.lconst 0, 1) := by decide +kernel
theorem dX12_line_14 : decode cX12_line 14 = .ok (.ldc2_w 146, 3) := by decide +kernel
theorem dX12_line_17 : decode cX12_line 17 = .ok (.invokestatic 112, 3) := by decide +kernel
theorem dX12_line_20 : decode cX12_line 20 = .ok (.ifCond .eq 31, 3) := by decide +kernel
theorem dX12_line_23 : decode cX12_line 23 = .ok (.iload_n 2, 1) := by decide +kernel
theorem dX12_line_24 : decode cX12_line 24 = .ok (.invokestatic 124, 3) := by decide +kernel
theorem dX12_line_27 : decode cX12_line 27 = .ok (.ifCond .eq 24, 3) := by decide +kernel
theorem dX12_line_30 : decode cX12_line 30 = .ok (.iload_n 3, 1) := by decide +kernel
theorem dX12_line_31 : decode cX12_line 31 = .ok (.i2l, 1) := by decide +kernel
theorem dX12_line_32 : decode cX12_line 32 = .ok (.lconst 1, 1) := by decide +kernel
theorem dX12_line_33 : decode cX12_line 33 = .ok (.ldc2_w 148, 3) := by decide +kernel
theorem dX12_line_36 : decode cX12_line 36 = .ok (.invokestatic 112, 3) := by decide +kernel
theorem dX12_line_39 : decode cX12_line 39 = .ok (.ifCond .eq 12, 3) := by decide +kernel
theorem dX12_line_42 : decode cX12_line 42 = .ok (.aload_n 0, 1) := by decide +kernel
theorem dX12_line_43 : decode cX12_line 43 = .ok (.iload_n 1, 1) := by decide +kernel
theorem dX12_line_44 : decode cX12_line 44 = .ok (.iload_n 2, 1) := by decide +kernel
theorem dX12_line_45 : decode cX12_line 45 = .ok (.invokevirtual 150, 3) := by decide +kernel
theorem dX12_line_48 : decode cX12_line 48 = .ok (.ifCond .le 5, 3) := by decide +kernel
theorem dX12_line_51 : decode cX12_line 51 = .ok (.iconst (-1), 1) := by decide +kernel
theorem dX12_line_52 : decode cX12_line 52 = .ok (.ireturn, 1) := by decide +kernel
theorem dX12_line_53 : decode cX12_line 53 = .ok (.sipush 241, 3) := by decide +kernel
theorem dX12_line_56 : decode cX12_line 56 = .ok (.iconst 3, 1) := by decide +kernel
theorem dX12_line_57 : decode cX12_line 57 = .ok (.aload_n 0, 1) := by decide +kernel
theorem dX12_line_58 : decode cX12_line 58 = .ok (.getfield 7, 3) := by decide +kernel
theorem dX12_line_61 : decode cX12_line 61 = .ok (.iconst 3, 1) := by decide +kernel
theorem dX12_line_62 : decode cX12_line 62 = .ok (.iaload, 1) := by decide +kernel
theorem dX12_line_63 : decode cX12_line 63 = .ok (.imul, 1) := by decide +kernel
theorem dX12_line_64 : decode cX12_line 64 = .ok (.iadd, 1) := by decide +kernel
theorem dX12_line_65 : decode cX12_line 65 = .ok (.istore 4, 2) := by decide +kernel
theorem dX12_line_67 : decode cX12_line 67 = .ok (.aload_n 0, 1) := by decide +kernel
theorem dX12_line_68 : decode cX12_line 68 = .ok (.getfield 7, 3) := by decide +kernel
theorem dX12_line_71 : decode cX12_line 71 = .ok (.iload 4, 2) := by decide +kernel
theorem dX12_line_73 : decode cX12_line 73 = .ok (.iload_n 1, 1) := by decide +kernel
theorem dX12_line_74 : decode cX12_line 74 = .ok (.iastore, 1) := by decide +kernel
theorem dX12_line_75 : decode cX12_line 75 = .ok (.aload_n 0, 1) := by decide +kernel
theorem dX12_line_76 : decode cX12_line 76 = .ok (.getfield 7, 3) := by decide +kernel
theorem dX12_line_79 : decode cX12_line 79 = .ok (.iload 4, 2) := by decide +kernel
theorem dX12_line_81 : decode cX12_line 81 = .ok (.iconst 1, 1) := by decide +kernel
theorem dX12_line_82 : decode cX12_line 82 = .ok (.iadd, 1) := by decide +kernel
theorem dX12_line_83 : decode cX12_line 83 = .ok (.iload_n 2, 1) := by decide +kernel
theorem dX12_line_84 : decode cX12_line 84 = .ok (.iastore, 1) := by decide +kernel
theorem dX12_line_85 : decode cX12_line 85 = .ok (.aload_n 0, 1) := by decide +kernel
theorem dX12_line_86 : decode cX12_line 86 = .ok (.getfield 7, 3) := by decide +kernel
theorem dX12_line_89 : decode cX12_line 89 = .ok (.iload 4, 2) := by decide +kernel
theorem dX12_line_91 : decode cX12_line 91 = .ok (.iconst 2, 1) := by decide +kernel
theorem dX12_line_92 : decode cX12_line 92 = .ok (.iadd, 1) := by decide +kernel
theorem dX12_line_93 : decode cX12_line 93 = .ok (.iload_n 3, 1) := by decide +kernel
theorem dX12_line_94 : decode cX12_line 94 = .ok (.iastore, 1) := by decide +kernel
theorem dX12_line_95 : decode cX12_line 95 = .ok (.aload_n 0, 1) := by decide +kernel
theorem dX12_line_96 : decode cX12_line 96 = .ok (.getfield 7, 3) := by decide +kernel
theorem dX12_line_99 : decode cX12_line 99 = .ok (.iconst 3, 1) := by decide +kernel
theorem dX12_line_100 : decode cX12_line 100 = .ok (.dup2, 1) := by decide +kernel
theorem dX12_line_101 : decode cX12_line 101 = .ok (.iaload, 1) := by decide +kernel
theorem dX12_line_102 : decode cX12_line 102 = .ok (.iconst 1, 1) := by decide +kernel
theorem dX12_line_103 : decode cX12_line 103 = .ok (.iadd, 1) := by decide +kernel
theorem dX12_line_104 : decode cX12_line 104 = .ok (.iastore, 1) := by decide +kernel
theorem dX12_line_105 : decode cX12_line 105 = .ok (.aload_n 0, 1) := by decide +kernel
theorem dX12_line_106 : decode cX12_line 106 = .ok (.getfield 7, 3) := by decide +kernel
theorem dX12_line_109 : decode cX12_line 109 = .ok (.iconst 3, 1) := by decide +kernel
theorem dX12_line_110 : decode cX12_line 110 = .ok (.iaload, 1) := by decide +kernel
theorem dX12_line_111 : decode cX12_line 111 = .ok (.ireturn, 1) := by decide +kernel
theorem dX12_make_0 : decode cX12_make 0 = .ok (.aload_n 0, 1) := by decide +kernel
theorem dX12_make_1 : decode cX12_make 1 = .ok (.iconst 0, 1) := by decide +kernel
theorem dX12_make_2 : decode cX12_make 2 = .ok (.iload_n 1, 1) := by decide +kernel
theorem dX12_make_3 : decode cX12_make 3 = .ok (.invokevirtual 382, 3) := by decide +kernel
theorem dX12_make_6 : decode cX12_make 6 = .ok (.ifCond .eq 38, 3) := by decide +kernel
theorem dX12_make_44 : decode cX12_make 44 = .ok (.iconst (-1), 1) := by decide +kernel
theorem dX12_make_45 : decode cX12_make 45 = .ok (.ireturn, 1) := by decide +kernel
theorem dX12_mostOf_0 : decode cX12_mostOf 0 = .ok (.iload_n 0, 1) := by decide +kernel
theorem dX12_mostOf_1 : decode cX12_mostOf 1 = .ok (.ifCond .ne 8, 3) := by decide +kernel
theorem dX12_mostOf_4 : decode cX12_mostOf 4 = .ok (.bipush 6, 2) := by decide +kernel
theorem dX12_mostOf_6 : decode cX12_mostOf 6 = .ok (.goto 15, 3) := by decide +kernel
theorem dX12_mostOf_9 : decode cX12_mostOf 9 = .ok (.iload_n 0, 1) := by decide +kernel
theorem dX12_mostOf_10 : decode cX12_mostOf 10 = .ok (.iconst 1, 1) := by decide +kernel
theorem dX12_mostOf_11 : decode cX12_mostOf 11 = .ok (.if_icmp .ne 8, 3) := by decide +kernel
theorem dX12_mostOf_14 : decode cX12_mostOf 14 = .ok (.bipush 8, 2) := by decide +kernel
theorem dX12_mostOf_16 : decode cX12_mostOf 16 = .ok (.goto 5, 3) := by decide +kernel
theorem dX12_mostOf_19 : decode cX12_mostOf 19 = .ok (.bipush 8, 2) := by decide +kernel
theorem dX12_mostOf_21 : decode cX12_mostOf 21 = .ok (.ireturn, 1) := by decide +kernel
theorem dX12_moved_0 : decode cX12_moved 0 = .ok (.aload_n 0, 1) := by decide +kernel
theorem dX12_moved_1 : decode cX12_moved 1 = .ok (.iload_n 1, 1) := by decide +kernel
theorem dX12_moved_2 : decode cX12_moved 2 = .ok (.iload_n 2, 1) := by decide +kernel
theorem dX12_moved_3 : decode cX12_moved 3 = .ok (.invokevirtual 447, 3) := by decide +kernel
theorem dX12_moved_6 : decode cX12_moved 6 = .ok (.ifCond .eq 22, 3) := by decide +kernel
theorem dX12_moved_28 : decode cX12_moved 28 = .ok (.ldc2_w 455, 3) := by decide +kernel
theorem dX12_moved_31 : decode cX12_moved 31 = .ok (.lreturn, 1) := by decide +kernel
theorem dX12_next_0 : decode cX12_next 0 = .ok (.aload_n 0, 1) := by decide +kernel
theorem dX12_next_1 : decode cX12_next 1 = .ok (.iconst 1, 1) := by decide +kernel
theorem dX12_next_2 : decode cX12_next 2 = .ok (.iload_n 1, 1) := by decide +kernel
theorem dX12_next_3 : decode cX12_next 3 = .ok (.invokevirtual 382, 3) := by decide +kernel
theorem dX12_next_6 : decode cX12_next 6 = .ok (.ifCond .eq 25, 3) := by decide +kernel
theorem dX12_next_31 : decode cX12_next 31 = .ok (.ldc2_w 457, 3) := by decide +kernel
theorem dX12_next_34 : decode cX12_next 34 = .ok (.lreturn, 1) := by decide +kernel
theorem dX12_odd_0 : decode cX12_odd 0 = .ok (.aload_n 0, 1) := by decide +kernel
theorem dX12_odd_1 : decode cX12_odd 1 = .ok (.iconst 1, 1) := by decide +kernel
theorem dX12_odd_2 : decode cX12_odd 2 = .ok (.iload_n 1, 1) := by decide +kernel
theorem dX12_odd_3 : decode cX12_odd 3 = .ok (.invokevirtual 382, 3) := by decide +kernel
theorem dX12_odd_6 : decode cX12_odd 6 = .ok (.ifCond .eq 15, 3) := by decide +kernel
theorem dX12_odd_21 : decode cX12_odd 21 = .ok (.iconst (-1), 1) := by decide +kernel
theorem dX12_odd_22 : decode cX12_odd 22 = .ok (.ireturn, 1) := by decide +kernel
theorem dX12_raw_0 : decode cX12_raw 0 = .ok (.aload_n 0, 1) := by decide +kernel
theorem dX12_raw_1 : decode cX12_raw 1 = .ok (.iload_n 1, 1) := by decide +kernel
theorem dX12_raw_2 : decode cX12_raw 2 = .ok (.invokevirtual 120, 3) := by decide +kernel
theorem dX12_raw_5 : decode cX12_raw 5 = .ok (.ifCond .eq 30, 3) := by decide +kernel
theorem dX12_raw_35 : decode cX12_raw 35 = .ok (.ldc 131, 2) := by decide +kernel
theorem dX12_raw_37 : decode cX12_raw 37 = .ok (.ireturn, 1) := by decide +kernel
theorem dX12_read_0 : decode cX12_read 0 = .ok (.aload_n 0, 1) := by decide +kernel
theorem dX12_read_1 : decode cX12_read 1 = .ok (.iload_n 1, 1) := by decide +kernel
theorem dX12_read_2 : decode cX12_read 2 = .ok (.invokevirtual 120, 3) := by decide +kernel
theorem dX12_read_5 : decode cX12_read 5 = .ok (.ifCond .eq 19, 3) := by decide +kernel
theorem dX12_read_24 : decode cX12_read 24 = .ok (.ldc 131, 2) := by decide +kernel
theorem dX12_read_26 : decode cX12_read 26 = .ok (.ireturn, 1) := by decide +kernel
theorem dX12_ripple_0 : decode cX12_ripple 0 = .ok (.aload_n 0, 1) := by decide +kernel
theorem dX12_ripple_1 : decode cX12_ripple 1 = .ok (.iload_n 1, 1) := by decide +kernel
theorem dX12_ripple_2 : decode cX12_ripple 2 = .ok (.iload_n 2, 1) := by decide +kernel
theorem dX12_ripple_3 : decode cX12_ripple 3 = .ok (.invokevirtual 447, 3) := by decide +kernel
theorem dX12_ripple_6 : decode cX12_ripple 6 = .ok (.ifCond .eq 13, 3) := by decide +kernel
theorem dX12_ripple_19 : decode cX12_ripple 19 = .ok (.ldc2_w 483, 3) := by decide +kernel
theorem dX12_ripple_22 : decode cX12_ripple 22 = .ok (.lreturn, 1) := by decide +kernel
theorem dX12_row_0 : decode cX12_row 0 = .ok (.aload_n 0, 1) := by decide +kernel
theorem dX12_row_1 : decode cX12_row 1 = .ok (.getfield 7, 3) := by decide +kernel
theorem dX12_row_4 : decode cX12_row 4 = .ok (.iconst 1, 1) := by decide +kernel
theorem dX12_row_5 : decode cX12_row 5 = .ok (.iaload, 1) := by decide +kernel
theorem dX12_row_6 : decode cX12_row 6 = .ok (.bipush 24, 2) := by decide +kernel
theorem dX12_row_8 : decode cX12_row 8 = .ok (.if_icmp .eq 27, 3) := by decide +kernel
theorem dX12_row_11 : decode cX12_row 11 = .ok (.iload_n 1, 1) := by decide +kernel
theorem dX12_row_12 : decode cX12_row 12 = .ok (.i2l, 1) := by decide +kernel
theorem dX12_row_13 : decode cX12_row 13 = .ok (.lconst 0, 1) := by decide +kernel
theorem dX12_row_14 : decode cX12_row 14 = .ok (.ldc2_w 116, 3) := by decide +kernel
theorem dX12_row_17 : decode cX12_row 17 = .ok (.invokestatic 112, 3) := by decide +kernel
theorem dX12_row_20 : decode cX12_row 20 = .ok (.ifCond .eq 15, 3) := by decide +kernel
theorem dX12_row_23 : decode cX12_row 23 = .ok (.iload_n 2, 1) := by decide +kernel
theorem dX12_row_24 : decode cX12_row 24 = .ok (.i2l, 1) := by decide +kernel
theorem dX12_row_25 : decode cX12_row 25 = .ok (.lconst 0, 1) := by decide +kernel
theorem dX12_row_26 : decode cX12_row 26 = .ok (.ldc2_w 118, 3) := by decide +kernel
theorem dX12_row_29 : decode cX12_row 29 = .ok (.invokestatic 112, 3) := by decide +kernel
theorem dX12_row_32 : decode cX12_row 32 = .ok (.ifCond .ne 5, 3) := by decide +kernel
theorem dX12_row_35 : decode cX12_row 35 = .ok (.iconst (-1), 1) := by decide +kernel
theorem dX12_row_36 : decode cX12_row 36 = .ok (.ireturn, 1) := by decide +kernel
theorem dX12_row_37 : decode cX12_row 37 = .ok (.aload_n 0, 1) := by decide +kernel
theorem dX12_row_38 : decode cX12_row 38 = .ok (.getfield 7, 3) := by decide +kernel
theorem dX12_row_41 : decode cX12_row 41 = .ok (.iconst 1, 1) := by decide +kernel
theorem dX12_row_42 : decode cX12_row 42 = .ok (.iaload, 1) := by decide +kernel
theorem dX12_row_43 : decode cX12_row 43 = .ok (.istore_n 3, 1) := by decide +kernel
theorem dX12_row_44 : decode cX12_row 44 = .ok (.aload_n 0, 1) := by decide +kernel
theorem dX12_row_45 : decode cX12_row 45 = .ok (.getfield 7, 3) := by decide +kernel
theorem dX12_row_48 : decode cX12_row 48 = .ok (.bipush 9, 2) := by decide +kernel
theorem dX12_row_50 : decode cX12_row 50 = .ok (.iconst 3, 1) := by decide +kernel
theorem dX12_row_51 : decode cX12_row 51 = .ok (.iload_n 3, 1) := by decide +kernel
theorem dX12_row_52 : decode cX12_row 52 = .ok (.imul, 1) := by decide +kernel
theorem dX12_row_53 : decode cX12_row 53 = .ok (.iadd, 1) := by decide +kernel
theorem dX12_row_54 : decode cX12_row 54 = .ok (.iload_n 1, 1) := by decide +kernel
theorem dX12_row_55 : decode cX12_row 55 = .ok (.iastore, 1) := by decide +kernel
theorem dX12_row_56 : decode cX12_row 56 = .ok (.aload_n 0, 1) := by decide +kernel
theorem dX12_row_57 : decode cX12_row 57 = .ok (.getfield 7, 3) := by decide +kernel
theorem dX12_row_60 : decode cX12_row 60 = .ok (.bipush 9, 2) := by decide +kernel
theorem dX12_row_62 : decode cX12_row 62 = .ok (.iconst 3, 1) := by decide +kernel
theorem dX12_row_63 : decode cX12_row 63 = .ok (.iload_n 3, 1) := by decide +kernel
theorem dX12_row_64 : decode cX12_row 64 = .ok (.imul, 1) := by decide +kernel
theorem dX12_row_65 : decode cX12_row 65 = .ok (.iadd, 1) := by decide +kernel
theorem dX12_row_66 : decode cX12_row 66 = .ok (.iconst 1, 1) := by decide +kernel
theorem dX12_row_67 : decode cX12_row 67 = .ok (.iadd, 1) := by decide +kernel
theorem dX12_row_68 : decode cX12_row 68 = .ok (.iload_n 2, 1) := by decide +kernel
theorem dX12_row_69 : decode cX12_row 69 = .ok (.iastore, 1) := by decide +kernel
theorem dX12_row_70 : decode cX12_row 70 = .ok (.aload_n 0, 1) := by decide +kernel
theorem dX12_row_71 : decode cX12_row 71 = .ok (.getfield 7, 3) := by decide +kernel
theorem dX12_row_74 : decode cX12_row 74 = .ok (.bipush 9, 2) := by decide +kernel
theorem dX12_row_76 : decode cX12_row 76 = .ok (.iconst 3, 1) := by decide +kernel
theorem dX12_row_77 : decode cX12_row 77 = .ok (.iload_n 3, 1) := by decide +kernel
theorem dX12_row_78 : decode cX12_row 78 = .ok (.imul, 1) := by decide +kernel
theorem dX12_row_79 : decode cX12_row 79 = .ok (.iadd, 1) := by decide +kernel
theorem dX12_row_80 : decode cX12_row 80 = .ok (.iconst 2, 1) := by decide +kernel
theorem dX12_row_81 : decode cX12_row 81 = .ok (.iadd, 1) := by decide +kernel
theorem dX12_row_82 : decode cX12_row 82 = .ok (.aload_n 0, 1) := by decide +kernel
theorem dX12_row_83 : decode cX12_row 83 = .ok (.getfield 7, 3) := by decide +kernel
theorem dX12_row_86 : decode cX12_row 86 = .ok (.iconst 0, 1) := by decide +kernel
theorem dX12_row_87 : decode cX12_row 87 = .ok (.iaload, 1) := by decide +kernel
theorem dX12_row_88 : decode cX12_row 88 = .ok (.iastore, 1) := by decide +kernel
theorem dX12_row_89 : decode cX12_row 89 = .ok (.iconst 0, 1) := by decide +kernel
theorem dX12_row_90 : decode cX12_row 90 = .ok (.istore 4, 2) := by decide +kernel
theorem dX12_row_92 : decode cX12_row 92 = .ok (.iload 4, 2) := by decide +kernel
theorem dX12_row_94 : decode cX12_row 94 = .ok (.sipush 300, 3) := by decide +kernel
theorem dX12_row_97 : decode cX12_row 97 = .ok (.if_icmp .ge 28, 3) := by decide +kernel
theorem dX12_row_100 : decode cX12_row 100 = .ok (.aload_n 0, 1) := by decide +kernel
theorem dX12_row_101 : decode cX12_row 101 = .ok (.getfield 7, 3) := by decide +kernel
theorem dX12_row_104 : decode cX12_row 104 = .ok (.sipush 441, 3) := by decide +kernel
theorem dX12_row_107 : decode cX12_row 107 = .ok (.sipush 300, 3) := by decide +kernel
theorem dX12_row_110 : decode cX12_row 110 = .ok (.iload_n 3, 1) := by decide +kernel
theorem dX12_row_111 : decode cX12_row 111 = .ok (.imul, 1) := by decide +kernel
theorem dX12_row_112 : decode cX12_row 112 = .ok (.iadd, 1) := by decide +kernel
theorem dX12_row_113 : decode cX12_row 113 = .ok (.iload 4, 2) := by decide +kernel
theorem dX12_row_115 : decode cX12_row 115 = .ok (.iadd, 1) := by decide +kernel
theorem dX12_row_116 : decode cX12_row 116 = .ok (.ldc 109, 2) := by decide +kernel
theorem dX12_row_118 : decode cX12_row 118 = .ok (.iastore, 1) := by decide +kernel
theorem dX12_row_119 : decode cX12_row 119 = .ok (.iinc 4 1, 3) := by decide +kernel
theorem dX12_row_122 : decode cX12_row 122 = .ok (.goto (-30), 3) := by decide +kernel
theorem dX12_row_125 : decode cX12_row 125 = .ok (.aload_n 0, 1) := by decide +kernel
theorem dX12_row_126 : decode cX12_row 126 = .ok (.getfield 7, 3) := by decide +kernel
theorem dX12_row_129 : decode cX12_row 129 = .ok (.iconst 1, 1) := by decide +kernel
theorem dX12_row_130 : decode cX12_row 130 = .ok (.dup2, 1) := by decide +kernel
theorem dX12_row_131 : decode cX12_row 131 = .ok (.iaload, 1) := by decide +kernel
theorem dX12_row_132 : decode cX12_row 132 = .ok (.iconst 1, 1) := by decide +kernel
theorem dX12_row_133 : decode cX12_row 133 = .ok (.iadd, 1) := by decide +kernel
theorem dX12_row_134 : decode cX12_row 134 = .ok (.iastore, 1) := by decide +kernel
theorem dX12_row_135 : decode cX12_row 135 = .ok (.iload_n 3, 1) := by decide +kernel
theorem dX12_row_136 : decode cX12_row 136 = .ok (.ireturn, 1) := by decide +kernel
theorem dX12_said_0 : decode cX12_said 0 = .ok (.aload_n 0, 1) := by decide +kernel
theorem dX12_said_1 : decode cX12_said 1 = .ok (.iconst 1, 1) := by decide +kernel
theorem dX12_said_2 : decode cX12_said 2 = .ok (.iload_n 1, 1) := by decide +kernel
theorem dX12_said_3 : decode cX12_said 3 = .ok (.invokevirtual 382, 3) := by decide +kernel
theorem dX12_said_6 : decode cX12_said 6 = .ok (.ifCond .eq 24, 3) := by decide +kernel
theorem dX12_said_30 : decode cX12_said 30 = .ok (.iconst (-1), 1) := by decide +kernel
theorem dX12_said_31 : decode cX12_said 31 = .ok (.ireturn, 1) := by decide +kernel
theorem dX12_sayers_0 : decode cX12_sayers 0 = .ok (.iconst 0, 1) := by decide +kernel
theorem dX12_sayers_1 : decode cX12_sayers 1 = .ok (.istore_n 2, 1) := by decide +kernel
theorem dX12_sayers_2 : decode cX12_sayers 2 = .ok (.iconst 0, 1) := by decide +kernel
theorem dX12_sayers_3 : decode cX12_sayers 3 = .ok (.istore_n 3, 1) := by decide +kernel
theorem dX12_sayers_4 : decode cX12_sayers 4 = .ok (.iload_n 3, 1) := by decide +kernel
theorem dX12_sayers_5 : decode cX12_sayers 5 = .ok (.aload_n 0, 1) := by decide +kernel
theorem dX12_sayers_6 : decode cX12_sayers 6 = .ok (.getfield 7, 3) := by decide +kernel
theorem dX12_sayers_9 : decode cX12_sayers 9 = .ok (.sipush 7665, 3) := by decide +kernel
theorem dX12_sayers_12 : decode cX12_sayers 12 = .ok (.iaload, 1) := by decide +kernel
theorem dX12_sayers_13 : decode cX12_sayers 13 = .ok (.if_icmp .ge 27, 3) := by decide +kernel
theorem dX12_sayers_40 : decode cX12_sayers 40 = .ok (.iload_n 2, 1) := by decide +kernel
theorem dX12_sayers_41 : decode cX12_sayers 41 = .ok (.ireturn, 1) := by decide +kernel
theorem dX12_says_0 : decode cX12_says 0 = .ok (.iload_n 1, 1) := by decide +kernel
theorem dX12_says_1 : decode cX12_says 1 = .ok (.i2l, 1) := by decide +kernel
theorem dX12_says_2 : decode cX12_says 2 = .ok (.lconst 0, 1) := by decide +kernel
theorem dX12_says_3 : decode cX12_says 3 = .ok (.aload_n 0, 1) := by decide +kernel
theorem dX12_says_4 : decode cX12_says 4 = .ok (.getfield 7, 3) := by decide +kernel
theorem dX12_says_7 : decode cX12_says 7 = .ok (.sipush 7665, 3) := by decide +kernel
theorem dX12_says_10 : decode cX12_says 10 = .ok (.iaload, 1) := by decide +kernel
theorem dX12_says_11 : decode cX12_says 11 = .ok (.iconst 1, 1) := by decide +kernel
theorem dX12_says_12 : decode cX12_says 12 = .ok (.isub, 1) := by decide +kernel
theorem dX12_says_13 : decode cX12_says 13 = .ok (.i2l, 1) := by decide +kernel
theorem dX12_says_14 : decode cX12_says 14 = .ok (.invokestatic 112, 3) := by decide +kernel
theorem dX12_says_17 : decode cX12_says 17 = .ok (.ifCond .eq 10, 3) := by decide +kernel
theorem dX12_says_27 : decode cX12_says 27 = .ok (.iconst (-1), 1) := by decide +kernel
theorem dX12_says_28 : decode cX12_says 28 = .ok (.ireturn, 1) := by decide +kernel
theorem dX12_see_0 : decode cX12_see 0 = .ok (.aload_n 0, 1) := by decide +kernel
theorem dX12_see_1 : decode cX12_see 1 = .ok (.getfield 164, 3) := by decide +kernel
theorem dX12_see_4 : decode cX12_see 4 = .ok (.aload_n 0, 1) := by decide +kernel
theorem dX12_see_5 : decode cX12_see 5 = .ok (.getfield 153, 3) := by decide +kernel
theorem dX12_see_8 : decode cX12_see 8 = .ok (.if_icmp .ge 30, 3) := by decide +kernel
theorem dX12_see_38 : decode cX12_see 38 = .ok (.aload_n 0, 1) := by decide +kernel
theorem dX12_see_39 : decode cX12_see 39 = .ok (.getfield 164, 3) := by decide +kernel
theorem dX12_see_42 : decode cX12_see 42 = .ok (.aload_n 0, 1) := by decide +kernel
theorem dX12_see_43 : decode cX12_see 43 = .ok (.getfield 153, 3) := by decide +kernel
theorem dX12_see_46 : decode cX12_see 46 = .ok (.if_icmp .ge 19, 3) := by decide +kernel
theorem dX12_see_65 : decode cX12_see 65 = .ok (.iconst (-1), 1) := by decide +kernel
theorem dX12_see_66 : decode cX12_see 66 = .ok (.ireturn, 1) := by decide +kernel
theorem dX12_slip_0 : decode cX12_slip 0 = .ok (.aload_n 0, 1) := by decide +kernel
theorem dX12_slip_1 : decode cX12_slip 1 = .ok (.getfield 7, 3) := by decide +kernel
theorem dX12_slip_4 : decode cX12_slip 4 = .ok (.iconst 2, 1) := by decide +kernel
theorem dX12_slip_5 : decode cX12_slip 5 = .ok (.iaload, 1) := by decide +kernel
theorem dX12_slip_6 : decode cX12_slip 6 = .ok (.bipush 40, 2) := by decide +kernel
theorem dX12_slip_8 : decode cX12_slip 8 = .ok (.if_icmp .eq 49, 3) := by decide +kernel
theorem dX12_slip_11 : decode cX12_slip 11 = .ok (.iload_n 1, 1) := by decide +kernel
theorem dX12_slip_12 : decode cX12_slip 12 = .ok (.i2l, 1) := by decide +kernel
theorem dX12_slip_13 : decode cX12_slip 13 = .ok (.lconst 0, 1) := by decide +kernel
theorem dX12_slip_14 : decode cX12_slip 14 = .ok (.ldc2_w 116, 3) := by decide +kernel
theorem dX12_slip_17 : decode cX12_slip 17 = .ok (.invokestatic 112, 3) := by decide +kernel
theorem dX12_slip_20 : decode cX12_slip 20 = .ok (.ifCond .eq 37, 3) := by decide +kernel
theorem dX12_slip_23 : decode cX12_slip 23 = .ok (.iload_n 2, 1) := by decide +kernel
theorem dX12_slip_24 : decode cX12_slip 24 = .ok (.invokestatic 124, 3) := by decide +kernel
theorem dX12_slip_27 : decode cX12_slip 27 = .ok (.ifCond .eq 30, 3) := by decide +kernel
theorem dX12_slip_30 : decode cX12_slip 30 = .ok (.iload_n 3, 1) := by decide +kernel
theorem dX12_slip_31 : decode cX12_slip 31 = .ok (.invokestatic 124, 3) := by decide +kernel
theorem dX12_slip_34 : decode cX12_slip 34 = .ok (.ifCond .eq 23, 3) := by decide +kernel
theorem dX12_slip_37 : decode cX12_slip 37 = .ok (.iload_n 3, 1) := by decide +kernel
theorem dX12_slip_38 : decode cX12_slip 38 = .ok (.iload_n 2, 1) := by decide +kernel
theorem dX12_slip_39 : decode cX12_slip 39 = .ok (.if_icmp .lt 18, 3) := by decide +kernel
theorem dX12_slip_42 : decode cX12_slip 42 = .ok (.iload 4, 2) := by decide +kernel
theorem dX12_slip_44 : decode cX12_slip 44 = .ok (.i2l, 1) := by decide +kernel
theorem dX12_slip_45 : decode cX12_slip 45 = .ok (.ldc2_w 139, 3) := by decide +kernel
theorem dX12_slip_48 : decode cX12_slip 48 = .ok (.ldc2_w 141, 3) := by decide +kernel
theorem dX12_slip_51 : decode cX12_slip 51 = .ok (.invokestatic 112, 3) := by decide +kernel
theorem dX12_slip_54 : decode cX12_slip 54 = .ok (.ifCond .ne 5, 3) := by decide +kernel
theorem dX12_slip_57 : decode cX12_slip 57 = .ok (.iconst (-1), 1) := by decide +kernel
theorem dX12_slip_58 : decode cX12_slip 58 = .ok (.ireturn, 1) := by decide +kernel
theorem dX12_slip_59 : decode cX12_slip 59 = .ok (.bipush 81, 2) := by decide +kernel
theorem dX12_slip_61 : decode cX12_slip 61 = .ok (.iconst 4, 1) := by decide +kernel
theorem dX12_slip_62 : decode cX12_slip 62 = .ok (.aload_n 0, 1) := by decide +kernel
theorem dX12_slip_63 : decode cX12_slip 63 = .ok (.getfield 7, 3) := by decide +kernel
theorem dX12_slip_66 : decode cX12_slip 66 = .ok (.iconst 2, 1) := by decide +kernel
theorem dX12_slip_67 : decode cX12_slip 67 = .ok (.iaload, 1) := by decide +kernel
theorem dX12_slip_68 : decode cX12_slip 68 = .ok (.imul, 1) := by decide +kernel
theorem dX12_slip_69 : decode cX12_slip 69 = .ok (.iadd, 1) := by decide +kernel
theorem dX12_slip_70 : decode cX12_slip 70 = .ok (.istore 5, 2) := by decide +kernel
theorem dX12_slip_72 : decode cX12_slip 72 = .ok (.aload_n 0, 1) := by decide +kernel
theorem dX12_slip_73 : decode cX12_slip 73 = .ok (.getfield 7, 3) := by decide +kernel
theorem dX12_slip_76 : decode cX12_slip 76 = .ok (.iload 5, 2) := by decide +kernel
theorem dX12_slip_78 : decode cX12_slip 78 = .ok (.iload_n 1, 1) := by decide +kernel
theorem dX12_slip_79 : decode cX12_slip 79 = .ok (.iastore, 1) := by decide +kernel
theorem dX12_slip_80 : decode cX12_slip 80 = .ok (.aload_n 0, 1) := by decide +kernel
theorem dX12_slip_81 : decode cX12_slip 81 = .ok (.getfield 7, 3) := by decide +kernel
theorem dX12_slip_84 : decode cX12_slip 84 = .ok (.iload 5, 2) := by decide +kernel
theorem dX12_slip_86 : decode cX12_slip 86 = .ok (.iconst 1, 1) := by decide +kernel
theorem dX12_slip_87 : decode cX12_slip 87 = .ok (.iadd, 1) := by decide +kernel
theorem dX12_slip_88 : decode cX12_slip 88 = .ok (.iload_n 2, 1) := by decide +kernel
theorem dX12_slip_89 : decode cX12_slip 89 = .ok (.iastore, 1) := by decide +kernel
theorem dX12_slip_90 : decode cX12_slip 90 = .ok (.aload_n 0, 1) := by decide +kernel
theorem dX12_slip_91 : decode cX12_slip 91 = .ok (.getfield 7, 3) := by decide +kernel
theorem dX12_slip_94 : decode cX12_slip 94 = .ok (.iload 5, 2) := by decide +kernel
theorem dX12_slip_96 : decode cX12_slip 96 = .ok (.iconst 2, 1) := by decide +kernel
theorem dX12_slip_97 : decode cX12_slip 97 = .ok (.iadd, 1) := by decide +kernel
theorem dX12_slip_98 : decode cX12_slip 98 = .ok (.iload_n 3, 1) := by decide +kernel
theorem dX12_slip_99 : decode cX12_slip 99 = .ok (.iastore, 1) := by decide +kernel
theorem dX12_slip_100 : decode cX12_slip 100 = .ok (.aload_n 0, 1) := by decide +kernel
theorem dX12_slip_101 : decode cX12_slip 101 = .ok (.getfield 7, 3) := by decide +kernel
theorem dX12_slip_104 : decode cX12_slip 104 = .ok (.iload 5, 2) := by decide +kernel
theorem dX12_slip_106 : decode cX12_slip 106 = .ok (.iconst 3, 1) := by decide +kernel
theorem dX12_slip_107 : decode cX12_slip 107 = .ok (.iadd, 1) := by decide +kernel
theorem dX12_slip_108 : decode cX12_slip 108 = .ok (.iload 4, 2) := by decide +kernel
theorem dX12_slip_110 : decode cX12_slip 110 = .ok (.iastore, 1) := by decide +kernel
theorem dX12_slip_111 : decode cX12_slip 111 = .ok (.aload_n 0, 1) := by decide +kernel
theorem dX12_slip_112 : decode cX12_slip 112 = .ok (.getfield 7, 3) := by decide +kernel
theorem dX12_slip_115 : decode cX12_slip 115 = .ok (.iconst 2, 1) := by decide +kernel
theorem dX12_slip_116 : decode cX12_slip 116 = .ok (.dup2, 1) := by decide +kernel
theorem dX12_slip_117 : decode cX12_slip 117 = .ok (.iaload, 1) := by decide +kernel
theorem dX12_slip_118 : decode cX12_slip 118 = .ok (.iconst 1, 1) := by decide +kernel
theorem dX12_slip_119 : decode cX12_slip 119 = .ok (.iadd, 1) := by decide +kernel
theorem dX12_slip_120 : decode cX12_slip 120 = .ok (.iastore, 1) := by decide +kernel
theorem dX12_slip_121 : decode cX12_slip 121 = .ok (.aload_n 0, 1) := by decide +kernel
theorem dX12_slip_122 : decode cX12_slip 122 = .ok (.getfield 7, 3) := by decide +kernel
theorem dX12_slip_125 : decode cX12_slip 125 = .ok (.iconst 2, 1) := by decide +kernel
theorem dX12_slip_126 : decode cX12_slip 126 = .ok (.iaload, 1) := by decide +kernel
theorem dX12_slip_127 : decode cX12_slip 127 = .ok (.iconst 1, 1) := by decide +kernel
theorem dX12_slip_128 : decode cX12_slip 128 = .ok (.isub, 1) := by decide +kernel
theorem dX12_slip_129 : decode cX12_slip 129 = .ok (.ireturn, 1) := by decide +kernel
theorem dX12_smooth_0 : decode cX12_smooth 0 = .ok (.aload_n 0, 1) := by decide +kernel
theorem dX12_smooth_1 : decode cX12_smooth 1 = .ok (.iload_n 1, 1) := by decide +kernel
theorem dX12_smooth_2 : decode cX12_smooth 2 = .ok (.iload_n 2, 1) := by decide +kernel
theorem dX12_smooth_3 : decode cX12_smooth 3 = .ok (.invokevirtual 447, 3) := by decide +kernel
theorem dX12_smooth_6 : decode cX12_smooth 6 = .ok (.ifCond .ne 6, 3) := by decide +kernel
theorem dX12_smooth_9 : decode cX12_smooth 9 = .ok (.ldc 131, 2) := by decide +kernel
theorem dX12_smooth_11 : decode cX12_smooth 11 = .ok (.ireturn, 1) := by decide +kernel
theorem dX12_stuff_0 : decode cX12_stuff 0 = .ok (.aload_n 0, 1) := by decide +kernel
theorem dX12_stuff_1 : decode cX12_stuff 1 = .ok (.iload_n 1, 1) := by decide +kernel
theorem dX12_stuff_2 : decode cX12_stuff 2 = .ok (.iload_n 2, 1) := by decide +kernel
theorem dX12_stuff_3 : decode cX12_stuff 3 = .ok (.invokevirtual 447, 3) := by decide +kernel
theorem dX12_stuff_6 : decode cX12_stuff 6 = .ok (.ifCond .eq 28, 3) := by decide +kernel
theorem dX12_stuff_34 : decode cX12_stuff 34 = .ok (.ldc2_w 483, 3) := by decide +kernel
theorem dX12_stuff_37 : decode cX12_stuff 37 = .ok (.lreturn, 1) := by decide +kernel
theorem dX12_taken_0 : decode cX12_taken 0 = .ok (.aload_n 0, 1) := by decide +kernel
theorem dX12_taken_1 : decode cX12_taken 1 = .ok (.iload_n 1, 1) := by decide +kernel
theorem dX12_taken_2 : decode cX12_taken 2 = .ok (.iload_n 2, 1) := by decide +kernel
theorem dX12_taken_3 : decode cX12_taken 3 = .ok (.invokevirtual 447, 3) := by decide +kernel
theorem dX12_taken_6 : decode cX12_taken 6 = .ok (.ifCond .eq 28, 3) := by decide +kernel
theorem dX12_taken_34 : decode cX12_taken 34 = .ok (.ldc 131, 2) := by decide +kernel
theorem dX12_taken_36 : decode cX12_taken 36 = .ok (.ireturn, 1) := by decide +kernel
theorem dX12_text_0 : decode cX12_text 0 = .ok (.iload_n 1, 1) := by decide +kernel
theorem dX12_text_1 : decode cX12_text 1 = .ok (.i2l, 1) := by decide +kernel
theorem dX12_text_2 : decode cX12_text 2 = .ok (.lconst 0, 1) := by decide +kernel
theorem dX12_text_3 : decode cX12_text 3 = .ok (.ldc2_w 322, 3) := by decide +kernel
theorem dX12_text_6 : decode cX12_text 6 = .ok (.invokestatic 112, 3) := by decide +kernel
theorem dX12_text_9 : decode cX12_text 9 = .ok (.ifCond .eq 16, 3) := by decide +kernel
theorem dX12_text_12 : decode cX12_text 12 = .ok (.aload_n 0, 1) := by decide +kernel
theorem dX12_text_13 : decode cX12_text 13 = .ok (.getfield 17, 3) := by decide +kernel
theorem dX12_text_16 : decode cX12_text 16 = .ok (.iload_n 1, 1) := by decide +kernel
theorem dX12_text_17 : decode cX12_text 17 = .ok (.iaload, 1) := by decide +kernel
theorem dX12_text_18 : decode cX12_text 18 = .ok (.iload_n 1, 1) := by decide +kernel
theorem dX12_text_19 : decode cX12_text 19 = .ok (.invokestatic 324, 3) := by decide +kernel
theorem dX12_text_22 : decode cX12_text 22 = .ok (.if_icmp .ne 5, 3) := by decide +kernel
theorem dX12_text_25 : decode cX12_text 25 = .ok (.iconst (-1), 1) := by decide +kernel
theorem dX12_text_26 : decode cX12_text 26 = .ok (.ireturn, 1) := by decide +kernel
theorem dX12_text_27 : decode cX12_text 27 = .ok (.aload_n 0, 1) := by decide +kernel
theorem dX12_text_28 : decode cX12_text 28 = .ok (.iload_n 1, 1) := by decide +kernel
theorem dX12_text_29 : decode cX12_text 29 = .ok (.invokestatic 327, 3) := by decide +kernel
theorem dX12_text_32 : decode cX12_text 32 = .ok (.aload_n 0, 1) := by decide +kernel
theorem dX12_text_33 : decode cX12_text 33 = .ok (.getfield 17, 3) := by decide +kernel
theorem dX12_text_36 : decode cX12_text 36 = .ok (.iload_n 1, 1) := by decide +kernel
theorem dX12_text_37 : decode cX12_text 37 = .ok (.iaload, 1) := by decide +kernel
theorem dX12_text_38 : decode cX12_text 38 = .ok (.iadd, 1) := by decide +kernel
theorem dX12_text_39 : decode cX12_text 39 = .ok (.putfield 191, 3) := by decide +kernel
theorem dX12_text_42 : decode cX12_text 42 = .ok (.aload_n 0, 1) := by decide +kernel
theorem dX12_text_43 : decode cX12_text 43 = .ok (.getfield 23, 3) := by decide +kernel
theorem dX12_text_46 : decode cX12_text 46 = .ok (.aload_n 0, 1) := by decide +kernel
theorem dX12_text_47 : decode cX12_text 47 = .ok (.getfield 191, 3) := by decide +kernel
theorem dX12_text_50 : decode cX12_text 50 = .ok (.iconst 0, 1) := by decide +kernel
theorem dX12_text_51 : decode cX12_text 51 = .ok (.iastore, 1) := by decide +kernel
theorem dX12_text_52 : decode cX12_text 52 = .ok (.aload_n 0, 1) := by decide +kernel
theorem dX12_text_53 : decode cX12_text 53 = .ok (.getfield 29, 3) := by decide +kernel
theorem dX12_text_56 : decode cX12_text 56 = .ok (.aload_n 0, 1) := by decide +kernel
theorem dX12_text_57 : decode cX12_text 57 = .ok (.getfield 191, 3) := by decide +kernel
theorem dX12_text_60 : decode cX12_text 60 = .ok (.iconst 0, 1) := by decide +kernel
theorem dX12_text_61 : decode cX12_text 61 = .ok (.iastore, 1) := by decide +kernel
theorem dX12_text_62 : decode cX12_text 62 = .ok (.iload_n 1, 1) := by decide +kernel
theorem dX12_text_63 : decode cX12_text 63 = .ok (.ifCond .ne 13, 3) := by decide +kernel
theorem dX12_text_66 : decode cX12_text 66 = .ok (.aload_n 0, 1) := by decide +kernel
theorem dX12_text_67 : decode cX12_text 67 = .ok (.getfield 35, 3) := by decide +kernel
theorem dX12_text_70 : decode cX12_text 70 = .ok (.aload_n 0, 1) := by decide +kernel
theorem dX12_text_71 : decode cX12_text 71 = .ok (.getfield 191, 3) := by decide +kernel
theorem dX12_text_74 : decode cX12_text 74 = .ok (.iconst 0, 1) := by decide +kernel
theorem dX12_text_75 : decode cX12_text 75 = .ok (.iastore, 1) := by decide +kernel
theorem dX12_text_76 : decode cX12_text 76 = .ok (.aload_n 0, 1) := by decide +kernel
theorem dX12_text_77 : decode cX12_text 77 = .ok (.getfield 38, 3) := by decide +kernel
theorem dX12_text_80 : decode cX12_text 80 = .ok (.aload_n 0, 1) := by decide +kernel
theorem dX12_text_81 : decode cX12_text 81 = .ok (.getfield 191, 3) := by decide +kernel
theorem dX12_text_84 : decode cX12_text 84 = .ok (.iconst (-1), 1) := by decide +kernel
theorem dX12_text_85 : decode cX12_text 85 = .ok (.iastore, 1) := by decide +kernel
theorem dX12_text_86 : decode cX12_text 86 = .ok (.aload_n 0, 1) := by decide +kernel
theorem dX12_text_87 : decode cX12_text 87 = .ok (.getfield 44, 3) := by decide +kernel
theorem dX12_text_90 : decode cX12_text 90 = .ok (.aload_n 0, 1) := by decide +kernel
theorem dX12_text_91 : decode cX12_text 91 = .ok (.getfield 191, 3) := by decide +kernel
theorem dX12_text_94 : decode cX12_text 94 = .ok (.iconst (-1), 1) := by decide +kernel
theorem dX12_text_95 : decode cX12_text 95 = .ok (.iastore, 1) := by decide +kernel
theorem dX12_text_96 : decode cX12_text 96 = .ok (.aload_n 0, 1) := by decide +kernel
theorem dX12_text_97 : decode cX12_text 97 = .ok (.getfield 47, 3) := by decide +kernel
theorem dX12_text_100 : decode cX12_text 100 = .ok (.aload_n 0, 1) := by decide +kernel
theorem dX12_text_101 : decode cX12_text 101 = .ok (.getfield 191, 3) := by decide +kernel
theorem dX12_text_104 : decode cX12_text 104 = .ok (.iconst (-1), 1) := by decide +kernel
theorem dX12_text_105 : decode cX12_text 105 = .ok (.iastore, 1) := by decide +kernel
theorem dX12_text_106 : decode cX12_text 106 = .ok (.aload_n 0, 1) := by decide +kernel
theorem dX12_text_107 : decode cX12_text 107 = .ok (.getfield 50, 3) := by decide +kernel
theorem dX12_text_110 : decode cX12_text 110 = .ok (.aload_n 0, 1) := by decide +kernel
theorem dX12_text_111 : decode cX12_text 111 = .ok (.getfield 191, 3) := by decide +kernel
theorem dX12_text_114 : decode cX12_text 114 = .ok (.iconst (-1), 1) := by decide +kernel
theorem dX12_text_115 : decode cX12_text 115 = .ok (.iastore, 1) := by decide +kernel
theorem dX12_text_116 : decode cX12_text 116 = .ok (.aload_n 0, 1) := by decide +kernel
theorem dX12_text_117 : decode cX12_text 117 = .ok (.getfield 56, 3) := by decide +kernel
theorem dX12_text_120 : decode cX12_text 120 = .ok (.aload_n 0, 1) := by decide +kernel
theorem dX12_text_121 : decode cX12_text 121 = .ok (.getfield 191, 3) := by decide +kernel
theorem dX12_text_124 : decode cX12_text 124 = .ok (.iconst (-1), 1) := by decide +kernel
theorem dX12_text_125 : decode cX12_text 125 = .ok (.iastore, 1) := by decide +kernel
theorem dX12_text_126 : decode cX12_text 126 = .ok (.aload_n 0, 1) := by decide +kernel
theorem dX12_text_127 : decode cX12_text 127 = .ok (.iconst 0, 1) := by decide +kernel
theorem dX12_text_128 : decode cX12_text 128 = .ok (.putfield 306, 3) := by decide +kernel
theorem dX12_text_131 : decode cX12_text 131 = .ok (.aload_n 0, 1) := by decide +kernel
theorem dX12_text_132 : decode cX12_text 132 = .ok (.iconst 0, 1) := by decide +kernel
theorem dX12_text_133 : decode cX12_text 133 = .ok (.putfield 164, 3) := by decide +kernel
theorem dX12_text_136 : decode cX12_text 136 = .ok (.aload_n 0, 1) := by decide +kernel
theorem dX12_text_137 : decode cX12_text 137 = .ok (.iconst 0, 1) := by decide +kernel
theorem dX12_text_138 : decode cX12_text 138 = .ok (.putfield 161, 3) := by decide +kernel
theorem dX12_text_141 : decode cX12_text 141 = .ok (.aload_n 0, 1) := by decide +kernel
theorem dX12_text_142 : decode cX12_text 142 = .ok (.iconst 0, 1) := by decide +kernel
theorem dX12_text_143 : decode cX12_text 143 = .ok (.putfield 216, 3) := by decide +kernel
theorem dX12_text_146 : decode cX12_text 146 = .ok (.aload_n 0, 1) := by decide +kernel
theorem dX12_text_147 : decode cX12_text 147 = .ok (.invokevirtual 330, 3) := by decide +kernel
theorem dX12_text_150 : decode cX12_text 150 = .ok (.istore_n 2, 1) := by decide +kernel
theorem dX12_text_151 : decode cX12_text 151 = .ok (.iload_n 2, 1) := by decide +kernel
theorem dX12_text_152 : decode cX12_text 152 = .ok (.ifCond .eq 30, 3) := by decide +kernel
theorem dX12_text_182 : decode cX12_text 182 = .ok (.iload_n 2, 1) := by decide +kernel
theorem dX12_text_183 : decode cX12_text 183 = .ok (.ifCond .eq 21, 3) := by decide +kernel
theorem dX12_text_204 : decode cX12_text 204 = .ok (.aload_n 0, 1) := by decide +kernel
theorem dX12_text_205 : decode cX12_text 205 = .ok (.iconst 0, 1) := by decide +kernel
theorem dX12_text_206 : decode cX12_text 206 = .ok (.putfield 153, 3) := by decide +kernel
theorem dX12_text_209 : decode cX12_text 209 = .ok (.aload_n 0, 1) := by decide +kernel
theorem dX12_text_210 : decode cX12_text 210 = .ok (.getfield 161, 3) := by decide +kernel
theorem dX12_text_213 : decode cX12_text 213 = .ok (.ifCond .le 11, 3) := by decide +kernel
theorem dX12_text_216 : decode cX12_text 216 = .ok (.bipush (-2), 2) := by decide +kernel
theorem dX12_text_218 : decode cX12_text 218 = .ok (.aload_n 0, 1) := by decide +kernel
theorem dX12_text_219 : decode cX12_text 219 = .ok (.getfield 161, 3) := by decide +kernel
theorem dX12_text_222 : decode cX12_text 222 = .ok (.isub, 1) := by decide +kernel
theorem dX12_text_223 : decode cX12_text 223 = .ok (.ireturn, 1) := by decide +kernel
theorem dX12_together_0 : decode cX12_together 0 = .ok (.aload_n 0, 1) := by decide +kernel
theorem dX12_together_1 : decode cX12_together 1 = .ok (.iconst 1, 1) := by decide +kernel
theorem dX12_together_2 : decode cX12_together 2 = .ok (.iload_n 1, 1) := by decide +kernel
theorem dX12_together_3 : decode cX12_together 3 = .ok (.invokevirtual 382, 3) := by decide +kernel
theorem dX12_together_6 : decode cX12_together 6 = .ok (.ifCond .eq 35, 3) := by decide +kernel
theorem dX12_together_41 : decode cX12_together 41 = .ok (.ldc_w 499, 3) := by decide +kernel
theorem dX12_together_44 : decode cX12_together 44 = .ok (.ireturn, 1) := by decide +kernel
theorem dX12_told_0 : decode cX12_told 0 = .ok (.iload_n 1, 1) := by decide +kernel
theorem dX12_told_1 : decode cX12_told 1 = .ok (.i2l, 1) := by decide +kernel
theorem dX12_told_2 : decode cX12_told 2 = .ok (.lconst 0, 1) := by decide +kernel
theorem dX12_told_3 : decode cX12_told 3 = .ok (.ldc2_w 116, 3) := by decide +kernel
theorem dX12_told_6 : decode cX12_told 6 = .ok (.invokestatic 112, 3) := by decide +kernel
theorem dX12_told_9 : decode cX12_told 9 = .ok (.ifCond .eq 15, 3) := by decide +kernel
theorem dX12_told_12 : decode cX12_told 12 = .ok (.iload_n 2, 1) := by decide +kernel
theorem dX12_told_13 : decode cX12_told 13 = .ok (.i2l, 1) := by decide +kernel
theorem dX12_told_14 : decode cX12_told 14 = .ok (.lconst 0, 1) := by decide +kernel
theorem dX12_told_15 : decode cX12_told 15 = .ok (.ldc2_w 141, 3) := by decide +kernel
theorem dX12_told_18 : decode cX12_told 18 = .ok (.invokestatic 112, 3) := by decide +kernel
theorem dX12_told_21 : decode cX12_told 21 = .ok (.ifCond .ne 5, 3) := by decide +kernel
theorem dX12_told_24 : decode cX12_told 24 = .ok (.iconst (-1), 1) := by decide +kernel
theorem dX12_told_25 : decode cX12_told 25 = .ok (.ireturn, 1) := by decide +kernel
theorem dX12_told_26 : decode cX12_told 26 = .ok (.aload_n 0, 1) := by decide +kernel
theorem dX12_told_27 : decode cX12_told 27 = .ok (.getfield 7, 3) := by decide +kernel
theorem dX12_told_30 : decode cX12_told 30 = .ok (.iconst 5, 1) := by decide +kernel
theorem dX12_told_31 : decode cX12_told 31 = .ok (.iload_n 1, 1) := by decide +kernel
theorem dX12_told_32 : decode cX12_told 32 = .ok (.iadd, 1) := by decide +kernel
theorem dX12_told_33 : decode cX12_told 33 = .ok (.iaload, 1) := by decide +kernel
theorem dX12_told_34 : decode cX12_told 34 = .ok (.istore_n 3, 1) := by decide +kernel
theorem dX12_told_35 : decode cX12_told 35 = .ok (.aload_n 0, 1) := by decide +kernel
theorem dX12_told_36 : decode cX12_told 36 = .ok (.getfield 7, 3) := by decide +kernel
theorem dX12_told_39 : decode cX12_told 39 = .ok (.iconst 5, 1) := by decide +kernel
theorem dX12_told_40 : decode cX12_told 40 = .ok (.iload_n 1, 1) := by decide +kernel
theorem dX12_told_41 : decode cX12_told 41 = .ok (.iadd, 1) := by decide +kernel
theorem dX12_told_42 : decode cX12_told 42 = .ok (.iload_n 2, 1) := by decide +kernel
theorem dX12_told_43 : decode cX12_told 43 = .ok (.iastore, 1) := by decide +kernel
theorem dX12_told_44 : decode cX12_told 44 = .ok (.iload_n 3, 1) := by decide +kernel
theorem dX12_told_45 : decode cX12_told 45 = .ok (.ireturn, 1) := by decide +kernel
theorem dX12_weeks_0 : decode cX12_weeks 0 = .ok (.aload_n 0, 1) := by decide +kernel
theorem dX12_weeks_1 : decode cX12_weeks 1 = .ok (.iconst 1, 1) := by decide +kernel
theorem dX12_weeks_2 : decode cX12_weeks 2 = .ok (.iload_n 1, 1) := by decide +kernel
theorem dX12_weeks_3 : decode cX12_weeks 3 = .ok (.invokevirtual 382, 3) := by decide +kernel
theorem dX12_weeks_6 : decode cX12_weeks 6 = .ok (.ifCond .eq 69, 3) := by decide +kernel
theorem dX12_weeks_75 : decode cX12_weeks 75 = .ok (.iconst (-1), 1) := by decide +kernel
theorem dX12_weeks_76 : decode cX12_weeks 76 = .ok (.ireturn, 1) := by decide +kernel
theorem dX12_weightiest_0 : decode cX12_weightiest 0 = .ok (.aload_n 0, 1) := by decide +kernel
theorem dX12_weightiest_1 : decode cX12_weightiest 1 = .ok (.iload_n 1, 1) := by decide +kernel
theorem dX12_weightiest_2 : decode cX12_weightiest 2 = .ok (.iload_n 2, 1) := by decide +kernel
theorem dX12_weightiest_3 : decode cX12_weightiest 3 = .ok (.invokevirtual 447, 3) := by decide +kernel
theorem dX12_weightiest_6 : decode cX12_weightiest 6 = .ok (.ifCond .ne 5, 3) := by decide +kernel
theorem dX12_weightiest_9 : decode cX12_weightiest 9 = .ok (.iconst (-1), 1) := by decide +kernel
theorem dX12_weightiest_10 : decode cX12_weightiest 10 = .ok (.ireturn, 1) := by decide +kernel
theorem dX12_without_0 : decode cX12_without 0 = .ok (.aload_n 0, 1) := by decide +kernel
theorem dX12_without_1 : decode cX12_without 1 = .ok (.iload_n 1, 1) := by decide +kernel
theorem dX12_without_2 : decode cX12_without 2 = .ok (.iload_n 2, 1) := by decide +kernel
theorem dX12_without_3 : decode cX12_without 3 = .ok (.invokevirtual 447, 3) := by decide +kernel
theorem dX12_without_6 : decode cX12_without 6 = .ok (.ifCond .eq 32, 3) := by decide +kernel
theorem dX12_without_38 : decode cX12_without 38 = .ok (.ldc 131, 2) := by decide +kernel
theorem dX12_without_40 : decode cX12_without 40 = .ok (.ireturn, 1) := by decide +kernel
