theorem dJ6_bitCount_0f7a4_0 : decode cJ6_bitCount_0f7a4 0 = .ok (.iload_n 0, 1) := by decide +kernel
theorem dJ6_bitCount_0f7a4_1 : decode cJ6_bitCount_0f7a4 1 = .ok (.iload_n 0, 1) := by decide +kernel
theorem dJ6_bitCount_0f7a4_2 : decode cJ6_bitCount_0f7a4 2 = .ok (.iconst 1, 1) := by decide +kernel
theorem dJ6_bitCount_0f7a4_3 : decode cJ6_bitCount_0f7a4 3 = .ok (.iushr, 1) := by decide +kernel
theorem dJ6_bitCount_0f7a4_4 : decode cJ6_bitCount_0f7a4 4 = .ok (.ldc_w 265, 3) := by decide +kernel
theorem dJ6_bitCount_0f7a4_7 : decode cJ6_bitCount_0f7a4 7 = .ok (.iand, 1) := by decide +kernel
theorem dJ6_bitCount_0f7a4_8 : decode cJ6_bitCount_0f7a4 8 = .ok (.isub, 1) := by decide +kernel
theorem dJ6_bitCount_0f7a4_9 : decode cJ6_bitCount_0f7a4 9 = .ok (.istore_n 0, 1) := by decide +kernel
theorem dJ6_bitCount_0f7a4_10 : decode cJ6_bitCount_0f7a4 10 = .ok (.iload_n 0, 1) := by decide +kernel
theorem dJ6_bitCount_0f7a4_11 : decode cJ6_bitCount_0f7a4 11 = .ok (.ldc_w 266, 3) := by decide +kernel
theorem dJ6_bitCount_0f7a4_14 : decode cJ6_bitCount_0f7a4 14 = .ok (.iand, 1) := by decide +kernel
theorem dJ6_bitCount_0f7a4_15 : decode cJ6_bitCount_0f7a4 15 = .ok (.iload_n 0, 1) := by decide +kernel
theorem dJ6_bitCount_0f7a4_16 : decode cJ6_bitCount_0f7a4 16 = .ok (.iconst 2, 1) := by decide +kernel
theorem dJ6_bitCount_0f7a4_17 : decode cJ6_bitCount_0f7a4 17 = .ok (.iushr, 1) := by decide +kernel
theorem dJ6_bitCount_0f7a4_18 : decode cJ6_bitCount_0f7a4 18 = .ok (.ldc_w 266, 3) := by decide +kernel
theorem dJ6_bitCount_0f7a4_21 : decode cJ6_bitCount_0f7a4 21 = .ok (.iand, 1) := by decide +kernel
theorem dJ6_bitCount_0f7a4_22 : decode cJ6_bitCount_0f7a4 22 = .ok (.iadd, 1) := by decide +kernel
theorem dJ6_bitCount_0f7a4_23 : decode cJ6_bitCount_0f7a4 23 = .ok (.istore_n 0, 1) := by decide +kernel
theorem dJ6_bitCount_0f7a4_24 : decode cJ6_bitCount_0f7a4 24 = .ok (.iload_n 0, 1) := by decide +kernel
theorem dJ6_bitCount_0f7a4_25 : decode cJ6_bitCount_0f7a4 25 = .ok (.iload_n 0, 1) := by decide +kernel
theorem dJ6_bitCount_0f7a4_26 : decode cJ6_bitCount_0f7a4 26 = .ok (.iconst 4, 1) := by decide +kernel
theorem dJ6_bitCount_0f7a4_27 : decode cJ6_bitCount_0f7a4 27 = .ok (.iushr, 1) := by decide +kernel
theorem dJ6_bitCount_0f7a4_28 : decode cJ6_bitCount_0f7a4 28 = .ok (.iadd, 1) := by decide +kernel
theorem dJ6_bitCount_0f7a4_29 : decode cJ6_bitCount_0f7a4 29 = .ok (.ldc_w 267, 3) := by decide +kernel
theorem dJ6_bitCount_0f7a4_32 : decode cJ6_bitCount_0f7a4 32 = .ok (.iand, 1) := by decide +kernel
theorem dJ6_bitCount_0f7a4_33 : decode cJ6_bitCount_0f7a4 33 = .ok (.istore_n 0, 1) := by decide +kernel
theorem dJ6_bitCount_0f7a4_34 : decode cJ6_bitCount_0f7a4 34 = .ok (.iload_n 0, 1) := by decide +kernel
theorem dJ6_bitCount_0f7a4_35 : decode cJ6_bitCount_0f7a4 35 = .ok (.iload_n 0, 1) := by decide +kernel
theorem dJ6_bitCount_0f7a4_36 : decode cJ6_bitCount_0f7a4 36 = .ok (.bipush 8, 2) := by decide +kernel
theorem dJ6_bitCount_0f7a4_38 : decode cJ6_bitCount_0f7a4 38 = .ok (.iushr, 1) := by decide +kernel
theorem dJ6_bitCount_0f7a4_39 : decode cJ6_bitCount_0f7a4 39 = .ok (.iadd, 1) := by decide +kernel
theorem dJ6_bitCount_0f7a4_40 : decode cJ6_bitCount_0f7a4 40 = .ok (.istore_n 0, 1) := by decide +kernel
theorem dJ6_bitCount_0f7a4_41 : decode cJ6_bitCount_0f7a4 41 = .ok (.iload_n 0, 1) := by decide +kernel
theorem dJ6_bitCount_0f7a4_42 : decode cJ6_bitCount_0f7a4 42 = .ok (.iload_n 0, 1) := by decide +kernel
theorem dJ6_bitCount_0f7a4_43 : decode cJ6_bitCount_0f7a4 43 = .ok (.bipush 16, 2) := by decide +kernel
theorem dJ6_bitCount_0f7a4_45 : decode cJ6_bitCount_0f7a4 45 = .ok (.iushr, 1) := by decide +kernel
theorem dJ6_bitCount_0f7a4_46 : decode cJ6_bitCount_0f7a4 46 = .ok (.iadd, 1) := by decide +kernel
theorem dJ6_bitCount_0f7a4_47 : decode cJ6_bitCount_0f7a4 47 = .ok (.istore_n 0, 1) := by decide +kernel
theorem dJ6_bitCount_0f7a4_48 : decode cJ6_bitCount_0f7a4 48 = .ok (.iload_n 0, 1) := by decide +kernel
theorem dJ6_bitCount_0f7a4_49 : decode cJ6_bitCount_0f7a4 49 = .ok (.bipush 63, 2) := by decide +kernel
theorem dJ6_bitCount_0f7a4_51 : decode cJ6_bitCount_0f7a4 51 = .ok (.iand, 1) := by decide +kernel
theorem dJ6_bitCount_0f7a4_52 : decode cJ6_bitCount_0f7a4 52 = .ok (.ireturn, 1) := by decide +kernel
theorem dJ7_fill_53178_0 : decode cJ7_fill_53178 0 = .ok (.iconst 0, 1) := by decide +kernel
theorem dJ7_fill_53178_1 : decode cJ7_fill_53178 1 = .ok (.istore_n 2, 1) := by decide +kernel
theorem dJ7_fill_53178_2 : decode cJ7_fill_53178 2 = .ok (.aload_n 0, 1) := by decide +kernel
theorem dJ7_fill_53178_3 : decode cJ7_fill_53178 3 = .ok (.arraylength, 1) := by decide +kernel
theorem dJ7_fill_53178_4 : decode cJ7_fill_53178 4 = .ok (.istore_n 3, 1) := by decide +kernel
theorem dJ7_fill_53178_5 : decode cJ7_fill_53178 5 = .ok (.iload_n 2, 1) := by decide +kernel
theorem dJ7_fill_53178_6 : decode cJ7_fill_53178 6 = .ok (.iload_n 3, 1) := by decide +kernel
theorem dJ7_fill_53178_7 : decode cJ7_fill_53178 7 = .ok (.if_icmp .ge 13, 3) := by decide +kernel
theorem dJ7_fill_53178_10 : decode cJ7_fill_53178 10 = .ok (.aload_n 0, 1) := by decide +kernel
theorem dJ7_fill_53178_11 : decode cJ7_fill_53178 11 = .ok (.iload_n 2, 1) := by decide +kernel
theorem dJ7_fill_53178_12 : decode cJ7_fill_53178 12 = .ok (.iload_n 1, 1) := by decide +kernel
theorem dJ7_fill_53178_13 : decode cJ7_fill_53178 13 = .ok (.iastore, 1) := by decide +kernel
theorem dJ7_fill_53178_14 : decode cJ7_fill_53178 14 = .ok (.iinc 2 1, 3) := by decide +kernel
theorem dJ7_fill_53178_17 : decode cJ7_fill_53178 17 = .ok (.goto (-12), 3) := by decide +kernel
theorem dJ7_fill_53178_20 : decode cJ7_fill_53178 20 = .ok (.return_, 1) := by decide +kernel
theorem dJ7_fill_d0a16_0 : decode cJ7_fill_d0a16 0 = .ok (.iconst 0, 1) := by decide +kernel
theorem dJ7_fill_d0a16_1 : decode cJ7_fill_d0a16 1 = .ok (.istore_n 3, 1) := by decide +kernel
theorem dJ7_fill_d0a16_2 : decode cJ7_fill_d0a16 2 = .ok (.aload_n 0, 1) := by decide +kernel
theorem dJ7_fill_d0a16_3 : decode cJ7_fill_d0a16 3 = .ok (.arraylength, 1) := by decide +kernel
theorem dJ7_fill_d0a16_4 : decode cJ7_fill_d0a16 4 = .ok (.istore 4, 2) := by decide +kernel
theorem dJ7_fill_d0a16_6 : decode cJ7_fill_d0a16 6 = .ok (.iload_n 3, 1) := by decide +kernel
theorem dJ7_fill_d0a16_7 : decode cJ7_fill_d0a16 7 = .ok (.iload 4, 2) := by decide +kernel
theorem dJ7_fill_d0a16_9 : decode cJ7_fill_d0a16 9 = .ok (.if_icmp .ge 13, 3) := by decide +kernel
theorem dJ7_fill_d0a16_12 : decode cJ7_fill_d0a16 12 = .ok (.aload_n 0, 1) := by decide +kernel
theorem dJ7_fill_d0a16_13 : decode cJ7_fill_d0a16 13 = .ok (.iload_n 3, 1) := by decide +kernel
theorem dJ7_fill_d0a16_14 : decode cJ7_fill_d0a16 14 = .ok (.lload_n 1, 1) := by decide +kernel
theorem dJ7_fill_d0a16_15 : decode cJ7_fill_d0a16 15 = .ok (.lastore, 1) := by decide +kernel
theorem dJ7_fill_d0a16_16 : decode cJ7_fill_d0a16 16 = .ok (.iinc 3 1, 3) := by decide +kernel
theorem dJ7_fill_d0a16_19 : decode cJ7_fill_d0a16 19 = .ok (.goto (-13), 3) := by decide +kernel
theorem dJ7_fill_d0a16_22 : decode cJ7_fill_d0a16 22 = .ok (.return_, 1) := by decide +kernel
theorem dJ9_floorDiv_7cf53_0 : decode cJ9_floorDiv_7cf53 0 = .ok (.iload_n 0, 1) := by decide +kernel
theorem dJ9_floorDiv_7cf53_1 : decode cJ9_floorDiv_7cf53 1 = .ok (.iload_n 1, 1) := by decide +kernel
theorem dJ9_floorDiv_7cf53_2 : decode cJ9_floorDiv_7cf53 2 = .ok (.idiv, 1) := by decide +kernel
theorem dJ9_floorDiv_7cf53_3 : decode cJ9_floorDiv_7cf53 3 = .ok (.istore_n 2, 1) := by decide +kernel
theorem dJ9_floorDiv_7cf53_4 : decode cJ9_floorDiv_7cf53 4 = .ok (.iload_n 0, 1) := by decide +kernel
theorem dJ9_floorDiv_7cf53_5 : decode cJ9_floorDiv_7cf53 5 = .ok (.iload_n 1, 1) := by decide +kernel
theorem dJ9_floorDiv_7cf53_6 : decode cJ9_floorDiv_7cf53 6 = .ok (.ixor, 1) := by decide +kernel
theorem dJ9_floorDiv_7cf53_7 : decode cJ9_floorDiv_7cf53 7 = .ok (.ifCond .ge 14, 3) := by decide +kernel
theorem dJ9_floorDiv_7cf53_10 : decode cJ9_floorDiv_7cf53 10 = .ok (.iload_n 2, 1) := by decide +kernel
theorem dJ9_floorDiv_7cf53_11 : decode cJ9_floorDiv_7cf53 11 = .ok (.iload_n 1, 1) := by decide +kernel
theorem dJ9_floorDiv_7cf53_12 : decode cJ9_floorDiv_7cf53 12 = .ok (.imul, 1) := by decide +kernel
theorem dJ9_floorDiv_7cf53_13 : decode cJ9_floorDiv_7cf53 13 = .ok (.iload_n 0, 1) := by decide +kernel
theorem dJ9_floorDiv_7cf53_14 : decode cJ9_floorDiv_7cf53 14 = .ok (.if_icmp .eq 7, 3) := by decide +kernel
theorem dJ9_floorDiv_7cf53_17 : decode cJ9_floorDiv_7cf53 17 = .ok (.iload_n 2, 1) := by decide +kernel
theorem dJ9_floorDiv_7cf53_18 : decode cJ9_floorDiv_7cf53 18 = .ok (.iconst 1, 1) := by decide +kernel
theorem dJ9_floorDiv_7cf53_19 : decode cJ9_floorDiv_7cf53 19 = .ok (.isub, 1) := by decide +kernel
theorem dJ9_floorDiv_7cf53_20 : decode cJ9_floorDiv_7cf53 20 = .ok (.ireturn, 1) := by decide +kernel
theorem dJ9_floorDiv_7cf53_21 : decode cJ9_floorDiv_7cf53 21 = .ok (.iload_n 2, 1) := by decide +kernel
theorem dJ9_floorDiv_7cf53_22 : decode cJ9_floorDiv_7cf53 22 = .ok (.ireturn, 1) := by decide +kernel
theorem dJ9_floorDiv_f86c9_0 : decode cJ9_floorDiv_f86c9 0 = .ok (.lload_n 0, 1) := by decide +kernel
theorem dJ9_floorDiv_f86c9_1 : decode cJ9_floorDiv_f86c9 1 = .ok (.lload_n 2, 1) := by decide +kernel
theorem dJ9_floorDiv_f86c9_2 : decode cJ9_floorDiv_f86c9 2 = .ok (.ldiv, 1) := by decide +kernel
theorem dJ9_floorDiv_f86c9_3 : decode cJ9_floorDiv_f86c9 3 = .ok (.lstore 4, 2) := by decide +kernel
theorem dJ9_floorDiv_f86c9_5 : decode cJ9_floorDiv_f86c9 5 = .ok (.lload_n 0, 1) := by decide +kernel
theorem dJ9_floorDiv_f86c9_6 : decode cJ9_floorDiv_f86c9 6 = .ok (.lload_n 2, 1) := by decide +kernel
theorem dJ9_floorDiv_f86c9_7 : decode cJ9_floorDiv_f86c9 7 = .ok (.lxor, 1) := by decide +kernel
theorem dJ9_floorDiv_f86c9_8 : decode cJ9_floorDiv_f86c9 8 = .ok (.lconst 0, 1) := by decide +kernel
theorem dJ9_floorDiv_f86c9_9 : decode cJ9_floorDiv_f86c9 9 = .ok (.lcmp, 1) := by decide +kernel
theorem dJ9_floorDiv_f86c9_10 : decode cJ9_floorDiv_f86c9 10 = .ok (.ifCond .ge 17, 3) := by decide +kernel
theorem dJ9_floorDiv_f86c9_13 : decode cJ9_floorDiv_f86c9 13 = .ok (.lload 4, 2) := by decide +kernel
theorem dJ9_floorDiv_f86c9_15 : decode cJ9_floorDiv_f86c9 15 = .ok (.lload_n 2, 1) := by decide +kernel
theorem dJ9_floorDiv_f86c9_16 : decode cJ9_floorDiv_f86c9 16 = .ok (.lmul, 1) := by decide +kernel
theorem dJ9_floorDiv_f86c9_17 : decode cJ9_floorDiv_f86c9 17 = .ok (.lload_n 0, 1) := by decide +kernel
theorem dJ9_floorDiv_f86c9_18 : decode cJ9_floorDiv_f86c9 18 = .ok (.lcmp, 1) := by decide +kernel
theorem dJ9_floorDiv_f86c9_19 : decode cJ9_floorDiv_f86c9 19 = .ok (.ifCond .eq 8, 3) := by decide +kernel
theorem dJ9_floorDiv_f86c9_22 : decode cJ9_floorDiv_f86c9 22 = .ok (.lload 4, 2) := by decide +kernel
theorem dJ9_floorDiv_f86c9_24 : decode cJ9_floorDiv_f86c9 24 = .ok (.lconst 1, 1) := by decide +kernel
theorem dJ9_floorDiv_f86c9_25 : decode cJ9_floorDiv_f86c9 25 = .ok (.lsub, 1) := by decide +kernel
theorem dJ9_floorDiv_f86c9_26 : decode cJ9_floorDiv_f86c9 26 = .ok (.lreturn, 1) := by decide +kernel
theorem dJ9_floorDiv_f86c9_27 : decode cJ9_floorDiv_f86c9 27 = .ok (.lload 4, 2) := by decide +kernel
theorem dJ9_floorDiv_f86c9_29 : decode cJ9_floorDiv_f86c9 29 = .ok (.lreturn, 1) := by decide +kernel
theorem dX0_append_0 : decode cX0_append 0 = .ok (.bipush 24, 2) := by decide +kernel
theorem dX0_append_2 : decode cX0_append 2 = .ok (.istore_n 2, 1) := by decide +kernel
theorem dX0_append_3 : decode cX0_append 3 = .ok (.iload_n 2, 1) := by decide +kernel
theorem dX0_append_4 : decode cX0_append 4 = .ok (.ifCond .lt 45, 3) := by decide +kernel
theorem dX0_append_7 : decode cX0_append 7 = .ok (.aload_n 0, 1) := by decide +kernel
theorem dX0_append_8 : decode cX0_append 8 = .ok (.getfield 60, 3) := by decide +kernel
theorem dX0_append_11 : decode cX0_append 11 = .ok (.sipush 400, 3) := by decide +kernel
theorem dX0_append_14 : decode cX0_append 14 = .ok (.if_icmp .ge 35, 3) := by decide +kernel
theorem dX0_append_17 : decode cX0_append 17 = .ok (.aload_n 0, 1) := by decide +kernel
theorem dX0_append_18 : decode cX0_append 18 = .ok (.getfield 40, 3) := by decide +kernel
theorem dX0_append_21 : decode cX0_append 21 = .ok (.aload_n 0, 1) := by decide +kernel
theorem dX0_append_22 : decode cX0_append 22 = .ok (.getfield 60, 3) := by decide +kernel
theorem dX0_append_25 : decode cX0_append 25 = .ok (.iload_n 1, 1) := by decide +kernel
theorem dX0_append_26 : decode cX0_append 26 = .ok (.iload_n 2, 1) := by decide +kernel
theorem dX0_append_27 : decode cX0_append 27 = .ok (.ishr, 1) := by decide +kernel
theorem dX0_append_28 : decode cX0_append 28 = .ok (.sipush 255, 3) := by decide +kernel
theorem dX0_append_31 : decode cX0_append 31 = .ok (.iand, 1) := by decide +kernel
theorem dX0_append_32 : decode cX0_append 32 = .ok (.iastore, 1) := by decide +kernel
theorem dX0_append_33 : decode cX0_append 33 = .ok (.aload_n 0, 1) := by decide +kernel
theorem dX0_append_34 : decode cX0_append 34 = .ok (.dup, 1) := by decide +kernel
theorem dX0_append_35 : decode cX0_append 35 = .ok (.getfield 60, 3) := by decide +kernel
theorem dX0_append_38 : decode cX0_append 38 = .ok (.iconst 1, 1) := by decide +kernel
theorem dX0_append_39 : decode cX0_append 39 = .ok (.iadd, 1) := by decide +kernel
theorem dX0_append_40 : decode cX0_append 40 = .ok (.putfield 60, 3) := by decide +kernel
theorem dX0_append_43 : decode cX0_append 43 = .ok (.iinc 2 (-8), 3) := by decide +kernel
theorem dX0_append_46 : decode cX0_append 46 = .ok (.goto (-43), 3) := by decide +kernel
theorem dX0_append_49 : decode cX0_append 49 = .ok (.return_, 1) := by decide +kernel
theorem dX0_byteAt_0 : decode cX0_byteAt 0 = .ok (.iload_n 1, 1) := by decide +kernel
theorem dX0_byteAt_1 : decode cX0_byteAt 1 = .ok (.ifCond .lt 27, 3) := by decide +kernel
theorem dX0_byteAt_4 : decode cX0_byteAt 4 = .ok (.iload_n 1, 1) := by decide +kernel
theorem dX0_byteAt_5 : decode cX0_byteAt 5 = .ok (.aload_n 0, 1) := by decide +kernel
theorem dX0_byteAt_6 : decode cX0_byteAt 6 = .ok (.getfield 60, 3) := by decide +kernel
theorem dX0_byteAt_9 : decode cX0_byteAt 9 = .ok (.if_icmp .ge 19, 3) := by decide +kernel
theorem dX0_byteAt_12 : decode cX0_byteAt 12 = .ok (.iload_n 1, 1) := by decide +kernel
theorem dX0_byteAt_13 : decode cX0_byteAt 13 = .ok (.sipush 400, 3) := by decide +kernel
theorem dX0_byteAt_16 : decode cX0_byteAt 16 = .ok (.if_icmp .ge 12, 3) := by decide +kernel
theorem dX0_byteAt_19 : decode cX0_byteAt 19 = .ok (.aload_n 0, 1) := by decide +kernel
theorem dX0_byteAt_20 : decode cX0_byteAt 20 = .ok (.getfield 40, 3) := by decide +kernel
theorem dX0_byteAt_23 : decode cX0_byteAt 23 = .ok (.iload_n 1, 1) := by decide +kernel
theorem dX0_byteAt_24 : decode cX0_byteAt 24 = .ok (.iaload, 1) := by decide +kernel
theorem dX0_byteAt_25 : decode cX0_byteAt 25 = .ok (.goto 4, 3) := by decide +kernel
theorem dX0_byteAt_28 : decode cX0_byteAt 28 = .ok (.iconst (-1), 1) := by decide +kernel
theorem dX0_byteAt_29 : decode cX0_byteAt 29 = .ok (.ireturn, 1) := by decide +kernel
theorem dX0_hasLine_0 : decode cX0_hasLine 0 = .ok (.iconst 0, 1) := by decide +kernel
theorem dX0_hasLine_1 : decode cX0_hasLine 1 = .ok (.istore_n 3, 1) := by decide +kernel
theorem dX0_hasLine_2 : decode cX0_hasLine 2 = .ok (.iconst 0, 1) := by decide +kernel
theorem dX0_hasLine_3 : decode cX0_hasLine 3 = .ok (.istore 4, 2) := by decide +kernel
theorem dX0_hasLine_5 : decode cX0_hasLine 5 = .ok (.iload 4, 2) := by decide +kernel
theorem dX0_hasLine_7 : decode cX0_hasLine 7 = .ok (.aload_n 0, 1) := by decide +kernel
theorem dX0_hasLine_8 : decode cX0_hasLine 8 = .ok (.getfield 31, 3) := by decide +kernel
theorem dX0_hasLine_11 : decode cX0_hasLine 11 = .ok (.getfield 63, 3) := by decide +kernel
theorem dX0_hasLine_14 : decode cX0_hasLine 14 = .ok (.if_icmp .ge 45, 3) := by decide +kernel
theorem dX0_hasLine_17 : decode cX0_hasLine 17 = .ok (.iload_n 3, 1) := by decide +kernel
theorem dX0_hasLine_18 : decode cX0_hasLine 18 = .ok (.aload_n 0, 1) := by decide +kernel
theorem dX0_hasLine_19 : decode cX0_hasLine 19 = .ok (.getfield 31, 3) := by decide +kernel
theorem dX0_hasLine_22 : decode cX0_hasLine 22 = .ok (.iload 4, 2) := by decide +kernel
theorem dX0_hasLine_24 : decode cX0_hasLine 24 = .ok (.iconst 0, 1) := by decide +kernel
theorem dX0_hasLine_25 : decode cX0_hasLine 25 = .ok (.invokevirtual 66, 3) := by decide +kernel
theorem dX0_hasLine_28 : decode cX0_hasLine 28 = .ok (.iload_n 1, 1) := by decide +kernel
theorem dX0_hasLine_29 : decode cX0_hasLine 29 = .ok (.if_icmp .ne 21, 3) := by decide +kernel
theorem dX0_hasLine_32 : decode cX0_hasLine 32 = .ok (.aload_n 0, 1) := by decide +kernel
theorem dX0_hasLine_33 : decode cX0_hasLine 33 = .ok (.getfield 31, 3) := by decide +kernel
theorem dX0_hasLine_36 : decode cX0_hasLine 36 = .ok (.iload 4, 2) := by decide +kernel
theorem dX0_hasLine_38 : decode cX0_hasLine 38 = .ok (.iconst 1, 1) := by decide +kernel
theorem dX0_hasLine_39 : decode cX0_hasLine 39 = .ok (.invokevirtual 66, 3) := by decide +kernel
theorem dX0_hasLine_42 : decode cX0_hasLine 42 = .ok (.iload_n 2, 1) := by decide +kernel
theorem dX0_hasLine_43 : decode cX0_hasLine 43 = .ok (.if_icmp .ne 7, 3) := by decide +kernel
theorem dX0_hasLine_46 : decode cX0_hasLine 46 = .ok (.iconst 1, 1) := by decide +kernel
theorem dX0_hasLine_47 : decode cX0_hasLine 47 = .ok (.goto 4, 3) := by decide +kernel
theorem dX0_hasLine_50 : decode cX0_hasLine 50 = .ok (.iconst 0, 1) := by decide +kernel
theorem dX0_hasLine_51 : decode cX0_hasLine 51 = .ok (.ior, 1) := by decide +kernel
theorem dX0_hasLine_52 : decode cX0_hasLine 52 = .ok (.istore_n 3, 1) := by decide +kernel
theorem dX0_hasLine_53 : decode cX0_hasLine 53 = .ok (.iinc 4 1, 3) := by decide +kernel
theorem dX0_hasLine_56 : decode cX0_hasLine 56 = .ok (.goto (-51), 3) := by decide +kernel
theorem dX0_hasLine_59 : decode cX0_hasLine 59 = .ok (.iload_n 3, 1) := by decide +kernel
theorem dX0_hasLine_60 : decode cX0_hasLine 60 = .ok (.ireturn, 1) := by decide +kernel
theorem dX0_readRow_0 : decode cX0_readRow 0 = .ok (.aload_n 0, 1) := by decide +kernel
theorem dX0_readRow_1 : decode cX0_readRow 1 = .ok (.getfield 18, 3) := by decide +kernel
theorem dX0_readRow_4 : decode cX0_readRow 4 = .ok (.iload_n 1, 1) := by decide +kernel
theorem dX0_readRow_5 : decode cX0_readRow 5 = .ok (.invokevirtual 70, 3) := by decide +kernel
theorem dX0_readRow_8 : decode cX0_readRow 8 = .ok (.ifCond .ne 4, 3) := by decide +kernel
theorem dX0_readRow_11 : decode cX0_readRow 11 = .ok (.return_, 1) := by decide +kernel
theorem dX0_readRow_12 : decode cX0_readRow 12 = .ok (.iconst 0, 1) := by decide +kernel
theorem dX0_readRow_13 : decode cX0_readRow 13 = .ok (.istore 5, 2) := by decide +kernel
theorem dX0_readRow_15 : decode cX0_readRow 15 = .ok (.iload 5, 2) := by decide +kernel
theorem dX0_readRow_17 : decode cX0_readRow 17 = .ok (.sipush 300, 3) := by decide +kernel
theorem dX0_readRow_20 : decode cX0_readRow 20 = .ok (.if_icmp .ge 46, 3) := by decide +kernel
theorem dX0_readRow_23 : decode cX0_readRow 23 = .ok (.aload_n 0, 1) := by decide +kernel
theorem dX0_readRow_24 : decode cX0_readRow 24 = .ok (.getfield 18, 3) := by decide +kernel
theorem dX0_readRow_27 : decode cX0_readRow 27 = .ok (.getfield 74, 3) := by decide +kernel
theorem dX0_readRow_30 : decode cX0_readRow 30 = .ok (.iload_n 1, 1) := by decide +kernel
theorem dX0_readRow_31 : decode cX0_readRow 31 = .ok (.aaload, 1) := by decide +kernel
theorem dX0_readRow_32 : decode cX0_readRow 32 = .ok (.iload 5, 2) := by decide +kernel
theorem dX0_readRow_34 : decode cX0_readRow 34 = .ok (.iaload, 1) := by decide +kernel
theorem dX0_readRow_35 : decode cX0_readRow 35 = .ok (.istore 6, 2) := by decide +kernel
theorem dX0_readRow_37 : decode cX0_readRow 37 = .ok (.aload_n 3, 1) := by decide +kernel
theorem dX0_readRow_38 : decode cX0_readRow 38 = .ok (.iload 5, 2) := by decide +kernel
theorem dX0_readRow_40 : decode cX0_readRow 40 = .ok (.iload 6, 2) := by decide +kernel
theorem dX0_readRow_42 : decode cX0_readRow 42 = .ok (.ldc 78, 2) := by decide +kernel
theorem dX0_readRow_44 : decode cX0_readRow 44 = .ok (.if_icmp .eq 7, 3) := by decide +kernel
theorem dX0_readRow_47 : decode cX0_readRow 47 = .ok (.iconst 1, 1) := by decide +kernel
theorem dX0_readRow_48 : decode cX0_readRow 48 = .ok (.goto 4, 3) := by decide +kernel
theorem dX0_readRow_51 : decode cX0_readRow 51 = .ok (.iconst 0, 1) := by decide +kernel
theorem dX0_readRow_52 : decode cX0_readRow 52 = .ok (.bastore, 1) := by decide +kernel
theorem dX0_readRow_53 : decode cX0_readRow 53 = .ok (.aload 4, 2) := by decide +kernel
theorem dX0_readRow_55 : decode cX0_readRow 55 = .ok (.iload 5, 2) := by decide +kernel
theorem dX0_readRow_57 : decode cX0_readRow 57 = .ok (.iload 6, 2) := by decide +kernel
theorem dX0_readRow_59 : decode cX0_readRow 59 = .ok (.iastore, 1) := by decide +kernel
theorem dX0_readRow_60 : decode cX0_readRow 60 = .ok (.iinc 5 1, 3) := by decide +kernel
theorem dX0_readRow_63 : decode cX0_readRow 63 = .ok (.goto (-48), 3) := by decide +kernel
theorem dX0_readRow_66 : decode cX0_readRow 66 = .ok (.iconst 0, 1) := by decide +kernel
theorem dX0_readRow_67 : decode cX0_readRow 67 = .ok (.istore 5, 2) := by decide +kernel
theorem dX0_readRow_69 : decode cX0_readRow 69 = .ok (.iload 5, 2) := by decide +kernel
theorem dX0_readRow_71 : decode cX0_readRow 71 = .ok (.aload_n 0, 1) := by decide +kernel
theorem dX0_readRow_72 : decode cX0_readRow 72 = .ok (.getfield 27, 3) := by decide +kernel
theorem dX0_readRow_75 : decode cX0_readRow 75 = .ok (.getfield 63, 3) := by decide +kernel
theorem dX0_readRow_78 : decode cX0_readRow 78 = .ok (.if_icmp .ge 45, 3) := by decide +kernel
theorem dX0_readRow_81 : decode cX0_readRow 81 = .ok (.iload 5, 2) := by decide +kernel
theorem dX0_readRow_83 : decode cX0_readRow 83 = .ok (.iload_n 2, 1) := by decide +kernel
theorem dX0_readRow_84 : decode cX0_readRow 84 = .ok (.if_icmp .eq 33, 3) := by decide +kernel
theorem dX0_readRow_87 : decode cX0_readRow 87 = .ok (.aload_n 0, 1) := by decide +kernel
theorem dX0_readRow_88 : decode cX0_readRow 88 = .ok (.getfield 27, 3) := by decide +kernel
theorem dX0_readRow_91 : decode cX0_readRow 91 = .ok (.iload 5, 2) := by decide +kernel
theorem dX0_readRow_93 : decode cX0_readRow 93 = .ok (.iconst 0, 1) := by decide +kernel
theorem dX0_readRow_94 : decode cX0_readRow 94 = .ok (.invokevirtual 66, 3) := by decide +kernel
theorem dX0_readRow_97 : decode cX0_readRow 97 = .ok (.aload_n 0, 1) := by decide +kernel
theorem dX0_readRow_98 : decode cX0_readRow 98 = .ok (.getfield 18, 3) := by decide +kernel
theorem dX0_readRow_101 : decode cX0_readRow 101 = .ok (.getfield 79, 3) := by decide +kernel
theorem dX0_readRow_104 : decode cX0_readRow 104 = .ok (.iload_n 1, 1) := by decide +kernel
theorem dX0_readRow_105 : decode cX0_readRow 105 = .ok (.iaload, 1) := by decide +kernel
theorem dX0_readRow_106 : decode cX0_readRow 106 = .ok (.if_icmp .ne 11, 3) := by decide +kernel
theorem dX0_readRow_109 : decode cX0_readRow 109 = .ok (.aload_n 0, 1) := by decide +kernel
theorem dX0_readRow_110 : decode cX0_readRow 110 = .ok (.iload 5, 2) := by decide +kernel
theorem dX0_readRow_112 : decode cX0_readRow 112 = .ok (.aload 4, 2) := by decide +kernel
theorem dX0_readRow_114 : decode cX0_readRow 114 = .ok (.invokevirtual 82, 3) := by decide +kernel
theorem dX0_readRow_117 : decode cX0_readRow 117 = .ok (.iinc 5 1, 3) := by decide +kernel
theorem dX0_readRow_120 : decode cX0_readRow 120 = .ok (.goto (-51), 3) := by decide +kernel
theorem dX0_readRow_123 : decode cX0_readRow 123 = .ok (.return_, 1) := by decide +kernel
theorem dX0_slipped_0 : decode cX0_slipped 0 = .ok (.iconst 0, 1) := by decide +kernel
theorem dX0_slipped_1 : decode cX0_slipped 1 = .ok (.istore_n 3, 1) := by decide +kernel
theorem dX0_slipped_2 : decode cX0_slipped 2 = .ok (.iconst 0, 1) := by decide +kernel
theorem dX0_slipped_3 : decode cX0_slipped 3 = .ok (.istore 4, 2) := by decide +kernel
theorem dX0_slipped_5 : decode cX0_slipped 5 = .ok (.iload 4, 2) := by decide +kernel
theorem dX0_slipped_7 : decode cX0_slipped 7 = .ok (.aload_n 0, 1) := by decide +kernel
theorem dX0_slipped_8 : decode cX0_slipped 8 = .ok (.getfield 27, 3) := by decide +kernel
theorem dX0_slipped_11 : decode cX0_slipped 11 = .ok (.getfield 63, 3) := by decide +kernel
theorem dX0_slipped_14 : decode cX0_slipped 14 = .ok (.if_icmp .ge 80, 3) := by decide +kernel
theorem dX0_slipped_17 : decode cX0_slipped 17 = .ok (.aload_n 0, 1) := by decide +kernel
theorem dX0_slipped_18 : decode cX0_slipped 18 = .ok (.getfield 27, 3) := by decide +kernel
theorem dX0_slipped_21 : decode cX0_slipped 21 = .ok (.iload 4, 2) := by decide +kernel
theorem dX0_slipped_23 : decode cX0_slipped 23 = .ok (.iconst 1, 1) := by decide +kernel
theorem dX0_slipped_24 : decode cX0_slipped 24 = .ok (.invokevirtual 66, 3) := by decide +kernel
theorem dX0_slipped_27 : decode cX0_slipped 27 = .ok (.iload_n 2, 1) := by decide +kernel
theorem dX0_slipped_28 : decode cX0_slipped 28 = .ok (.if_icmp .gt 21, 3) := by decide +kernel
theorem dX0_slipped_31 : decode cX0_slipped 31 = .ok (.iload_n 2, 1) := by decide +kernel
theorem dX0_slipped_32 : decode cX0_slipped 32 = .ok (.aload_n 0, 1) := by decide +kernel
theorem dX0_slipped_33 : decode cX0_slipped 33 = .ok (.getfield 27, 3) := by decide +kernel
theorem dX0_slipped_36 : decode cX0_slipped 36 = .ok (.iload 4, 2) := by decide +kernel
theorem dX0_slipped_38 : decode cX0_slipped 38 = .ok (.iconst 2, 1) := by decide +kernel
theorem dX0_slipped_39 : decode cX0_slipped 39 = .ok (.invokevirtual 66, 3) := by decide +kernel
theorem dX0_slipped_42 : decode cX0_slipped 42 = .ok (.if_icmp .gt 7, 3) := by decide +kernel
theorem dX0_slipped_45 : decode cX0_slipped 45 = .ok (.iconst 1, 1) := by decide +kernel
theorem dX0_slipped_46 : decode cX0_slipped 46 = .ok (.goto 4, 3) := by decide +kernel
theorem dX0_slipped_49 : decode cX0_slipped 49 = .ok (.iconst 0, 1) := by decide +kernel
theorem dX0_slipped_50 : decode cX0_slipped 50 = .ok (.istore 5, 2) := by decide +kernel
theorem dX0_slipped_52 : decode cX0_slipped 52 = .ok (.iload_n 3, 1) := by decide +kernel
theorem dX0_slipped_53 : decode cX0_slipped 53 = .ok (.iload 5, 2) := by decide +kernel
theorem dX0_slipped_55 : decode cX0_slipped 55 = .ok (.ifCond .eq 30, 3) := by decide +kernel
theorem dX0_slipped_58 : decode cX0_slipped 58 = .ok (.aload_n 0, 1) := by decide +kernel
theorem dX0_slipped_59 : decode cX0_slipped 59 = .ok (.getfield 27, 3) := by decide +kernel
theorem dX0_slipped_62 : decode cX0_slipped 62 = .ok (.iload 4, 2) := by decide +kernel
theorem dX0_slipped_64 : decode cX0_slipped 64 = .ok (.iconst 0, 1) := by decide +kernel
theorem dX0_slipped_65 : decode cX0_slipped 65 = .ok (.invokevirtual 66, 3) := by decide +kernel
theorem dX0_slipped_68 : decode cX0_slipped 68 = .ok (.iload_n 1, 1) := by decide +kernel
theorem dX0_slipped_69 : decode cX0_slipped 69 = .ok (.if_icmp .ne 16, 3) := by decide +kernel
theorem dX0_slipped_72 : decode cX0_slipped 72 = .ok (.aload_n 0, 1) := by decide +kernel
theorem dX0_slipped_73 : decode cX0_slipped 73 = .ok (.getfield 27, 3) := by decide +kernel
theorem dX0_slipped_76 : decode cX0_slipped 76 = .ok (.iload 4, 2) := by decide +kernel
theorem dX0_slipped_78 : decode cX0_slipped 78 = .ok (.iconst 3, 1) := by decide +kernel
theorem dX0_slipped_79 : decode cX0_slipped 79 = .ok (.invokevirtual 66, 3) := by decide +kernel
theorem dX0_slipped_82 : decode cX0_slipped 82 = .ok (.goto 4, 3) := by decide +kernel
theorem dX0_slipped_85 : decode cX0_slipped 85 = .ok (.iconst 0, 1) := by decide +kernel
theorem dX0_slipped_86 : decode cX0_slipped 86 = .ok (.iadd, 1) := by decide +kernel
theorem dX0_slipped_87 : decode cX0_slipped 87 = .ok (.istore_n 3, 1) := by decide +kernel
theorem dX0_slipped_88 : decode cX0_slipped 88 = .ok (.iinc 4 1, 3) := by decide +kernel
theorem dX0_slipped_91 : decode cX0_slipped 91 = .ok (.goto (-86), 3) := by decide +kernel
theorem dX0_slipped_94 : decode cX0_slipped 94 = .ok (.iload_n 3, 1) := by decide +kernel
theorem dX0_slipped_95 : decode cX0_slipped 95 = .ok (.ireturn, 1) := by decide +kernel
theorem dX0_takeOff_0 : decode cX0_takeOff 0 = .ok (.aload_n 0, 1) := by decide +kernel
theorem dX0_takeOff_1 : decode cX0_takeOff 1 = .ok (.getfield 27, 3) := by decide +kernel
theorem dX0_takeOff_4 : decode cX0_takeOff 4 = .ok (.iload_n 1, 1) := by decide +kernel
theorem dX0_takeOff_5 : decode cX0_takeOff 5 = .ok (.iconst 3, 1) := by decide +kernel
theorem dX0_takeOff_6 : decode cX0_takeOff 6 = .ok (.invokevirtual 66, 3) := by decide +kernel
theorem dX0_takeOff_9 : decode cX0_takeOff 9 = .ok (.istore_n 3, 1) := by decide +kernel
theorem dX0_takeOff_10 : decode cX0_takeOff 10 = .ok (.sipush 299, 3) := by decide +kernel
theorem dX0_takeOff_13 : decode cX0_takeOff 13 = .ok (.aload_n 0, 1) := by decide +kernel
theorem dX0_takeOff_14 : decode cX0_takeOff 14 = .ok (.getfield 27, 3) := by decide +kernel
theorem dX0_takeOff_17 : decode cX0_takeOff 17 = .ok (.iload_n 1, 1) := by decide +kernel
theorem dX0_takeOff_18 : decode cX0_takeOff 18 = .ok (.iconst 2, 1) := by decide +kernel
theorem dX0_takeOff_19 : decode cX0_takeOff 19 = .ok (.invokevirtual 66, 3) := by decide +kernel
theorem dX0_takeOff_22 : decode cX0_takeOff 22 = .ok (.invokestatic 86, 3) := by decide +kernel
theorem dX0_takeOff_25 : decode cX0_takeOff 25 = .ok (.istore 4, 2) := by decide +kernel
theorem dX0_takeOff_27 : decode cX0_takeOff 27 = .ok (.iconst 0, 1) := by decide +kernel
theorem dX0_takeOff_28 : decode cX0_takeOff 28 = .ok (.aload_n 0, 1) := by decide +kernel
theorem dX0_takeOff_29 : decode cX0_takeOff 29 = .ok (.getfield 27, 3) := by decide +kernel
theorem dX0_takeOff_32 : decode cX0_takeOff 32 = .ok (.iload_n 1, 1) := by decide +kernel
theorem dX0_takeOff_33 : decode cX0_takeOff 33 = .ok (.iconst 1, 1) := by decide +kernel
theorem dX0_takeOff_34 : decode cX0_takeOff 34 = .ok (.invokevirtual 66, 3) := by decide +kernel
theorem dX0_takeOff_37 : decode cX0_takeOff 37 = .ok (.invokestatic 91, 3) := by decide +kernel
theorem dX0_takeOff_40 : decode cX0_takeOff 40 = .ok (.istore 5, 2) := by decide +kernel
theorem dX0_takeOff_42 : decode cX0_takeOff 42 = .ok (.iload 5, 2) := by decide +kernel
theorem dX0_takeOff_44 : decode cX0_takeOff 44 = .ok (.iload 4, 2) := by decide +kernel
theorem dX0_takeOff_46 : decode cX0_takeOff 46 = .ok (.if_icmp .gt 17, 3) := by decide +kernel
theorem dX0_takeOff_49 : decode cX0_takeOff 49 = .ok (.aload_n 2, 1) := by decide +kernel
theorem dX0_takeOff_50 : decode cX0_takeOff 50 = .ok (.iload 5, 2) := by decide +kernel
theorem dX0_takeOff_52 : decode cX0_takeOff 52 = .ok (.dup2, 1) := by decide +kernel
theorem dX0_takeOff_53 : decode cX0_takeOff 53 = .ok (.iaload, 1) := by decide +kernel
theorem dX0_takeOff_54 : decode cX0_takeOff 54 = .ok (.iload_n 3, 1) := by decide +kernel
theorem dX0_takeOff_55 : decode cX0_takeOff 55 = .ok (.isub, 1) := by decide +kernel
theorem dX0_takeOff_56 : decode cX0_takeOff 56 = .ok (.iastore, 1) := by decide +kernel
theorem dX0_takeOff_57 : decode cX0_takeOff 57 = .ok (.iinc 5 1, 3) := by decide +kernel
theorem dX0_takeOff_60 : decode cX0_takeOff 60 = .ok (.goto (-18), 3) := by decide +kernel
theorem dX0_takeOff_63 : decode cX0_takeOff 63 = .ok (.return_, 1) := by decide +kernel
theorem dX10_besideGap_0 : decode cX10_besideGap 0 = .ok (.iload_n 2, 1) := by decide +kernel
theorem dX10_besideGap_1 : decode cX10_besideGap 1 = .ok (.aload_n 0, 1) := by decide +kernel
theorem dX10_besideGap_2 : decode cX10_besideGap 2 = .ok (.getfield 75, 3) := by decide +kernel
theorem dX10_besideGap_5 : decode cX10_besideGap 5 = .ok (.invokestatic 103, 3) := by decide +kernel
theorem dX10_besideGap_8 : decode cX10_besideGap 8 = .ok (.istore 4, 2) := by decide +kernel
theorem dX10_besideGap_10 : decode cX10_besideGap 10 = .ok (.iload_n 3, 1) := by decide +kernel
theorem dX10_besideGap_11 : decode cX10_besideGap 11 = .ok (.aload_n 0, 1) := by decide +kernel
theorem dX10_besideGap_12 : decode cX10_besideGap 12 = .ok (.getfield 81, 3) := by decide +kernel
theorem dX10_besideGap_15 : decode cX10_besideGap 15 = .ok (.iconst 1, 1) := by decide +kernel
theorem dX10_besideGap_16 : decode cX10_besideGap 16 = .ok (.iadd, 1) := by decide +kernel
theorem dX10_besideGap_17 : decode cX10_besideGap 17 = .ok (.invokestatic 108, 3) := by decide +kernel
theorem dX10_besideGap_20 : decode cX10_besideGap 20 = .ok (.istore 5, 2) := by decide +kernel
theorem dX10_besideGap_22 : decode cX10_besideGap 22 = .ok (.iload 4, 2) := by decide +kernel
theorem dX10_besideGap_24 : decode cX10_besideGap 24 = .ok (.iload 5, 2) := by decide +kernel
theorem dX10_besideGap_26 : decode cX10_besideGap 26 = .ok (.if_icmp .ge 15, 3) := by decide +kernel
theorem dX10_besideGap_29 : decode cX10_besideGap 29 = .ok (.aload_n 1, 1) := by decide +kernel
theorem dX10_besideGap_30 : decode cX10_besideGap 30 = .ok (.iload 5, 2) := by decide +kernel
theorem dX10_besideGap_32 : decode cX10_besideGap 32 = .ok (.iaload, 1) := by decide +kernel
theorem dX10_besideGap_33 : decode cX10_besideGap 33 = .ok (.aload_n 1, 1) := by decide +kernel
theorem dX10_besideGap_34 : decode cX10_besideGap 34 = .ok (.iload 4, 2) := by decide +kernel
theorem dX10_besideGap_36 : decode cX10_besideGap 36 = .ok (.iaload, 1) := by decide +kernel
theorem dX10_besideGap_37 : decode cX10_besideGap 37 = .ok (.isub, 1) := by decide +kernel
theorem dX10_besideGap_38 : decode cX10_besideGap 38 = .ok (.goto 4, 3) := by decide +kernel
theorem dX10_besideGap_41 : decode cX10_besideGap 41 = .ok (.iconst 0, 1) := by decide +kernel
theorem dX10_besideGap_42 : decode cX10_besideGap 42 = .ok (.istore 6, 2) := by decide +kernel
theorem dX10_besideGap_44 : decode cX10_besideGap 44 = .ok (.aload_n 1, 1) := by decide +kernel
theorem dX10_besideGap_45 : decode cX10_besideGap 45 = .ok (.iload_n 3, 1) := by decide +kernel
theorem dX10_besideGap_46 : decode cX10_besideGap 46 = .ok (.iaload, 1) := by decide +kernel
theorem dX10_besideGap_47 : decode cX10_besideGap 47 = .ok (.aload_n 1, 1) := by decide +kernel
theorem dX10_besideGap_48 : decode cX10_besideGap 48 = .ok (.iload_n 2, 1) := by decide +kernel
theorem dX10_besideGap_49 : decode cX10_besideGap 49 = .ok (.iaload, 1) := by decide +kernel
theorem dX10_besideGap_50 : decode cX10_besideGap 50 = .ok (.isub, 1) := by decide +kernel
theorem dX10_besideGap_51 : decode cX10_besideGap 51 = .ok (.iload 6, 2) := by decide +kernel
theorem dX10_besideGap_53 : decode cX10_besideGap 53 = .ok (.isub, 1) := by decide +kernel
theorem dX10_besideGap_54 : decode cX10_besideGap 54 = .ok (.ireturn, 1) := by decide +kernel
theorem dX10_frameBy_0 : decode cX10_frameBy 0 = .ok (.aload_n 0, 1) := by decide +kernel
theorem dX10_frameBy_1 : decode cX10_frameBy 1 = .ok (.aload_n 1, 1) := by decide +kernel
theorem dX10_frameBy_2 : decode cX10_frameBy 2 = .ok (.iconst 4, 1) := by decide +kernel
theorem dX10_frameBy_3 : decode cX10_frameBy 3 = .ok (.bipush 12, 2) := by decide +kernel
theorem dX10_frameBy_5 : decode cX10_frameBy 5 = .ok (.invokevirtual 65, 3) := by decide +kernel
theorem dX10_frameBy_8 : decode cX10_frameBy 8 = .ok (.putfield 69, 3) := by decide +kernel
theorem dX10_frameBy_11 : decode cX10_frameBy 11 = .ok (.aload_n 0, 1) := by decide +kernel
theorem dX10_frameBy_12 : decode cX10_frameBy 12 = .ok (.aload_n 1, 1) := by decide +kernel
theorem dX10_frameBy_13 : decode cX10_frameBy 13 = .ok (.bipush 6, 2) := by decide +kernel
theorem dX10_frameBy_15 : decode cX10_frameBy 15 = .ok (.iconst 3, 1) := by decide +kernel
theorem dX10_frameBy_16 : decode cX10_frameBy 16 = .ok (.invokevirtual 65, 3) := by decide +kernel
theorem dX10_frameBy_19 : decode cX10_frameBy 19 = .ok (.putfield 72, 3) := by decide +kernel
theorem dX10_frameBy_22 : decode cX10_frameBy 22 = .ok (.aload_n 0, 1) := by decide +kernel
theorem dX10_frameBy_23 : decode cX10_frameBy 23 = .ok (.aload_n 1, 1) := by decide +kernel
theorem dX10_frameBy_24 : decode cX10_frameBy 24 = .ok (.iconst 5, 1) := by decide +kernel
theorem dX10_frameBy_25 : decode cX10_frameBy 25 = .ok (.sipush 140, 3) := by decide +kernel
theorem dX10_frameBy_28 : decode cX10_frameBy 28 = .ok (.invokevirtual 65, 3) := by decide +kernel
theorem dX10_frameBy_31 : decode cX10_frameBy 31 = .ok (.putfield 75, 3) := by decide +kernel
theorem dX10_frameBy_34 : decode cX10_frameBy 34 = .ok (.aload_n 0, 1) := by decide +kernel
theorem dX10_frameBy_35 : decode cX10_frameBy 35 = .ok (.aload_n 1, 1) := by decide +kernel
theorem dX10_frameBy_36 : decode cX10_frameBy 36 = .ok (.iconst 5, 1) := by decide +kernel
theorem dX10_frameBy_37 : decode cX10_frameBy 37 = .ok (.sipush 159, 3) := by decide +kernel
theorem dX10_frameBy_40 : decode cX10_frameBy 40 = .ok (.invokevirtual 78, 3) := by decide +kernel
theorem dX10_frameBy_43 : decode cX10_frameBy 43 = .ok (.putfield 81, 3) := by decide +kernel
theorem dX10_frameBy_46 : decode cX10_frameBy 46 = .ok (.return_, 1) := by decide +kernel
theorem dX10_gapLength_0 : decode cX10_gapLength 0 = .ok (.aload_n 0, 1) := by decide +kernel
theorem dX10_gapLength_1 : decode cX10_gapLength 1 = .ok (.getfield 81, 3) := by decide +kernel
theorem dX10_gapLength_4 : decode cX10_gapLength 4 = .ok (.aload_n 0, 1) := by decide +kernel
theorem dX10_gapLength_5 : decode cX10_gapLength 5 = .ok (.getfield 75, 3) := by decide +kernel
theorem dX10_gapLength_8 : decode cX10_gapLength 8 = .ok (.isub, 1) := by decide +kernel
theorem dX10_gapLength_9 : decode cX10_gapLength 9 = .ok (.iconst 1, 1) := by decide +kernel
theorem dX10_gapLength_10 : decode cX10_gapLength 10 = .ok (.iadd, 1) := by decide +kernel
theorem dX10_gapLength_11 : decode cX10_gapLength 11 = .ok (.ireturn, 1) := by decide +kernel
theorem dX10_hasDeep_0 : decode cX10_hasDeep 0 = .ok (.aload_n 0, 1) := by decide +kernel
theorem dX10_hasDeep_1 : decode cX10_hasDeep 1 = .ok (.getfield 100, 3) := by decide +kernel
theorem dX10_hasDeep_4 : decode cX10_hasDeep 4 = .ok (.ifCond .le 14, 3) := by decide +kernel
theorem dX10_hasDeep_7 : decode cX10_hasDeep 7 = .ok (.aload_n 0, 1) := by decide +kernel
theorem dX10_hasDeep_8 : decode cX10_hasDeep 8 = .ok (.getfield 122, 3) := by decide +kernel
theorem dX10_hasDeep_11 : decode cX10_hasDeep 11 = .ok (.ifCond .le 7, 3) := by decide +kernel
theorem dX10_hasDeep_14 : decode cX10_hasDeep 14 = .ok (.iconst 1, 1) := by decide +kernel
theorem dX10_hasDeep_15 : decode cX10_hasDeep 15 = .ok (.goto 4, 3) := by decide +kernel
theorem dX10_hasDeep_18 : decode cX10_hasDeep 18 = .ok (.iconst 0, 1) := by decide +kernel
theorem dX10_hasDeep_19 : decode cX10_hasDeep 19 = .ok (.ireturn, 1) := by decide +kernel
theorem dX10_isInGap_0 : decode cX10_isInGap 0 = .ok (.iload_n 1, 1) := by decide +kernel
theorem dX10_isInGap_1 : decode cX10_isInGap 1 = .ok (.aload_n 0, 1) := by decide +kernel
theorem dX10_isInGap_2 : decode cX10_isInGap 2 = .ok (.getfield 75, 3) := by decide +kernel
theorem dX10_isInGap_5 : decode cX10_isInGap 5 = .ok (.if_icmp .lt 15, 3) := by decide +kernel
theorem dX10_isInGap_8 : decode cX10_isInGap 8 = .ok (.iload_n 1, 1) := by decide +kernel
theorem dX10_isInGap_9 : decode cX10_isInGap 9 = .ok (.aload_n 0, 1) := by decide +kernel
theorem dX10_isInGap_10 : decode cX10_isInGap 10 = .ok (.getfield 81, 3) := by decide +kernel
theorem dX10_isInGap_13 : decode cX10_isInGap 13 = .ok (.if_icmp .gt 7, 3) := by decide +kernel
theorem dX10_isInGap_16 : decode cX10_isInGap 16 = .ok (.iconst 1, 1) := by decide +kernel
theorem dX10_isInGap_17 : decode cX10_isInGap 17 = .ok (.goto 4, 3) := by decide +kernel
theorem dX10_isInGap_20 : decode cX10_isInGap 20 = .ok (.iconst 0, 1) := by decide +kernel
theorem dX10_isInGap_21 : decode cX10_isInGap 21 = .ok (.ireturn, 1) := by decide +kernel
theorem dX10_isLaid_0 : decode cX10_isLaid 0 = .ok (.aload_n 0, 1) := by decide +kernel
theorem dX10_isLaid_1 : decode cX10_isLaid 1 = .ok (.getfield 100, 3) := by decide +kernel
theorem dX10_isLaid_4 : decode cX10_isLaid 4 = .ok (.ifCond .le 7, 3) := by decide +kernel
theorem dX10_isLaid_7 : decode cX10_isLaid 7 = .ok (.iconst 1, 1) := by decide +kernel
theorem dX10_isLaid_8 : decode cX10_isLaid 8 = .ok (.goto 4, 3) := by decide +kernel
theorem dX10_isLaid_11 : decode cX10_isLaid 11 = .ok (.iconst 0, 1) := by decide +kernel
theorem dX10_isLaid_12 : decode cX10_isLaid 12 = .ok (.ireturn, 1) := by decide +kernel
theorem dX10_layBetween_0 : decode cX10_layBetween 0 = .ok (.aload_n 0, 1) := by decide +kernel
theorem dX10_layBetween_1 : decode cX10_layBetween 1 = .ok (.getfield 37, 3) := by decide +kernel
theorem dX10_layBetween_4 : decode cX10_layBetween 4 = .ok (.iload_n 1, 1) := by decide +kernel
theorem dX10_layBetween_5 : decode cX10_layBetween 5 = .ok (.iconst 1, 1) := by decide +kernel
theorem dX10_layBetween_6 : decode cX10_layBetween 6 = .ok (.iadd, 1) := by decide +kernel
theorem dX10_layBetween_7 : decode cX10_layBetween 7 = .ok (.iaload, 1) := by decide +kernel
theorem dX10_layBetween_8 : decode cX10_layBetween 8 = .ok (.aload_n 0, 1) := by decide +kernel
theorem dX10_layBetween_9 : decode cX10_layBetween 9 = .ok (.getfield 37, 3) := by decide +kernel
theorem dX10_layBetween_12 : decode cX10_layBetween 12 = .ok (.iload_n 1, 1) := by decide +kernel
theorem dX10_layBetween_13 : decode cX10_layBetween 13 = .ok (.iaload, 1) := by decide +kernel
theorem dX10_layBetween_14 : decode cX10_layBetween 14 = .ok (.isub, 1) := by decide +kernel
theorem dX10_layBetween_15 : decode cX10_layBetween 15 = .ok (.istore 4, 2) := by decide +kernel
theorem dX10_layBetween_17 : decode cX10_layBetween 17 = .ok (.iconst 1, 1) := by decide +kernel
theorem dX10_layBetween_18 : decode cX10_layBetween 18 = .ok (.iload_n 3, 1) := by decide +kernel
theorem dX10_layBetween_19 : decode cX10_layBetween 19 = .ok (.iload_n 2, 1) := by decide +kernel
theorem dX10_layBetween_20 : decode cX10_layBetween 20 = .ok (.isub, 1) := by decide +kernel
theorem dX10_layBetween_21 : decode cX10_layBetween 21 = .ok (.invokestatic 103, 3) := by decide +kernel
theorem dX10_layBetween_24 : decode cX10_layBetween 24 = .ok (.istore 5, 2) := by decide +kernel
theorem dX10_layBetween_26 : decode cX10_layBetween 26 = .ok (.iload_n 2, 1) := by decide +kernel
theorem dX10_layBetween_27 : decode cX10_layBetween 27 = .ok (.istore 6, 2) := by decide +kernel
theorem dX10_layBetween_29 : decode cX10_layBetween 29 = .ok (.iload 6, 2) := by decide +kernel
theorem dX10_layBetween_31 : decode cX10_layBetween 31 = .ok (.iload_n 3, 1) := by decide +kernel
theorem dX10_layBetween_32 : decode cX10_layBetween 32 = .ok (.if_icmp .ge 35, 3) := by decide +kernel
theorem dX10_layBetween_35 : decode cX10_layBetween 35 = .ok (.aload_n 0, 1) := by decide +kernel
theorem dX10_layBetween_36 : decode cX10_layBetween 36 = .ok (.getfield 25, 3) := by decide +kernel
theorem dX10_layBetween_39 : decode cX10_layBetween 39 = .ok (.iload 6, 2) := by decide +kernel
theorem dX10_layBetween_41 : decode cX10_layBetween 41 = .ok (.aload_n 0, 1) := by decide +kernel
theorem dX10_layBetween_42 : decode cX10_layBetween 42 = .ok (.getfield 37, 3) := by decide +kernel
theorem dX10_layBetween_45 : decode cX10_layBetween 45 = .ok (.iload_n 1, 1) := by decide +kernel
theorem dX10_layBetween_46 : decode cX10_layBetween 46 = .ok (.iaload, 1) := by decide +kernel
theorem dX10_layBetween_47 : decode cX10_layBetween 47 = .ok (.iload 4, 2) := by decide +kernel
theorem dX10_layBetween_49 : decode cX10_layBetween 49 = .ok (.iload 6, 2) := by decide +kernel
theorem dX10_layBetween_51 : decode cX10_layBetween 51 = .ok (.iload_n 2, 1) := by decide +kernel
theorem dX10_layBetween_52 : decode cX10_layBetween 52 = .ok (.isub, 1) := by decide +kernel
theorem dX10_layBetween_53 : decode cX10_layBetween 53 = .ok (.imul, 1) := by decide +kernel
theorem dX10_layBetween_54 : decode cX10_layBetween 54 = .ok (.iload 5, 2) := by decide +kernel
theorem dX10_layBetween_56 : decode cX10_layBetween 56 = .ok (.invokestatic 115, 3) := by decide +kernel
theorem dX10_layBetween_59 : decode cX10_layBetween 59 = .ok (.iadd, 1) := by decide +kernel
theorem dX10_layBetween_60 : decode cX10_layBetween 60 = .ok (.iastore, 1) := by decide +kernel
theorem dX10_layBetween_61 : decode cX10_layBetween 61 = .ok (.iinc 6 1, 3) := by decide +kernel
theorem dX10_layBetween_64 : decode cX10_layBetween 64 = .ok (.goto (-35), 3) := by decide +kernel
theorem dX10_layBetween_67 : decode cX10_layBetween 67 = .ok (.return_, 1) := by decide +kernel
theorem dX10_leftAt_0 : decode cX10_leftAt 0 = .ok (.iload_n 1, 1) := by decide +kernel
theorem dX10_leftAt_1 : decode cX10_leftAt 1 = .ok (.invokestatic 84, 3) := by decide +kernel
theorem dX10_leftAt_4 : decode cX10_leftAt 4 = .ok (.ifCond .eq 19, 3) := by decide +kernel
theorem dX10_leftAt_7 : decode cX10_leftAt 7 = .ok (.aload_n 0, 1) := by decide +kernel
theorem dX10_leftAt_8 : decode cX10_leftAt 8 = .ok (.getfield 21, 3) := by decide +kernel
theorem dX10_leftAt_11 : decode cX10_leftAt 11 = .ok (.iload_n 1, 1) := by decide +kernel
theorem dX10_leftAt_12 : decode cX10_leftAt 12 = .ok (.iaload, 1) := by decide +kernel
theorem dX10_leftAt_13 : decode cX10_leftAt 13 = .ok (.aload_n 0, 1) := by decide +kernel
theorem dX10_leftAt_14 : decode cX10_leftAt 14 = .ok (.getfield 25, 3) := by decide +kernel
theorem dX10_leftAt_17 : decode cX10_leftAt 17 = .ok (.iload_n 1, 1) := by decide +kernel
theorem dX10_leftAt_18 : decode cX10_leftAt 18 = .ok (.iaload, 1) := by decide +kernel
theorem dX10_leftAt_19 : decode cX10_leftAt 19 = .ok (.isub, 1) := by decide +kernel
theorem dX10_leftAt_20 : decode cX10_leftAt 20 = .ok (.goto 4, 3) := by decide +kernel
theorem dX10_leftAt_23 : decode cX10_leftAt 23 = .ok (.iconst 0, 1) := by decide +kernel
theorem dX10_leftAt_24 : decode cX10_leftAt 24 = .ok (.ireturn, 1) := by decide +kernel
theorem dX10_tally_0 : decode cX10_tally 0 = .ok (.iconst 0, 1) := by decide +kernel
theorem dX10_tally_1 : decode cX10_tally 1 = .ok (.istore_n 1, 1) := by decide +kernel
theorem dX10_tally_2 : decode cX10_tally 2 = .ok (.iload_n 1, 1) := by decide +kernel
theorem dX10_tally_3 : decode cX10_tally 3 = .ok (.sipush 300, 3) := by decide +kernel
theorem dX10_tally_6 : decode cX10_tally 6 = .ok (.if_icmp .ge 86, 3) := by decide +kernel
theorem dX10_tally_9 : decode cX10_tally 9 = .ok (.aload_n 0, 1) := by decide +kernel
theorem dX10_tally_10 : decode cX10_tally 10 = .ok (.getfield 9, 3) := by decide +kernel
theorem dX10_tally_13 : decode cX10_tally 13 = .ok (.iload_n 1, 1) := by decide +kernel
theorem dX10_tally_14 : decode cX10_tally 14 = .ok (.baload, 1) := by decide +kernel
theorem dX10_tally_15 : decode cX10_tally 15 = .ok (.ifCond .eq 16, 3) := by decide +kernel
theorem dX10_tally_18 : decode cX10_tally 18 = .ok (.aload_n 0, 1) := by decide +kernel
theorem dX10_tally_19 : decode cX10_tally 19 = .ok (.getfield 15, 3) := by decide +kernel
theorem dX10_tally_22 : decode cX10_tally 22 = .ok (.iload_n 1, 1) := by decide +kernel
theorem dX10_tally_23 : decode cX10_tally 23 = .ok (.baload, 1) := by decide +kernel
theorem dX10_tally_24 : decode cX10_tally 24 = .ok (.ifCond .ne 7, 3) := by decide +kernel
theorem dX10_tally_27 : decode cX10_tally 27 = .ok (.iconst 1, 1) := by decide +kernel
theorem dX10_tally_28 : decode cX10_tally 28 = .ok (.goto 4, 3) := by decide +kernel
theorem dX10_tally_31 : decode cX10_tally 31 = .ok (.iconst 0, 1) := by decide +kernel
theorem dX10_tally_32 : decode cX10_tally 32 = .ok (.istore_n 2, 1) := by decide +kernel
theorem dX10_tally_33 : decode cX10_tally 33 = .ok (.aload_n 0, 1) := by decide +kernel
theorem dX10_tally_34 : decode cX10_tally 34 = .ok (.getfield 28, 3) := by decide +kernel
theorem dX10_tally_37 : decode cX10_tally 37 = .ok (.iload_n 1, 1) := by decide +kernel
theorem dX10_tally_38 : decode cX10_tally 38 = .ok (.iconst 1, 1) := by decide +kernel
theorem dX10_tally_39 : decode cX10_tally 39 = .ok (.iadd, 1) := by decide +kernel
theorem dX10_tally_40 : decode cX10_tally 40 = .ok (.aload_n 0, 1) := by decide +kernel
theorem dX10_tally_41 : decode cX10_tally 41 = .ok (.getfield 28, 3) := by decide +kernel
theorem dX10_tally_44 : decode cX10_tally 44 = .ok (.iload_n 1, 1) := by decide +kernel
theorem dX10_tally_45 : decode cX10_tally 45 = .ok (.iaload, 1) := by decide +kernel
theorem dX10_tally_46 : decode cX10_tally 46 = .ok (.iload_n 2, 1) := by decide +kernel
theorem dX10_tally_47 : decode cX10_tally 47 = .ok (.ifCond .eq 7, 3) := by decide +kernel
theorem dX10_tally_50 : decode cX10_tally 50 = .ok (.iconst 1, 1) := by decide +kernel
theorem dX10_tally_51 : decode cX10_tally 51 = .ok (.goto 4, 3) := by decide +kernel
theorem dX10_tally_54 : decode cX10_tally 54 = .ok (.iconst 0, 1) := by decide +kernel
theorem dX10_tally_55 : decode cX10_tally 55 = .ok (.iadd, 1) := by decide +kernel
theorem dX10_tally_56 : decode cX10_tally 56 = .ok (.iastore, 1) := by decide +kernel
theorem dX10_tally_57 : decode cX10_tally 57 = .ok (.aload_n 0, 1) := by decide +kernel
theorem dX10_tally_58 : decode cX10_tally 58 = .ok (.getfield 31, 3) := by decide +kernel
theorem dX10_tally_61 : decode cX10_tally 61 = .ok (.iload_n 1, 1) := by decide +kernel
theorem dX10_tally_62 : decode cX10_tally 62 = .ok (.iconst 1, 1) := by decide +kernel
theorem dX10_tally_63 : decode cX10_tally 63 = .ok (.iadd, 1) := by decide +kernel
theorem dX10_tally_64 : decode cX10_tally 64 = .ok (.aload_n 0, 1) := by decide +kernel
theorem dX10_tally_65 : decode cX10_tally 65 = .ok (.getfield 31, 3) := by decide +kernel
theorem dX10_tally_68 : decode cX10_tally 68 = .ok (.iload_n 1, 1) := by decide +kernel
theorem dX10_tally_69 : decode cX10_tally 69 = .ok (.iaload, 1) := by decide +kernel
theorem dX10_tally_70 : decode cX10_tally 70 = .ok (.iload_n 2, 1) := by decide +kernel
theorem dX10_tally_71 : decode cX10_tally 71 = .ok (.ifCond .eq 12, 3) := by decide +kernel
theorem dX10_tally_74 : decode cX10_tally 74 = .ok (.aload_n 0, 1) := by decide +kernel
theorem dX10_tally_75 : decode cX10_tally 75 = .ok (.getfield 21, 3) := by decide +kernel
theorem dX10_tally_78 : decode cX10_tally 78 = .ok (.iload_n 1, 1) := by decide +kernel
theorem dX10_tally_79 : decode cX10_tally 79 = .ok (.iaload, 1) := by decide +kernel
theorem dX10_tally_80 : decode cX10_tally 80 = .ok (.goto 4, 3) := by decide +kernel
theorem dX10_tally_83 : decode cX10_tally 83 = .ok (.iconst 0, 1) := by decide +kernel
theorem dX10_tally_84 : decode cX10_tally 84 = .ok (.iadd, 1) := by decide +kernel
theorem dX10_tally_85 : decode cX10_tally 85 = .ok (.iastore, 1) := by decide +kernel
theorem dX10_tally_86 : decode cX10_tally 86 = .ok (.iinc 1 1, 3) := by decide +kernel
theorem dX10_tally_89 : decode cX10_tally 89 = .ok (.goto (-87), 3) := by decide +kernel
theorem dX10_tally_92 : decode cX10_tally 92 = .ok (.return_, 1) := by decide +kernel
theorem dX11_isBar_0 : decode cX11_isBar 0 = .ok (.iload_n 0, 1) := by decide +kernel
theorem dX11_isBar_1 : decode cX11_isBar 1 = .ok (.ldc_w 494, 3) := by decide +kernel
theorem dX11_isBar_4 : decode cX11_isBar 4 = .ok (.ldc_w 495, 3) := by decide +kernel
theorem dX11_isBar_7 : decode cX11_isBar 7 = .ok (.invokestatic 105, 3) := by decide +kernel
theorem dX11_isBar_10 : decode cX11_isBar 10 = .ok (.ireturn, 1) := by decide +kernel
theorem dX11_isColour_0 : decode cX11_isColour 0 = .ok (.iload_n 0, 1) := by decide +kernel
theorem dX11_isColour_1 : decode cX11_isColour 1 = .ok (.iconst 0, 1) := by decide +kernel
theorem dX11_isColour_2 : decode cX11_isColour 2 = .ok (.sipush 299, 3) := by decide +kernel
theorem dX11_isColour_5 : decode cX11_isColour 5 = .ok (.invokestatic 105, 3) := by decide +kernel
theorem dX11_isColour_8 : decode cX11_isColour 8 = .ok (.ireturn, 1) := by decide +kernel
theorem dX11_isGlass_0 : decode cX11_isGlass 0 = .ok (.iload_n 0, 1) := by decide +kernel
theorem dX11_isGlass_1 : decode cX11_isGlass 1 = .ok (.iconst 0, 1) := by decide +kernel
theorem dX11_isGlass_2 : decode cX11_isGlass 2 = .ok (.iconst 3, 1) := by decide +kernel
theorem dX11_isGlass_3 : decode cX11_isGlass 3 = .ok (.invokestatic 105, 3) := by decide +kernel
theorem dX11_isGlass_6 : decode cX11_isGlass 6 = .ok (.ireturn, 1) := by decide +kernel
theorem dX11_isIn_0 : decode cX11_isIn 0 = .ok (.iload_n 0, 1) := by decide +kernel
theorem dX11_isIn_1 : decode cX11_isIn 1 = .ok (.iload_n 1, 1) := by decide +kernel
theorem dX11_isIn_2 : decode cX11_isIn 2 = .ok (.if_icmp .lt 12, 3) := by decide +kernel
theorem dX11_isIn_5 : decode cX11_isIn 5 = .ok (.iload_n 0, 1) := by decide +kernel
theorem dX11_isIn_6 : decode cX11_isIn 6 = .ok (.iload_n 2, 1) := by decide +kernel
theorem dX11_isIn_7 : decode cX11_isIn 7 = .ok (.if_icmp .gt 7, 3) := by decide +kernel
theorem dX11_isIn_10 : decode cX11_isIn 10 = .ok (.iconst 1, 1) := by decide +kernel
theorem dX11_isIn_11 : decode cX11_isIn 11 = .ok (.goto 4, 3) := by decide +kernel
theorem dX11_isIn_14 : decode cX11_isIn 14 = .ok (.iconst 0, 1) := by decide +kernel
theorem dX11_isIn_15 : decode cX11_isIn 15 = .ok (.ireturn, 1) := by decide +kernel
theorem dX11_isNeed_0 : decode cX11_isNeed 0 = .ok (.iload_n 0, 1) := by decide +kernel
theorem dX11_isNeed_1 : decode cX11_isNeed 1 = .ok (.iconst 0, 1) := by decide +kernel
theorem dX11_isNeed_2 : decode cX11_isNeed 2 = .ok (.ldc_w 496, 3) := by decide +kernel
theorem dX11_isNeed_5 : decode cX11_isNeed 5 = .ok (.invokestatic 105, 3) := by decide +kernel
theorem dX11_isNeed_8 : decode cX11_isNeed 8 = .ok (.ireturn, 1) := by decide +kernel
theorem dX11_isSpan_0 : decode cX11_isSpan 0 = .ok (.iload_n 0, 1) := by decide +kernel
theorem dX11_isSpan_1 : decode cX11_isSpan 1 = .ok (.invokestatic 125, 3) := by decide +kernel
theorem dX11_isSpan_4 : decode cX11_isSpan 4 = .ok (.ifCond .eq 19, 3) := by decide +kernel
theorem dX11_isSpan_7 : decode cX11_isSpan 7 = .ok (.iload_n 1, 1) := by decide +kernel
theorem dX11_isSpan_8 : decode cX11_isSpan 8 = .ok (.invokestatic 125, 3) := by decide +kernel
theorem dX11_isSpan_11 : decode cX11_isSpan 11 = .ok (.ifCond .eq 12, 3) := by decide +kernel
theorem dX11_isSpan_14 : decode cX11_isSpan 14 = .ok (.iload_n 0, 1) := by decide +kernel
theorem dX11_isSpan_15 : decode cX11_isSpan 15 = .ok (.iload_n 1, 1) := by decide +kernel
theorem dX11_isSpan_16 : decode cX11_isSpan 16 = .ok (.if_icmp .gt 7, 3) := by decide +kernel
theorem dX11_isSpan_19 : decode cX11_isSpan 19 = .ok (.iconst 1, 1) := by decide +kernel
theorem dX11_isSpan_20 : decode cX11_isSpan 20 = .ok (.goto 4, 3) := by decide +kernel
theorem dX11_isSpan_23 : decode cX11_isSpan 23 = .ok (.iconst 0, 1) := by decide +kernel
theorem dX11_isSpan_24 : decode cX11_isSpan 24 = .ok (.ireturn, 1) := by decide +kernel
theorem dX11_isStuff_0 : decode cX11_isStuff 0 = .ok (.iload_n 0, 1) := by decide +kernel
theorem dX11_isStuff_1 : decode cX11_isStuff 1 = .ok (.iconst 0, 1) := by decide +kernel
theorem dX11_isStuff_2 : decode cX11_isStuff 2 = .ok (.bipush 11, 2) := by decide +kernel
theorem dX11_isStuff_4 : decode cX11_isStuff 4 = .ok (.invokestatic 105, 3) := by decide +kernel
theorem dX11_isStuff_7 : decode cX11_isStuff 7 = .ok (.ireturn, 1) := by decide +kernel
theorem dX11_isWeek_0 : decode cX11_isWeek 0 = .ok (.iload_n 0, 1) := by decide +kernel
theorem dX11_isWeek_1 : decode cX11_isWeek 1 = .ok (.iconst 0, 1) := by decide +kernel
theorem dX11_isWeek_2 : decode cX11_isWeek 2 = .ok (.sipush 399, 3) := by decide +kernel
theorem dX11_isWeek_5 : decode cX11_isWeek 5 = .ok (.invokestatic 105, 3) := by decide +kernel
theorem dX11_isWeek_8 : decode cX11_isWeek 8 = .ok (.ireturn, 1) := by decide +kernel
theorem dX3_gather_0 : decode cX3_gather 0 = .ok (.aload_n 0, 1) := by decide +kernel
theorem dX3_gather_1 : decode cX3_gather 1 = .ok (.getfield 9, 3) := by decide +kernel
theorem dX3_gather_4 : decode cX3_gather 4 = .ok (.lconst 0, 1) := by decide +kernel
theorem dX3_gather_5 : decode cX3_gather 5 = .ok (.invokestatic 19, 3) := by decide +kernel
theorem dX3_gather_8 : decode cX3_gather 8 = .ok (.aload_n 0, 1) := by decide +kernel
theorem dX3_gather_9 : decode cX3_gather 9 = .ok (.getfield 15, 3) := by decide +kernel
theorem dX3_gather_12 : decode cX3_gather 12 = .ok (.iconst 0, 1) := by decide +kernel
theorem dX3_gather_13 : decode cX3_gather 13 = .ok (.invokestatic 25, 3) := by decide +kernel
theorem dX3_gather_16 : decode cX3_gather 16 = .ok (.iconst 0, 1) := by decide +kernel
theorem dX3_gather_17 : decode cX3_gather 17 = .ok (.istore_n 3, 1) := by decide +kernel
theorem dX3_gather_18 : decode cX3_gather 18 = .ok (.iconst 0, 1) := by decide +kernel
theorem dX3_gather_19 : decode cX3_gather 19 = .ok (.istore 4, 2) := by decide +kernel
theorem dX3_gather_21 : decode cX3_gather 21 = .ok (.iload 4, 2) := by decide +kernel
theorem dX3_gather_23 : decode cX3_gather 23 = .ok (.sipush 300, 3) := by decide +kernel
theorem dX3_gather_26 : decode cX3_gather 26 = .ok (.if_icmp .ge 77, 3) := by decide +kernel
theorem dX3_gather_29 : decode cX3_gather 29 = .ok (.aload_n 1, 1) := by decide +kernel
theorem dX3_gather_30 : decode cX3_gather 30 = .ok (.getfield 28, 3) := by decide +kernel
theorem dX3_gather_33 : decode cX3_gather 33 = .ok (.iload 4, 2) := by decide +kernel
theorem dX3_gather_35 : decode cX3_gather 35 = .ok (.baload, 1) := by decide +kernel
theorem dX3_gather_36 : decode cX3_gather 36 = .ok (.ifCond .eq 38, 3) := by decide +kernel
theorem dX3_gather_39 : decode cX3_gather 39 = .ok (.aload_n 0, 1) := by decide +kernel
theorem dX3_gather_40 : decode cX3_gather 40 = .ok (.getfield 9, 3) := by decide +kernel
theorem dX3_gather_43 : decode cX3_gather 43 = .ok (.iload_n 3, 1) := by decide +kernel
theorem dX3_gather_44 : decode cX3_gather 44 = .ok (.dup2, 1) := by decide +kernel
theorem dX3_gather_45 : decode cX3_gather 45 = .ok (.laload, 1) := by decide +kernel
theorem dX3_gather_46 : decode cX3_gather 46 = .ok (.aload_n 1, 1) := by decide +kernel
theorem dX3_gather_47 : decode cX3_gather 47 = .ok (.getfield 34, 3) := by decide +kernel
theorem dX3_gather_50 : decode cX3_gather 50 = .ok (.iload 4, 2) := by decide +kernel
theorem dX3_gather_52 : decode cX3_gather 52 = .ok (.iaload, 1) := by decide +kernel
theorem dX3_gather_53 : decode cX3_gather 53 = .ok (.aload_n 1, 1) := by decide +kernel
theorem dX3_gather_54 : decode cX3_gather 54 = .ok (.getfield 37, 3) := by decide +kernel
theorem dX3_gather_57 : decode cX3_gather 57 = .ok (.iload 4, 2) := by decide +kernel
theorem dX3_gather_59 : decode cX3_gather 59 = .ok (.iaload, 1) := by decide +kernel
theorem dX3_gather_60 : decode cX3_gather 60 = .ok (.isub, 1) := by decide +kernel
theorem dX3_gather_61 : decode cX3_gather 61 = .ok (.i2l, 1) := by decide +kernel
theorem dX3_gather_62 : decode cX3_gather 62 = .ok (.ladd, 1) := by decide +kernel
theorem dX3_gather_63 : decode cX3_gather 63 = .ok (.lastore, 1) := by decide +kernel
theorem dX3_gather_64 : decode cX3_gather 64 = .ok (.aload_n 0, 1) := by decide +kernel
theorem dX3_gather_65 : decode cX3_gather 65 = .ok (.getfield 15, 3) := by decide +kernel
theorem dX3_gather_68 : decode cX3_gather 68 = .ok (.iload_n 3, 1) := by decide +kernel
theorem dX3_gather_69 : decode cX3_gather 69 = .ok (.dup2, 1) := by decide +kernel
theorem dX3_gather_70 : decode cX3_gather 70 = .ok (.iaload, 1) := by decide +kernel
theorem dX3_gather_71 : decode cX3_gather 71 = .ok (.iconst 1, 1) := by decide +kernel
theorem dX3_gather_72 : decode cX3_gather 72 = .ok (.iadd, 1) := by decide +kernel
theorem dX3_gather_73 : decode cX3_gather 73 = .ok (.iastore, 1) := by decide +kernel
theorem dX3_gather_74 : decode cX3_gather 74 = .ok (.iload_n 3, 1) := by decide +kernel
theorem dX3_gather_75 : decode cX3_gather 75 = .ok (.iconst 1, 1) := by decide +kernel
theorem dX3_gather_76 : decode cX3_gather 76 = .ok (.iadd, 1) := by decide +kernel
theorem dX3_gather_77 : decode cX3_gather 77 = .ok (.iload_n 2, 1) := by decide +kernel
theorem dX3_gather_78 : decode cX3_gather 78 = .ok (.if_icmp .ge 17, 3) := by decide +kernel
theorem dX3_gather_81 : decode cX3_gather 81 = .ok (.iload_n 3, 1) := by decide +kernel
theorem dX3_gather_82 : decode cX3_gather 82 = .ok (.iconst 1, 1) := by decide +kernel
theorem dX3_gather_83 : decode cX3_gather 83 = .ok (.iadd, 1) := by decide +kernel
theorem dX3_gather_84 : decode cX3_gather 84 = .ok (.bipush 99, 2) := by decide +kernel
theorem dX3_gather_86 : decode cX3_gather 86 = .ok (.if_icmp .ge 9, 3) := by decide +kernel
theorem dX3_gather_89 : decode cX3_gather 89 = .ok (.iload_n 3, 1) := by decide +kernel
theorem dX3_gather_90 : decode cX3_gather 90 = .ok (.iconst 1, 1) := by decide +kernel
theorem dX3_gather_91 : decode cX3_gather 91 = .ok (.iadd, 1) := by decide +kernel
theorem dX3_gather_92 : decode cX3_gather 92 = .ok (.goto 4, 3) := by decide +kernel
theorem dX3_gather_95 : decode cX3_gather 95 = .ok (.iconst 0, 1) := by decide +kernel
theorem dX3_gather_96 : decode cX3_gather 96 = .ok (.istore_n 3, 1) := by decide +kernel
theorem dX3_gather_97 : decode cX3_gather 97 = .ok (.iinc 4 1, 3) := by decide +kernel
theorem dX3_gather_100 : decode cX3_gather 100 = .ok (.goto (-79), 3) := by decide +kernel
theorem dX3_gather_103 : decode cX3_gather 103 = .ok (.return_, 1) := by decide +kernel
theorem dX3_meanAt_0 : decode cX3_meanAt 0 = .ok (.iload_n 1, 1) := by decide +kernel
theorem dX3_meanAt_1 : decode cX3_meanAt 1 = .ok (.ifCond .lt 22, 3) := by decide +kernel
theorem dX3_meanAt_4 : decode cX3_meanAt 4 = .ok (.iload_n 1, 1) := by decide +kernel
theorem dX3_meanAt_5 : decode cX3_meanAt 5 = .ok (.bipush 99, 2) := by decide +kernel
theorem dX3_meanAt_7 : decode cX3_meanAt 7 = .ok (.if_icmp .ge 16, 3) := by decide +kernel
theorem dX3_meanAt_10 : decode cX3_meanAt 10 = .ok (.aload_n 0, 1) := by decide +kernel
theorem dX3_meanAt_11 : decode cX3_meanAt 11 = .ok (.getfield 15, 3) := by decide +kernel
theorem dX3_meanAt_14 : decode cX3_meanAt 14 = .ok (.iload_n 1, 1) := by decide +kernel
theorem dX3_meanAt_15 : decode cX3_meanAt 15 = .ok (.iaload, 1) := by decide +kernel
theorem dX3_meanAt_16 : decode cX3_meanAt 16 = .ok (.ifCond .eq 7, 3) := by decide +kernel
theorem dX3_meanAt_19 : decode cX3_meanAt 19 = .ok (.iconst 1, 1) := by decide +kernel
theorem dX3_meanAt_20 : decode cX3_meanAt 20 = .ok (.goto 4, 3) := by decide +kernel
theorem dX3_meanAt_23 : decode cX3_meanAt 23 = .ok (.iconst 0, 1) := by decide +kernel
theorem dX3_meanAt_24 : decode cX3_meanAt 24 = .ok (.istore_n 2, 1) := by decide +kernel
theorem dX3_meanAt_25 : decode cX3_meanAt 25 = .ok (.iload_n 2, 1) := by decide +kernel
theorem dX3_meanAt_26 : decode cX3_meanAt 26 = .ok (.ifCond .eq 22, 3) := by decide +kernel
theorem dX3_meanAt_29 : decode cX3_meanAt 29 = .ok (.aload_n 0, 1) := by decide +kernel
theorem dX3_meanAt_30 : decode cX3_meanAt 30 = .ok (.getfield 9, 3) := by decide +kernel
theorem dX3_meanAt_33 : decode cX3_meanAt 33 = .ok (.iload_n 1, 1) := by decide +kernel
theorem dX3_meanAt_34 : decode cX3_meanAt 34 = .ok (.laload, 1) := by decide +kernel
theorem dX3_meanAt_35 : decode cX3_meanAt 35 = .ok (.aload_n 0, 1) := by decide +kernel
theorem dX3_meanAt_36 : decode cX3_meanAt 36 = .ok (.getfield 15, 3) := by decide +kernel
theorem dX3_meanAt_39 : decode cX3_meanAt 39 = .ok (.iload_n 1, 1) := by decide +kernel
theorem dX3_meanAt_40 : decode cX3_meanAt 40 = .ok (.iaload, 1) := by decide +kernel
theorem dX3_meanAt_41 : decode cX3_meanAt 41 = .ok (.i2l, 1) := by decide +kernel
theorem dX3_meanAt_42 : decode cX3_meanAt 42 = .ok (.invokestatic 48, 3) := by decide +kernel
theorem dX3_meanAt_45 : decode cX3_meanAt 45 = .ok (.goto 4, 3) := by decide +kernel
theorem dX3_meanAt_48 : decode cX3_meanAt 48 = .ok (.lconst 0, 1) := by decide +kernel
theorem dX3_meanAt_49 : decode cX3_meanAt 49 = .ok (.lreturn, 1) := by decide +kernel
theorem dX4_add_0 : decode cX4_add 0 = .ok (.aload_n 0, 1) := by decide +kernel
theorem dX4_add_1 : decode cX4_add 1 = .ok (.getfield 26, 3) := by decide +kernel
theorem dX4_add_4 : decode cX4_add 4 = .ok (.bipush 24, 2) := by decide +kernel
theorem dX4_add_6 : decode cX4_add 6 = .ok (.if_icmp .lt 5, 3) := by decide +kernel
theorem dX4_add_9 : decode cX4_add 9 = .ok (.iconst (-1), 1) := by decide +kernel
theorem dX4_add_10 : decode cX4_add 10 = .ok (.ireturn, 1) := by decide +kernel
theorem dX4_add_11 : decode cX4_add 11 = .ok (.aload_n 0, 1) := by decide +kernel
theorem dX4_add_12 : decode cX4_add 12 = .ok (.getfield 9, 3) := by decide +kernel
theorem dX4_add_15 : decode cX4_add 15 = .ok (.aload_n 0, 1) := by decide +kernel
theorem dX4_add_16 : decode cX4_add 16 = .ok (.getfield 26, 3) := by decide +kernel
theorem dX4_add_19 : decode cX4_add 19 = .ok (.iload_n 1, 1) := by decide +kernel
theorem dX4_add_20 : decode cX4_add 20 = .ok (.iastore, 1) := by decide +kernel
theorem dX4_add_21 : decode cX4_add 21 = .ok (.aload_n 0, 1) := by decide +kernel
theorem dX4_add_22 : decode cX4_add 22 = .ok (.getfield 15, 3) := by decide +kernel
theorem dX4_add_25 : decode cX4_add 25 = .ok (.aload_n 0, 1) := by decide +kernel
theorem dX4_add_26 : decode cX4_add 26 = .ok (.getfield 26, 3) := by decide +kernel
theorem dX4_add_29 : decode cX4_add 29 = .ok (.iload_n 2, 1) := by decide +kernel
theorem dX4_add_30 : decode cX4_add 30 = .ok (.iastore, 1) := by decide +kernel
theorem dX4_add_31 : decode cX4_add 31 = .ok (.aload_n 0, 1) := by decide +kernel
theorem dX4_add_32 : decode cX4_add 32 = .ok (.getfield 18, 3) := by decide +kernel
theorem dX4_add_35 : decode cX4_add 35 = .ok (.aload_n 0, 1) := by decide +kernel
theorem dX4_add_36 : decode cX4_add 36 = .ok (.getfield 26, 3) := by decide +kernel
theorem dX4_add_39 : decode cX4_add 39 = .ok (.iload_n 3, 1) := by decide +kernel
theorem dX4_add_40 : decode cX4_add 40 = .ok (.iastore, 1) := by decide +kernel
theorem dX4_add_41 : decode cX4_add 41 = .ok (.aload_n 0, 1) := by decide +kernel
theorem dX4_add_42 : decode cX4_add 42 = .ok (.getfield 23, 3) := by decide +kernel
theorem dX4_add_45 : decode cX4_add 45 = .ok (.aload_n 0, 1) := by decide +kernel
theorem dX4_add_46 : decode cX4_add 46 = .ok (.getfield 26, 3) := by decide +kernel
theorem dX4_add_49 : decode cX4_add 49 = .ok (.aaload, 1) := by decide +kernel
theorem dX4_add_50 : decode cX4_add 50 = .ok (.ldc 30, 2) := by decide +kernel
theorem dX4_add_52 : decode cX4_add 52 = .ok (.invokestatic 31, 3) := by decide +kernel
theorem dX4_add_55 : decode cX4_add 55 = .ok (.aload_n 0, 1) := by decide +kernel
theorem dX4_add_56 : decode cX4_add 56 = .ok (.dup, 1) := by decide +kernel
theorem dX4_add_57 : decode cX4_add 57 = .ok (.getfield 26, 3) := by decide +kernel
theorem dX4_add_60 : decode cX4_add 60 = .ok (.iconst 1, 1) := by decide +kernel
theorem dX4_add_61 : decode cX4_add 61 = .ok (.iadd, 1) := by decide +kernel
theorem dX4_add_62 : decode cX4_add 62 = .ok (.putfield 26, 3) := by decide +kernel
theorem dX4_add_65 : decode cX4_add 65 = .ok (.aload_n 0, 1) := by decide +kernel
theorem dX4_add_66 : decode cX4_add 66 = .ok (.getfield 26, 3) := by decide +kernel
theorem dX4_add_69 : decode cX4_add 69 = .ok (.iconst 1, 1) := by decide +kernel
theorem dX4_add_70 : decode cX4_add 70 = .ok (.isub, 1) := by decide +kernel
theorem dX4_add_71 : decode cX4_add 71 = .ok (.ireturn, 1) := by decide +kernel
theorem dX4_has_0 : decode cX4_has 0 = .ok (.iload_n 1, 1) := by decide +kernel
theorem dX4_has_1 : decode cX4_has 1 = .ok (.ifCond .lt 15, 3) := by decide +kernel
theorem dX4_has_4 : decode cX4_has 4 = .ok (.iload_n 1, 1) := by decide +kernel
theorem dX4_has_5 : decode cX4_has 5 = .ok (.aload_n 0, 1) := by decide +kernel
theorem dX4_has_6 : decode cX4_has 6 = .ok (.getfield 26, 3) := by decide +kernel
theorem dX4_has_9 : decode cX4_has 9 = .ok (.if_icmp .ge 7, 3) := by decide +kernel
theorem dX4_has_12 : decode cX4_has 12 = .ok (.iconst 1, 1) := by decide +kernel
theorem dX4_has_13 : decode cX4_has 13 = .ok (.goto 4, 3) := by decide +kernel
theorem dX4_has_16 : decode cX4_has 16 = .ok (.iconst 0, 1) := by decide +kernel
theorem dX4_has_17 : decode cX4_has 17 = .ok (.ireturn, 1) := by decide +kernel
theorem dX4_put_0 : decode cX4_put 0 = .ok (.aload_n 0, 1) := by decide +kernel
theorem dX4_put_1 : decode cX4_put 1 = .ok (.iload_n 1, 1) := by decide +kernel
theorem dX4_put_2 : decode cX4_put 2 = .ok (.invokevirtual 37, 3) := by decide +kernel
theorem dX4_put_5 : decode cX4_put 5 = .ok (.ifCond .eq 10, 3) := by decide +kernel
theorem dX4_put_8 : decode cX4_put 8 = .ok (.iload_n 2, 1) := by decide +kernel
theorem dX4_put_9 : decode cX4_put 9 = .ok (.invokestatic 41, 3) := by decide +kernel
theorem dX4_put_12 : decode cX4_put 12 = .ok (.ifCond .ne 6, 3) := by decide +kernel
theorem dX4_put_15 : decode cX4_put 15 = .ok (.ldc 30, 2) := by decide +kernel
theorem dX4_put_17 : decode cX4_put 17 = .ok (.ireturn, 1) := by decide +kernel
theorem dX4_put_18 : decode cX4_put 18 = .ok (.aload_n 0, 1) := by decide +kernel
theorem dX4_put_19 : decode cX4_put 19 = .ok (.getfield 23, 3) := by decide +kernel
theorem dX4_put_22 : decode cX4_put 22 = .ok (.iload_n 1, 1) := by decide +kernel
theorem dX4_put_23 : decode cX4_put 23 = .ok (.aaload, 1) := by decide +kernel
theorem dX4_put_24 : decode cX4_put 24 = .ok (.iload_n 2, 1) := by decide +kernel
theorem dX4_put_25 : decode cX4_put 25 = .ok (.iaload, 1) := by decide +kernel
theorem dX4_put_26 : decode cX4_put 26 = .ok (.istore 4, 2) := by decide +kernel
theorem dX4_put_28 : decode cX4_put 28 = .ok (.aload_n 0, 1) := by decide +kernel
theorem dX4_put_29 : decode cX4_put 29 = .ok (.getfield 23, 3) := by decide +kernel
theorem dX4_put_32 : decode cX4_put 32 = .ok (.iload_n 1, 1) := by decide +kernel
theorem dX4_put_33 : decode cX4_put 33 = .ok (.aaload, 1) := by decide +kernel
theorem dX4_put_34 : decode cX4_put 34 = .ok (.iload_n 2, 1) := by decide +kernel
theorem dX4_put_35 : decode cX4_put 35 = .ok (.iload_n 3, 1) := by decide +kernel
theorem dX4_put_36 : decode cX4_put 36 = .ok (.iastore, 1) := by decide +kernel
theorem dX4_put_37 : decode cX4_put 37 = .ok (.aload_n 0, 1) := by decide +kernel
theorem dX4_put_38 : decode cX4_put 38 = .ok (.dup, 1) := by decide +kernel
theorem dX4_put_39 : decode cX4_put 39 = .ok (.getfield 44, 3) := by decide +kernel
theorem dX4_put_42 : decode cX4_put 42 = .ok (.iload_n 3, 1) := by decide +kernel
theorem dX4_put_43 : decode cX4_put 43 = .ok (.ldc 30, 2) := by decide +kernel
theorem dX4_put_45 : decode cX4_put 45 = .ok (.if_icmp .ne 7, 3) := by decide +kernel
theorem dX4_put_48 : decode cX4_put 48 = .ok (.iconst 0, 1) := by decide +kernel
theorem dX4_put_49 : decode cX4_put 49 = .ok (.goto 4, 3) := by decide +kernel
theorem dX4_put_52 : decode cX4_put 52 = .ok (.iconst 1, 1) := by decide +kernel
theorem dX4_put_53 : decode cX4_put 53 = .ok (.iload 4, 2) := by decide +kernel
theorem dX4_put_55 : decode cX4_put 55 = .ok (.ldc 30, 2) := by decide +kernel
theorem dX4_put_57 : decode cX4_put 57 = .ok (.if_icmp .ne 7, 3) := by decide +kernel
theorem dX4_put_60 : decode cX4_put 60 = .ok (.iconst 0, 1) := by decide +kernel
theorem dX4_put_61 : decode cX4_put 61 = .ok (.goto 4, 3) := by decide +kernel
theorem dX4_put_64 : decode cX4_put 64 = .ok (.iconst 1, 1) := by decide +kernel
theorem dX4_put_65 : decode cX4_put 65 = .ok (.isub, 1) := by decide +kernel
theorem dX4_put_66 : decode cX4_put 66 = .ok (.iadd, 1) := by decide +kernel
theorem dX4_put_67 : decode cX4_put 67 = .ok (.putfield 44, 3) := by decide +kernel
theorem dX4_put_70 : decode cX4_put 70 = .ok (.iload 4, 2) := by decide +kernel
theorem dX4_put_72 : decode cX4_put 72 = .ok (.ireturn, 1) := by decide +kernel
theorem dX5_holds_0 : decode cX5_holds 0 = .ok (.aload_n 1, 1) := by decide +kernel
theorem dX5_holds_1 : decode cX5_holds 1 = .ok (.getfield 40, 3) := by decide +kernel
theorem dX5_holds_4 : decode cX5_holds 4 = .ok (.iload_n 2, 1) := by decide +kernel
theorem dX5_holds_5 : decode cX5_holds 5 = .ok (.iaload, 1) := by decide +kernel
theorem dX5_holds_6 : decode cX5_holds 6 = .ok (.istore_n 3, 1) := by decide +kernel
theorem dX5_holds_7 : decode cX5_holds 7 = .ok (.aload_n 1, 1) := by decide +kernel
theorem dX5_holds_8 : decode cX5_holds 8 = .ok (.getfield 45, 3) := by decide +kernel
theorem dX5_holds_11 : decode cX5_holds 11 = .ok (.iload_n 2, 1) := by decide +kernel
theorem dX5_holds_12 : decode cX5_holds 12 = .ok (.iaload, 1) := by decide +kernel
theorem dX5_holds_13 : decode cX5_holds 13 = .ok (.istore 4, 2) := by decide +kernel
theorem dX5_holds_15 : decode cX5_holds 15 = .ok (.iload_n 3, 1) := by decide +kernel
theorem dX5_holds_16 : decode cX5_holds 16 = .ok (.iload 4, 2) := by decide +kernel
theorem dX5_holds_18 : decode cX5_holds 18 = .ok (.if_icmp .ge 16, 3) := by decide +kernel
theorem dX5_holds_21 : decode cX5_holds 21 = .ok (.aload_n 0, 1) := by decide +kernel
theorem dX5_holds_22 : decode cX5_holds 22 = .ok (.aload_n 1, 1) := by decide +kernel
theorem dX5_holds_23 : decode cX5_holds 23 = .ok (.iload_n 3, 1) := by decide +kernel
theorem dX5_holds_24 : decode cX5_holds 24 = .ok (.iload 4, 2) := by decide +kernel
theorem dX5_holds_26 : decode cX5_holds 26 = .ok (.invokevirtual 48, 3) := by decide +kernel
theorem dX5_holds_29 : decode cX5_holds 29 = .ok (.lconst 0, 1) := by decide +kernel
theorem dX5_holds_30 : decode cX5_holds 30 = .ok (.lcmp, 1) := by decide +kernel
theorem dX5_holds_31 : decode cX5_holds 31 = .ok (.ifCond .eq 7, 3) := by decide +kernel
theorem dX5_holds_34 : decode cX5_holds 34 = .ok (.iconst 1, 1) := by decide +kernel
theorem dX5_holds_35 : decode cX5_holds 35 = .ok (.goto 4, 3) := by decide +kernel
theorem dX5_holds_38 : decode cX5_holds 38 = .ok (.iconst 0, 1) := by decide +kernel
theorem dX5_holds_39 : decode cX5_holds 39 = .ok (.ireturn, 1) := by decide +kernel
theorem dX5_joined_0 : decode cX5_joined 0 = .ok (.iload_n 0, 1) := by decide +kernel
theorem dX5_joined_1 : decode cX5_joined 1 = .ok (.tableswitch 145 4 13 #[55, 59, 63, 67, 81, 93, 105, 117, 129, 141], 55) := by decide +kernel
theorem dX5_joined_56 : decode cX5_joined 56 = .ok (.lload_n 1, 1) := by decide +kernel
theorem dX5_joined_57 : decode cX5_joined 57 = .ok (.lload_n 3, 1) := by decide +kernel
theorem dX5_joined_58 : decode cX5_joined 58 = .ok (.ladd, 1) := by decide +kernel
theorem dX5_joined_59 : decode cX5_joined 59 = .ok (.lreturn, 1) := by decide +kernel
theorem dX5_joined_60 : decode cX5_joined 60 = .ok (.lload_n 1, 1) := by decide +kernel
theorem dX5_joined_61 : decode cX5_joined 61 = .ok (.lload_n 3, 1) := by decide +kernel
theorem dX5_joined_62 : decode cX5_joined 62 = .ok (.lsub, 1) := by decide +kernel
theorem dX5_joined_63 : decode cX5_joined 63 = .ok (.lreturn, 1) := by decide +kernel
theorem dX5_joined_64 : decode cX5_joined 64 = .ok (.lload_n 1, 1) := by decide +kernel
theorem dX5_joined_65 : decode cX5_joined 65 = .ok (.lload_n 3, 1) := by decide +kernel
theorem dX5_joined_66 : decode cX5_joined 66 = .ok (.lmul, 1) := by decide +kernel
theorem dX5_joined_67 : decode cX5_joined 67 = .ok (.lreturn, 1) := by decide +kernel
theorem dX5_joined_68 : decode cX5_joined 68 = .ok (.lload_n 3, 1) := by decide +kernel
theorem dX5_joined_69 : decode cX5_joined 69 = .ok (.lconst 0, 1) := by decide +kernel
theorem dX5_joined_70 : decode cX5_joined 70 = .ok (.lcmp, 1) := by decide +kernel
theorem dX5_joined_71 : decode cX5_joined 71 = .ok (.ifCond .ne 7, 3) := by decide +kernel
theorem dX5_joined_74 : decode cX5_joined 74 = .ok (.lconst 0, 1) := by decide +kernel
theorem dX5_joined_75 : decode cX5_joined 75 = .ok (.goto 6, 3) := by decide +kernel
theorem dX5_joined_78 : decode cX5_joined 78 = .ok (.lload_n 1, 1) := by decide +kernel
theorem dX5_joined_79 : decode cX5_joined 79 = .ok (.lload_n 3, 1) := by decide +kernel
theorem dX5_joined_80 : decode cX5_joined 80 = .ok (.ldiv, 1) := by decide +kernel
theorem dX5_joined_81 : decode cX5_joined 81 = .ok (.lreturn, 1) := by decide +kernel
theorem dX5_joined_82 : decode cX5_joined 82 = .ok (.lload_n 1, 1) := by decide +kernel
theorem dX5_joined_83 : decode cX5_joined 83 = .ok (.lload_n 3, 1) := by decide +kernel
theorem dX5_joined_84 : decode cX5_joined 84 = .ok (.lcmp, 1) := by decide +kernel
theorem dX5_joined_85 : decode cX5_joined 85 = .ok (.ifCond .ge 7, 3) := by decide +kernel
theorem dX5_joined_88 : decode cX5_joined 88 = .ok (.lconst 1, 1) := by decide +kernel
theorem dX5_joined_89 : decode cX5_joined 89 = .ok (.goto 4, 3) := by decide +kernel
theorem dX5_joined_92 : decode cX5_joined 92 = .ok (.lconst 0, 1) := by decide +kernel
theorem dX5_joined_93 : decode cX5_joined 93 = .ok (.lreturn, 1) := by decide +kernel
theorem dX5_joined_94 : decode cX5_joined 94 = .ok (.lload_n 1, 1) := by decide +kernel
theorem dX5_joined_95 : decode cX5_joined 95 = .ok (.lload_n 3, 1) := by decide +kernel
theorem dX5_joined_96 : decode cX5_joined 96 = .ok (.lcmp, 1) := by decide +kernel
theorem dX5_joined_97 : decode cX5_joined 97 = .ok (.ifCond .gt 7, 3) := by decide +kernel
theorem dX5_joined_100 : decode cX5_joined 100 = .ok (.lconst 1, 1) := by decide +kernel
theorem dX5_joined_101 : decode cX5_joined 101 = .ok (.goto 4, 3) := by decide +kernel
theorem dX5_joined_104 : decode cX5_joined 104 = .ok (.lconst 0, 1) := by decide +kernel
theorem dX5_joined_105 : decode cX5_joined 105 = .ok (.lreturn, 1) := by decide +kernel
theorem dX5_joined_106 : decode cX5_joined 106 = .ok (.lload_n 1, 1) := by decide +kernel
theorem dX5_joined_107 : decode cX5_joined 107 = .ok (.lload_n 3, 1) := by decide +kernel
theorem dX5_joined_108 : decode cX5_joined 108 = .ok (.lcmp, 1) := by decide +kernel
theorem dX5_joined_109 : decode cX5_joined 109 = .ok (.ifCond .ne 7, 3) := by decide +kernel
theorem dX5_joined_112 : decode cX5_joined 112 = .ok (.lconst 1, 1) := by decide +kernel
theorem dX5_joined_113 : decode cX5_joined 113 = .ok (.goto 4, 3) := by decide +kernel
theorem dX5_joined_116 : decode cX5_joined 116 = .ok (.lconst 0, 1) := by decide +kernel
theorem dX5_joined_117 : decode cX5_joined 117 = .ok (.lreturn, 1) := by decide +kernel
theorem dX5_joined_118 : decode cX5_joined 118 = .ok (.lload_n 1, 1) := by decide +kernel
theorem dX5_joined_119 : decode cX5_joined 119 = .ok (.lload_n 3, 1) := by decide +kernel
theorem dX5_joined_120 : decode cX5_joined 120 = .ok (.lcmp, 1) := by decide +kernel
theorem dX5_joined_121 : decode cX5_joined 121 = .ok (.ifCond .lt 7, 3) := by decide +kernel
theorem dX5_joined_124 : decode cX5_joined 124 = .ok (.lconst 1, 1) := by decide +kernel
theorem dX5_joined_125 : decode cX5_joined 125 = .ok (.goto 4, 3) := by decide +kernel
theorem dX5_joined_128 : decode cX5_joined 128 = .ok (.lconst 0, 1) := by decide +kernel
theorem dX5_joined_129 : decode cX5_joined 129 = .ok (.lreturn, 1) := by decide +kernel
theorem dX5_joined_130 : decode cX5_joined 130 = .ok (.lload_n 1, 1) := by decide +kernel
theorem dX5_joined_131 : decode cX5_joined 131 = .ok (.lload_n 3, 1) := by decide +kernel
theorem dX5_joined_132 : decode cX5_joined 132 = .ok (.lcmp, 1) := by decide +kernel
theorem dX5_joined_133 : decode cX5_joined 133 = .ok (.ifCond .le 7, 3) := by decide +kernel
theorem dX5_joined_136 : decode cX5_joined 136 = .ok (.lconst 1, 1) := by decide +kernel
theorem dX5_joined_137 : decode cX5_joined 137 = .ok (.goto 4, 3) := by decide +kernel
theorem dX5_joined_140 : decode cX5_joined 140 = .ok (.lconst 0, 1) := by decide +kernel
theorem dX5_joined_141 : decode cX5_joined 141 = .ok (.lreturn, 1) := by decide +kernel
theorem dX5_joined_142 : decode cX5_joined 142 = .ok (.lload_n 1, 1) := by decide +kernel
theorem dX5_joined_143 : decode cX5_joined 143 = .ok (.lload_n 3, 1) := by decide +kernel
theorem dX5_joined_144 : decode cX5_joined 144 = .ok (.land, 1) := by decide +kernel
theorem dX5_joined_145 : decode cX5_joined 145 = .ok (.lreturn, 1) := by decide +kernel
theorem dX5_joined_146 : decode cX5_joined 146 = .ok (.lload_n 1, 1) := by decide +kernel
theorem dX5_joined_147 : decode cX5_joined 147 = .ok (.lload_n 3, 1) := by decide +kernel
theorem dX5_joined_148 : decode cX5_joined 148 = .ok (.lor, 1) := by decide +kernel
theorem dX5_joined_149 : decode cX5_joined 149 = .ok (.lreturn, 1) := by decide +kernel
theorem dX5_setColour_0 : decode cX5_setColour 0 = .ok (.aload_n 0, 1) := by decide +kernel
theorem dX5_setColour_1 : decode cX5_setColour 1 = .ok (.getfield 9, 3) := by decide +kernel
theorem dX5_setColour_4 : decode cX5_setColour 4 = .ok (.iconst 0, 1) := by decide +kernel
theorem dX5_setColour_5 : decode cX5_setColour 5 = .ok (.iload_n 1, 1) := by decide +kernel
theorem dX5_setColour_6 : decode cX5_setColour 6 = .ok (.i2l, 1) := by decide +kernel
theorem dX5_setColour_7 : decode cX5_setColour 7 = .ok (.lastore, 1) := by decide +kernel
theorem dX5_setColour_8 : decode cX5_setColour 8 = .ok (.return_, 1) := by decide +kernel
theorem dX5_setRow_0 : decode cX5_setRow 0 = .ok (.aload_n 1, 1) := by decide +kernel
theorem dX5_setRow_1 : decode cX5_setRow 1 = .ok (.iload_n 2, 1) := by decide +kernel
theorem dX5_setRow_2 : decode cX5_setRow 2 = .ok (.invokevirtual 18, 3) := by decide +kernel
theorem dX5_setRow_5 : decode cX5_setRow 5 = .ok (.ifCond .eq 37, 3) := by decide +kernel
theorem dX5_setRow_8 : decode cX5_setRow 8 = .ok (.aload_n 0, 1) := by decide +kernel
theorem dX5_setRow_9 : decode cX5_setRow 9 = .ok (.getfield 9, 3) := by decide +kernel
theorem dX5_setRow_12 : decode cX5_setRow 12 = .ok (.iconst 1, 1) := by decide +kernel
theorem dX5_setRow_13 : decode cX5_setRow 13 = .ok (.aload_n 1, 1) := by decide +kernel
theorem dX5_setRow_14 : decode cX5_setRow 14 = .ok (.getfield 24, 3) := by decide +kernel
theorem dX5_setRow_17 : decode cX5_setRow 17 = .ok (.iload_n 2, 1) := by decide +kernel
theorem dX5_setRow_18 : decode cX5_setRow 18 = .ok (.iaload, 1) := by decide +kernel
theorem dX5_setRow_19 : decode cX5_setRow 19 = .ok (.i2l, 1) := by decide +kernel
theorem dX5_setRow_20 : decode cX5_setRow 20 = .ok (.lastore, 1) := by decide +kernel
theorem dX5_setRow_21 : decode cX5_setRow 21 = .ok (.aload_n 0, 1) := by decide +kernel
theorem dX5_setRow_22 : decode cX5_setRow 22 = .ok (.getfield 9, 3) := by decide +kernel
theorem dX5_setRow_25 : decode cX5_setRow 25 = .ok (.iconst 2, 1) := by decide +kernel
theorem dX5_setRow_26 : decode cX5_setRow 26 = .ok (.aload_n 1, 1) := by decide +kernel
theorem dX5_setRow_27 : decode cX5_setRow 27 = .ok (.getfield 28, 3) := by decide +kernel
theorem dX5_setRow_30 : decode cX5_setRow 30 = .ok (.iload_n 2, 1) := by decide +kernel
theorem dX5_setRow_31 : decode cX5_setRow 31 = .ok (.iaload, 1) := by decide +kernel
theorem dX5_setRow_32 : decode cX5_setRow 32 = .ok (.i2l, 1) := by decide +kernel
theorem dX5_setRow_33 : decode cX5_setRow 33 = .ok (.lastore, 1) := by decide +kernel
theorem dX5_setRow_34 : decode cX5_setRow 34 = .ok (.aload_n 0, 1) := by decide +kernel
theorem dX5_setRow_35 : decode cX5_setRow 35 = .ok (.getfield 9, 3) := by decide +kernel
theorem dX5_setRow_38 : decode cX5_setRow 38 = .ok (.iconst 3, 1) := by decide +kernel
theorem dX5_setRow_39 : decode cX5_setRow 39 = .ok (.iload_n 2, 1) := by decide +kernel
theorem dX5_setRow_40 : decode cX5_setRow 40 = .ok (.i2l, 1) := by decide +kernel
theorem dX5_setRow_41 : decode cX5_setRow 41 = .ok (.lastore, 1) := by decide +kernel
theorem dX5_setRow_42 : decode cX5_setRow 42 = .ok (.return_, 1) := by decide +kernel
theorem dX5_setWeather_0 : decode cX5_setWeather 0 = .ok (.iconst 0, 1) := by decide +kernel
theorem dX5_setWeather_1 : decode cX5_setWeather 1 = .ok (.istore_n 2, 1) := by decide +kernel
theorem dX5_setWeather_2 : decode cX5_setWeather 2 = .ok (.iload_n 2, 1) := by decide +kernel
theorem dX5_setWeather_3 : decode cX5_setWeather 3 = .ok (.aload_n 1, 1) := by decide +kernel
theorem dX5_setWeather_4 : decode cX5_setWeather 4 = .ok (.getfield 31, 3) := by decide +kernel
theorem dX5_setWeather_7 : decode cX5_setWeather 7 = .ok (.arraylength, 1) := by decide +kernel
theorem dX5_setWeather_8 : decode cX5_setWeather 8 = .ok (.if_icmp .ge 31, 3) := by decide +kernel
theorem dX5_setWeather_11 : decode cX5_setWeather 11 = .ok (.iload_n 2, 1) := by decide +kernel
theorem dX5_setWeather_12 : decode cX5_setWeather 12 = .ok (.aload_n 0, 1) := by decide +kernel
theorem dX5_setWeather_13 : decode cX5_setWeather 13 = .ok (.getfield 9, 3) := by decide +kernel
theorem dX5_setWeather_16 : decode cX5_setWeather 16 = .ok (.arraylength, 1) := by decide +kernel
theorem dX5_setWeather_17 : decode cX5_setWeather 17 = .ok (.if_icmp .ge 22, 3) := by decide +kernel
theorem dX5_setWeather_20 : decode cX5_setWeather 20 = .ok (.aload_n 0, 1) := by decide +kernel
theorem dX5_setWeather_21 : decode cX5_setWeather 21 = .ok (.getfield 9, 3) := by decide +kernel
theorem dX5_setWeather_24 : decode cX5_setWeather 24 = .ok (.iload_n 2, 1) := by decide +kernel
theorem dX5_setWeather_25 : decode cX5_setWeather 25 = .ok (.aload_n 1, 1) := by decide +kernel
theorem dX5_setWeather_26 : decode cX5_setWeather 26 = .ok (.getfield 31, 3) := by decide +kernel
theorem dX5_setWeather_29 : decode cX5_setWeather 29 = .ok (.iload_n 2, 1) := by decide +kernel
theorem dX5_setWeather_30 : decode cX5_setWeather 30 = .ok (.iaload, 1) := by decide +kernel
theorem dX5_setWeather_31 : decode cX5_setWeather 31 = .ok (.i2l, 1) := by decide +kernel
theorem dX5_setWeather_32 : decode cX5_setWeather 32 = .ok (.lastore, 1) := by decide +kernel
theorem dX5_setWeather_33 : decode cX5_setWeather 33 = .ok (.iinc 2 1, 3) := by decide +kernel
theorem dX5_setWeather_36 : decode cX5_setWeather 36 = .ok (.goto (-34), 3) := by decide +kernel
theorem dX5_setWeather_39 : decode cX5_setWeather 39 = .ok (.aload_n 0, 1) := by decide +kernel
theorem dX5_setWeather_40 : decode cX5_setWeather 40 = .ok (.getfield 9, 3) := by decide +kernel
theorem dX5_setWeather_43 : decode cX5_setWeather 43 = .ok (.iconst 4, 1) := by decide +kernel
theorem dX5_setWeather_44 : decode cX5_setWeather 44 = .ok (.aload_n 1, 1) := by decide +kernel
theorem dX5_setWeather_45 : decode cX5_setWeather 45 = .ok (.getfield 36, 3) := by decide +kernel
theorem dX5_setWeather_48 : decode cX5_setWeather 48 = .ok (.i2l, 1) := by decide +kernel
theorem dX5_setWeather_49 : decode cX5_setWeather 49 = .ok (.lastore, 1) := by decide +kernel
theorem dX5_setWeather_50 : decode cX5_setWeather 50 = .ok (.return_, 1) := by decide +kernel
theorem dX5_sumOf_0 : decode cX5_sumOf 0 = .ok (.aload_n 0, 1) := by decide +kernel
theorem dX5_sumOf_1 : decode cX5_sumOf 1 = .ok (.aload_n 1, 1) := by decide +kernel
theorem dX5_sumOf_2 : decode cX5_sumOf 2 = .ok (.aload_n 1, 1) := by decide +kernel
theorem dX5_sumOf_3 : decode cX5_sumOf 3 = .ok (.getfield 52, 3) := by decide +kernel
theorem dX5_sumOf_6 : decode cX5_sumOf 6 = .ok (.iload_n 2, 1) := by decide +kernel
theorem dX5_sumOf_7 : decode cX5_sumOf 7 = .ok (.iaload, 1) := by decide +kernel
theorem dX5_sumOf_8 : decode cX5_sumOf 8 = .ok (.aload_n 1, 1) := by decide +kernel
theorem dX5_sumOf_9 : decode cX5_sumOf 9 = .ok (.getfield 40, 3) := by decide +kernel
theorem dX5_sumOf_12 : decode cX5_sumOf 12 = .ok (.iload_n 2, 1) := by decide +kernel
theorem dX5_sumOf_13 : decode cX5_sumOf 13 = .ok (.iaload, 1) := by decide +kernel
theorem dX5_sumOf_14 : decode cX5_sumOf 14 = .ok (.invokevirtual 48, 3) := by decide +kernel
theorem dX5_sumOf_17 : decode cX5_sumOf 17 = .ok (.lreturn, 1) := by decide +kernel
theorem dX5_wordAt_0 : decode cX5_wordAt 0 = .ok (.iload_n 1, 1) := by decide +kernel
theorem dX5_wordAt_1 : decode cX5_wordAt 1 = .ok (.ifCond .lt 21, 3) := by decide +kernel
theorem dX5_wordAt_4 : decode cX5_wordAt 4 = .ok (.iload_n 1, 1) := by decide +kernel
theorem dX5_wordAt_5 : decode cX5_wordAt 5 = .ok (.aload_n 0, 1) := by decide +kernel
theorem dX5_wordAt_6 : decode cX5_wordAt 6 = .ok (.getfield 9, 3) := by decide +kernel
theorem dX5_wordAt_9 : decode cX5_wordAt 9 = .ok (.arraylength, 1) := by decide +kernel
theorem dX5_wordAt_10 : decode cX5_wordAt 10 = .ok (.if_icmp .ge 12, 3) := by decide +kernel
theorem dX5_wordAt_13 : decode cX5_wordAt 13 = .ok (.aload_n 0, 1) := by decide +kernel
theorem dX5_wordAt_14 : decode cX5_wordAt 14 = .ok (.getfield 9, 3) := by decide +kernel
theorem dX5_wordAt_17 : decode cX5_wordAt 17 = .ok (.iload_n 1, 1) := by decide +kernel
theorem dX5_wordAt_18 : decode cX5_wordAt 18 = .ok (.laload, 1) := by decide +kernel
theorem dX5_wordAt_19 : decode cX5_wordAt 19 = .ok (.goto 4, 3) := by decide +kernel
theorem dX5_wordAt_22 : decode cX5_wordAt 22 = .ok (.lconst 0, 1) := by decide +kernel
theorem dX5_wordAt_23 : decode cX5_wordAt 23 = .ok (.lreturn, 1) := by decide +kernel
theorem dX5_worked_0 : decode cX5_worked 0 = .ok (.iconst 0, 1) := by decide +kernel
theorem dX5_worked_1 : decode cX5_worked 1 = .ok (.istore 4, 2) := by decide +kernel
theorem dX5_worked_3 : decode cX5_worked 3 = .ok (.iconst 0, 1) := by decide +kernel
theorem dX5_worked_4 : decode cX5_worked 4 = .ok (.iload_n 2, 1) := by decide +kernel
theorem dX5_worked_5 : decode cX5_worked 5 = .ok (.invokestatic 55, 3) := by decide +kernel
theorem dX5_worked_8 : decode cX5_worked 8 = .ok (.istore 5, 2) := by decide +kernel
theorem dX5_worked_10 : decode cX5_worked 10 = .ok (.iload 5, 2) := by decide +kernel
theorem dX5_worked_12 : decode cX5_worked 12 = .ok (.iload_n 3, 1) := by decide +kernel
theorem dX5_worked_13 : decode cX5_worked 13 = .ok (.if_icmp .ge 169, 3) := by decide +kernel
theorem dX5_worked_16 : decode cX5_worked 16 = .ok (.iload 5, 2) := by decide +kernel
theorem dX5_worked_18 : decode cX5_worked 18 = .ok (.aload_n 1, 1) := by decide +kernel
theorem dX5_worked_19 : decode cX5_worked 19 = .ok (.getfield 61, 3) := by decide +kernel
theorem dX5_worked_22 : decode cX5_worked 22 = .ok (.arraylength, 1) := by decide +kernel
theorem dX5_worked_23 : decode cX5_worked 23 = .ok (.if_icmp .ge 159, 3) := by decide +kernel
theorem dX5_worked_26 : decode cX5_worked 26 = .ok (.aload_n 1, 1) := by decide +kernel
theorem dX5_worked_27 : decode cX5_worked 27 = .ok (.getfield 61, 3) := by decide +kernel
theorem dX5_worked_30 : decode cX5_worked 30 = .ok (.iload 5, 2) := by decide +kernel
theorem dX5_worked_32 : decode cX5_worked 32 = .ok (.iaload, 1) := by decide +kernel
theorem dX5_worked_33 : decode cX5_worked 33 = .ok (.bipush 15, 2) := by decide +kernel
theorem dX5_worked_35 : decode cX5_worked 35 = .ok (.iand, 1) := by decide +kernel
theorem dX5_worked_36 : decode cX5_worked 36 = .ok (.istore 6, 2) := by decide +kernel
theorem dX5_worked_38 : decode cX5_worked 38 = .ok (.aload_n 1, 1) := by decide +kernel
theorem dX5_worked_39 : decode cX5_worked 39 = .ok (.getfield 61, 3) := by decide +kernel
theorem dX5_worked_42 : decode cX5_worked 42 = .ok (.iload 5, 2) := by decide +kernel
theorem dX5_worked_44 : decode cX5_worked 44 = .ok (.iaload, 1) := by decide +kernel
theorem dX5_worked_45 : decode cX5_worked 45 = .ok (.iconst 4, 1) := by decide +kernel
theorem dX5_worked_46 : decode cX5_worked 46 = .ok (.ishr, 1) := by decide +kernel
theorem dX5_worked_47 : decode cX5_worked 47 = .ok (.istore 7, 2) := by decide +kernel
theorem dX5_worked_49 : decode cX5_worked 49 = .ok (.iload 6, 2) := by decide +kernel
theorem dX5_worked_51 : decode cX5_worked 51 = .ok (.iconst 2, 1) := by decide +kernel
theorem dX5_worked_52 : decode cX5_worked 52 = .ok (.if_icmp .eq 9, 3) := by decide +kernel
theorem dX5_worked_55 : decode cX5_worked 55 = .ok (.iload 6, 2) := by decide +kernel
theorem dX5_worked_57 : decode cX5_worked 57 = .ok (.iconst 3, 1) := by decide +kernel
theorem dX5_worked_58 : decode cX5_worked 58 = .ok (.if_icmp .ne 44, 3) := by decide +kernel
theorem dX5_worked_61 : decode cX5_worked 61 = .ok (.iload 4, 2) := by decide +kernel
theorem dX5_worked_63 : decode cX5_worked 63 = .ok (.aload_n 0, 1) := by decide +kernel
theorem dX5_worked_64 : decode cX5_worked 64 = .ok (.getfield 15, 3) := by decide +kernel
theorem dX5_worked_67 : decode cX5_worked 67 = .ok (.arraylength, 1) := by decide +kernel
theorem dX5_worked_68 : decode cX5_worked 68 = .ok (.if_icmp .ge 108, 3) := by decide +kernel
theorem dX5_worked_71 : decode cX5_worked 71 = .ok (.aload_n 0, 1) := by decide +kernel
theorem dX5_worked_72 : decode cX5_worked 72 = .ok (.getfield 15, 3) := by decide +kernel
theorem dX5_worked_75 : decode cX5_worked 75 = .ok (.iload 4, 2) := by decide +kernel
theorem dX5_worked_77 : decode cX5_worked 77 = .ok (.iload 6, 2) := by decide +kernel
theorem dX5_worked_79 : decode cX5_worked 79 = .ok (.iconst 2, 1) := by decide +kernel
theorem dX5_worked_80 : decode cX5_worked 80 = .ok (.if_icmp .ne 9, 3) := by decide +kernel
theorem dX5_worked_83 : decode cX5_worked 83 = .ok (.iload 7, 2) := by decide +kernel
theorem dX5_worked_85 : decode cX5_worked 85 = .ok (.i2l, 1) := by decide +kernel
theorem dX5_worked_86 : decode cX5_worked 86 = .ok (.goto 9, 3) := by decide +kernel
theorem dX5_worked_89 : decode cX5_worked 89 = .ok (.aload_n 0, 1) := by decide +kernel
theorem dX5_worked_90 : decode cX5_worked 90 = .ok (.iload 7, 2) := by decide +kernel
theorem dX5_worked_92 : decode cX5_worked 92 = .ok (.invokevirtual 64, 3) := by decide +kernel
theorem dX5_worked_95 : decode cX5_worked 95 = .ok (.lastore, 1) := by decide +kernel
theorem dX5_worked_96 : decode cX5_worked 96 = .ok (.iinc 4 1, 3) := by decide +kernel
theorem dX5_worked_99 : decode cX5_worked 99 = .ok (.goto 77, 3) := by decide +kernel
theorem dX5_worked_102 : decode cX5_worked 102 = .ok (.iload 6, 2) := by decide +kernel
theorem dX5_worked_104 : decode cX5_worked 104 = .ok (.bipush 15, 2) := by decide +kernel
theorem dX5_worked_106 : decode cX5_worked 106 = .ok (.if_icmp .ne 31, 3) := by decide +kernel
theorem dX5_worked_109 : decode cX5_worked 109 = .ok (.iload 4, 2) := by decide +kernel
theorem dX5_worked_111 : decode cX5_worked 111 = .ok (.ifCond .le 65, 3) := by decide +kernel
theorem dX5_worked_114 : decode cX5_worked 114 = .ok (.aload_n 0, 1) := by decide +kernel
theorem dX5_worked_115 : decode cX5_worked 115 = .ok (.getfield 15, 3) := by decide +kernel
theorem dX5_worked_118 : decode cX5_worked 118 = .ok (.iload 4, 2) := by decide +kernel
theorem dX5_worked_120 : decode cX5_worked 120 = .ok (.iconst 1, 1) := by decide +kernel
theorem dX5_worked_121 : decode cX5_worked 121 = .ok (.isub, 1) := by decide +kernel
theorem dX5_worked_122 : decode cX5_worked 122 = .ok (.lconst 1, 1) := by decide +kernel
theorem dX5_worked_123 : decode cX5_worked 123 = .ok (.aload_n 0, 1) := by decide +kernel
theorem dX5_worked_124 : decode cX5_worked 124 = .ok (.getfield 15, 3) := by decide +kernel
theorem dX5_worked_127 : decode cX5_worked 127 = .ok (.iload 4, 2) := by decide +kernel
theorem dX5_worked_129 : decode cX5_worked 129 = .ok (.iconst 1, 1) := by decide +kernel
theorem dX5_worked_130 : decode cX5_worked 130 = .ok (.isub, 1) := by decide +kernel
theorem dX5_worked_131 : decode cX5_worked 131 = .ok (.laload, 1) := by decide +kernel
theorem dX5_worked_132 : decode cX5_worked 132 = .ok (.lsub, 1) := by decide +kernel
theorem dX5_worked_133 : decode cX5_worked 133 = .ok (.lastore, 1) := by decide +kernel
theorem dX5_worked_134 : decode cX5_worked 134 = .ok (.goto 42, 3) := by decide +kernel
theorem dX5_worked_137 : decode cX5_worked 137 = .ok (.iload 4, 2) := by decide +kernel
theorem dX5_worked_139 : decode cX5_worked 139 = .ok (.iconst 1, 1) := by decide +kernel
theorem dX5_worked_140 : decode cX5_worked 140 = .ok (.if_icmp .le 36, 3) := by decide +kernel
theorem dX5_worked_143 : decode cX5_worked 143 = .ok (.iinc 4 (-1), 3) := by decide +kernel
theorem dX5_worked_146 : decode cX5_worked 146 = .ok (.aload_n 0, 1) := by decide +kernel
theorem dX5_worked_147 : decode cX5_worked 147 = .ok (.getfield 15, 3) := by decide +kernel
theorem dX5_worked_150 : decode cX5_worked 150 = .ok (.iload 4, 2) := by decide +kernel
theorem dX5_worked_152 : decode cX5_worked 152 = .ok (.iconst 1, 1) := by decide +kernel
theorem dX5_worked_153 : decode cX5_worked 153 = .ok (.isub, 1) := by decide +kernel
theorem dX5_worked_154 : decode cX5_worked 154 = .ok (.iload 6, 2) := by decide +kernel
theorem dX5_worked_156 : decode cX5_worked 156 = .ok (.aload_n 0, 1) := by decide +kernel
theorem dX5_worked_157 : decode cX5_worked 157 = .ok (.getfield 15, 3) := by decide +kernel
theorem dX5_worked_160 : decode cX5_worked 160 = .ok (.iload 4, 2) := by decide +kernel
theorem dX5_worked_162 : decode cX5_worked 162 = .ok (.iconst 1, 1) := by decide +kernel
theorem dX5_worked_163 : decode cX5_worked 163 = .ok (.isub, 1) := by decide +kernel
theorem dX5_worked_164 : decode cX5_worked 164 = .ok (.laload, 1) := by decide +kernel
theorem dX5_worked_165 : decode cX5_worked 165 = .ok (.aload_n 0, 1) := by decide +kernel
theorem dX5_worked_166 : decode cX5_worked 166 = .ok (.getfield 15, 3) := by decide +kernel
theorem dX5_worked_169 : decode cX5_worked 169 = .ok (.iload 4, 2) := by decide +kernel
theorem dX5_worked_171 : decode cX5_worked 171 = .ok (.laload, 1) := by decide +kernel
theorem dX5_worked_172 : decode cX5_worked 172 = .ok (.invokestatic 68, 3) := by decide +kernel
theorem dX5_worked_175 : decode cX5_worked 175 = .ok (.lastore, 1) := by decide +kernel
theorem dX5_worked_176 : decode cX5_worked 176 = .ok (.iinc 5 1, 3) := by decide +kernel
theorem dX5_worked_179 : decode cX5_worked 179 = .ok (.goto (-169), 3) := by decide +kernel
theorem dX5_worked_182 : decode cX5_worked 182 = .ok (.iload 4, 2) := by decide +kernel
theorem dX5_worked_184 : decode cX5_worked 184 = .ok (.ifCond .le 15, 3) := by decide +kernel
theorem dX5_worked_187 : decode cX5_worked 187 = .ok (.aload_n 0, 1) := by decide +kernel
theorem dX5_worked_188 : decode cX5_worked 188 = .ok (.getfield 15, 3) := by decide +kernel
theorem dX5_worked_191 : decode cX5_worked 191 = .ok (.iload 4, 2) := by decide +kernel
theorem dX5_worked_193 : decode cX5_worked 193 = .ok (.iconst 1, 1) := by decide +kernel
theorem dX5_worked_194 : decode cX5_worked 194 = .ok (.isub, 1) := by decide +kernel
theorem dX5_worked_195 : decode cX5_worked 195 = .ok (.laload, 1) := by decide +kernel
theorem dX5_worked_196 : decode cX5_worked 196 = .ok (.goto 4, 3) := by decide +kernel
theorem dX5_worked_199 : decode cX5_worked 199 = .ok (.lconst 0, 1) := by decide +kernel
theorem dX5_worked_200 : decode cX5_worked 200 = .ok (.lreturn, 1) := by decide +kernel
theorem dX6_add_0 : decode cX6_add 0 = .ok (.aload_n 0, 1) := by decide +kernel
theorem dX6_add_1 : decode cX6_add 1 = .ok (.getfield 25, 3) := by decide +kernel
theorem dX6_add_4 : decode cX6_add 4 = .ok (.aload_n 0, 1) := by decide +kernel
theorem dX6_add_5 : decode cX6_add 5 = .ok (.getfield 15, 3) := by decide +kernel
theorem dX6_add_8 : decode cX6_add 8 = .ok (.if_icmp .lt 5, 3) := by decide +kernel
theorem dX6_add_11 : decode cX6_add 11 = .ok (.iconst (-1), 1) := by decide +kernel
theorem dX6_add_12 : decode cX6_add 12 = .ok (.ireturn, 1) := by decide +kernel
theorem dX6_add_13 : decode cX6_add 13 = .ok (.aload_n 0, 1) := by decide +kernel
theorem dX6_add_14 : decode cX6_add 14 = .ok (.getfield 25, 3) := by decide +kernel
theorem dX6_add_17 : decode cX6_add 17 = .ok (.istore 5, 2) := by decide +kernel
theorem dX6_add_19 : decode cX6_add 19 = .ok (.aload_n 0, 1) := by decide +kernel
theorem dX6_add_20 : decode cX6_add 20 = .ok (.dup, 1) := by decide +kernel
theorem dX6_add_21 : decode cX6_add 21 = .ok (.getfield 25, 3) := by decide +kernel
theorem dX6_add_24 : decode cX6_add 24 = .ok (.iconst 1, 1) := by decide +kernel
theorem dX6_add_25 : decode cX6_add 25 = .ok (.iadd, 1) := by decide +kernel
theorem dX6_add_26 : decode cX6_add 26 = .ok (.putfield 25, 3) := by decide +kernel
theorem dX6_add_29 : decode cX6_add 29 = .ok (.aload_n 0, 1) := by decide +kernel
theorem dX6_add_30 : decode cX6_add 30 = .ok (.iload 5, 2) := by decide +kernel
theorem dX6_add_32 : decode cX6_add 32 = .ok (.iconst 0, 1) := by decide +kernel
theorem dX6_add_33 : decode cX6_add 33 = .ok (.iload_n 1, 1) := by decide +kernel
theorem dX6_add_34 : decode cX6_add 34 = .ok (.invokevirtual 28, 3) := by decide +kernel
theorem dX6_add_37 : decode cX6_add 37 = .ok (.aload_n 0, 1) := by decide +kernel
theorem dX6_add_38 : decode cX6_add 38 = .ok (.iload 5, 2) := by decide +kernel
theorem dX6_add_40 : decode cX6_add 40 = .ok (.iconst 1, 1) := by decide +kernel
theorem dX6_add_41 : decode cX6_add 41 = .ok (.iload_n 2, 1) := by decide +kernel
theorem dX6_add_42 : decode cX6_add 42 = .ok (.invokevirtual 28, 3) := by decide +kernel
theorem dX6_add_45 : decode cX6_add 45 = .ok (.aload_n 0, 1) := by decide +kernel
theorem dX6_add_46 : decode cX6_add 46 = .ok (.iload 5, 2) := by decide +kernel
theorem dX6_add_48 : decode cX6_add 48 = .ok (.iconst 2, 1) := by decide +kernel
theorem dX6_add_49 : decode cX6_add 49 = .ok (.iload_n 3, 1) := by decide +kernel
theorem dX6_add_50 : decode cX6_add 50 = .ok (.invokevirtual 28, 3) := by decide +kernel
theorem dX6_add_53 : decode cX6_add 53 = .ok (.aload_n 0, 1) := by decide +kernel
theorem dX6_add_54 : decode cX6_add 54 = .ok (.iload 5, 2) := by decide +kernel
theorem dX6_add_56 : decode cX6_add 56 = .ok (.iconst 3, 1) := by decide +kernel
theorem dX6_add_57 : decode cX6_add 57 = .ok (.iload 4, 2) := by decide +kernel
theorem dX6_add_59 : decode cX6_add 59 = .ok (.invokevirtual 28, 3) := by decide +kernel
theorem dX6_add_62 : decode cX6_add 62 = .ok (.iload 5, 2) := by decide +kernel
theorem dX6_add_64 : decode cX6_add 64 = .ok (.ireturn, 1) := by decide +kernel
theorem dX6_cell_0 : decode cX6_cell 0 = .ok (.iload_n 1, 1) := by decide +kernel
theorem dX6_cell_1 : decode cX6_cell 1 = .ok (.ifCond .lt 24, 3) := by decide +kernel
theorem dX6_cell_4 : decode cX6_cell 4 = .ok (.iload_n 1, 1) := by decide +kernel
theorem dX6_cell_5 : decode cX6_cell 5 = .ok (.aload_n 0, 1) := by decide +kernel
theorem dX6_cell_6 : decode cX6_cell 6 = .ok (.getfield 25, 3) := by decide +kernel
theorem dX6_cell_9 : decode cX6_cell 9 = .ok (.if_icmp .ge 16, 3) := by decide +kernel
theorem dX6_cell_12 : decode cX6_cell 12 = .ok (.iload_n 2, 1) := by decide +kernel
theorem dX6_cell_13 : decode cX6_cell 13 = .ok (.ifCond .lt 12, 3) := by decide +kernel
theorem dX6_cell_16 : decode cX6_cell 16 = .ok (.iload_n 2, 1) := by decide +kernel
theorem dX6_cell_17 : decode cX6_cell 17 = .ok (.iconst 4, 1) := by decide +kernel
theorem dX6_cell_18 : decode cX6_cell 18 = .ok (.if_icmp .ge 7, 3) := by decide +kernel
theorem dX6_cell_21 : decode cX6_cell 21 = .ok (.iconst 1, 1) := by decide +kernel
theorem dX6_cell_22 : decode cX6_cell 22 = .ok (.goto 4, 3) := by decide +kernel
theorem dX6_cell_25 : decode cX6_cell 25 = .ok (.iconst 0, 1) := by decide +kernel
theorem dX6_cell_26 : decode cX6_cell 26 = .ok (.istore_n 3, 1) := by decide +kernel
theorem dX6_cell_27 : decode cX6_cell 27 = .ok (.iload_n 3, 1) := by decide +kernel
theorem dX6_cell_28 : decode cX6_cell 28 = .ok (.ifCond .eq 16, 3) := by decide +kernel
theorem dX6_cell_31 : decode cX6_cell 31 = .ok (.aload_n 0, 1) := by decide +kernel
theorem dX6_cell_32 : decode cX6_cell 32 = .ok (.getfield 21, 3) := by decide +kernel
theorem dX6_cell_35 : decode cX6_cell 35 = .ok (.iload_n 1, 1) := by decide +kernel
theorem dX6_cell_36 : decode cX6_cell 36 = .ok (.iconst 4, 1) := by decide +kernel
theorem dX6_cell_37 : decode cX6_cell 37 = .ok (.imul, 1) := by decide +kernel
theorem dX6_cell_38 : decode cX6_cell 38 = .ok (.iload_n 2, 1) := by decide +kernel
theorem dX6_cell_39 : decode cX6_cell 39 = .ok (.iadd, 1) := by decide +kernel
theorem dX6_cell_40 : decode cX6_cell 40 = .ok (.iaload, 1) := by decide +kernel
theorem dX6_cell_41 : decode cX6_cell 41 = .ok (.goto 4, 3) := by decide +kernel
theorem dX6_cell_44 : decode cX6_cell 44 = .ok (.iconst 0, 1) := by decide +kernel
theorem dX6_cell_45 : decode cX6_cell 45 = .ok (.ireturn, 1) := by decide +kernel
theorem dX6_has_0 : decode cX6_has 0 = .ok (.iload_n 1, 1) := by decide +kernel
theorem dX6_has_1 : decode cX6_has 1 = .ok (.ifCond .lt 15, 3) := by decide +kernel
theorem dX6_has_4 : decode cX6_has 4 = .ok (.iload_n 1, 1) := by decide +kernel
theorem dX6_has_5 : decode cX6_has 5 = .ok (.aload_n 0, 1) := by decide +kernel
theorem dX6_has_6 : decode cX6_has 6 = .ok (.getfield 25, 3) := by decide +kernel
theorem dX6_has_9 : decode cX6_has 9 = .ok (.if_icmp .ge 7, 3) := by decide +kernel
theorem dX6_has_12 : decode cX6_has 12 = .ok (.iconst 1, 1) := by decide +kernel
theorem dX6_has_13 : decode cX6_has 13 = .ok (.goto 4, 3) := by decide +kernel
theorem dX6_has_16 : decode cX6_has 16 = .ok (.iconst 0, 1) := by decide +kernel
theorem dX6_has_17 : decode cX6_has 17 = .ok (.ireturn, 1) := by decide +kernel
theorem dX6_set_0 : decode cX6_set 0 = .ok (.aload_n 0, 1) := by decide +kernel
theorem dX6_set_1 : decode cX6_set 1 = .ok (.iload_n 1, 1) := by decide +kernel
theorem dX6_set_2 : decode cX6_set 2 = .ok (.invokevirtual 32, 3) := by decide +kernel
theorem dX6_set_5 : decode cX6_set 5 = .ok (.ifCond .eq 23, 3) := by decide +kernel
theorem dX6_set_8 : decode cX6_set 8 = .ok (.iload_n 2, 1) := by decide +kernel
theorem dX6_set_9 : decode cX6_set 9 = .ok (.ifCond .lt 19, 3) := by decide +kernel
theorem dX6_set_12 : decode cX6_set 12 = .ok (.iload_n 2, 1) := by decide +kernel
theorem dX6_set_13 : decode cX6_set 13 = .ok (.iconst 4, 1) := by decide +kernel
theorem dX6_set_14 : decode cX6_set 14 = .ok (.if_icmp .ge 14, 3) := by decide +kernel
theorem dX6_set_17 : decode cX6_set 17 = .ok (.aload_n 0, 1) := by decide +kernel
theorem dX6_set_18 : decode cX6_set 18 = .ok (.getfield 21, 3) := by decide +kernel
theorem dX6_set_21 : decode cX6_set 21 = .ok (.iload_n 1, 1) := by decide +kernel
theorem dX6_set_22 : decode cX6_set 22 = .ok (.iconst 4, 1) := by decide +kernel
theorem dX6_set_23 : decode cX6_set 23 = .ok (.imul, 1) := by decide +kernel
theorem dX6_set_24 : decode cX6_set 24 = .ok (.iload_n 2, 1) := by decide +kernel
theorem dX6_set_25 : decode cX6_set 25 = .ok (.iadd, 1) := by decide +kernel
theorem dX6_set_26 : decode cX6_set 26 = .ok (.iload_n 3, 1) := by decide +kernel
theorem dX6_set_27 : decode cX6_set 27 = .ok (.iastore, 1) := by decide +kernel
theorem dX6_set_28 : decode cX6_set 28 = .ok (.return_, 1) := by decide +kernel
theorem dX7_clauseOf_0 : decode cX7_clauseOf 0 = .ok (.iconst 0, 1) := by decide +kernel
theorem dX7_clauseOf_1 : decode cX7_clauseOf 1 = .ok (.istore_n 2, 1) := by decide +kernel
theorem dX7_clauseOf_2 : decode cX7_clauseOf 2 = .ok (.iload_n 2, 1) := by decide +kernel
theorem dX7_clauseOf_3 : decode cX7_clauseOf 3 = .ok (.aload_n 0, 1) := by decide +kernel
theorem dX7_clauseOf_4 : decode cX7_clauseOf 4 = .ok (.getfield 33, 3) := by decide +kernel
theorem dX7_clauseOf_7 : decode cX7_clauseOf 7 = .ok (.if_icmp .ge 27, 3) := by decide +kernel
theorem dX7_clauseOf_10 : decode cX7_clauseOf 10 = .ok (.iload_n 2, 1) := by decide +kernel
theorem dX7_clauseOf_11 : decode cX7_clauseOf 11 = .ok (.bipush 12, 2) := by decide +kernel
theorem dX7_clauseOf_13 : decode cX7_clauseOf 13 = .ok (.if_icmp .ge 21, 3) := by decide +kernel
theorem dX7_clauseOf_16 : decode cX7_clauseOf 16 = .ok (.aload_n 0, 1) := by decide +kernel
theorem dX7_clauseOf_17 : decode cX7_clauseOf 17 = .ok (.getfield 9, 3) := by decide +kernel
theorem dX7_clauseOf_20 : decode cX7_clauseOf 20 = .ok (.iload_n 2, 1) := by decide +kernel
theorem dX7_clauseOf_21 : decode cX7_clauseOf 21 = .ok (.iaload, 1) := by decide +kernel
theorem dX7_clauseOf_22 : decode cX7_clauseOf 22 = .ok (.iload_n 1, 1) := by decide +kernel
theorem dX7_clauseOf_23 : decode cX7_clauseOf 23 = .ok (.if_icmp .ne 5, 3) := by decide +kernel
theorem dX7_clauseOf_26 : decode cX7_clauseOf 26 = .ok (.iload_n 2, 1) := by decide +kernel
theorem dX7_clauseOf_27 : decode cX7_clauseOf 27 = .ok (.ireturn, 1) := by decide +kernel
theorem dX7_clauseOf_28 : decode cX7_clauseOf 28 = .ok (.iinc 2 1, 3) := by decide +kernel
theorem dX7_clauseOf_31 : decode cX7_clauseOf 31 = .ok (.goto (-29), 3) := by decide +kernel
theorem dX7_clauseOf_34 : decode cX7_clauseOf 34 = .ok (.iconst (-1), 1) := by decide +kernel
theorem dX7_clauseOf_35 : decode cX7_clauseOf 35 = .ok (.ireturn, 1) := by decide +kernel
theorem dX7_firstOf_0 : decode cX7_firstOf 0 = .ok (.aload_n 0, 1) := by decide +kernel
theorem dX7_firstOf_1 : decode cX7_firstOf 1 = .ok (.iload_n 1, 1) := by decide +kernel
theorem dX7_firstOf_2 : decode cX7_firstOf 2 = .ok (.invokevirtual 40, 3) := by decide +kernel
theorem dX7_firstOf_5 : decode cX7_firstOf 5 = .ok (.istore_n 3, 1) := by decide +kernel
theorem dX7_firstOf_6 : decode cX7_firstOf 6 = .ok (.iload_n 3, 1) := by decide +kernel
theorem dX7_firstOf_7 : decode cX7_firstOf 7 = .ok (.ifCond .ge 7, 3) := by decide +kernel
theorem dX7_firstOf_10 : decode cX7_firstOf 10 = .ok (.iload_n 2, 1) := by decide +kernel
theorem dX7_firstOf_11 : decode cX7_firstOf 11 = .ok (.goto 9, 3) := by decide +kernel
theorem dX7_firstOf_14 : decode cX7_firstOf 14 = .ok (.aload_n 0, 1) := by decide +kernel
theorem dX7_firstOf_15 : decode cX7_firstOf 15 = .ok (.getfield 15, 3) := by decide +kernel
theorem dX7_firstOf_18 : decode cX7_firstOf 18 = .ok (.iload_n 3, 1) := by decide +kernel
theorem dX7_firstOf_19 : decode cX7_firstOf 19 = .ok (.iaload, 1) := by decide +kernel
theorem dX7_firstOf_20 : decode cX7_firstOf 20 = .ok (.ireturn, 1) := by decide +kernel
theorem dX7_open_0 : decode cX7_open 0 = .ok (.aload_n 0, 1) := by decide +kernel
theorem dX7_open_1 : decode cX7_open 1 = .ok (.getfield 33, 3) := by decide +kernel
theorem dX7_open_4 : decode cX7_open 4 = .ok (.bipush 12, 2) := by decide +kernel
theorem dX7_open_6 : decode cX7_open 6 = .ok (.if_icmp .ge 62, 3) := by decide +kernel
theorem dX7_open_9 : decode cX7_open 9 = .ok (.aload_n 0, 1) := by decide +kernel
theorem dX7_open_10 : decode cX7_open 10 = .ok (.getfield 9, 3) := by decide +kernel
theorem dX7_open_13 : decode cX7_open 13 = .ok (.aload_n 0, 1) := by decide +kernel
theorem dX7_open_14 : decode cX7_open 14 = .ok (.getfield 33, 3) := by decide +kernel
theorem dX7_open_17 : decode cX7_open 17 = .ok (.iload_n 1, 1) := by decide +kernel
theorem dX7_open_18 : decode cX7_open 18 = .ok (.iastore, 1) := by decide +kernel
theorem dX7_open_19 : decode cX7_open 19 = .ok (.aload_n 0, 1) := by decide +kernel
theorem dX7_open_20 : decode cX7_open 20 = .ok (.getfield 21, 3) := by decide +kernel
theorem dX7_open_23 : decode cX7_open 23 = .ok (.aload_n 0, 1) := by decide +kernel
theorem dX7_open_24 : decode cX7_open 24 = .ok (.getfield 33, 3) := by decide +kernel
theorem dX7_open_27 : decode cX7_open 27 = .ok (.aload_n 0, 1) := by decide +kernel
theorem dX7_open_28 : decode cX7_open 28 = .ok (.getfield 37, 3) := by decide +kernel
theorem dX7_open_31 : decode cX7_open 31 = .ok (.iastore, 1) := by decide +kernel
theorem dX7_open_32 : decode cX7_open 32 = .ok (.aload_n 0, 1) := by decide +kernel
theorem dX7_open_33 : decode cX7_open 33 = .ok (.getfield 24, 3) := by decide +kernel
theorem dX7_open_36 : decode cX7_open 36 = .ok (.aload_n 0, 1) := by decide +kernel
theorem dX7_open_37 : decode cX7_open 37 = .ok (.getfield 33, 3) := by decide +kernel
theorem dX7_open_40 : decode cX7_open 40 = .ok (.aload_n 0, 1) := by decide +kernel
theorem dX7_open_41 : decode cX7_open 41 = .ok (.getfield 37, 3) := by decide +kernel
theorem dX7_open_44 : decode cX7_open 44 = .ok (.iastore, 1) := by decide +kernel
theorem dX7_open_45 : decode cX7_open 45 = .ok (.aload_n 0, 1) := by decide +kernel
theorem dX7_open_46 : decode cX7_open 46 = .ok (.getfield 27, 3) := by decide +kernel
theorem dX7_open_49 : decode cX7_open 49 = .ok (.aload_n 0, 1) := by decide +kernel
theorem dX7_open_50 : decode cX7_open 50 = .ok (.getfield 33, 3) := by decide +kernel
theorem dX7_open_53 : decode cX7_open 53 = .ok (.aload_n 0, 1) := by decide +kernel
theorem dX7_open_54 : decode cX7_open 54 = .ok (.getfield 37, 3) := by decide +kernel
theorem dX7_open_57 : decode cX7_open 57 = .ok (.iastore, 1) := by decide +kernel
theorem dX7_open_58 : decode cX7_open 58 = .ok (.aload_n 0, 1) := by decide +kernel
theorem dX7_open_59 : decode cX7_open 59 = .ok (.dup, 1) := by decide +kernel
theorem dX7_open_60 : decode cX7_open 60 = .ok (.getfield 33, 3) := by decide +kernel
theorem dX7_open_63 : decode cX7_open 63 = .ok (.iconst 1, 1) := by decide +kernel
theorem dX7_open_64 : decode cX7_open 64 = .ok (.iadd, 1) := by decide +kernel
theorem dX7_open_65 : decode cX7_open 65 = .ok (.putfield 33, 3) := by decide +kernel
theorem dX7_open_68 : decode cX7_open 68 = .ok (.return_, 1) := by decide +kernel
theorem dX7_secondOf_0 : decode cX7_secondOf 0 = .ok (.aload_n 0, 1) := by decide +kernel
theorem dX7_secondOf_1 : decode cX7_secondOf 1 = .ok (.iload_n 1, 1) := by decide +kernel
theorem dX7_secondOf_2 : decode cX7_secondOf 2 = .ok (.invokevirtual 40, 3) := by decide +kernel
theorem dX7_secondOf_5 : decode cX7_secondOf 5 = .ok (.istore_n 3, 1) := by decide +kernel
theorem dX7_secondOf_6 : decode cX7_secondOf 6 = .ok (.iload_n 3, 1) := by decide +kernel
theorem dX7_secondOf_7 : decode cX7_secondOf 7 = .ok (.ifCond .ge 7, 3) := by decide +kernel
theorem dX7_secondOf_10 : decode cX7_secondOf 10 = .ok (.iload_n 2, 1) := by decide +kernel
theorem dX7_secondOf_11 : decode cX7_secondOf 11 = .ok (.goto 9, 3) := by decide +kernel
theorem dX7_secondOf_14 : decode cX7_secondOf 14 = .ok (.aload_n 0, 1) := by decide +kernel
theorem dX7_secondOf_15 : decode cX7_secondOf 15 = .ok (.getfield 18, 3) := by decide +kernel
theorem dX7_secondOf_18 : decode cX7_secondOf 18 = .ok (.iload_n 3, 1) := by decide +kernel
theorem dX7_secondOf_19 : decode cX7_secondOf 19 = .ok (.iaload, 1) := by decide +kernel
theorem dX7_secondOf_20 : decode cX7_secondOf 20 = .ok (.ireturn, 1) := by decide +kernel
theorem dX7_step_0 : decode cX7_step 0 = .ok (.aload_n 0, 1) := by decide +kernel
theorem dX7_step_1 : decode cX7_step 1 = .ok (.getfield 37, 3) := by decide +kernel
theorem dX7_step_4 : decode cX7_step 4 = .ok (.aload_n 0, 1) := by decide +kernel
theorem dX7_step_5 : decode cX7_step 5 = .ok (.getfield 30, 3) := by decide +kernel
theorem dX7_step_8 : decode cX7_step 8 = .ok (.arraylength, 1) := by decide +kernel
theorem dX7_step_9 : decode cX7_step 9 = .ok (.if_icmp .ge 28, 3) := by decide +kernel
theorem dX7_step_12 : decode cX7_step 12 = .ok (.aload_n 0, 1) := by decide +kernel
theorem dX7_step_13 : decode cX7_step 13 = .ok (.getfield 30, 3) := by decide +kernel
theorem dX7_step_16 : decode cX7_step 16 = .ok (.aload_n 0, 1) := by decide +kernel
theorem dX7_step_17 : decode cX7_step 17 = .ok (.getfield 37, 3) := by decide +kernel
theorem dX7_step_20 : decode cX7_step 20 = .ok (.iload_n 1, 1) := by decide +kernel
theorem dX7_step_21 : decode cX7_step 21 = .ok (.bipush 16, 2) := by decide +kernel
theorem dX7_step_23 : decode cX7_step 23 = .ok (.iload_n 2, 1) := by decide +kernel
theorem dX7_step_24 : decode cX7_step 24 = .ok (.imul, 1) := by decide +kernel
theorem dX7_step_25 : decode cX7_step 25 = .ok (.iadd, 1) := by decide +kernel
theorem dX7_step_26 : decode cX7_step 26 = .ok (.iastore, 1) := by decide +kernel
theorem dX7_step_27 : decode cX7_step 27 = .ok (.aload_n 0, 1) := by decide +kernel
theorem dX7_step_28 : decode cX7_step 28 = .ok (.dup, 1) := by decide +kernel
theorem dX7_step_29 : decode cX7_step 29 = .ok (.getfield 37, 3) := by decide +kernel
theorem dX7_step_32 : decode cX7_step 32 = .ok (.iconst 1, 1) := by decide +kernel
theorem dX7_step_33 : decode cX7_step 33 = .ok (.iadd, 1) := by decide +kernel
theorem dX7_step_34 : decode cX7_step 34 = .ok (.putfield 37, 3) := by decide +kernel
theorem dX7_step_37 : decode cX7_step 37 = .ok (.return_, 1) := by decide +kernel
theorem dX7_wipe_0 : decode cX7_wipe 0 = .ok (.aload_n 0, 1) := by decide +kernel
theorem dX7_wipe_1 : decode cX7_wipe 1 = .ok (.iconst 0, 1) := by decide +kernel
theorem dX7_wipe_2 : decode cX7_wipe 2 = .ok (.putfield 33, 3) := by decide +kernel
theorem dX7_wipe_5 : decode cX7_wipe 5 = .ok (.aload_n 0, 1) := by decide +kernel
theorem dX7_wipe_6 : decode cX7_wipe 6 = .ok (.iconst 0, 1) := by decide +kernel
theorem dX7_wipe_7 : decode cX7_wipe 7 = .ok (.putfield 37, 3) := by decide +kernel
theorem dX7_wipe_10 : decode cX7_wipe 10 = .ok (.return_, 1) := by decide +kernel
theorem dX8_at_0 : decode cX8_at 0 = .ok (.iload_n 1, 1) := by decide +kernel
theorem dX8_at_1 : decode cX8_at 1 = .ok (.ifCond .lt 29, 3) := by decide +kernel
theorem dX8_at_4 : decode cX8_at 4 = .ok (.iload_n 1, 1) := by decide +kernel
theorem dX8_at_5 : decode cX8_at 5 = .ok (.aload_n 0, 1) := by decide +kernel
theorem dX8_at_6 : decode cX8_at 6 = .ok (.getfield 23, 3) := by decide +kernel
theorem dX8_at_9 : decode cX8_at 9 = .ok (.if_icmp .ge 21, 3) := by decide +kernel
theorem dX8_at_12 : decode cX8_at 12 = .ok (.iload_n 1, 1) := by decide +kernel
theorem dX8_at_13 : decode cX8_at 13 = .ok (.aload_n 0, 1) := by decide +kernel
theorem dX8_at_14 : decode cX8_at 14 = .ok (.getfield 17, 3) := by decide +kernel
theorem dX8_at_17 : decode cX8_at 17 = .ok (.arraylength, 1) := by decide +kernel
theorem dX8_at_18 : decode cX8_at 18 = .ok (.if_icmp .ge 12, 3) := by decide +kernel
theorem dX8_at_21 : decode cX8_at 21 = .ok (.aload_n 0, 1) := by decide +kernel
theorem dX8_at_22 : decode cX8_at 22 = .ok (.getfield 17, 3) := by decide +kernel
theorem dX8_at_25 : decode cX8_at 25 = .ok (.iload_n 1, 1) := by decide +kernel
theorem dX8_at_26 : decode cX8_at 26 = .ok (.aaload, 1) := by decide +kernel
theorem dX8_at_27 : decode cX8_at 27 = .ok (.goto 4, 3) := by decide +kernel
theorem dX8_at_30 : decode cX8_at 30 = .ok (.aconst_null, 1) := by decide +kernel
theorem dX8_at_31 : decode cX8_at 31 = .ok (.areturn, 1) := by decide +kernel
theorem dX8_isFull_0 : decode cX8_isFull 0 = .ok (.aload_n 0, 1) := by decide +kernel
theorem dX8_isFull_1 : decode cX8_isFull 1 = .ok (.getfield 23, 3) := by decide +kernel
theorem dX8_isFull_4 : decode cX8_isFull 4 = .ok (.aload_n 0, 1) := by decide +kernel
theorem dX8_isFull_5 : decode cX8_isFull 5 = .ok (.getfield 17, 3) := by decide +kernel
theorem dX8_isFull_8 : decode cX8_isFull 8 = .ok (.arraylength, 1) := by decide +kernel
theorem dX8_isFull_9 : decode cX8_isFull 9 = .ok (.if_icmp .lt 7, 3) := by decide +kernel
theorem dX8_isFull_12 : decode cX8_isFull 12 = .ok (.iconst 1, 1) := by decide +kernel
theorem dX8_isFull_13 : decode cX8_isFull 13 = .ok (.goto 4, 3) := by decide +kernel
theorem dX8_isFull_16 : decode cX8_isFull 16 = .ok (.iconst 0, 1) := by decide +kernel
theorem dX8_isFull_17 : decode cX8_isFull 17 = .ok (.ireturn, 1) := by decide +kernel
