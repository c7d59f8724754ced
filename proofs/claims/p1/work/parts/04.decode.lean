theorem dJ6_bitCount_0f7a4_0 : decode cJ6_bitCount_0f7a4 0 = .ok (.iload_n 0, 1) := by decide +kernel
theorem dJ6_bitCount_0f7a4_1 : decode cJ6_bitCount_0f7a4 1 = .ok (.iload_n 0, 1) := by decide +kernel
theorem dJ6_bitCount_0f7a4_2 : decode cJ6_bitCount_0f7a4 2 = .ok (.iconst 1, 1) := by decide +kernel
theorem dJ6_bitCount_0f7a4_3 : decode cJ6_bitCount_0f7a4 3 = .ok (.iushr, 1) := by decide +kernel
theorem dJ6_bitCount_0f7a4_4 : decode cJ6_bitCount_0f7a4 4 = .ok (.ldc_w 265, 3) := by decide +kernel
theorem dJ6_bitCount_0f7a4_7 : decode cJ6_bitCount_0f7a4 7 = .ok (.iand, 1) := by decide +kernel
theorem dJ6_bitCount_0f7a4_8 : decode cJ6_bitCount_0f7a4 8 = .ok (.isub, 1) := by decide +kernel
theorem dJ6_bitCount_0f7a4_9 : decode cJ6_bitCount_0f7a4 9 = .ok (.istore_n 0, 1) := by decide +kernel
theorem dJ6_bitCount_0f7a4_10 : decode cJ6_bitCount_0f7a4 10 = .ok (.iload_n 0, 1) := by decide +kernel
theorem dJ6_bitCount_0f7a4_11 : decode cJ6_bitCount_0f7a4 11 = .ok (.ldc_w 266, 3) := by decide +kernel
theorem dJ6_bitCount_0f7a4_14 : decode cJ6_bitCount_0f7a4 14 = .ok (.iand, 1) := by decide +kernel
theorem dJ6_bitCount_0f7a4_15 : decode cJ6_bitCount_0f7a4 15 = .ok (.iload_n 0, 1) := by decide +kernel
theorem dJ6_bitCount_0f7a4_16 : decode cJ6_bitCount_0f7a4 16 = .ok (.iconst 2, 1) := by decide +kernel
theorem dJ6_bitCount_0f7a4_17 : decode cJ6_bitCount_0f7a4 17 = .ok (.iushr, 1) := by decide +kernel
theorem dJ6_bitCount_0f7a4_18 : decode cJ6_bitCount_0f7a4 18 = .ok (.ldc_w 266, 3) := by decide +kernel
theorem dJ6_bitCount_0f7a4_21 : decode cJ6_bitCount_0f7a4 21 = .ok (.iand, 1) := by decide +kernel
theorem dJ6_bitCount_0f7a4_22 : decode cJ6_bitCount_0f7a4 22 = .ok (.iadd, 1) := by decide +kernel
theorem dJ6_bitCount_0f7a4_23 : decode cJ6_bitCount_0f7a4 23 = .ok (.istore_n 0, 1) := by decide +kernel
theorem dJ6_bitCount_0f7a4_24 : decode cJ6_bitCount_0f7a4 24 = .ok (.iload_n 0, 1) := by decide +kernel
theorem dJ6_bitCount_0f7a4_25 : decode cJ6_bitCount_0f7a4 25 = .ok (.iload_n 0, 1) := by decide +kernel
theorem dJ6_bitCount_0f7a4_26 : decode cJ6_bitCount_0f7a4 26 = .ok (.iconst 4, 1) := by decide +kernel
theorem dJ6_bitCount_0f7a4_27 : decode cJ6_bitCount_0f7a4 27 = .ok (.iushr, 1) := by decide +kernel
theorem dJ6_bitCount_0f7a4_28 : decode cJ6_bitCount_0f7a4 28 = .ok (.iadd, 1) := by decide +kernel
theorem dJ6_bitCount_0f7a4_29 : decode cJ6_bitCount_0f7a4 29 = .ok (.ldc_w 267, 3) := by decide +kernel
theorem dJ6_bitCount_0f7a4_32 : decode cJ6_bitCount_0f7a4 32 = .ok (.iand, 1) := by decide +kernel
theorem dJ6_bitCount_0f7a4_33 : decode cJ6_bitCount_0f7a4 33 = .ok (.istore_n 0, 1) := by decide +kernel
theorem dJ6_bitCount_0f7a4_34 : decode cJ6_bitCount_0f7a4 34 = .ok (.iload_n 0, 1) := by decide +kernel
theorem dJ6_bitCount_0f7a4_35 : decode cJ6_bitCount_0f7a4 35 = .ok (.iload_n 0, 1) := by decide +kernel
theorem dJ6_bitCount_0f7a4_36 : decode cJ6_bitCount_0f7a4 36 = .ok (.bipush 8, 2) := by decide +kernel
theorem dJ6_bitCount_0f7a4_38 : decode cJ6_bitCount_0f7a4 38 = .ok (.iushr, 1) := by decide +kernel
theorem dJ6_bitCount_0f7a4_39 : decode cJ6_bitCount_0f7a4 39 = .ok (.iadd, 1) := by decide +kernel
theorem dJ6_bitCount_0f7a4_40 : decode cJ6_bitCount_0f7a4 40 = .ok (.istore_n 0, 1) := by decide +kernel
theorem dJ6_bitCount_0f7a4_41 : decode cJ6_bitCount_0f7a4 41 = .ok (.iload_n 0, 1) := by decide +kernel
theorem dJ6_bitCount_0f7a4_42 : decode cJ6_bitCount_0f7a4 42 = .ok (.iload_n 0, 1) := by decide +kernel
theorem dJ6_bitCount_0f7a4_43 : decode cJ6_bitCount_0f7a4 43 = .ok (.bipush 16, 2) := by decide +kernel
theorem dJ6_bitCount_0f7a4_45 : decode cJ6_bitCount_0f7a4 45 = .ok (.iushr, 1) := by decide +kernel
theorem dJ6_bitCount_0f7a4_46 : decode cJ6_bitCount_0f7a4 46 = .ok (.iadd, 1) := by decide +kernel
theorem dJ6_bitCount_0f7a4_47 : decode cJ6_bitCount_0f7a4 47 = .ok (.istore_n 0, 1) := by decide +kernel
theorem dJ6_bitCount_0f7a4_48 : decode cJ6_bitCount_0f7a4 48 = .ok (.iload_n 0, 1) := by decide +kernel
theorem dJ6_bitCount_0f7a4_49 : decode cJ6_bitCount_0f7a4 49 = .ok (.bipush 63, 2) := by decide +kernel
theorem dJ6_bitCount_0f7a4_51 : decode cJ6_bitCount_0f7a4 51 = .ok (.iand, 1) := by decide +kernel
theorem dJ6_bitCount_0f7a4_52 : decode cJ6_bitCount_0f7a4 52 = .ok (.ireturn, 1) := by decide +kernel
theorem dJ7_fill_53178_0 : decode cJ7_fill_53178 0 = .ok (.iconst 0, 1) := by decide +kernel
theorem dJ7_fill_53178_1 : decode cJ7_fill_53178 1 = .ok (.istore_n 2, 1) := by decide +kernel
theorem dJ7_fill_53178_2 : decode cJ7_fill_53178 2 = .ok (.aload_n 0, 1) := by decide +kernel
theorem dJ7_fill_53178_3 : decode cJ7_fill_53178 3 = .ok (.arraylength, 1) := by decide +kernel
theorem dJ7_fill_53178_4 : decode cJ7_fill_53178 4 = .ok (.istore_n 3, 1) := by decide +kernel
theorem dJ7_fill_53178_5 : decode cJ7_fill_53178 5 = .ok (.iload_n 2, 1) := by decide +kernel
theorem dJ7_fill_53178_6 : decode cJ7_fill_53178 6 = .ok (.iload_n 3, 1) := by decide +kernel
theorem dJ7_fill_53178_7 : decode cJ7_fill_53178 7 = .ok (.if_icmp .ge 13, 3) := by decide +kernel
theorem dJ7_fill_53178_10 : decode cJ7_fill_53178 10 = .ok (.aload_n 0, 1) := by decide +kernel
theorem dJ7_fill_53178_11 : decode cJ7_fill_53178 11 = .ok (.iload_n 2, 1) := by decide +kernel
theorem dJ7_fill_53178_12 : decode cJ7_fill_53178 12 = .ok (.iload_n 1, 1) := by decide +kernel
theorem dJ7_fill_53178_13 : decode cJ7_fill_53178 13 = .ok (.iastore, 1) := by decide +kernel
theorem dJ7_fill_53178_14 : decode cJ7_fill_53178 14 = .ok (.iinc 2 1, 3) := by decide +kernel
theorem dJ7_fill_53178_17 : decode cJ7_fill_53178 17 = .ok (.goto (-12), 3) := by decide +kernel
theorem dJ7_fill_53178_20 : decode cJ7_fill_53178 20 = .ok (.return_, 1) := by decide +kernel
theorem dX0_append_0 : decode cX0_append 0 = .ok (.bipush 24, 2) := by decide +kernel
theorem dX0_append_2 : decode cX0_append 2 = .ok (.istore_n 2, 1) := by decide +kernel
theorem dX0_append_3 : decode cX0_append 3 = .ok (.iload_n 2, 1) := by decide +kernel
theorem dX0_append_4 : decode cX0_append 4 = .ok (.ifCond .lt 45, 3) := by decide +kernel
theorem dX0_append_7 : decode cX0_append 7 = .ok (.aload_n 0, 1) := by decide +kernel
theorem dX0_append_8 : decode cX0_append 8 = .ok (.getfield 60, 3) := by decide +kernel
theorem dX0_append_11 : decode cX0_append 11 = .ok (.sipush 400, 3) := by decide +kernel
theorem dX0_append_14 : decode cX0_append 14 = .ok (.if_icmp .ge 35, 3) := by decide +kernel
theorem dX0_append_17 : decode cX0_append 17 = .ok (.aload_n 0, 1) := by decide +kernel
theorem dX0_append_18 : decode cX0_append 18 = .ok (.getfield 40, 3) := by decide +kernel
theorem dX0_append_21 : decode cX0_append 21 = .ok (.aload_n 0, 1) := by decide +kernel
theorem dX0_append_22 : decode cX0_append 22 = .ok (.getfield 60, 3) := by decide +kernel
theorem dX0_append_25 : decode cX0_append 25 = .ok (.iload_n 1, 1) := by decide +kernel
theorem dX0_append_26 : decode cX0_append 26 = .ok (.iload_n 2, 1) := by decide +kernel
theorem dX0_append_27 : decode cX0_append 27 = .ok (.ishr, 1) := by decide +kernel
theorem dX0_append_28 : decode cX0_append 28 = .ok (.sipush 255, 3) := by decide +kernel
theorem dX0_append_31 : decode cX0_append 31 = .ok (.iand, 1) := by decide +kernel
theorem dX0_append_32 : decode cX0_append 32 = .ok (.iastore, 1) := by decide +kernel
theorem dX0_append_33 : decode cX0_append 33 = .ok (.aload_n 0, 1) := by decide +kernel
theorem dX0_append_34 : decode cX0_append 34 = .ok (.dup, 1) := by decide +kernel
theorem dX0_append_35 : decode cX0_append 35 = .ok (.getfield 60, 3) := by decide +kernel
theorem dX0_append_38 : decode cX0_append 38 = .ok (.iconst 1, 1) := by decide +kernel
theorem dX0_append_39 : decode cX0_append 39 = .ok (.iadd, 1) := by decide +kernel
theorem dX0_append_40 : decode cX0_append 40 = .ok (.putfield 60, 3) := by decide +kernel
theorem dX0_append_43 : decode cX0_append 43 = .ok (.iinc 2 (-8), 3) := by decide +kernel
theorem dX0_append_46 : decode cX0_append 46 = .ok (.goto (-43), 3) := by decide +kernel
theorem dX0_append_49 : decode cX0_append 49 = .ok (.return_, 1) := by decide +kernel
theorem dX0_copyFrom_0 : decode cX0_copyFrom 0 = .ok (.aload_n 0, 1) := by decide +kernel
theorem dX0_copyFrom_1 : decode cX0_copyFrom 1 = .ok (.aload_n 1, 1) := by decide +kernel
theorem dX0_copyFrom_2 : decode cX0_copyFrom 2 = .ok (.getfield 43, 3) := by decide +kernel
theorem dX0_copyFrom_5 : decode cX0_copyFrom 5 = .ok (.putfield 43, 3) := by decide +kernel
theorem dX0_copyFrom_8 : decode cX0_copyFrom 8 = .ok (.aload_n 1, 1) := by decide +kernel
theorem dX0_copyFrom_9 : decode cX0_copyFrom 9 = .ok (.getfield 9, 3) := by decide +kernel
theorem dX0_copyFrom_12 : decode cX0_copyFrom 12 = .ok (.iconst 0, 1) := by decide +kernel
theorem dX0_copyFrom_13 : decode cX0_copyFrom 13 = .ok (.aload_n 0, 1) := by decide +kernel
theorem dX0_copyFrom_14 : decode cX0_copyFrom 14 = .ok (.getfield 9, 3) := by decide +kernel
theorem dX0_copyFrom_17 : decode cX0_copyFrom 17 = .ok (.iconst 0, 1) := by decide +kernel
theorem dX0_copyFrom_18 : decode cX0_copyFrom 18 = .ok (.aload_n 0, 1) := by decide +kernel
theorem dX0_copyFrom_19 : decode cX0_copyFrom 19 = .ok (.getfield 9, 3) := by decide +kernel
theorem dX0_copyFrom_22 : decode cX0_copyFrom 22 = .ok (.arraylength, 1) := by decide +kernel
theorem dX0_copyFrom_23 : decode cX0_copyFrom 23 = .ok (.invokestatic 47, 3) := by decide +kernel
theorem dX0_copyFrom_26 : decode cX0_copyFrom 26 = .ok (.aload_n 0, 1) := by decide +kernel
theorem dX0_copyFrom_27 : decode cX0_copyFrom 27 = .ok (.getfield 18, 3) := by decide +kernel
theorem dX0_copyFrom_30 : decode cX0_copyFrom 30 = .ok (.aload_n 1, 1) := by decide +kernel
theorem dX0_copyFrom_31 : decode cX0_copyFrom 31 = .ok (.getfield 18, 3) := by decide +kernel
theorem dX0_copyFrom_34 : decode cX0_copyFrom 34 = .ok (.invokevirtual 53, 3) := by decide +kernel
theorem dX0_copyFrom_37 : decode cX0_copyFrom 37 = .ok (.aload_n 0, 1) := by decide +kernel
theorem dX0_copyFrom_38 : decode cX0_copyFrom 38 = .ok (.getfield 27, 3) := by decide +kernel
theorem dX0_copyFrom_41 : decode cX0_copyFrom 41 = .ok (.aload_n 1, 1) := by decide +kernel
theorem dX0_copyFrom_42 : decode cX0_copyFrom 42 = .ok (.getfield 27, 3) := by decide +kernel
theorem dX0_copyFrom_45 : decode cX0_copyFrom 45 = .ok (.invokevirtual 57, 3) := by decide +kernel
theorem dX0_copyFrom_48 : decode cX0_copyFrom 48 = .ok (.aload_n 0, 1) := by decide +kernel
theorem dX0_copyFrom_49 : decode cX0_copyFrom 49 = .ok (.getfield 31, 3) := by decide +kernel
theorem dX0_copyFrom_52 : decode cX0_copyFrom 52 = .ok (.aload_n 1, 1) := by decide +kernel
theorem dX0_copyFrom_53 : decode cX0_copyFrom 53 = .ok (.getfield 31, 3) := by decide +kernel
theorem dX0_copyFrom_56 : decode cX0_copyFrom 56 = .ok (.invokevirtual 57, 3) := by decide +kernel
theorem dX0_copyFrom_59 : decode cX0_copyFrom 59 = .ok (.aload_n 0, 1) := by decide +kernel
theorem dX0_copyFrom_60 : decode cX0_copyFrom 60 = .ok (.getfield 34, 3) := by decide +kernel
theorem dX0_copyFrom_63 : decode cX0_copyFrom 63 = .ok (.aload_n 1, 1) := by decide +kernel
theorem dX0_copyFrom_64 : decode cX0_copyFrom 64 = .ok (.getfield 34, 3) := by decide +kernel
theorem dX0_copyFrom_67 : decode cX0_copyFrom 67 = .ok (.invokevirtual 57, 3) := by decide +kernel
theorem dX0_copyFrom_70 : decode cX0_copyFrom 70 = .ok (.aload_n 0, 1) := by decide +kernel
theorem dX0_copyFrom_71 : decode cX0_copyFrom 71 = .ok (.getfield 37, 3) := by decide +kernel
theorem dX0_copyFrom_74 : decode cX0_copyFrom 74 = .ok (.aload_n 1, 1) := by decide +kernel
theorem dX0_copyFrom_75 : decode cX0_copyFrom 75 = .ok (.getfield 37, 3) := by decide +kernel
theorem dX0_copyFrom_78 : decode cX0_copyFrom 78 = .ok (.invokevirtual 57, 3) := by decide +kernel
theorem dX0_copyFrom_81 : decode cX0_copyFrom 81 = .ok (.aload_n 1, 1) := by decide +kernel
theorem dX0_copyFrom_82 : decode cX0_copyFrom 82 = .ok (.getfield 40, 3) := by decide +kernel
theorem dX0_copyFrom_85 : decode cX0_copyFrom 85 = .ok (.iconst 0, 1) := by decide +kernel
theorem dX0_copyFrom_86 : decode cX0_copyFrom 86 = .ok (.aload_n 0, 1) := by decide +kernel
theorem dX0_copyFrom_87 : decode cX0_copyFrom 87 = .ok (.getfield 40, 3) := by decide +kernel
theorem dX0_copyFrom_90 : decode cX0_copyFrom 90 = .ok (.iconst 0, 1) := by decide +kernel
theorem dX0_copyFrom_91 : decode cX0_copyFrom 91 = .ok (.sipush 400, 3) := by decide +kernel
theorem dX0_copyFrom_94 : decode cX0_copyFrom 94 = .ok (.invokestatic 47, 3) := by decide +kernel
theorem dX0_copyFrom_97 : decode cX0_copyFrom 97 = .ok (.aload_n 0, 1) := by decide +kernel
theorem dX0_copyFrom_98 : decode cX0_copyFrom 98 = .ok (.aload_n 1, 1) := by decide +kernel
theorem dX0_copyFrom_99 : decode cX0_copyFrom 99 = .ok (.getfield 60, 3) := by decide +kernel
theorem dX0_copyFrom_102 : decode cX0_copyFrom 102 = .ok (.putfield 60, 3) := by decide +kernel
theorem dX0_copyFrom_105 : decode cX0_copyFrom 105 = .ok (.return_, 1) := by decide +kernel
theorem dX0_hasLine_0 : decode cX0_hasLine 0 = .ok (.iconst 0, 1) := by decide +kernel
theorem dX0_hasLine_1 : decode cX0_hasLine 1 = .ok (.istore_n 3, 1) := by decide +kernel
theorem dX0_hasLine_2 : decode cX0_hasLine 2 = .ok (.iconst 0, 1) := by decide +kernel
theorem dX0_hasLine_3 : decode cX0_hasLine 3 = .ok (.istore 4, 2) := by decide +kernel
theorem dX0_hasLine_5 : decode cX0_hasLine 5 = .ok (.iload 4, 2) := by decide +kernel
theorem dX0_hasLine_7 : decode cX0_hasLine 7 = .ok (.aload_n 0, 1) := by decide +kernel
theorem dX0_hasLine_8 : decode cX0_hasLine 8 = .ok (.getfield 31, 3) := by decide +kernel
theorem dX0_hasLine_11 : decode cX0_hasLine 11 = .ok (.getfield 63, 3) := by decide +kernel
theorem dX0_hasLine_14 : decode cX0_hasLine 14 = .ok (.if_icmp .ge 45, 3) := by decide +kernel
theorem dX0_hasLine_59 : decode cX0_hasLine 59 = .ok (.iload_n 3, 1) := by decide +kernel
theorem dX0_hasLine_60 : decode cX0_hasLine 60 = .ok (.ireturn, 1) := by decide +kernel
theorem dX0_init_0 : decode cX0_init 0 = .ok (.aload_n 0, 1) := by decide +kernel
theorem dX0_init_1 : decode cX0_init 1 = .ok (.invokespecial 3, 3) := by decide +kernel
theorem dX0_init_4 : decode cX0_init 4 = .ok (.aload_n 0, 1) := by decide +kernel
theorem dX0_init_5 : decode cX0_init 5 = .ok (.iconst 4, 1) := by decide +kernel
theorem dX0_init_6 : decode cX0_init 6 = .ok (.newarray .int, 2) := by decide +kernel
theorem dX0_init_8 : decode cX0_init 8 = .ok (.putfield 9, 3) := by decide +kernel
theorem dX0_init_11 : decode cX0_init 11 = .ok (.aload_n 0, 1) := by decide +kernel
theorem dX0_init_12 : decode cX0_init 12 = .ok (.new 15, 3) := by decide +kernel
theorem dX0_init_15 : decode cX0_init 15 = .ok (.dup, 1) := by decide +kernel
theorem dX0_init_16 : decode cX0_init 16 = .ok (.invokespecial 17, 3) := by decide +kernel
theorem dX0_init_19 : decode cX0_init 19 = .ok (.putfield 18, 3) := by decide +kernel
theorem dX0_init_22 : decode cX0_init 22 = .ok (.aload_n 0, 1) := by decide +kernel
theorem dX0_init_23 : decode cX0_init 23 = .ok (.new 22, 3) := by decide +kernel
theorem dX0_init_26 : decode cX0_init 26 = .ok (.dup, 1) := by decide +kernel
theorem dX0_init_27 : decode cX0_init 27 = .ok (.bipush 40, 2) := by decide +kernel
theorem dX0_init_29 : decode cX0_init 29 = .ok (.invokespecial 24, 3) := by decide +kernel
theorem dX0_init_32 : decode cX0_init 32 = .ok (.putfield 27, 3) := by decide +kernel
theorem dX0_init_35 : decode cX0_init 35 = .ok (.aload_n 0, 1) := by decide +kernel
theorem dX0_init_36 : decode cX0_init 36 = .ok (.new 22, 3) := by decide +kernel
theorem dX0_init_39 : decode cX0_init 39 = .ok (.dup, 1) := by decide +kernel
theorem dX0_init_40 : decode cX0_init 40 = .ok (.bipush 60, 2) := by decide +kernel
theorem dX0_init_42 : decode cX0_init 42 = .ok (.invokespecial 24, 3) := by decide +kernel
theorem dX0_init_45 : decode cX0_init 45 = .ok (.putfield 31, 3) := by decide +kernel
theorem dX0_init_48 : decode cX0_init 48 = .ok (.aload_n 0, 1) := by decide +kernel
theorem dX0_init_49 : decode cX0_init 49 = .ok (.new 22, 3) := by decide +kernel
theorem dX0_init_52 : decode cX0_init 52 = .ok (.dup, 1) := by decide +kernel
theorem dX0_init_53 : decode cX0_init 53 = .ok (.bipush 10, 2) := by decide +kernel
theorem dX0_init_55 : decode cX0_init 55 = .ok (.invokespecial 24, 3) := by decide +kernel
theorem dX0_init_58 : decode cX0_init 58 = .ok (.putfield 34, 3) := by decide +kernel
theorem dX0_init_61 : decode cX0_init 61 = .ok (.aload_n 0, 1) := by decide +kernel
theorem dX0_init_62 : decode cX0_init 62 = .ok (.new 22, 3) := by decide +kernel
theorem dX0_init_65 : decode cX0_init 65 = .ok (.dup, 1) := by decide +kernel
theorem dX0_init_66 : decode cX0_init 66 = .ok (.bipush 8, 2) := by decide +kernel
theorem dX0_init_68 : decode cX0_init 68 = .ok (.invokespecial 24, 3) := by decide +kernel
theorem dX0_init_71 : decode cX0_init 71 = .ok (.putfield 37, 3) := by decide +kernel
theorem dX0_init_74 : decode cX0_init 74 = .ok (.aload_n 0, 1) := by decide +kernel
theorem dX0_init_75 : decode cX0_init 75 = .ok (.sipush 400, 3) := by decide +kernel
theorem dX0_init_78 : decode cX0_init 78 = .ok (.newarray .int, 2) := by decide +kernel
theorem dX0_init_80 : decode cX0_init 80 = .ok (.putfield 40, 3) := by decide +kernel
theorem dX0_init_83 : decode cX0_init 83 = .ok (.return_, 1) := by decide +kernel
theorem dX10_init_0 : decode cX10_init 0 = .ok (.aload_n 0, 1) := by decide +kernel
theorem dX10_init_1 : decode cX10_init 1 = .ok (.invokespecial 3, 3) := by decide +kernel
theorem dX10_init_4 : decode cX10_init 4 = .ok (.aload_n 0, 1) := by decide +kernel
theorem dX10_init_5 : decode cX10_init 5 = .ok (.sipush 300, 3) := by decide +kernel
theorem dX10_init_8 : decode cX10_init 8 = .ok (.newarray .boolean, 2) := by decide +kernel
theorem dX10_init_10 : decode cX10_init 10 = .ok (.putfield 9, 3) := by decide +kernel
theorem dX10_init_13 : decode cX10_init 13 = .ok (.aload_n 0, 1) := by decide +kernel
theorem dX10_init_14 : decode cX10_init 14 = .ok (.sipush 300, 3) := by decide +kernel
theorem dX10_init_17 : decode cX10_init 17 = .ok (.newarray .boolean, 2) := by decide +kernel
theorem dX10_init_19 : decode cX10_init 19 = .ok (.putfield 15, 3) := by decide +kernel
theorem dX10_init_22 : decode cX10_init 22 = .ok (.aload_n 0, 1) := by decide +kernel
theorem dX10_init_23 : decode cX10_init 23 = .ok (.sipush 300, 3) := by decide +kernel
theorem dX10_init_26 : decode cX10_init 26 = .ok (.newarray .boolean, 2) := by decide +kernel
theorem dX10_init_28 : decode cX10_init 28 = .ok (.putfield 18, 3) := by decide +kernel
theorem dX10_init_31 : decode cX10_init 31 = .ok (.aload_n 0, 1) := by decide +kernel
theorem dX10_init_32 : decode cX10_init 32 = .ok (.sipush 300, 3) := by decide +kernel
theorem dX10_init_35 : decode cX10_init 35 = .ok (.newarray .int, 2) := by decide +kernel
theorem dX10_init_37 : decode cX10_init 37 = .ok (.putfield 21, 3) := by decide +kernel
theorem dX10_init_40 : decode cX10_init 40 = .ok (.aload_n 0, 1) := by decide +kernel
theorem dX10_init_41 : decode cX10_init 41 = .ok (.sipush 300, 3) := by decide +kernel
theorem dX10_init_44 : decode cX10_init 44 = .ok (.newarray .int, 2) := by decide +kernel
theorem dX10_init_46 : decode cX10_init 46 = .ok (.putfield 25, 3) := by decide +kernel
theorem dX10_init_49 : decode cX10_init 49 = .ok (.aload_n 0, 1) := by decide +kernel
theorem dX10_init_50 : decode cX10_init 50 = .ok (.sipush 301, 3) := by decide +kernel
theorem dX10_init_53 : decode cX10_init 53 = .ok (.newarray .int, 2) := by decide +kernel
theorem dX10_init_55 : decode cX10_init 55 = .ok (.putfield 28, 3) := by decide +kernel
theorem dX10_init_58 : decode cX10_init 58 = .ok (.aload_n 0, 1) := by decide +kernel
theorem dX10_init_59 : decode cX10_init 59 = .ok (.sipush 301, 3) := by decide +kernel
theorem dX10_init_62 : decode cX10_init 62 = .ok (.newarray .int, 2) := by decide +kernel
theorem dX10_init_64 : decode cX10_init 64 = .ok (.putfield 31, 3) := by decide +kernel
theorem dX10_init_67 : decode cX10_init 67 = .ok (.aload_n 0, 1) := by decide +kernel
theorem dX10_init_68 : decode cX10_init 68 = .ok (.bipush 42, 2) := by decide +kernel
theorem dX10_init_70 : decode cX10_init 70 = .ok (.newarray .int, 2) := by decide +kernel
theorem dX10_init_72 : decode cX10_init 72 = .ok (.putfield 34, 3) := by decide +kernel
theorem dX10_init_75 : decode cX10_init 75 = .ok (.aload_n 0, 1) := by decide +kernel
theorem dX10_init_76 : decode cX10_init 76 = .ok (.bipush 42, 2) := by decide +kernel
theorem dX10_init_78 : decode cX10_init 78 = .ok (.newarray .int, 2) := by decide +kernel
theorem dX10_init_80 : decode cX10_init 80 = .ok (.putfield 37, 3) := by decide +kernel
theorem dX10_init_83 : decode cX10_init 83 = .ok (.return_, 1) := by decide +kernel
theorem dX11_agreed_0 : decode cX11_agreed 0 = .ok (.iload_n 1, 1) := by decide +kernel
theorem dX11_agreed_1 : decode cX11_agreed 1 = .ok (.invokestatic 94, 3) := by decide +kernel
theorem dX11_agreed_4 : decode cX11_agreed 4 = .ok (.ifCond .ne 5, 3) := by decide +kernel
theorem dX11_agreed_7 : decode cX11_agreed 7 = .ok (.iconst (-1), 1) := by decide +kernel
theorem dX11_agreed_8 : decode cX11_agreed 8 = .ok (.ireturn, 1) := by decide +kernel
theorem dX11_agreed_9 : decode cX11_agreed 9 = .ok (.aload_n 0, 1) := by decide +kernel
theorem dX11_agreed_10 : decode cX11_agreed 10 = .ok (.invokevirtual 426, 3) := by decide +kernel
theorem dX11_agreed_13 : decode cX11_agreed 13 = .ok (.iconst 0, 1) := by decide +kernel
theorem dX11_agreed_14 : decode cX11_agreed 14 = .ok (.istore_n 2, 1) := by decide +kernel
theorem dX11_agreed_15 : decode cX11_agreed 15 = .ok (.iload_n 2, 1) := by decide +kernel
theorem dX11_agreed_16 : decode cX11_agreed 16 = .ok (.iload_n 1, 1) := by decide +kernel
theorem dX11_agreed_17 : decode cX11_agreed 17 = .ok (.if_icmp .gt 31, 3) := by decide +kernel
theorem dX11_agreed_20 : decode cX11_agreed 20 = .ok (.iconst 2, 1) := by decide +kernel
theorem dX11_agreed_21 : decode cX11_agreed 21 = .ok (.aload_n 0, 1) := by decide +kernel
theorem dX11_agreed_22 : decode cX11_agreed 22 = .ok (.iload_n 2, 1) := by decide +kernel
theorem dX11_agreed_23 : decode cX11_agreed 23 = .ok (.invokevirtual 396, 3) := by decide +kernel
theorem dX11_agreed_26 : decode cX11_agreed 26 = .ok (.imul, 1) := by decide +kernel
theorem dX11_agreed_27 : decode cX11_agreed 27 = .ok (.aload_n 0, 1) := by decide +kernel
theorem dX11_agreed_28 : decode cX11_agreed 28 = .ok (.getfield 10, 3) := by decide +kernel
theorem dX11_agreed_31 : decode cX11_agreed 31 = .ok (.getfield 420, 3) := by decide +kernel
theorem dX11_agreed_34 : decode cX11_agreed 34 = .ok (.getfield 173, 3) := by decide +kernel
theorem dX11_agreed_37 : decode cX11_agreed 37 = .ok (.if_icmp .le 5, 3) := by decide +kernel
theorem dX11_agreed_42 : decode cX11_agreed 42 = .ok (.iinc 2 1, 3) := by decide +kernel
theorem dX11_agreed_45 : decode cX11_agreed 45 = .ok (.goto (-30), 3) := by decide +kernel
theorem dX11_agreed_48 : decode cX11_agreed 48 = .ok (.bipush (-2), 2) := by decide +kernel
theorem dX11_agreed_50 : decode cX11_agreed 50 = .ok (.ireturn, 1) := by decide +kernel
theorem dX11_alone_0 : decode cX11_alone 0 = .ok (.iload_n 1, 1) := by decide +kernel
theorem dX11_alone_1 : decode cX11_alone 1 = .ok (.invokestatic 94, 3) := by decide +kernel
theorem dX11_alone_4 : decode cX11_alone 4 = .ok (.ifCond .ne 5, 3) := by decide +kernel
theorem dX11_alone_7 : decode cX11_alone 7 = .ok (.iconst (-1), 1) := by decide +kernel
theorem dX11_alone_8 : decode cX11_alone 8 = .ok (.ireturn, 1) := by decide +kernel
theorem dX11_alone_9 : decode cX11_alone 9 = .ok (.aload_n 0, 1) := by decide +kernel
theorem dX11_alone_10 : decode cX11_alone 10 = .ok (.invokevirtual 426, 3) := by decide +kernel
theorem dX11_alone_13 : decode cX11_alone 13 = .ok (.aload_n 0, 1) := by decide +kernel
theorem dX11_alone_14 : decode cX11_alone 14 = .ok (.iload_n 1, 1) := by decide +kernel
theorem dX11_alone_15 : decode cX11_alone 15 = .ok (.invokevirtual 396, 3) := by decide +kernel
theorem dX11_alone_18 : decode cX11_alone 18 = .ok (.iconst 1, 1) := by decide +kernel
theorem dX11_alone_19 : decode cX11_alone 19 = .ok (.if_icmp .eq 6, 3) := by decide +kernel
theorem dX11_alone_22 : decode cX11_alone 22 = .ok (.bipush (-2), 2) := by decide +kernel
theorem dX11_alone_24 : decode cX11_alone 24 = .ok (.ireturn, 1) := by decide +kernel
theorem dX11_anew_0 : decode cX11_anew 0 = .ok (.aload_n 0, 1) := by decide +kernel
theorem dX11_anew_1 : decode cX11_anew 1 = .ok (.getfield 10, 3) := by decide +kernel
theorem dX11_anew_4 : decode cX11_anew 4 = .ok (.getfield 147, 3) := by decide +kernel
theorem dX11_anew_7 : decode cX11_anew 7 = .ok (.iload_n 1, 1) := by decide +kernel
theorem dX11_anew_8 : decode cX11_anew 8 = .ok (.invokevirtual 156, 3) := by decide +kernel
theorem dX11_anew_11 : decode cX11_anew 11 = .ok (.ifCond .eq 16, 3) := by decide +kernel
theorem dX11_anew_27 : decode cX11_anew 27 = .ok (.ldc 128, 2) := by decide +kernel
theorem dX11_anew_29 : decode cX11_anew 29 = .ok (.ireturn, 1) := by decide +kernel
theorem dX11_apart_0 : decode cX11_apart 0 = .ok (.aload_n 0, 1) := by decide +kernel
theorem dX11_apart_1 : decode cX11_apart 1 = .ok (.getfield 29, 3) := by decide +kernel
theorem dX11_apart_4 : decode cX11_apart 4 = .ok (.iload_n 1, 1) := by decide +kernel
theorem dX11_apart_5 : decode cX11_apart 5 = .ok (.invokevirtual 201, 3) := by decide +kernel
theorem dX11_apart_8 : decode cX11_apart 8 = .ok (.ifnull 26, 3) := by decide +kernel
theorem dX11_apart_34 : decode cX11_apart 34 = .ok (.iconst (-1), 1) := by decide +kernel
theorem dX11_apart_35 : decode cX11_apart 35 = .ok (.ireturn, 1) := by decide +kernel
theorem dX11_back_0 : decode cX11_back 0 = .ok (.iload_n 1, 1) := by decide +kernel
theorem dX11_back_1 : decode cX11_back 1 = .ok (.iconst 0, 1) := by decide +kernel
theorem dX11_back_2 : decode cX11_back 2 = .ok (.iconst 3, 1) := by decide +kernel
theorem dX11_back_3 : decode cX11_back 3 = .ok (.invokestatic 105, 3) := by decide +kernel
theorem dX11_back_6 : decode cX11_back 6 = .ok (.ifCond .eq 12, 3) := by decide +kernel
theorem dX11_back_9 : decode cX11_back 9 = .ok (.aload_n 0, 1) := by decide +kernel
theorem dX11_back_10 : decode cX11_back 10 = .ok (.getfield 16, 3) := by decide +kernel
theorem dX11_back_13 : decode cX11_back 13 = .ok (.iload_n 1, 1) := by decide +kernel
theorem dX11_back_14 : decode cX11_back 14 = .ok (.aaload, 1) := by decide +kernel
theorem dX11_back_15 : decode cX11_back 15 = .ok (.ifnonnull 5, 3) := by decide +kernel
theorem dX11_back_18 : decode cX11_back 18 = .ok (.iconst (-1), 1) := by decide +kernel
theorem dX11_back_19 : decode cX11_back 19 = .ok (.ireturn, 1) := by decide +kernel
theorem dX11_begunUpTo_0 : decode cX11_begunUpTo 0 = .ok (.iconst 0, 1) := by decide +kernel
theorem dX11_begunUpTo_1 : decode cX11_begunUpTo 1 = .ok (.istore_n 2, 1) := by decide +kernel
theorem dX11_begunUpTo_2 : decode cX11_begunUpTo 2 = .ok (.iconst 0, 1) := by decide +kernel
theorem dX11_begunUpTo_3 : decode cX11_begunUpTo 3 = .ok (.istore_n 3, 1) := by decide +kernel
theorem dX11_begunUpTo_4 : decode cX11_begunUpTo 4 = .ok (.iload_n 3, 1) := by decide +kernel
theorem dX11_begunUpTo_5 : decode cX11_begunUpTo 5 = .ok (.aload_n 0, 1) := by decide +kernel
theorem dX11_begunUpTo_6 : decode cX11_begunUpTo 6 = .ok (.getfield 84, 3) := by decide +kernel
theorem dX11_begunUpTo_9 : decode cX11_begunUpTo 9 = .ok (.arraylength, 1) := by decide +kernel
theorem dX11_begunUpTo_10 : decode cX11_begunUpTo 10 = .ok (.if_icmp .ge 27, 3) := by decide +kernel
theorem dX11_begunUpTo_13 : decode cX11_begunUpTo 13 = .ok (.iload_n 2, 1) := by decide +kernel
theorem dX11_begunUpTo_14 : decode cX11_begunUpTo 14 = .ok (.aload_n 0, 1) := by decide +kernel
theorem dX11_begunUpTo_15 : decode cX11_begunUpTo 15 = .ok (.getfield 84, 3) := by decide +kernel
theorem dX11_begunUpTo_18 : decode cX11_begunUpTo 18 = .ok (.iload_n 3, 1) := by decide +kernel
theorem dX11_begunUpTo_19 : decode cX11_begunUpTo 19 = .ok (.iaload, 1) := by decide +kernel
theorem dX11_begunUpTo_20 : decode cX11_begunUpTo 20 = .ok (.iload_n 1, 1) := by decide +kernel
theorem dX11_begunUpTo_21 : decode cX11_begunUpTo 21 = .ok (.if_icmp .gt 7, 3) := by decide +kernel
theorem dX11_begunUpTo_28 : decode cX11_begunUpTo 28 = .ok (.iconst 0, 1) := by decide +kernel
theorem dX11_begunUpTo_29 : decode cX11_begunUpTo 29 = .ok (.iadd, 1) := by decide +kernel
theorem dX11_begunUpTo_30 : decode cX11_begunUpTo 30 = .ok (.istore_n 2, 1) := by decide +kernel
theorem dX11_begunUpTo_31 : decode cX11_begunUpTo 31 = .ok (.iinc 3 1, 3) := by decide +kernel
theorem dX11_begunUpTo_34 : decode cX11_begunUpTo 34 = .ok (.goto (-30), 3) := by decide +kernel
theorem dX11_begunUpTo_37 : decode cX11_begunUpTo 37 = .ok (.iload_n 2, 1) := by decide +kernel
theorem dX11_begunUpTo_38 : decode cX11_begunUpTo 38 = .ok (.ireturn, 1) := by decide +kernel
theorem dX11_bent_0 : decode cX11_bent 0 = .ok (.iload_n 3, 1) := by decide +kernel
theorem dX11_bent_1 : decode cX11_bent 1 = .ok (.iconst 0, 1) := by decide +kernel
theorem dX11_bent_2 : decode cX11_bent 2 = .ok (.bipush 40, 2) := by decide +kernel
theorem dX11_bent_4 : decode cX11_bent 4 = .ok (.invokestatic 105, 3) := by decide +kernel
theorem dX11_bent_7 : decode cX11_bent 7 = .ok (.ifCond .eq 13, 3) := by decide +kernel
theorem dX11_bent_10 : decode cX11_bent 10 = .ok (.aload_n 0, 1) := by decide +kernel
theorem dX11_bent_11 : decode cX11_bent 11 = .ok (.iload_n 1, 1) := by decide +kernel
theorem dX11_bent_12 : decode cX11_bent 12 = .ok (.iload_n 2, 1) := by decide +kernel
theorem dX11_bent_13 : decode cX11_bent 13 = .ok (.iconst (-1), 1) := by decide +kernel
theorem dX11_bent_14 : decode cX11_bent 14 = .ok (.invokevirtual 246, 3) := by decide +kernel
theorem dX11_bent_17 : decode cX11_bent 17 = .ok (.ifCond .ne 7, 3) := by decide +kernel
theorem dX11_bent_20 : decode cX11_bent 20 = .ok (.ldc2_w 262, 3) := by decide +kernel
theorem dX11_bent_23 : decode cX11_bent 23 = .ok (.lreturn, 1) := by decide +kernel
theorem dX11_best_0 : decode cX11_best 0 = .ok (.iload_n 3, 1) := by decide +kernel
theorem dX11_best_1 : decode cX11_best 1 = .ok (.iconst 0, 1) := by decide +kernel
theorem dX11_best_2 : decode cX11_best 2 = .ok (.ldc_w 312, 3) := by decide +kernel
theorem dX11_best_5 : decode cX11_best 5 = .ok (.invokestatic 105, 3) := by decide +kernel
theorem dX11_best_8 : decode cX11_best 8 = .ok (.ifCond .eq 23, 3) := by decide +kernel
theorem dX11_best_11 : decode cX11_best 11 = .ok (.iload 4, 2) := by decide +kernel
theorem dX11_best_13 : decode cX11_best 13 = .ok (.iconst 0, 1) := by decide +kernel
theorem dX11_best_14 : decode cX11_best 14 = .ok (.iconst 1, 1) := by decide +kernel
theorem dX11_best_15 : decode cX11_best 15 = .ok (.invokestatic 105, 3) := by decide +kernel
theorem dX11_best_18 : decode cX11_best 18 = .ok (.ifCond .eq 13, 3) := by decide +kernel
theorem dX11_best_21 : decode cX11_best 21 = .ok (.aload_n 0, 1) := by decide +kernel
theorem dX11_best_22 : decode cX11_best 22 = .ok (.iload_n 1, 1) := by decide +kernel
theorem dX11_best_23 : decode cX11_best 23 = .ok (.iload_n 2, 1) := by decide +kernel
theorem dX11_best_24 : decode cX11_best 24 = .ok (.iconst (-1), 1) := by decide +kernel
theorem dX11_best_25 : decode cX11_best 25 = .ok (.invokevirtual 246, 3) := by decide +kernel
theorem dX11_best_28 : decode cX11_best 28 = .ok (.ifCond .ne 7, 3) := by decide +kernel
theorem dX11_best_31 : decode cX11_best 31 = .ok (.ldc2_w 272, 3) := by decide +kernel
theorem dX11_best_34 : decode cX11_best 34 = .ok (.lreturn, 1) := by decide +kernel
theorem dX11_brief_0 : decode cX11_brief 0 = .ok (.iload_n 1, 1) := by decide +kernel
theorem dX11_brief_1 : decode cX11_brief 1 = .ok (.invokestatic 474, 3) := by decide +kernel
theorem dX11_brief_4 : decode cX11_brief 4 = .ok (.ifCond .ne 5, 3) := by decide +kernel
theorem dX11_brief_7 : decode cX11_brief 7 = .ok (.iconst (-1), 1) := by decide +kernel
theorem dX11_brief_8 : decode cX11_brief 8 = .ok (.ireturn, 1) := by decide +kernel
theorem dX11_brief_9 : decode cX11_brief 9 = .ok (.lconst 0, 1) := by decide +kernel
theorem dX11_brief_10 : decode cX11_brief 10 = .ok (.iload_n 1, 1) := by decide +kernel
theorem dX11_brief_11 : decode cX11_brief 11 = .ok (.i2l, 1) := by decide +kernel
theorem dX11_brief_12 : decode cX11_brief 12 = .ok (.aload_n 0, 1) := by decide +kernel
theorem dX11_brief_13 : decode cX11_brief 13 = .ok (.invokevirtual 477, 3) := by decide +kernel
theorem dX11_brief_16 : decode cX11_brief 16 = .ok (.lsub, 1) := by decide +kernel
theorem dX11_brief_17 : decode cX11_brief 17 = .ok (.invokestatic 360, 3) := by decide +kernel
theorem dX11_brief_20 : decode cX11_brief 20 = .ok (.l2i, 1) := by decide +kernel
theorem dX11_brief_21 : decode cX11_brief 21 = .ok (.ireturn, 1) := by decide +kernel
theorem dX11_candidate_0 : decode cX11_candidate 0 = .ok (.iload_n 1, 1) := by decide +kernel
theorem dX11_candidate_1 : decode cX11_candidate 1 = .ok (.invokestatic 102, 3) := by decide +kernel
theorem dX11_candidate_4 : decode cX11_candidate 4 = .ok (.ifCond .eq 13, 3) := by decide +kernel
theorem dX11_candidate_7 : decode cX11_candidate 7 = .ok (.iload_n 2, 1) := by decide +kernel
theorem dX11_candidate_8 : decode cX11_candidate 8 = .ok (.iconst 1, 1) := by decide +kernel
theorem dX11_candidate_9 : decode cX11_candidate 9 = .ok (.bipush 99, 2) := by decide +kernel
theorem dX11_candidate_11 : decode cX11_candidate 11 = .ok (.invokestatic 105, 3) := by decide +kernel
theorem dX11_candidate_14 : decode cX11_candidate 14 = .ok (.ifCond .ne 5, 3) := by decide +kernel
theorem dX11_candidate_17 : decode cX11_candidate 17 = .ok (.iconst (-1), 1) := by decide +kernel
theorem dX11_candidate_18 : decode cX11_candidate 18 = .ok (.ireturn, 1) := by decide +kernel
theorem dX11_candidate_19 : decode cX11_candidate 19 = .ok (.aload_n 0, 1) := by decide +kernel
theorem dX11_candidate_20 : decode cX11_candidate 20 = .ok (.getfield 10, 3) := by decide +kernel
theorem dX11_candidate_23 : decode cX11_candidate 23 = .ok (.getfield 429, 3) := by decide +kernel
theorem dX11_candidate_26 : decode cX11_candidate 26 = .ok (.iload_n 1, 1) := by decide +kernel
theorem dX11_candidate_27 : decode cX11_candidate 27 = .ok (.iload_n 2, 1) := by decide +kernel
theorem dX11_candidate_28 : decode cX11_candidate 28 = .ok (.iconst 0, 1) := by decide +kernel
theorem dX11_candidate_29 : decode cX11_candidate 29 = .ok (.iconst 0, 1) := by decide +kernel
theorem dX11_candidate_30 : decode cX11_candidate 30 = .ok (.invokevirtual 151, 3) := by decide +kernel
theorem dX11_candidate_33 : decode cX11_candidate 33 = .ok (.ireturn, 1) := by decide +kernel
theorem dX11_clock_0 : decode cX11_clock 0 = .ok (.iload_n 1, 1) := by decide +kernel
theorem dX11_clock_1 : decode cX11_clock 1 = .ok (.invokestatic 94, 3) := by decide +kernel
theorem dX11_clock_4 : decode cX11_clock 4 = .ok (.ifCond .eq 14, 3) := by decide +kernel
theorem dX11_clock_7 : decode cX11_clock 7 = .ok (.iload_n 1, 1) := by decide +kernel
theorem dX11_clock_8 : decode cX11_clock 8 = .ok (.aload_n 0, 1) := by decide +kernel
theorem dX11_clock_9 : decode cX11_clock 9 = .ok (.getfield 10, 3) := by decide +kernel
theorem dX11_clock_12 : decode cX11_clock 12 = .ok (.getfield 98, 3) := by decide +kernel
theorem dX11_clock_15 : decode cX11_clock 15 = .ok (.if_icmp .ge 5, 3) := by decide +kernel
theorem dX11_clock_18 : decode cX11_clock 18 = .ok (.iconst 0, 1) := by decide +kernel
theorem dX11_clock_19 : decode cX11_clock 19 = .ok (.ireturn, 1) := by decide +kernel
theorem dX11_clock_20 : decode cX11_clock 20 = .ok (.aload_n 0, 1) := by decide +kernel
theorem dX11_clock_21 : decode cX11_clock 21 = .ok (.getfield 10, 3) := by decide +kernel
theorem dX11_clock_24 : decode cX11_clock 24 = .ok (.iload_n 1, 1) := by decide +kernel
theorem dX11_clock_25 : decode cX11_clock 25 = .ok (.putfield 98, 3) := by decide +kernel
theorem dX11_clock_28 : decode cX11_clock 28 = .ok (.iconst 1, 1) := by decide +kernel
theorem dX11_clock_29 : decode cX11_clock 29 = .ok (.ireturn, 1) := by decide +kernel
theorem dX11_count_0 : decode cX11_count 0 = .ok (.iload_n 1, 1) := by decide +kernel
theorem dX11_count_1 : decode cX11_count 1 = .ok (.tableswitch 165 0 10 #[59, 67, 78, 89, 100, 108, 116, 124, 135, 146, 154], 59) := by decide +kernel
theorem dX11_count_60 : decode cX11_count 60 = .ok (.aload_n 0, 1) := by decide +kernel
theorem dX11_count_61 : decode cX11_count 61 = .ok (.getfield 10, 3) := by decide +kernel
theorem dX11_count_64 : decode cX11_count 64 = .ok (.getfield 98, 3) := by decide +kernel
theorem dX11_count_67 : decode cX11_count 67 = .ok (.ireturn, 1) := by decide +kernel
theorem dX11_count_68 : decode cX11_count 68 = .ok (.aload_n 0, 1) := by decide +kernel
theorem dX11_count_69 : decode cX11_count 69 = .ok (.getfield 10, 3) := by decide +kernel
theorem dX11_count_72 : decode cX11_count 72 = .ok (.getfield 109, 3) := by decide +kernel
theorem dX11_count_75 : decode cX11_count 75 = .ok (.getfield 339, 3) := by decide +kernel
theorem dX11_count_78 : decode cX11_count 78 = .ok (.ireturn, 1) := by decide +kernel
theorem dX11_count_79 : decode cX11_count 79 = .ok (.aload_n 0, 1) := by decide +kernel
theorem dX11_count_80 : decode cX11_count 80 = .ok (.getfield 10, 3) := by decide +kernel
theorem dX11_count_83 : decode cX11_count 83 = .ok (.getfield 147, 3) := by decide +kernel
theorem dX11_count_86 : decode cX11_count 86 = .ok (.getfield 173, 3) := by decide +kernel
theorem dX11_count_89 : decode cX11_count 89 = .ok (.ireturn, 1) := by decide +kernel
theorem dX11_count_90 : decode cX11_count 90 = .ok (.aload_n 0, 1) := by decide +kernel
theorem dX11_count_91 : decode cX11_count 91 = .ok (.getfield 10, 3) := by decide +kernel
theorem dX11_count_94 : decode cX11_count 94 = .ok (.getfield 170, 3) := by decide +kernel
theorem dX11_count_97 : decode cX11_count 97 = .ok (.getfield 173, 3) := by decide +kernel
theorem dX11_count_100 : decode cX11_count 100 = .ok (.ireturn, 1) := by decide +kernel
theorem dX11_count_101 : decode cX11_count 101 = .ok (.aload_n 0, 1) := by decide +kernel
theorem dX11_count_102 : decode cX11_count 102 = .ok (.getfield 25, 3) := by decide +kernel
theorem dX11_count_105 : decode cX11_count 105 = .ok (.getfield 470, 3) := by decide +kernel
theorem dX11_count_108 : decode cX11_count 108 = .ok (.ireturn, 1) := by decide +kernel
theorem dX11_count_109 : decode cX11_count 109 = .ok (.aload_n 0, 1) := by decide +kernel
theorem dX11_count_110 : decode cX11_count 110 = .ok (.getfield 29, 3) := by decide +kernel
theorem dX11_count_113 : decode cX11_count 113 = .ok (.getfield 470, 3) := by decide +kernel
theorem dX11_count_116 : decode cX11_count 116 = .ok (.ireturn, 1) := by decide +kernel
theorem dX11_count_117 : decode cX11_count 117 = .ok (.aload_n 0, 1) := by decide +kernel
theorem dX11_count_118 : decode cX11_count 118 = .ok (.getfield 32, 3) := by decide +kernel
theorem dX11_count_121 : decode cX11_count 121 = .ok (.getfield 470, 3) := by decide +kernel
theorem dX11_count_124 : decode cX11_count 124 = .ok (.ireturn, 1) := by decide +kernel
theorem dX11_count_125 : decode cX11_count 125 = .ok (.aload_n 0, 1) := by decide +kernel
theorem dX11_count_126 : decode cX11_count 126 = .ok (.getfield 10, 3) := by decide +kernel
theorem dX11_count_129 : decode cX11_count 129 = .ok (.getfield 429, 3) := by decide +kernel
theorem dX11_count_132 : decode cX11_count 132 = .ok (.getfield 173, 3) := by decide +kernel
theorem dX11_count_135 : decode cX11_count 135 = .ok (.ireturn, 1) := by decide +kernel
theorem dX11_count_136 : decode cX11_count 136 = .ok (.aload_n 0, 1) := by decide +kernel
theorem dX11_count_137 : decode cX11_count 137 = .ok (.getfield 10, 3) := by decide +kernel
theorem dX11_count_140 : decode cX11_count 140 = .ok (.getfield 109, 3) := by decide +kernel
theorem dX11_count_143 : decode cX11_count 143 = .ok (.getfield 488, 3) := by decide +kernel
theorem dX11_count_146 : decode cX11_count 146 = .ok (.ireturn, 1) := by decide +kernel
theorem dX11_count_147 : decode cX11_count 147 = .ok (.aload_n 0, 1) := by decide +kernel
theorem dX11_count_148 : decode cX11_count 148 = .ok (.getfield 10, 3) := by decide +kernel
theorem dX11_count_151 : decode cX11_count 151 = .ok (.getfield 176, 3) := by decide +kernel
theorem dX11_count_154 : decode cX11_count 154 = .ok (.ireturn, 1) := by decide +kernel
theorem dX11_count_155 : decode cX11_count 155 = .ok (.aload_n 0, 1) := by decide +kernel
theorem dX11_count_156 : decode cX11_count 156 = .ok (.getfield 10, 3) := by decide +kernel
theorem dX11_count_159 : decode cX11_count 159 = .ok (.getfield 420, 3) := by decide +kernel
theorem dX11_count_162 : decode cX11_count 162 = .ok (.getfield 173, 3) := by decide +kernel
theorem dX11_count_165 : decode cX11_count 165 = .ok (.ireturn, 1) := by decide +kernel
theorem dX11_count_166 : decode cX11_count 166 = .ok (.iconst (-1), 1) := by decide +kernel
theorem dX11_count_167 : decode cX11_count 167 = .ok (.ireturn, 1) := by decide +kernel
theorem dX11_curve_0 : decode cX11_curve 0 = .ok (.iload_n 3, 1) := by decide +kernel
theorem dX11_curve_1 : decode cX11_curve 1 = .ok (.invokestatic 125, 3) := by decide +kernel
theorem dX11_curve_4 : decode cX11_curve 4 = .ok (.ifCond .eq 23, 3) := by decide +kernel
theorem dX11_curve_7 : decode cX11_curve 7 = .ok (.iload 4, 2) := by decide +kernel
theorem dX11_curve_9 : decode cX11_curve 9 = .ok (.iconst 0, 1) := by decide +kernel
theorem dX11_curve_10 : decode cX11_curve 10 = .ok (.iconst 2, 1) := by decide +kernel
theorem dX11_curve_11 : decode cX11_curve 11 = .ok (.invokestatic 105, 3) := by decide +kernel
theorem dX11_curve_14 : decode cX11_curve 14 = .ok (.ifCond .eq 13, 3) := by decide +kernel
theorem dX11_curve_17 : decode cX11_curve 17 = .ok (.aload_n 0, 1) := by decide +kernel
theorem dX11_curve_18 : decode cX11_curve 18 = .ok (.iload_n 1, 1) := by decide +kernel
theorem dX11_curve_19 : decode cX11_curve 19 = .ok (.iload_n 2, 1) := by decide +kernel
theorem dX11_curve_20 : decode cX11_curve 20 = .ok (.iconst (-1), 1) := by decide +kernel
theorem dX11_curve_21 : decode cX11_curve 21 = .ok (.invokevirtual 246, 3) := by decide +kernel
theorem dX11_curve_24 : decode cX11_curve 24 = .ok (.ifCond .ne 6, 3) := by decide +kernel
theorem dX11_curve_27 : decode cX11_curve 27 = .ok (.ldc 128, 2) := by decide +kernel
theorem dX11_curve_29 : decode cX11_curve 29 = .ok (.ireturn, 1) := by decide +kernel
theorem dX11_deep_0 : decode cX11_deep 0 = .ok (.iload_n 3, 1) := by decide +kernel
theorem dX11_deep_1 : decode cX11_deep 1 = .ok (.iconst 0, 1) := by decide +kernel
theorem dX11_deep_2 : decode cX11_deep 2 = .ok (.iconst 4, 1) := by decide +kernel
theorem dX11_deep_3 : decode cX11_deep 3 = .ok (.invokestatic 105, 3) := by decide +kernel
theorem dX11_deep_6 : decode cX11_deep 6 = .ok (.ifCond .eq 13, 3) := by decide +kernel
theorem dX11_deep_9 : decode cX11_deep 9 = .ok (.aload_n 0, 1) := by decide +kernel
theorem dX11_deep_10 : decode cX11_deep 10 = .ok (.iload_n 1, 1) := by decide +kernel
theorem dX11_deep_11 : decode cX11_deep 11 = .ok (.iload_n 2, 1) := by decide +kernel
theorem dX11_deep_12 : decode cX11_deep 12 = .ok (.iconst (-1), 1) := by decide +kernel
theorem dX11_deep_13 : decode cX11_deep 13 = .ok (.invokevirtual 246, 3) := by decide +kernel
theorem dX11_deep_16 : decode cX11_deep 16 = .ok (.ifCond .ne 7, 3) := by decide +kernel
theorem dX11_deep_19 : decode cX11_deep 19 = .ok (.ldc2_w 262, 3) := by decide +kernel
theorem dX11_deep_22 : decode cX11_deep 22 = .ok (.lreturn, 1) := by decide +kernel
theorem dX11_deepest_0 : decode cX11_deepest 0 = .ok (.iload_n 3, 1) := by decide +kernel
theorem dX11_deepest_1 : decode cX11_deepest 1 = .ok (.iconst 0, 1) := by decide +kernel
theorem dX11_deepest_2 : decode cX11_deepest 2 = .ok (.iconst 1, 1) := by decide +kernel
theorem dX11_deepest_3 : decode cX11_deepest 3 = .ok (.invokestatic 105, 3) := by decide +kernel
theorem dX11_deepest_6 : decode cX11_deepest 6 = .ok (.ifCond .eq 13, 3) := by decide +kernel
theorem dX11_deepest_9 : decode cX11_deepest 9 = .ok (.aload_n 0, 1) := by decide +kernel
theorem dX11_deepest_10 : decode cX11_deepest 10 = .ok (.iload_n 1, 1) := by decide +kernel
theorem dX11_deepest_11 : decode cX11_deepest 11 = .ok (.iload_n 2, 1) := by decide +kernel
theorem dX11_deepest_12 : decode cX11_deepest 12 = .ok (.iconst (-1), 1) := by decide +kernel
theorem dX11_deepest_13 : decode cX11_deepest 13 = .ok (.invokevirtual 246, 3) := by decide +kernel
theorem dX11_deepest_16 : decode cX11_deepest 16 = .ok (.ifCond .ne 7, 3) := by decide +kernel
theorem dX11_deepest_19 : decode cX11_deepest 19 = .ok (.ldc2_w 304, 3) := by decide +kernel
theorem dX11_deepest_22 : decode cX11_deepest 22 = .ok (.lreturn, 1) := by decide +kernel
theorem dX11_drawn_0 : decode cX11_drawn 0 = .ok (.aload_n 0, 1) := by decide +kernel
theorem dX11_drawn_1 : decode cX11_drawn 1 = .ok (.getfield 25, 3) := by decide +kernel
theorem dX11_drawn_4 : decode cX11_drawn 4 = .ok (.iload_n 1, 1) := by decide +kernel
theorem dX11_drawn_5 : decode cX11_drawn 5 = .ok (.invokevirtual 201, 3) := by decide +kernel
theorem dX11_drawn_8 : decode cX11_drawn 8 = .ok (.astore 6, 2) := by decide +kernel
theorem dX11_drawn_10 : decode cX11_drawn 10 = .ok (.aload 6, 2) := by decide +kernel
theorem dX11_drawn_12 : decode cX11_drawn 12 = .ok (.ifnull 29, 3) := by decide +kernel
theorem dX11_drawn_41 : decode cX11_drawn 41 = .ok (.iconst (-1), 1) := by decide +kernel
theorem dX11_drawn_42 : decode cX11_drawn 42 = .ok (.ireturn, 1) := by decide +kernel
theorem dX11_elsewhere_0 : decode cX11_elsewhere 0 = .ok (.iload_n 3, 1) := by decide +kernel
theorem dX11_elsewhere_1 : decode cX11_elsewhere 1 = .ok (.iconst 0, 1) := by decide +kernel
theorem dX11_elsewhere_2 : decode cX11_elsewhere 2 = .ok (.iconst 1, 1) := by decide +kernel
theorem dX11_elsewhere_3 : decode cX11_elsewhere 3 = .ok (.invokestatic 105, 3) := by decide +kernel
theorem dX11_elsewhere_6 : decode cX11_elsewhere 6 = .ok (.ifCond .eq 13, 3) := by decide +kernel
theorem dX11_elsewhere_9 : decode cX11_elsewhere 9 = .ok (.aload_n 0, 1) := by decide +kernel
theorem dX11_elsewhere_10 : decode cX11_elsewhere 10 = .ok (.iload_n 1, 1) := by decide +kernel
theorem dX11_elsewhere_11 : decode cX11_elsewhere 11 = .ok (.iload_n 2, 1) := by decide +kernel
theorem dX11_elsewhere_12 : decode cX11_elsewhere 12 = .ok (.iconst (-1), 1) := by decide +kernel
theorem dX11_elsewhere_13 : decode cX11_elsewhere 13 = .ok (.invokevirtual 246, 3) := by decide +kernel
theorem dX11_elsewhere_16 : decode cX11_elsewhere 16 = .ok (.ifCond .ne 5, 3) := by decide +kernel
theorem dX11_elsewhere_19 : decode cX11_elsewhere 19 = .ok (.iconst (-1), 1) := by decide +kernel
theorem dX11_elsewhere_20 : decode cX11_elsewhere 20 = .ok (.ireturn, 1) := by decide +kernel
theorem dX11_end_0 : decode cX11_end 0 = .ok (.iload_n 1, 1) := by decide +kernel
theorem dX11_end_1 : decode cX11_end 1 = .ok (.iconst 0, 1) := by decide +kernel
theorem dX11_end_2 : decode cX11_end 2 = .ok (.aload_n 0, 1) := by decide +kernel
theorem dX11_end_3 : decode cX11_end 3 = .ok (.getfield 10, 3) := by decide +kernel
theorem dX11_end_6 : decode cX11_end 6 = .ok (.getfield 176, 3) := by decide +kernel
theorem dX11_end_9 : decode cX11_end 9 = .ok (.invokestatic 105, 3) := by decide +kernel
theorem dX11_end_12 : decode cX11_end 12 = .ok (.ifCond .ne 5, 3) := by decide +kernel
theorem dX11_end_15 : decode cX11_end 15 = .ok (.iconst (-1), 1) := by decide +kernel
theorem dX11_end_16 : decode cX11_end 16 = .ok (.ireturn, 1) := by decide +kernel
theorem dX11_end_17 : decode cX11_end 17 = .ok (.aload_n 0, 1) := by decide +kernel
theorem dX11_end_18 : decode cX11_end 18 = .ok (.getfield 10, 3) := by decide +kernel
theorem dX11_end_21 : decode cX11_end 21 = .ok (.iload_n 1, 1) := by decide +kernel
theorem dX11_end_22 : decode cX11_end 22 = .ok (.putfield 176, 3) := by decide +kernel
theorem dX11_end_25 : decode cX11_end 25 = .ok (.iload_n 1, 1) := by decide +kernel
theorem dX11_end_26 : decode cX11_end 26 = .ok (.ireturn, 1) := by decide +kernel
theorem dX11_feed_0 : decode cX11_feed 0 = .ok (.aload_n 0, 1) := by decide +kernel
theorem dX11_feed_1 : decode cX11_feed 1 = .ok (.getfield 10, 3) := by decide +kernel
theorem dX11_feed_4 : decode cX11_feed 4 = .ok (.getfield 176, 3) := by decide +kernel
theorem dX11_feed_7 : decode cX11_feed 7 = .ok (.sipush 380, 3) := by decide +kernel
theorem dX11_feed_10 : decode cX11_feed 10 = .ok (.if_icmp .le 5, 3) := by decide +kernel
theorem dX11_feed_15 : decode cX11_feed 15 = .ok (.aload_n 0, 1) := by decide +kernel
theorem dX11_feed_16 : decode cX11_feed 16 = .ok (.getfield 10, 3) := by decide +kernel
theorem dX11_feed_19 : decode cX11_feed 19 = .ok (.iload_n 1, 1) := by decide +kernel
theorem dX11_feed_20 : decode cX11_feed 20 = .ok (.invokevirtual 179, 3) := by decide +kernel
theorem dX11_feed_23 : decode cX11_feed 23 = .ok (.aload_n 0, 1) := by decide +kernel
theorem dX11_feed_24 : decode cX11_feed 24 = .ok (.getfield 10, 3) := by decide +kernel
theorem dX11_feed_27 : decode cX11_feed 27 = .ok (.iload_n 2, 1) := by decide +kernel
theorem dX11_feed_28 : decode cX11_feed 28 = .ok (.invokevirtual 179, 3) := by decide +kernel
theorem dX11_feed_31 : decode cX11_feed 31 = .ok (.aload_n 0, 1) := by decide +kernel
theorem dX11_feed_32 : decode cX11_feed 32 = .ok (.getfield 10, 3) := by decide +kernel
theorem dX11_feed_35 : decode cX11_feed 35 = .ok (.iload_n 3, 1) := by decide +kernel
theorem dX11_feed_36 : decode cX11_feed 36 = .ok (.invokevirtual 179, 3) := by decide +kernel
theorem dX11_feed_39 : decode cX11_feed 39 = .ok (.aload_n 0, 1) := by decide +kernel
theorem dX11_feed_40 : decode cX11_feed 40 = .ok (.getfield 10, 3) := by decide +kernel
theorem dX11_feed_43 : decode cX11_feed 43 = .ok (.iload 4, 2) := by decide +kernel
theorem dX11_feed_45 : decode cX11_feed 45 = .ok (.invokevirtual 179, 3) := by decide +kernel
theorem dX11_feed_48 : decode cX11_feed 48 = .ok (.aload_n 0, 1) := by decide +kernel
theorem dX11_feed_49 : decode cX11_feed 49 = .ok (.getfield 10, 3) := by decide +kernel
theorem dX11_feed_52 : decode cX11_feed 52 = .ok (.iload 5, 2) := by decide +kernel
theorem dX11_feed_54 : decode cX11_feed 54 = .ok (.invokevirtual 179, 3) := by decide +kernel
theorem dX11_feed_57 : decode cX11_feed 57 = .ok (.aload_n 0, 1) := by decide +kernel
theorem dX11_feed_58 : decode cX11_feed 58 = .ok (.getfield 10, 3) := by decide +kernel
theorem dX11_feed_61 : decode cX11_feed 61 = .ok (.getfield 176, 3) := by decide +kernel
theorem dX11_feed_64 : decode cX11_feed 64 = .ok (.ireturn, 1) := by decide +kernel
theorem dX11_fewest_0 : decode cX11_fewest 0 = .ok (.iload_n 1, 1) := by decide +kernel
theorem dX11_fewest_1 : decode cX11_fewest 1 = .ok (.invokestatic 474, 3) := by decide +kernel
theorem dX11_fewest_4 : decode cX11_fewest 4 = .ok (.ifCond .eq 12, 3) := by decide +kernel
theorem dX11_fewest_7 : decode cX11_fewest 7 = .ok (.iload_n 2, 1) := by decide +kernel
theorem dX11_fewest_8 : decode cX11_fewest 8 = .ok (.iconst 0, 1) := by decide +kernel
theorem dX11_fewest_9 : decode cX11_fewest 9 = .ok (.iconst 1, 1) := by decide +kernel
theorem dX11_fewest_10 : decode cX11_fewest 10 = .ok (.invokestatic 105, 3) := by decide +kernel
theorem dX11_fewest_13 : decode cX11_fewest 13 = .ok (.ifCond .ne 5, 3) := by decide +kernel
theorem dX11_fewest_16 : decode cX11_fewest 16 = .ok (.iconst (-1), 1) := by decide +kernel
theorem dX11_fewest_17 : decode cX11_fewest 17 = .ok (.ireturn, 1) := by decide +kernel
theorem dX11_fewest_18 : decode cX11_fewest 18 = .ok (.aload_n 0, 1) := by decide +kernel
theorem dX11_fewest_19 : decode cX11_fewest 19 = .ok (.invokevirtual 477, 3) := by decide +kernel
theorem dX11_fewest_22 : decode cX11_fewest 22 = .ok (.iload_n 1, 1) := by decide +kernel
theorem dX11_fewest_23 : decode cX11_fewest 23 = .ok (.i2l, 1) := by decide +kernel
theorem dX11_fewest_24 : decode cX11_fewest 24 = .ok (.lcmp, 1) := by decide +kernel
theorem dX11_fewest_25 : decode cX11_fewest 25 = .ok (.ifCond .ge 6, 3) := by decide +kernel
theorem dX11_fewest_28 : decode cX11_fewest 28 = .ok (.bipush (-2), 2) := by decide +kernel
theorem dX11_fewest_30 : decode cX11_fewest 30 = .ok (.ireturn, 1) := by decide +kernel
theorem dX11_fewest_31 : decode cX11_fewest 31 = .ok (.iconst (-1), 1) := by decide +kernel
theorem dX11_fewest_32 : decode cX11_fewest 32 = .ok (.istore_n 3, 1) := by decide +kernel
theorem dX11_fewest_33 : decode cX11_fewest 33 = .ok (.iconst 0, 1) := by decide +kernel
theorem dX11_fewest_34 : decode cX11_fewest 34 = .ok (.istore 4, 2) := by decide +kernel
theorem dX11_fewest_36 : decode cX11_fewest 36 = .ok (.lconst 0, 1) := by decide +kernel
theorem dX11_fewest_37 : decode cX11_fewest 37 = .ok (.lstore 5, 2) := by decide +kernel
theorem dX11_fewest_39 : decode cX11_fewest 39 = .ok (.iconst 0, 1) := by decide +kernel
theorem dX11_fewest_40 : decode cX11_fewest 40 = .ok (.istore 7, 2) := by decide +kernel
theorem dX11_fewest_42 : decode cX11_fewest 42 = .ok (.iload 7, 2) := by decide +kernel
theorem dX11_fewest_44 : decode cX11_fewest 44 = .ok (.iconst 1, 1) := by decide +kernel
theorem dX11_fewest_45 : decode cX11_fewest 45 = .ok (.aload_n 0, 1) := by decide +kernel
theorem dX11_fewest_46 : decode cX11_fewest 46 = .ok (.getfield 32, 3) := by decide +kernel
theorem dX11_fewest_49 : decode cX11_fewest 49 = .ok (.getfield 470, 3) := by decide +kernel
theorem dX11_fewest_52 : decode cX11_fewest 52 = .ok (.ishl, 1) := by decide +kernel
theorem dX11_fewest_53 : decode cX11_fewest 53 = .ok (.if_icmp .ge 82, 3) := by decide +kernel
theorem dX11_fewest_56 : decode cX11_fewest 56 = .ok (.iload 7, 2) := by decide +kernel
theorem dX11_fewest_58 : decode cX11_fewest 58 = .ok (.invokestatic 480, 3) := by decide +kernel
theorem dX11_fewest_61 : decode cX11_fewest 61 = .ok (.istore 8, 2) := by decide +kernel
theorem dX11_fewest_63 : decode cX11_fewest 63 = .ok (.aload_n 0, 1) := by decide +kernel
theorem dX11_fewest_64 : decode cX11_fewest 64 = .ok (.iload 7, 2) := by decide +kernel
theorem dX11_fewest_66 : decode cX11_fewest 66 = .ok (.invokevirtual 485, 3) := by decide +kernel
theorem dX11_fewest_69 : decode cX11_fewest 69 = .ok (.lstore 9, 2) := by decide +kernel
theorem dX11_fewest_71 : decode cX11_fewest 71 = .ok (.iload_n 3, 1) := by decide +kernel
theorem dX11_fewest_72 : decode cX11_fewest 72 = .ok (.iconst (-1), 1) := by decide +kernel
theorem dX11_fewest_73 : decode cX11_fewest 73 = .ok (.if_icmp .eq 25, 3) := by decide +kernel
theorem dX11_fewest_98 : decode cX11_fewest 98 = .ok (.iconst 1, 1) := by decide +kernel
theorem dX11_fewest_99 : decode cX11_fewest 99 = .ok (.goto 4, 3) := by decide +kernel
theorem dX11_fewest_103 : decode cX11_fewest 103 = .ok (.istore 11, 2) := by decide +kernel
theorem dX11_fewest_105 : decode cX11_fewest 105 = .ok (.lload 9, 2) := by decide +kernel
theorem dX11_fewest_107 : decode cX11_fewest 107 = .ok (.iload_n 1, 1) := by decide +kernel
theorem dX11_fewest_108 : decode cX11_fewest 108 = .ok (.i2l, 1) := by decide +kernel
theorem dX11_fewest_109 : decode cX11_fewest 109 = .ok (.lcmp, 1) := by decide +kernel
theorem dX11_fewest_110 : decode cX11_fewest 110 = .ok (.ifCond .lt 19, 3) := by decide +kernel
theorem dX11_fewest_113 : decode cX11_fewest 113 = .ok (.iload 11, 2) := by decide +kernel
theorem dX11_fewest_115 : decode cX11_fewest 115 = .ok (.ifCond .eq 14, 3) := by decide +kernel
theorem dX11_fewest_118 : decode cX11_fewest 118 = .ok (.iload 7, 2) := by decide +kernel
theorem dX11_fewest_120 : decode cX11_fewest 120 = .ok (.istore_n 3, 1) := by decide +kernel
theorem dX11_fewest_121 : decode cX11_fewest 121 = .ok (.iload 8, 2) := by decide +kernel
theorem dX11_fewest_123 : decode cX11_fewest 123 = .ok (.istore 4, 2) := by decide +kernel
theorem dX11_fewest_125 : decode cX11_fewest 125 = .ok (.lload 9, 2) := by decide +kernel
theorem dX11_fewest_127 : decode cX11_fewest 127 = .ok (.lstore 5, 2) := by decide +kernel
theorem dX11_fewest_129 : decode cX11_fewest 129 = .ok (.iinc 7 1, 3) := by decide +kernel
theorem dX11_fewest_132 : decode cX11_fewest 132 = .ok (.goto (-90), 3) := by decide +kernel
theorem dX11_fewest_135 : decode cX11_fewest 135 = .ok (.iload_n 2, 1) := by decide +kernel
theorem dX11_fewest_136 : decode cX11_fewest 136 = .ok (.ifCond .ne 8, 3) := by decide +kernel
theorem dX11_fewest_139 : decode cX11_fewest 139 = .ok (.iload 4, 2) := by decide +kernel
theorem dX11_fewest_141 : decode cX11_fewest 141 = .ok (.goto 4, 3) := by decide +kernel
theorem dX11_fewest_144 : decode cX11_fewest 144 = .ok (.iload_n 3, 1) := by decide +kernel
theorem dX11_fewest_145 : decode cX11_fewest 145 = .ok (.ireturn, 1) := by decide +kernel
theorem dX11_findGiven_0 : decode cX11_findGiven 0 = .ok (.lconst 0, 1) := by decide +kernel
theorem dX11_findGiven_1 : decode cX11_findGiven 1 = .ok (.lstore_n 1, 1) := by decide +kernel
theorem dX11_findGiven_2 : decode cX11_findGiven 2 = .ok (.iconst 0, 1) := by decide +kernel
theorem dX11_findGiven_3 : decode cX11_findGiven 3 = .ok (.istore_n 3, 1) := by decide +kernel
theorem dX11_findGiven_4 : decode cX11_findGiven 4 = .ok (.iload_n 3, 1) := by decide +kernel
theorem dX11_findGiven_5 : decode cX11_findGiven 5 = .ok (.aload_n 0, 1) := by decide +kernel
theorem dX11_findGiven_6 : decode cX11_findGiven 6 = .ok (.getfield 32, 3) := by decide +kernel
theorem dX11_findGiven_9 : decode cX11_findGiven 9 = .ok (.getfield 470, 3) := by decide +kernel
theorem dX11_findGiven_12 : decode cX11_findGiven 12 = .ok (.if_icmp .ge 59, 3) := by decide +kernel
theorem dX11_findGiven_71 : decode cX11_findGiven 71 = .ok (.lload_n 1, 1) := by decide +kernel
theorem dX11_findGiven_72 : decode cX11_findGiven 72 = .ok (.lreturn, 1) := by decide +kernel
theorem dX11_findHouses_0 : decode cX11_findHouses 0 = .ok (.aload_n 0, 1) := by decide +kernel
theorem dX11_findHouses_1 : decode cX11_findHouses 1 = .ok (.getfield 84, 3) := by decide +kernel
theorem dX11_findHouses_4 : decode cX11_findHouses 4 = .ok (.sipush 400, 3) := by decide +kernel
theorem dX11_findHouses_7 : decode cX11_findHouses 7 = .ok (.invokestatic 384, 3) := by decide +kernel
theorem dX11_findHouses_10 : decode cX11_findHouses 10 = .ok (.iconst 0, 1) := by decide +kernel
theorem dX11_findHouses_11 : decode cX11_findHouses 11 = .ok (.istore_n 1, 1) := by decide +kernel
theorem dX11_findHouses_12 : decode cX11_findHouses 12 = .ok (.iload_n 1, 1) := by decide +kernel
theorem dX11_findHouses_13 : decode cX11_findHouses 13 = .ok (.aload_n 0, 1) := by decide +kernel
theorem dX11_findHouses_14 : decode cX11_findHouses 14 = .ok (.getfield 10, 3) := by decide +kernel
theorem dX11_findHouses_17 : decode cX11_findHouses 17 = .ok (.getfield 420, 3) := by decide +kernel
theorem dX11_findHouses_20 : decode cX11_findHouses 20 = .ok (.getfield 173, 3) := by decide +kernel
theorem dX11_findHouses_23 : decode cX11_findHouses 23 = .ok (.if_icmp .ge 29, 3) := by decide +kernel
theorem dX11_findHouses_52 : decode cX11_findHouses 52 = .ok (.return_, 1) := by decide +kernel
theorem dX11_givenTogether_0 : decode cX11_givenTogether 0 = .ok (.lconst 0, 1) := by decide +kernel
theorem dX11_givenTogether_1 : decode cX11_givenTogether 1 = .ok (.lstore_n 2, 1) := by decide +kernel
theorem dX11_givenTogether_2 : decode cX11_givenTogether 2 = .ok (.iconst 0, 1) := by decide +kernel
theorem dX11_givenTogether_3 : decode cX11_givenTogether 3 = .ok (.istore 4, 2) := by decide +kernel
theorem dX11_givenTogether_5 : decode cX11_givenTogether 5 = .ok (.iload 4, 2) := by decide +kernel
theorem dX11_givenTogether_7 : decode cX11_givenTogether 7 = .ok (.aload_n 0, 1) := by decide +kernel
theorem dX11_givenTogether_8 : decode cX11_givenTogether 8 = .ok (.getfield 91, 3) := by decide +kernel
theorem dX11_givenTogether_11 : decode cX11_givenTogether 11 = .ok (.arraylength, 1) := by decide +kernel
theorem dX11_givenTogether_12 : decode cX11_givenTogether 12 = .ok (.if_icmp .ge 27, 3) := by decide +kernel
theorem dX11_givenTogether_15 : decode cX11_givenTogether 15 = .ok (.lload_n 2, 1) := by decide +kernel
theorem dX11_givenTogether_16 : decode cX11_givenTogether 16 = .ok (.iload_n 1, 1) := by decide +kernel
theorem dX11_givenTogether_17 : decode cX11_givenTogether 17 = .ok (.iload 4, 2) := by decide +kernel
theorem dX11_givenTogether_19 : decode cX11_givenTogether 19 = .ok (.ishr, 1) := by decide +kernel
theorem dX11_givenTogether_20 : decode cX11_givenTogether 20 = .ok (.iconst 1, 1) := by decide +kernel
theorem dX11_givenTogether_21 : decode cX11_givenTogether 21 = .ok (.iand, 1) := by decide +kernel
theorem dX11_givenTogether_22 : decode cX11_givenTogether 22 = .ok (.aload_n 0, 1) := by decide +kernel
theorem dX11_givenTogether_23 : decode cX11_givenTogether 23 = .ok (.getfield 91, 3) := by decide +kernel
theorem dX11_givenTogether_26 : decode cX11_givenTogether 26 = .ok (.iload 4, 2) := by decide +kernel
theorem dX11_givenTogether_28 : decode cX11_givenTogether 28 = .ok (.iaload, 1) := by decide +kernel
theorem dX11_givenTogether_29 : decode cX11_givenTogether 29 = .ok (.imul, 1) := by decide +kernel
theorem dX11_givenTogether_30 : decode cX11_givenTogether 30 = .ok (.i2l, 1) := by decide +kernel
theorem dX11_givenTogether_31 : decode cX11_givenTogether 31 = .ok (.ladd, 1) := by decide +kernel
theorem dX11_givenTogether_32 : decode cX11_givenTogether 32 = .ok (.lstore_n 2, 1) := by decide +kernel
theorem dX11_givenTogether_33 : decode cX11_givenTogether 33 = .ok (.iinc 4 1, 3) := by decide +kernel
theorem dX11_givenTogether_36 : decode cX11_givenTogether 36 = .ok (.goto (-31), 3) := by decide +kernel
theorem dX11_givenTogether_39 : decode cX11_givenTogether 39 = .ok (.lload_n 2, 1) := by decide +kernel
theorem dX11_givenTogether_40 : decode cX11_givenTogether 40 = .ok (.lreturn, 1) := by decide +kernel
theorem dX11_gives_0 : decode cX11_gives 0 = .ok (.aload_n 0, 1) := by decide +kernel
theorem dX11_gives_1 : decode cX11_gives 1 = .ok (.getfield 32, 3) := by decide +kernel
theorem dX11_gives_4 : decode cX11_gives 4 = .ok (.iload_n 1, 1) := by decide +kernel
theorem dX11_gives_5 : decode cX11_gives 5 = .ok (.invokevirtual 201, 3) := by decide +kernel
theorem dX11_gives_8 : decode cX11_gives 8 = .ok (.astore_n 2, 1) := by decide +kernel
theorem dX11_gives_9 : decode cX11_gives 9 = .ok (.aload_n 2, 1) := by decide +kernel
theorem dX11_gives_10 : decode cX11_gives 10 = .ok (.ifnonnull 7, 3) := by decide +kernel
theorem dX11_gives_13 : decode cX11_gives 13 = .ok (.iconst (-1), 1) := by decide +kernel
theorem dX11_gives_14 : decode cX11_gives 14 = .ok (.goto 8, 3) := by decide +kernel
theorem dX11_gives_22 : decode cX11_gives 22 = .ok (.ireturn, 1) := by decide +kernel
theorem dX11_hour_0 : decode cX11_hour 0 = .ok (.aload_n 0, 1) := by decide +kernel
theorem dX11_hour_1 : decode cX11_hour 1 = .ok (.getfield 29, 3) := by decide +kernel
theorem dX11_hour_4 : decode cX11_hour 4 = .ok (.iload_n 1, 1) := by decide +kernel
theorem dX11_hour_5 : decode cX11_hour 5 = .ok (.invokevirtual 201, 3) := by decide +kernel
theorem dX11_hour_8 : decode cX11_hour 8 = .ok (.ifnull 19, 3) := by decide +kernel
theorem dX11_hour_27 : decode cX11_hour 27 = .ok (.iconst (-1), 1) := by decide +kernel
theorem dX11_hour_28 : decode cX11_hour 28 = .ok (.ireturn, 1) := by decide +kernel
theorem dX11_house_0 : decode cX11_house 0 = .ok (.aload_n 0, 1) := by decide +kernel
theorem dX11_house_1 : decode cX11_house 1 = .ok (.getfield 29, 3) := by decide +kernel
theorem dX11_house_4 : decode cX11_house 4 = .ok (.iload_n 1, 1) := by decide +kernel
theorem dX11_house_5 : decode cX11_house 5 = .ok (.invokevirtual 201, 3) := by decide +kernel
theorem dX11_house_8 : decode cX11_house 8 = .ok (.ifnull 20, 3) := by decide +kernel
theorem dX11_house_28 : decode cX11_house 28 = .ok (.iconst (-1), 1) := by decide +kernel
theorem dX11_house_29 : decode cX11_house 29 = .ok (.ireturn, 1) := by decide +kernel
theorem dX11_image_0 : decode cX11_image 0 = .ok (.iload_n 1, 1) := by decide +kernel
theorem dX11_image_1 : decode cX11_image 1 = .ok (.iconst 0, 1) := by decide +kernel
theorem dX11_image_2 : decode cX11_image 2 = .ok (.iconst 3, 1) := by decide +kernel
theorem dX11_image_3 : decode cX11_image 3 = .ok (.invokestatic 105, 3) := by decide +kernel
theorem dX11_image_6 : decode cX11_image 6 = .ok (.ifCond .ne 5, 3) := by decide +kernel
theorem dX11_image_9 : decode cX11_image 9 = .ok (.iconst (-1), 1) := by decide +kernel
theorem dX11_image_10 : decode cX11_image 10 = .ok (.ireturn, 1) := by decide +kernel
theorem dX11_image_11 : decode cX11_image 11 = .ok (.aload_n 0, 1) := by decide +kernel
theorem dX11_image_12 : decode cX11_image 12 = .ok (.getfield 16, 3) := by decide +kernel
theorem dX11_image_15 : decode cX11_image 15 = .ok (.iload_n 1, 1) := by decide +kernel
theorem dX11_image_16 : decode cX11_image 16 = .ok (.aaload, 1) := by decide +kernel
theorem dX11_image_17 : decode cX11_image 17 = .ok (.ifnonnull 16, 3) := by decide +kernel
theorem dX11_image_20 : decode cX11_image 20 = .ok (.aload_n 0, 1) := by decide +kernel
theorem dX11_image_21 : decode cX11_image 21 = .ok (.getfield 16, 3) := by decide +kernel
theorem dX11_image_24 : decode cX11_image 24 = .ok (.iload_n 1, 1) := by decide +kernel
theorem dX11_image_25 : decode cX11_image 25 = .ok (.new 7, 3) := by decide +kernel
theorem dX11_image_28 : decode cX11_image 28 = .ok (.dup, 1) := by decide +kernel
theorem dX11_image_29 : decode cX11_image 29 = .ok (.invokespecial 9, 3) := by decide +kernel
theorem dX11_image_32 : decode cX11_image 32 = .ok (.aastore, 1) := by decide +kernel
theorem dX11_image_33 : decode cX11_image 33 = .ok (.aload_n 0, 1) := by decide +kernel
theorem dX11_image_34 : decode cX11_image 34 = .ok (.getfield 16, 3) := by decide +kernel
theorem dX11_image_37 : decode cX11_image 37 = .ok (.iload_n 1, 1) := by decide +kernel
theorem dX11_image_38 : decode cX11_image 38 = .ok (.aaload, 1) := by decide +kernel
theorem dX11_image_39 : decode cX11_image 39 = .ok (.aload_n 0, 1) := by decide +kernel
theorem dX11_image_40 : decode cX11_image 40 = .ok (.getfield 10, 3) := by decide +kernel
theorem dX11_image_43 : decode cX11_image 43 = .ok (.invokevirtual 491, 3) := by decide +kernel
theorem dX11_image_46 : decode cX11_image 46 = .ok (.aload_n 0, 1) := by decide +kernel
theorem dX11_image_47 : decode cX11_image 47 = .ok (.getfield 10, 3) := by decide +kernel
theorem dX11_image_50 : decode cX11_image 50 = .ok (.getfield 109, 3) := by decide +kernel
theorem dX11_image_53 : decode cX11_image 53 = .ok (.getfield 339, 3) := by decide +kernel
theorem dX11_image_56 : decode cX11_image 56 = .ok (.ireturn, 1) := by decide +kernel
theorem dX11_init_0 : decode cX11_init 0 = .ok (.aload_n 0, 1) := by decide +kernel
theorem dX11_init_1 : decode cX11_init 1 = .ok (.invokespecial 1, 3) := by decide +kernel
theorem dX11_init_4 : decode cX11_init 4 = .ok (.aload_n 0, 1) := by decide +kernel
theorem dX11_init_5 : decode cX11_init 5 = .ok (.new 7, 3) := by decide +kernel
theorem dX11_init_8 : decode cX11_init 8 = .ok (.dup, 1) := by decide +kernel
theorem dX11_init_9 : decode cX11_init 9 = .ok (.invokespecial 9, 3) := by decide +kernel
theorem dX11_init_12 : decode cX11_init 12 = .ok (.putfield 10, 3) := by decide +kernel
theorem dX11_init_15 : decode cX11_init 15 = .ok (.aload_n 0, 1) := by decide +kernel
theorem dX11_init_16 : decode cX11_init 16 = .ok (.iconst 4, 1) := by decide +kernel
theorem dX11_init_17 : decode cX11_init 17 = .ok (.anewarray 7, 3) := by decide +kernel
theorem dX11_init_20 : decode cX11_init 20 = .ok (.putfield 16, 3) := by decide +kernel
theorem dX11_init_23 : decode cX11_init 23 = .ok (.aload_n 0, 1) := by decide +kernel
theorem dX11_init_24 : decode cX11_init 24 = .ok (.new 20, 3) := by decide +kernel
theorem dX11_init_27 : decode cX11_init 27 = .ok (.dup, 1) := by decide +kernel
theorem dX11_init_28 : decode cX11_init 28 = .ok (.bipush 6, 2) := by decide +kernel
theorem dX11_init_30 : decode cX11_init 30 = .ok (.invokespecial 22, 3) := by decide +kernel
theorem dX11_init_33 : decode cX11_init 33 = .ok (.putfield 25, 3) := by decide +kernel
theorem dX11_init_36 : decode cX11_init 36 = .ok (.aload_n 0, 1) := by decide +kernel
theorem dX11_init_37 : decode cX11_init 37 = .ok (.new 20, 3) := by decide +kernel
theorem dX11_init_40 : decode cX11_init 40 = .ok (.dup, 1) := by decide +kernel
theorem dX11_init_41 : decode cX11_init 41 = .ok (.bipush 8, 2) := by decide +kernel
theorem dX11_init_43 : decode cX11_init 43 = .ok (.invokespecial 22, 3) := by decide +kernel
theorem dX11_init_46 : decode cX11_init 46 = .ok (.putfield 29, 3) := by decide +kernel
theorem dX11_init_49 : decode cX11_init 49 = .ok (.aload_n 0, 1) := by decide +kernel
theorem dX11_init_50 : decode cX11_init 50 = .ok (.new 20, 3) := by decide +kernel
theorem dX11_init_53 : decode cX11_init 53 = .ok (.dup, 1) := by decide +kernel
theorem dX11_init_54 : decode cX11_init 54 = .ok (.bipush 8, 2) := by decide +kernel
theorem dX11_init_56 : decode cX11_init 56 = .ok (.invokespecial 22, 3) := by decide +kernel
theorem dX11_init_59 : decode cX11_init 59 = .ok (.putfield 32, 3) := by decide +kernel
theorem dX11_init_62 : decode cX11_init 62 = .ok (.aload_n 0, 1) := by decide +kernel
theorem dX11_init_63 : decode cX11_init 63 = .ok (.new 35, 3) := by decide +kernel
theorem dX11_init_66 : decode cX11_init 66 = .ok (.dup, 1) := by decide +kernel
theorem dX11_init_67 : decode cX11_init 67 = .ok (.invokespecial 37, 3) := by decide +kernel
theorem dX11_init_70 : decode cX11_init 70 = .ok (.putfield 38, 3) := by decide +kernel
theorem dX11_init_73 : decode cX11_init 73 = .ok (.aload_n 0, 1) := by decide +kernel
theorem dX11_init_74 : decode cX11_init 74 = .ok (.new 42, 3) := by decide +kernel
theorem dX11_init_77 : decode cX11_init 77 = .ok (.dup, 1) := by decide +kernel
theorem dX11_init_78 : decode cX11_init 78 = .ok (.invokespecial 44, 3) := by decide +kernel
theorem dX11_init_81 : decode cX11_init 81 = .ok (.putfield 45, 3) := by decide +kernel
theorem dX11_init_84 : decode cX11_init 84 = .ok (.aload_n 0, 1) := by decide +kernel
theorem dX11_init_85 : decode cX11_init 85 = .ok (.new 49, 3) := by decide +kernel
theorem dX11_init_88 : decode cX11_init 88 = .ok (.dup, 1) := by decide +kernel
theorem dX11_init_89 : decode cX11_init 89 = .ok (.invokespecial 51, 3) := by decide +kernel
theorem dX11_init_92 : decode cX11_init 92 = .ok (.putfield 52, 3) := by decide +kernel
theorem dX11_init_95 : decode cX11_init 95 = .ok (.aload_n 0, 1) := by decide +kernel
theorem dX11_init_96 : decode cX11_init 96 = .ok (.new 56, 3) := by decide +kernel
theorem dX11_init_99 : decode cX11_init 99 = .ok (.dup, 1) := by decide +kernel
theorem dX11_init_100 : decode cX11_init 100 = .ok (.invokespecial 58, 3) := by decide +kernel
theorem dX11_init_103 : decode cX11_init 103 = .ok (.putfield 59, 3) := by decide +kernel
theorem dX11_init_106 : decode cX11_init 106 = .ok (.aload_n 0, 1) := by decide +kernel
theorem dX11_init_107 : decode cX11_init 107 = .ok (.new 63, 3) := by decide +kernel
theorem dX11_init_110 : decode cX11_init 110 = .ok (.dup, 1) := by decide +kernel
theorem dX11_init_111 : decode cX11_init 111 = .ok (.invokespecial 65, 3) := by decide +kernel
theorem dX11_init_114 : decode cX11_init 114 = .ok (.putfield 66, 3) := by decide +kernel
theorem dX11_init_117 : decode cX11_init 117 = .ok (.aload_n 0, 1) := by decide +kernel
theorem dX11_init_118 : decode cX11_init 118 = .ok (.new 70, 3) := by decide +kernel
theorem dX11_init_121 : decode cX11_init 121 = .ok (.dup, 1) := by decide +kernel
theorem dX11_init_122 : decode cX11_init 122 = .ok (.invokespecial 72, 3) := by decide +kernel
theorem dX11_init_125 : decode cX11_init 125 = .ok (.putfield 73, 3) := by decide +kernel
theorem dX11_init_128 : decode cX11_init 128 = .ok (.aload_n 0, 1) := by decide +kernel
theorem dX11_init_129 : decode cX11_init 129 = .ok (.bipush 24, 2) := by decide +kernel
theorem dX11_init_131 : decode cX11_init 131 = .ok (.newarray .int, 2) := by decide +kernel
theorem dX11_init_133 : decode cX11_init 133 = .ok (.putfield 77, 3) := by decide +kernel
theorem dX11_init_136 : decode cX11_init 136 = .ok (.aload_n 0, 1) := by decide +kernel
theorem dX11_init_137 : decode cX11_init 137 = .ok (.bipush 24, 2) := by decide +kernel
theorem dX11_init_139 : decode cX11_init 139 = .ok (.newarray .int, 2) := by decide +kernel
theorem dX11_init_141 : decode cX11_init 141 = .ok (.putfield 81, 3) := by decide +kernel
theorem dX11_init_144 : decode cX11_init 144 = .ok (.aload_n 0, 1) := by decide +kernel
theorem dX11_init_145 : decode cX11_init 145 = .ok (.bipush 8, 2) := by decide +kernel
theorem dX11_init_147 : decode cX11_init 147 = .ok (.newarray .int, 2) := by decide +kernel
theorem dX11_init_149 : decode cX11_init 149 = .ok (.putfield 84, 3) := by decide +kernel
theorem dX11_init_152 : decode cX11_init 152 = .ok (.aload_n 0, 1) := by decide +kernel
theorem dX11_init_153 : decode cX11_init 153 = .ok (.bipush 10, 2) := by decide +kernel
theorem dX11_init_155 : decode cX11_init 155 = .ok (.newarray .long, 2) := by decide +kernel
theorem dX11_init_157 : decode cX11_init 157 = .ok (.putfield 87, 3) := by decide +kernel
theorem dX11_init_160 : decode cX11_init 160 = .ok (.aload_n 0, 1) := by decide +kernel
theorem dX11_init_161 : decode cX11_init 161 = .ok (.bipush 8, 2) := by decide +kernel
theorem dX11_init_163 : decode cX11_init 163 = .ok (.newarray .int, 2) := by decide +kernel
theorem dX11_init_165 : decode cX11_init 165 = .ok (.putfield 91, 3) := by decide +kernel
theorem dX11_init_168 : decode cX11_init 168 = .ok (.return_, 1) := by decide +kernel
theorem dX11_isBar_0 : decode cX11_isBar 0 = .ok (.iload_n 0, 1) := by decide +kernel
theorem dX11_isBar_1 : decode cX11_isBar 1 = .ok (.ldc_w 494, 3) := by decide +kernel
theorem dX11_isBar_4 : decode cX11_isBar 4 = .ok (.ldc_w 495, 3) := by decide +kernel
theorem dX11_isBar_7 : decode cX11_isBar 7 = .ok (.invokestatic 105, 3) := by decide +kernel
theorem dX11_isBar_10 : decode cX11_isBar 10 = .ok (.ireturn, 1) := by decide +kernel
theorem dX11_isColour_0 : decode cX11_isColour 0 = .ok (.iload_n 0, 1) := by decide +kernel
theorem dX11_isColour_1 : decode cX11_isColour 1 = .ok (.iconst 0, 1) := by decide +kernel
theorem dX11_isColour_2 : decode cX11_isColour 2 = .ok (.sipush 299, 3) := by decide +kernel
theorem dX11_isColour_5 : decode cX11_isColour 5 = .ok (.invokestatic 105, 3) := by decide +kernel
theorem dX11_isColour_8 : decode cX11_isColour 8 = .ok (.ireturn, 1) := by decide +kernel
theorem dX11_isGlass_0 : decode cX11_isGlass 0 = .ok (.iload_n 0, 1) := by decide +kernel
theorem dX11_isGlass_1 : decode cX11_isGlass 1 = .ok (.iconst 0, 1) := by decide +kernel
theorem dX11_isGlass_2 : decode cX11_isGlass 2 = .ok (.iconst 3, 1) := by decide +kernel
theorem dX11_isGlass_3 : decode cX11_isGlass 3 = .ok (.invokestatic 105, 3) := by decide +kernel
theorem dX11_isGlass_6 : decode cX11_isGlass 6 = .ok (.ireturn, 1) := by decide +kernel
theorem dX11_isIn_0 : decode cX11_isIn 0 = .ok (.iload_n 0, 1) := by decide +kernel
theorem dX11_isIn_1 : decode cX11_isIn 1 = .ok (.iload_n 1, 1) := by decide +kernel
theorem dX11_isIn_2 : decode cX11_isIn 2 = .ok (.if_icmp .lt 12, 3) := by decide +kernel
theorem dX11_isIn_5 : decode cX11_isIn 5 = .ok (.iload_n 0, 1) := by decide +kernel
theorem dX11_isIn_6 : decode cX11_isIn 6 = .ok (.iload_n 2, 1) := by decide +kernel
theorem dX11_isIn_7 : decode cX11_isIn 7 = .ok (.if_icmp .gt 7, 3) := by decide +kernel
theorem dX11_isIn_10 : decode cX11_isIn 10 = .ok (.iconst 1, 1) := by decide +kernel
theorem dX11_isIn_11 : decode cX11_isIn 11 = .ok (.goto 4, 3) := by decide +kernel
theorem dX11_isIn_14 : decode cX11_isIn 14 = .ok (.iconst 0, 1) := by decide +kernel
theorem dX11_isIn_15 : decode cX11_isIn 15 = .ok (.ireturn, 1) := by decide +kernel
theorem dX11_isNeed_0 : decode cX11_isNeed 0 = .ok (.iload_n 0, 1) := by decide +kernel
theorem dX11_isNeed_1 : decode cX11_isNeed 1 = .ok (.iconst 0, 1) := by decide +kernel
theorem dX11_isNeed_2 : decode cX11_isNeed 2 = .ok (.ldc_w 496, 3) := by decide +kernel
theorem dX11_isNeed_5 : decode cX11_isNeed 5 = .ok (.invokestatic 105, 3) := by decide +kernel
theorem dX11_isNeed_8 : decode cX11_isNeed 8 = .ok (.ireturn, 1) := by decide +kernel
theorem dX11_isSpan_0 : decode cX11_isSpan 0 = .ok (.iload_n 0, 1) := by decide +kernel
theorem dX11_isSpan_1 : decode cX11_isSpan 1 = .ok (.invokestatic 125, 3) := by decide +kernel
theorem dX11_isSpan_4 : decode cX11_isSpan 4 = .ok (.ifCond .eq 19, 3) := by decide +kernel
theorem dX11_isSpan_7 : decode cX11_isSpan 7 = .ok (.iload_n 1, 1) := by decide +kernel
theorem dX11_isSpan_8 : decode cX11_isSpan 8 = .ok (.invokestatic 125, 3) := by decide +kernel
theorem dX11_isSpan_11 : decode cX11_isSpan 11 = .ok (.ifCond .eq 12, 3) := by decide +kernel
theorem dX11_isSpan_14 : decode cX11_isSpan 14 = .ok (.iload_n 0, 1) := by decide +kernel
theorem dX11_isSpan_15 : decode cX11_isSpan 15 = .ok (.iload_n 1, 1) := by decide +kernel
theorem dX11_isSpan_16 : decode cX11_isSpan 16 = .ok (.if_icmp .gt 7, 3) := by decide +kernel
theorem dX11_isSpan_19 : decode cX11_isSpan 19 = .ok (.iconst 1, 1) := by decide +kernel
theorem dX11_isSpan_20 : decode cX11_isSpan 20 = .ok (.goto 4, 3) := by decide +kernel
theorem dX11_isSpan_23 : decode cX11_isSpan 23 = .ok (.iconst 0, 1) := by decide +kernel
theorem dX11_isSpan_24 : decode cX11_isSpan 24 = .ok (.ireturn, 1) := by decide +kernel
theorem dX11_isStuff_0 : decode cX11_isStuff 0 = .ok (.iload_n 0, 1) := by decide +kernel
theorem dX11_isStuff_1 : decode cX11_isStuff 1 = .ok (.iconst 0, 1) := by decide +kernel
theorem dX11_isStuff_2 : decode cX11_isStuff 2 = .ok (.bipush 11, 2) := by decide +kernel
theorem dX11_isStuff_4 : decode cX11_isStuff 4 = .ok (.invokestatic 105, 3) := by decide +kernel
theorem dX11_isStuff_7 : decode cX11_isStuff 7 = .ok (.ireturn, 1) := by decide +kernel
theorem dX11_isWeek_0 : decode cX11_isWeek 0 = .ok (.iload_n 0, 1) := by decide +kernel
theorem dX11_isWeek_1 : decode cX11_isWeek 1 = .ok (.iconst 0, 1) := by decide +kernel
theorem dX11_isWeek_2 : decode cX11_isWeek 2 = .ok (.sipush 399, 3) := by decide +kernel
theorem dX11_isWeek_5 : decode cX11_isWeek 5 = .ok (.invokestatic 105, 3) := by decide +kernel
theorem dX11_isWeek_8 : decode cX11_isWeek 8 = .ok (.ireturn, 1) := by decide +kernel
theorem dX11_likeliest_0 : decode cX11_likeliest 0 = .ok (.aload_n 0, 1) := by decide +kernel
theorem dX11_likeliest_1 : decode cX11_likeliest 1 = .ok (.iload_n 1, 1) := by decide +kernel
theorem dX11_likeliest_2 : decode cX11_likeliest 2 = .ok (.iload_n 2, 1) := by decide +kernel
theorem dX11_likeliest_3 : decode cX11_likeliest 3 = .ok (.iconst (-1), 1) := by decide +kernel
theorem dX11_likeliest_4 : decode cX11_likeliest 4 = .ok (.invokevirtual 246, 3) := by decide +kernel
theorem dX11_likeliest_7 : decode cX11_likeliest 7 = .ok (.ifCond .ne 5, 3) := by decide +kernel
theorem dX11_likeliest_10 : decode cX11_likeliest 10 = .ok (.iconst (-1), 1) := by decide +kernel
theorem dX11_likeliest_11 : decode cX11_likeliest 11 = .ok (.ireturn, 1) := by decide +kernel
theorem dX11_line_0 : decode cX11_line 0 = .ok (.iload_n 1, 1) := by decide +kernel
theorem dX11_line_1 : decode cX11_line 1 = .ok (.invokestatic 164, 3) := by decide +kernel
theorem dX11_line_4 : decode cX11_line 4 = .ok (.ifCond .eq 33, 3) := by decide +kernel
theorem dX11_line_7 : decode cX11_line 7 = .ok (.iload_n 2, 1) := by decide +kernel
theorem dX11_line_8 : decode cX11_line 8 = .ok (.invokestatic 125, 3) := by decide +kernel
theorem dX11_line_11 : decode cX11_line 11 = .ok (.ifCond .eq 26, 3) := by decide +kernel
theorem dX11_line_14 : decode cX11_line 14 = .ok (.iload_n 3, 1) := by decide +kernel
theorem dX11_line_15 : decode cX11_line 15 = .ok (.iconst 1, 1) := by decide +kernel
theorem dX11_line_16 : decode cX11_line 16 = .ok (.sipush 1000, 3) := by decide +kernel
theorem dX11_line_19 : decode cX11_line 19 = .ok (.invokestatic 105, 3) := by decide +kernel
theorem dX11_line_22 : decode cX11_line 22 = .ok (.ifCond .eq 15, 3) := by decide +kernel
theorem dX11_line_25 : decode cX11_line 25 = .ok (.aload_n 0, 1) := by decide +kernel
theorem dX11_line_26 : decode cX11_line 26 = .ok (.getfield 10, 3) := by decide +kernel
theorem dX11_line_29 : decode cX11_line 29 = .ok (.iload_n 1, 1) := by decide +kernel
theorem dX11_line_30 : decode cX11_line 30 = .ok (.iload_n 2, 1) := by decide +kernel
theorem dX11_line_31 : decode cX11_line 31 = .ok (.invokevirtual 167, 3) := by decide +kernel
theorem dX11_line_34 : decode cX11_line 34 = .ok (.ifCond .eq 5, 3) := by decide +kernel
theorem dX11_line_37 : decode cX11_line 37 = .ok (.iconst (-1), 1) := by decide +kernel
theorem dX11_line_38 : decode cX11_line 38 = .ok (.ireturn, 1) := by decide +kernel
theorem dX11_line_39 : decode cX11_line 39 = .ok (.aload_n 0, 1) := by decide +kernel
theorem dX11_line_40 : decode cX11_line 40 = .ok (.getfield 10, 3) := by decide +kernel
theorem dX11_line_43 : decode cX11_line 43 = .ok (.getfield 170, 3) := by decide +kernel
theorem dX11_line_46 : decode cX11_line 46 = .ok (.iload_n 1, 1) := by decide +kernel
theorem dX11_line_47 : decode cX11_line 47 = .ok (.iload_n 2, 1) := by decide +kernel
theorem dX11_line_48 : decode cX11_line 48 = .ok (.iload_n 3, 1) := by decide +kernel
theorem dX11_line_49 : decode cX11_line 49 = .ok (.iconst 0, 1) := by decide +kernel
theorem dX11_line_50 : decode cX11_line 50 = .ok (.invokevirtual 151, 3) := by decide +kernel
theorem dX11_line_53 : decode cX11_line 53 = .ok (.iconst (-1), 1) := by decide +kernel
theorem dX11_line_54 : decode cX11_line 54 = .ok (.if_icmp .ne 7, 3) := by decide +kernel
theorem dX11_line_61 : decode cX11_line 61 = .ok (.aload_n 0, 1) := by decide +kernel
theorem dX11_line_62 : decode cX11_line 62 = .ok (.getfield 10, 3) := by decide +kernel
theorem dX11_line_65 : decode cX11_line 65 = .ok (.getfield 170, 3) := by decide +kernel
theorem dX11_line_68 : decode cX11_line 68 = .ok (.getfield 173, 3) := by decide +kernel
theorem dX11_line_71 : decode cX11_line 71 = .ok (.ireturn, 1) := by decide +kernel
theorem dX11_look_0 : decode cX11_look 0 = .ok (.aload_n 0, 1) := by decide +kernel
theorem dX11_look_1 : decode cX11_look 1 = .ok (.getfield 29, 3) := by decide +kernel
theorem dX11_look_4 : decode cX11_look 4 = .ok (.iload_n 1, 1) := by decide +kernel
theorem dX11_look_5 : decode cX11_look 5 = .ok (.invokevirtual 201, 3) := by decide +kernel
theorem dX11_look_8 : decode cX11_look 8 = .ok (.astore 4, 2) := by decide +kernel
theorem dX11_look_10 : decode cX11_look 10 = .ok (.aload 4, 2) := by decide +kernel
theorem dX11_look_12 : decode cX11_look 12 = .ok (.ifnull 17, 3) := by decide +kernel
theorem dX11_look_29 : decode cX11_look 29 = .ok (.iconst 0, 1) := by decide +kernel
theorem dX11_look_30 : decode cX11_look 30 = .ok (.ireturn, 1) := by decide +kernel
theorem dX11_make_0 : decode cX11_make 0 = .ok (.aload_n 0, 1) := by decide +kernel
theorem dX11_make_1 : decode cX11_make 1 = .ok (.getfield 25, 3) := by decide +kernel
theorem dX11_make_4 : decode cX11_make 4 = .ok (.iload_n 1, 1) := by decide +kernel
theorem dX11_make_5 : decode cX11_make 5 = .ok (.invokevirtual 201, 3) := by decide +kernel
theorem dX11_make_8 : decode cX11_make 8 = .ok (.astore 6, 2) := by decide +kernel
theorem dX11_make_10 : decode cX11_make 10 = .ok (.aload 6, 2) := by decide +kernel
theorem dX11_make_12 : decode cX11_make 12 = .ok (.ifnull 31, 3) := by decide +kernel
theorem dX11_make_43 : decode cX11_make 43 = .ok (.iconst (-1), 1) := by decide +kernel
theorem dX11_make_44 : decode cX11_make 44 = .ok (.ireturn, 1) := by decide +kernel
theorem dX11_moved_0 : decode cX11_moved 0 = .ok (.aload_n 0, 1) := by decide +kernel
theorem dX11_moved_1 : decode cX11_moved 1 = .ok (.iload_n 1, 1) := by decide +kernel
theorem dX11_moved_2 : decode cX11_moved 2 = .ok (.iload_n 2, 1) := by decide +kernel
theorem dX11_moved_3 : decode cX11_moved 3 = .ok (.iconst (-1), 1) := by decide +kernel
theorem dX11_moved_4 : decode cX11_moved 4 = .ok (.invokevirtual 246, 3) := by decide +kernel
theorem dX11_moved_7 : decode cX11_moved 7 = .ok (.ifCond .eq 22, 3) := by decide +kernel
theorem dX11_moved_29 : decode cX11_moved 29 = .ok (.ldc2_w 262, 3) := by decide +kernel
theorem dX11_moved_32 : decode cX11_moved 32 = .ok (.lreturn, 1) := by decide +kernel
theorem dX11_next_0 : decode cX11_next 0 = .ok (.aload_n 0, 1) := by decide +kernel
theorem dX11_next_1 : decode cX11_next 1 = .ok (.getfield 29, 3) := by decide +kernel
theorem dX11_next_4 : decode cX11_next 4 = .ok (.iload_n 1, 1) := by decide +kernel
theorem dX11_next_5 : decode cX11_next 5 = .ok (.invokevirtual 201, 3) := by decide +kernel
theorem dX11_next_8 : decode cX11_next 8 = .ok (.ifnull 23, 3) := by decide +kernel
theorem dX11_next_31 : decode cX11_next 31 = .ok (.ldc2_w 272, 3) := by decide +kernel
theorem dX11_next_34 : decode cX11_next 34 = .ok (.lreturn, 1) := by decide +kernel
theorem dX11_odd_0 : decode cX11_odd 0 = .ok (.aload_n 0, 1) := by decide +kernel
theorem dX11_odd_1 : decode cX11_odd 1 = .ok (.getfield 29, 3) := by decide +kernel
theorem dX11_odd_4 : decode cX11_odd 4 = .ok (.iload_n 1, 1) := by decide +kernel
theorem dX11_odd_5 : decode cX11_odd 5 = .ok (.invokevirtual 201, 3) := by decide +kernel
theorem dX11_odd_8 : decode cX11_odd 8 = .ok (.ifnull 10, 3) := by decide +kernel
theorem dX11_odd_18 : decode cX11_odd 18 = .ok (.iconst (-1), 1) := by decide +kernel
theorem dX11_odd_19 : decode cX11_odd 19 = .ok (.ireturn, 1) := by decide +kernel
theorem dX11_raw_0 : decode cX11_raw 0 = .ok (.iload_n 3, 1) := by decide +kernel
theorem dX11_raw_1 : decode cX11_raw 1 = .ok (.ldc 119, 2) := by decide +kernel
theorem dX11_raw_3 : decode cX11_raw 3 = .ok (.if_icmp .eq 14, 3) := by decide +kernel
theorem dX11_raw_6 : decode cX11_raw 6 = .ok (.iload_n 3, 1) := by decide +kernel
theorem dX11_raw_7 : decode cX11_raw 7 = .ok (.ldc 120, 2) := by decide +kernel
theorem dX11_raw_9 : decode cX11_raw 9 = .ok (.ldc 121, 2) := by decide +kernel
theorem dX11_raw_11 : decode cX11_raw 11 = .ok (.invokestatic 105, 3) := by decide +kernel
theorem dX11_raw_14 : decode cX11_raw 14 = .ok (.ifCond .eq 7, 3) := by decide +kernel
theorem dX11_raw_17 : decode cX11_raw 17 = .ok (.iconst 1, 1) := by decide +kernel
theorem dX11_raw_18 : decode cX11_raw 18 = .ok (.goto 4, 3) := by decide +kernel
theorem dX11_raw_21 : decode cX11_raw 21 = .ok (.iconst 0, 1) := by decide +kernel
theorem dX11_raw_22 : decode cX11_raw 22 = .ok (.istore 4, 2) := by decide +kernel
theorem dX11_raw_24 : decode cX11_raw 24 = .ok (.aload_n 0, 1) := by decide +kernel
theorem dX11_raw_25 : decode cX11_raw 25 = .ok (.getfield 10, 3) := by decide +kernel
theorem dX11_raw_28 : decode cX11_raw 28 = .ok (.getfield 109, 3) := by decide +kernel
theorem dX11_raw_31 : decode cX11_raw 31 = .ok (.iload_n 1, 1) := by decide +kernel
theorem dX11_raw_32 : decode cX11_raw 32 = .ok (.invokevirtual 122, 3) := by decide +kernel
theorem dX11_raw_35 : decode cX11_raw 35 = .ok (.ifCond .eq 15, 3) := by decide +kernel
theorem dX11_raw_50 : decode cX11_raw 50 = .ok (.ldc 128, 2) := by decide +kernel
theorem dX11_raw_52 : decode cX11_raw 52 = .ok (.ireturn, 1) := by decide +kernel
theorem dX11_read_0 : decode cX11_read 0 = .ok (.aload_n 0, 1) := by decide +kernel
theorem dX11_read_1 : decode cX11_read 1 = .ok (.getfield 10, 3) := by decide +kernel
theorem dX11_read_4 : decode cX11_read 4 = .ok (.getfield 109, 3) := by decide +kernel
theorem dX11_read_7 : decode cX11_read 7 = .ok (.iload_n 1, 1) := by decide +kernel
theorem dX11_read_8 : decode cX11_read 8 = .ok (.invokevirtual 122, 3) := by decide +kernel
theorem dX11_read_11 : decode cX11_read 11 = .ok (.ifCond .eq 10, 3) := by decide +kernel
theorem dX11_read_21 : decode cX11_read 21 = .ok (.ldc 128, 2) := by decide +kernel
theorem dX11_read_23 : decode cX11_read 23 = .ok (.ireturn, 1) := by decide +kernel
theorem dX11_ripple_0 : decode cX11_ripple 0 = .ok (.iload_n 3, 1) := by decide +kernel
theorem dX11_ripple_1 : decode cX11_ripple 1 = .ok (.iconst 0, 1) := by decide +kernel
theorem dX11_ripple_2 : decode cX11_ripple 2 = .ok (.iconst 1, 1) := by decide +kernel
theorem dX11_ripple_3 : decode cX11_ripple 3 = .ok (.invokestatic 105, 3) := by decide +kernel
theorem dX11_ripple_6 : decode cX11_ripple 6 = .ok (.ifCond .eq 13, 3) := by decide +kernel
theorem dX11_ripple_9 : decode cX11_ripple 9 = .ok (.aload_n 0, 1) := by decide +kernel
theorem dX11_ripple_10 : decode cX11_ripple 10 = .ok (.iload_n 1, 1) := by decide +kernel
theorem dX11_ripple_11 : decode cX11_ripple 11 = .ok (.iload_n 2, 1) := by decide +kernel
theorem dX11_ripple_12 : decode cX11_ripple 12 = .ok (.iconst (-1), 1) := by decide +kernel
theorem dX11_ripple_13 : decode cX11_ripple 13 = .ok (.invokevirtual 246, 3) := by decide +kernel
theorem dX11_ripple_16 : decode cX11_ripple 16 = .ok (.ifCond .ne 7, 3) := by decide +kernel
theorem dX11_ripple_19 : decode cX11_ripple 19 = .ok (.ldc2_w 322, 3) := by decide +kernel
theorem dX11_ripple_22 : decode cX11_ripple 22 = .ok (.lreturn, 1) := by decide +kernel
theorem dX11_row_0 : decode cX11_row 0 = .ok (.iload_n 1, 1) := by decide +kernel
theorem dX11_row_1 : decode cX11_row 1 = .ok (.invokestatic 102, 3) := by decide +kernel
theorem dX11_row_4 : decode cX11_row 4 = .ok (.ifCond .eq 14, 3) := by decide +kernel
theorem dX11_row_7 : decode cX11_row 7 = .ok (.iload_n 2, 1) := by decide +kernel
theorem dX11_row_8 : decode cX11_row 8 = .ok (.iconst 0, 1) := by decide +kernel
theorem dX11_row_9 : decode cX11_row 9 = .ok (.sipush 999, 3) := by decide +kernel
theorem dX11_row_12 : decode cX11_row 12 = .ok (.invokestatic 105, 3) := by decide +kernel
theorem dX11_row_15 : decode cX11_row 15 = .ok (.ifCond .ne 5, 3) := by decide +kernel
theorem dX11_row_18 : decode cX11_row 18 = .ok (.iconst (-1), 1) := by decide +kernel
theorem dX11_row_19 : decode cX11_row 19 = .ok (.ireturn, 1) := by decide +kernel
theorem dX11_row_20 : decode cX11_row 20 = .ok (.aload_n 0, 1) := by decide +kernel
theorem dX11_row_21 : decode cX11_row 21 = .ok (.getfield 10, 3) := by decide +kernel
theorem dX11_row_24 : decode cX11_row 24 = .ok (.getfield 109, 3) := by decide +kernel
theorem dX11_row_27 : decode cX11_row 27 = .ok (.iload_n 1, 1) := by decide +kernel
theorem dX11_row_28 : decode cX11_row 28 = .ok (.iload_n 2, 1) := by decide +kernel
theorem dX11_row_29 : decode cX11_row 29 = .ok (.aload_n 0, 1) := by decide +kernel
theorem dX11_row_30 : decode cX11_row 30 = .ok (.getfield 10, 3) := by decide +kernel
theorem dX11_row_33 : decode cX11_row 33 = .ok (.getfield 98, 3) := by decide +kernel
theorem dX11_row_36 : decode cX11_row 36 = .ok (.invokevirtual 113, 3) := by decide +kernel
theorem dX11_row_39 : decode cX11_row 39 = .ok (.ireturn, 1) := by decide +kernel
theorem dX11_said_0 : decode cX11_said 0 = .ok (.aload_n 0, 1) := by decide +kernel
theorem dX11_said_1 : decode cX11_said 1 = .ok (.getfield 29, 3) := by decide +kernel
theorem dX11_said_4 : decode cX11_said 4 = .ok (.iload_n 1, 1) := by decide +kernel
theorem dX11_said_5 : decode cX11_said 5 = .ok (.invokevirtual 201, 3) := by decide +kernel
theorem dX11_said_8 : decode cX11_said 8 = .ok (.ifnull 17, 3) := by decide +kernel
theorem dX11_said_25 : decode cX11_said 25 = .ok (.iconst (-1), 1) := by decide +kernel
theorem dX11_said_26 : decode cX11_said 26 = .ok (.ireturn, 1) := by decide +kernel
theorem dX11_says_0 : decode cX11_says 0 = .ok (.aload_n 0, 1) := by decide +kernel
theorem dX11_says_1 : decode cX11_says 1 = .ok (.getfield 10, 3) := by decide +kernel
theorem dX11_says_4 : decode cX11_says 4 = .ok (.getfield 420, 3) := by decide +kernel
theorem dX11_says_7 : decode cX11_says 7 = .ok (.iload_n 1, 1) := by decide +kernel
theorem dX11_says_8 : decode cX11_says 8 = .ok (.invokevirtual 156, 3) := by decide +kernel
theorem dX11_says_11 : decode cX11_says 11 = .ok (.ifCond .eq 10, 3) := by decide +kernel
theorem dX11_says_21 : decode cX11_says 21 = .ok (.iconst (-1), 1) := by decide +kernel
theorem dX11_says_22 : decode cX11_says 22 = .ok (.ireturn, 1) := by decide +kernel
theorem dX11_shelfOf_0 : decode cX11_shelfOf 0 = .ok (.iload_n 1, 1) := by decide +kernel
theorem dX11_shelfOf_1 : decode cX11_shelfOf 1 = .ok (.tableswitch 42 0 2 #[27, 32, 37], 27) := by decide +kernel
theorem dX11_shelfOf_28 : decode cX11_shelfOf 28 = .ok (.aload_n 0, 1) := by decide +kernel
theorem dX11_shelfOf_29 : decode cX11_shelfOf 29 = .ok (.getfield 25, 3) := by decide +kernel
theorem dX11_shelfOf_32 : decode cX11_shelfOf 32 = .ok (.areturn, 1) := by decide +kernel
theorem dX11_shelfOf_33 : decode cX11_shelfOf 33 = .ok (.aload_n 0, 1) := by decide +kernel
theorem dX11_shelfOf_34 : decode cX11_shelfOf 34 = .ok (.getfield 29, 3) := by decide +kernel
theorem dX11_shelfOf_37 : decode cX11_shelfOf 37 = .ok (.areturn, 1) := by decide +kernel
theorem dX11_shelfOf_38 : decode cX11_shelfOf 38 = .ok (.aload_n 0, 1) := by decide +kernel
theorem dX11_shelfOf_39 : decode cX11_shelfOf 39 = .ok (.getfield 32, 3) := by decide +kernel
theorem dX11_shelfOf_42 : decode cX11_shelfOf 42 = .ok (.areturn, 1) := by decide +kernel
theorem dX11_shelfOf_43 : decode cX11_shelfOf 43 = .ok (.aconst_null, 1) := by decide +kernel
theorem dX11_shelfOf_44 : decode cX11_shelfOf 44 = .ok (.areturn, 1) := by decide +kernel
theorem dX11_slip_0 : decode cX11_slip 0 = .ok (.iload_n 1, 1) := by decide +kernel
theorem dX11_slip_1 : decode cX11_slip 1 = .ok (.invokestatic 102, 3) := by decide +kernel
theorem dX11_slip_4 : decode cX11_slip 4 = .ok (.ifCond .eq 25, 3) := by decide +kernel
theorem dX11_slip_7 : decode cX11_slip 7 = .ok (.iload_n 2, 1) := by decide +kernel
theorem dX11_slip_8 : decode cX11_slip 8 = .ok (.iload_n 3, 1) := by decide +kernel
theorem dX11_slip_9 : decode cX11_slip 9 = .ok (.invokestatic 143, 3) := by decide +kernel
theorem dX11_slip_12 : decode cX11_slip 12 = .ok (.ifCond .eq 17, 3) := by decide +kernel
theorem dX11_slip_15 : decode cX11_slip 15 = .ok (.iload 4, 2) := by decide +kernel
theorem dX11_slip_17 : decode cX11_slip 17 = .ok (.sipush (-9999), 3) := by decide +kernel
theorem dX11_slip_20 : decode cX11_slip 20 = .ok (.sipush 9999, 3) := by decide +kernel
theorem dX11_slip_23 : decode cX11_slip 23 = .ok (.invokestatic 105, 3) := by decide +kernel
theorem dX11_slip_26 : decode cX11_slip 26 = .ok (.ifCond .ne 5, 3) := by decide +kernel
theorem dX11_slip_29 : decode cX11_slip 29 = .ok (.iconst (-1), 1) := by decide +kernel
theorem dX11_slip_30 : decode cX11_slip 30 = .ok (.ireturn, 1) := by decide +kernel
theorem dX11_slip_31 : decode cX11_slip 31 = .ok (.aload_n 0, 1) := by decide +kernel
theorem dX11_slip_32 : decode cX11_slip 32 = .ok (.getfield 10, 3) := by decide +kernel
theorem dX11_slip_35 : decode cX11_slip 35 = .ok (.getfield 147, 3) := by decide +kernel
theorem dX11_slip_38 : decode cX11_slip 38 = .ok (.iload_n 1, 1) := by decide +kernel
theorem dX11_slip_39 : decode cX11_slip 39 = .ok (.iload_n 2, 1) := by decide +kernel
theorem dX11_slip_40 : decode cX11_slip 40 = .ok (.iload_n 3, 1) := by decide +kernel
theorem dX11_slip_41 : decode cX11_slip 41 = .ok (.iload 4, 2) := by decide +kernel
theorem dX11_slip_43 : decode cX11_slip 43 = .ok (.invokevirtual 151, 3) := by decide +kernel
theorem dX11_slip_46 : decode cX11_slip 46 = .ok (.ireturn, 1) := by decide +kernel
theorem dX11_smooth_0 : decode cX11_smooth 0 = .ok (.aload_n 0, 1) := by decide +kernel
theorem dX11_smooth_1 : decode cX11_smooth 1 = .ok (.iload_n 1, 1) := by decide +kernel
theorem dX11_smooth_2 : decode cX11_smooth 2 = .ok (.iload_n 2, 1) := by decide +kernel
theorem dX11_smooth_3 : decode cX11_smooth 3 = .ok (.iconst (-1), 1) := by decide +kernel
theorem dX11_smooth_4 : decode cX11_smooth 4 = .ok (.invokevirtual 246, 3) := by decide +kernel
theorem dX11_smooth_7 : decode cX11_smooth 7 = .ok (.ifCond .ne 6, 3) := by decide +kernel
theorem dX11_smooth_10 : decode cX11_smooth 10 = .ok (.ldc 128, 2) := by decide +kernel
theorem dX11_smooth_12 : decode cX11_smooth 12 = .ok (.ireturn, 1) := by decide +kernel
theorem dX11_stuff_0 : decode cX11_stuff 0 = .ok (.iload_n 3, 1) := by decide +kernel
theorem dX11_stuff_1 : decode cX11_stuff 1 = .ok (.invokestatic 164, 3) := by decide +kernel
theorem dX11_stuff_4 : decode cX11_stuff 4 = .ok (.ifCond .eq 23, 3) := by decide +kernel
theorem dX11_stuff_7 : decode cX11_stuff 7 = .ok (.iload 4, 2) := by decide +kernel
theorem dX11_stuff_9 : decode cX11_stuff 9 = .ok (.iconst 0, 1) := by decide +kernel
theorem dX11_stuff_10 : decode cX11_stuff 10 = .ok (.iconst 3, 1) := by decide +kernel
theorem dX11_stuff_11 : decode cX11_stuff 11 = .ok (.invokestatic 105, 3) := by decide +kernel
theorem dX11_stuff_14 : decode cX11_stuff 14 = .ok (.ifCond .eq 13, 3) := by decide +kernel
theorem dX11_stuff_17 : decode cX11_stuff 17 = .ok (.aload_n 0, 1) := by decide +kernel
theorem dX11_stuff_18 : decode cX11_stuff 18 = .ok (.iload_n 1, 1) := by decide +kernel
theorem dX11_stuff_19 : decode cX11_stuff 19 = .ok (.iload_n 2, 1) := by decide +kernel
theorem dX11_stuff_20 : decode cX11_stuff 20 = .ok (.iconst (-1), 1) := by decide +kernel
theorem dX11_stuff_21 : decode cX11_stuff 21 = .ok (.invokevirtual 246, 3) := by decide +kernel
theorem dX11_stuff_24 : decode cX11_stuff 24 = .ok (.ifCond .ne 7, 3) := by decide +kernel
theorem dX11_stuff_27 : decode cX11_stuff 27 = .ok (.ldc2_w 322, 3) := by decide +kernel
theorem dX11_stuff_30 : decode cX11_stuff 30 = .ok (.lreturn, 1) := by decide +kernel
theorem dX11_taken_0 : decode cX11_taken 0 = .ok (.iload_n 3, 1) := by decide +kernel
theorem dX11_taken_1 : decode cX11_taken 1 = .ok (.iconst 1, 1) := by decide +kernel
theorem dX11_taken_2 : decode cX11_taken 2 = .ok (.sipush 9999, 3) := by decide +kernel
theorem dX11_taken_5 : decode cX11_taken 5 = .ok (.invokestatic 105, 3) := by decide +kernel
theorem dX11_taken_8 : decode cX11_taken 8 = .ok (.ifCond .eq 24, 3) := by decide +kernel
theorem dX11_taken_11 : decode cX11_taken 11 = .ok (.iload 4, 2) := by decide +kernel
theorem dX11_taken_13 : decode cX11_taken 13 = .ok (.iconst 1, 1) := by decide +kernel
theorem dX11_taken_14 : decode cX11_taken 14 = .ok (.bipush 99, 2) := by decide +kernel
theorem dX11_taken_16 : decode cX11_taken 16 = .ok (.invokestatic 105, 3) := by decide +kernel
theorem dX11_taken_19 : decode cX11_taken 19 = .ok (.ifCond .eq 13, 3) := by decide +kernel
theorem dX11_taken_22 : decode cX11_taken 22 = .ok (.aload_n 0, 1) := by decide +kernel
theorem dX11_taken_23 : decode cX11_taken 23 = .ok (.iload_n 1, 1) := by decide +kernel
theorem dX11_taken_24 : decode cX11_taken 24 = .ok (.iload_n 2, 1) := by decide +kernel
theorem dX11_taken_25 : decode cX11_taken 25 = .ok (.iconst (-1), 1) := by decide +kernel
theorem dX11_taken_26 : decode cX11_taken 26 = .ok (.invokevirtual 246, 3) := by decide +kernel
theorem dX11_taken_29 : decode cX11_taken 29 = .ok (.ifCond .ne 6, 3) := by decide +kernel
theorem dX11_taken_32 : decode cX11_taken 32 = .ok (.ldc 128, 2) := by decide +kernel
theorem dX11_taken_34 : decode cX11_taken 34 = .ok (.ireturn, 1) := by decide +kernel
theorem dX11_text_0 : decode cX11_text 0 = .ok (.aload_n 0, 1) := by decide +kernel
theorem dX11_text_1 : decode cX11_text 1 = .ok (.iload_n 1, 1) := by decide +kernel
theorem dX11_text_2 : decode cX11_text 2 = .ok (.invokevirtual 182, 3) := by decide +kernel
theorem dX11_text_5 : decode cX11_text 5 = .ok (.astore_n 2, 1) := by decide +kernel
theorem dX11_text_6 : decode cX11_text 6 = .ok (.aload_n 2, 1) := by decide +kernel
theorem dX11_text_7 : decode cX11_text 7 = .ok (.ifnull 10, 3) := by decide +kernel
theorem dX11_text_10 : decode cX11_text 10 = .ok (.aload_n 2, 1) := by decide +kernel
theorem dX11_text_11 : decode cX11_text 11 = .ok (.invokevirtual 186, 3) := by decide +kernel
theorem dX11_text_14 : decode cX11_text 14 = .ok (.ifCond .eq 5, 3) := by decide +kernel
theorem dX11_text_17 : decode cX11_text 17 = .ok (.iconst (-1), 1) := by decide +kernel
theorem dX11_text_18 : decode cX11_text 18 = .ok (.ireturn, 1) := by decide +kernel
theorem dX11_text_19 : decode cX11_text 19 = .ok (.aload_n 0, 1) := by decide +kernel
theorem dX11_text_20 : decode cX11_text 20 = .ok (.getfield 45, 3) := by decide +kernel
theorem dX11_text_23 : decode cX11_text 23 = .ok (.invokevirtual 190, 3) := by decide +kernel
theorem dX11_text_26 : decode cX11_text 26 = .ok (.aload_n 0, 1) := by decide +kernel
theorem dX11_text_27 : decode cX11_text 27 = .ok (.getfield 38, 3) := by decide +kernel
theorem dX11_text_30 : decode cX11_text 30 = .ok (.aload_n 0, 1) := by decide +kernel
theorem dX11_text_31 : decode cX11_text 31 = .ok (.getfield 10, 3) := by decide +kernel
theorem dX11_text_34 : decode cX11_text 34 = .ok (.iload_n 1, 1) := by decide +kernel
theorem dX11_text_35 : decode cX11_text 35 = .ok (.aload_n 0, 1) := by decide +kernel
theorem dX11_text_36 : decode cX11_text 36 = .ok (.getfield 45, 3) := by decide +kernel
theorem dX11_text_39 : decode cX11_text 39 = .ok (.invokevirtual 193, 3) := by decide +kernel
theorem dX11_text_42 : decode cX11_text 42 = .ok (.istore_n 3, 1) := by decide +kernel
theorem dX11_text_43 : decode cX11_text 43 = .ok (.aload_n 0, 1) := by decide +kernel
theorem dX11_text_44 : decode cX11_text 44 = .ok (.getfield 10, 3) := by decide +kernel
theorem dX11_text_47 : decode cX11_text 47 = .ok (.iconst 0, 1) := by decide +kernel
theorem dX11_text_48 : decode cX11_text 48 = .ok (.putfield 176, 3) := by decide +kernel
theorem dX11_text_51 : decode cX11_text 51 = .ok (.iload_n 3, 1) := by decide +kernel
theorem dX11_text_52 : decode cX11_text 52 = .ok (.ifCond .eq 8, 3) := by decide +kernel
theorem dX11_text_55 : decode cX11_text 55 = .ok (.bipush (-2), 2) := by decide +kernel
theorem dX11_text_57 : decode cX11_text 57 = .ok (.iload_n 3, 1) := by decide +kernel
theorem dX11_text_58 : decode cX11_text 58 = .ok (.isub, 1) := by decide +kernel
theorem dX11_text_59 : decode cX11_text 59 = .ok (.ireturn, 1) := by decide +kernel
theorem dX11_together_0 : decode cX11_together 0 = .ok (.aload_n 0, 1) := by decide +kernel
theorem dX11_together_1 : decode cX11_together 1 = .ok (.getfield 29, 3) := by decide +kernel
theorem dX11_together_4 : decode cX11_together 4 = .ok (.iload_n 1, 1) := by decide +kernel
theorem dX11_together_5 : decode cX11_together 5 = .ok (.invokevirtual 201, 3) := by decide +kernel
theorem dX11_together_8 : decode cX11_together 8 = .ok (.ifnull 30, 3) := by decide +kernel
theorem dX11_together_38 : decode cX11_together 38 = .ok (.ldc_w 368, 3) := by decide +kernel
theorem dX11_together_41 : decode cX11_together 41 = .ok (.ireturn, 1) := by decide +kernel
theorem dX11_told_0 : decode cX11_told 0 = .ok (.iload_n 1, 1) := by decide +kernel
theorem dX11_told_1 : decode cX11_told 1 = .ok (.iconst 0, 1) := by decide +kernel
theorem dX11_told_2 : decode cX11_told 2 = .ok (.aload_n 0, 1) := by decide +kernel
theorem dX11_told_3 : decode cX11_told 3 = .ok (.getfield 10, 3) := by decide +kernel
theorem dX11_told_6 : decode cX11_told 6 = .ok (.getfield 447, 3) := by decide +kernel
theorem dX11_told_9 : decode cX11_told 9 = .ok (.arraylength, 1) := by decide +kernel
theorem dX11_told_10 : decode cX11_told 10 = .ok (.iconst 1, 1) := by decide +kernel
theorem dX11_told_11 : decode cX11_told 11 = .ok (.isub, 1) := by decide +kernel
theorem dX11_told_12 : decode cX11_told 12 = .ok (.invokestatic 105, 3) := by decide +kernel
theorem dX11_told_15 : decode cX11_told 15 = .ok (.ifCond .eq 14, 3) := by decide +kernel
theorem dX11_told_18 : decode cX11_told 18 = .ok (.iload_n 2, 1) := by decide +kernel
theorem dX11_told_19 : decode cX11_told 19 = .ok (.iconst 0, 1) := by decide +kernel
theorem dX11_told_20 : decode cX11_told 20 = .ok (.sipush 9999, 3) := by decide +kernel
theorem dX11_told_23 : decode cX11_told 23 = .ok (.invokestatic 105, 3) := by decide +kernel
theorem dX11_told_26 : decode cX11_told 26 = .ok (.ifCond .ne 5, 3) := by decide +kernel
theorem dX11_told_29 : decode cX11_told 29 = .ok (.iconst (-1), 1) := by decide +kernel
theorem dX11_told_30 : decode cX11_told 30 = .ok (.ireturn, 1) := by decide +kernel
theorem dX11_told_31 : decode cX11_told 31 = .ok (.aload_n 0, 1) := by decide +kernel
theorem dX11_told_32 : decode cX11_told 32 = .ok (.getfield 10, 3) := by decide +kernel
theorem dX11_told_35 : decode cX11_told 35 = .ok (.getfield 447, 3) := by decide +kernel
theorem dX11_told_38 : decode cX11_told 38 = .ok (.iload_n 1, 1) := by decide +kernel
theorem dX11_told_39 : decode cX11_told 39 = .ok (.iaload, 1) := by decide +kernel
theorem dX11_told_40 : decode cX11_told 40 = .ok (.istore_n 3, 1) := by decide +kernel
theorem dX11_told_41 : decode cX11_told 41 = .ok (.aload_n 0, 1) := by decide +kernel
theorem dX11_told_42 : decode cX11_told 42 = .ok (.getfield 10, 3) := by decide +kernel
theorem dX11_told_45 : decode cX11_told 45 = .ok (.getfield 447, 3) := by decide +kernel
theorem dX11_told_48 : decode cX11_told 48 = .ok (.iload_n 1, 1) := by decide +kernel
theorem dX11_told_49 : decode cX11_told 49 = .ok (.iload_n 2, 1) := by decide +kernel
theorem dX11_told_50 : decode cX11_told 50 = .ok (.iastore, 1) := by decide +kernel
theorem dX11_told_51 : decode cX11_told 51 = .ok (.iload_n 3, 1) := by decide +kernel
theorem dX11_told_52 : decode cX11_told 52 = .ok (.ireturn, 1) := by decide +kernel
theorem dX11_weeks_0 : decode cX11_weeks 0 = .ok (.iload_n 2, 1) := by decide +kernel
theorem dX11_weeks_1 : decode cX11_weeks 1 = .ok (.invokestatic 94, 3) := by decide +kernel
theorem dX11_weeks_4 : decode cX11_weeks 4 = .ok (.ifCond .eq 27, 3) := by decide +kernel
theorem dX11_weeks_7 : decode cX11_weeks 7 = .ok (.iload_n 3, 1) := by decide +kernel
theorem dX11_weeks_8 : decode cX11_weeks 8 = .ok (.invokestatic 94, 3) := by decide +kernel
theorem dX11_weeks_11 : decode cX11_weeks 11 = .ok (.ifCond .eq 20, 3) := by decide +kernel
theorem dX11_weeks_14 : decode cX11_weeks 14 = .ok (.iload_n 2, 1) := by decide +kernel
theorem dX11_weeks_15 : decode cX11_weeks 15 = .ok (.iload_n 3, 1) := by decide +kernel
theorem dX11_weeks_16 : decode cX11_weeks 16 = .ok (.if_icmp .gt 15, 3) := by decide +kernel
theorem dX11_weeks_19 : decode cX11_weeks 19 = .ok (.iload_n 3, 1) := by decide +kernel
theorem dX11_weeks_20 : decode cX11_weeks 20 = .ok (.iload_n 2, 1) := by decide +kernel
theorem dX11_weeks_21 : decode cX11_weeks 21 = .ok (.isub, 1) := by decide +kernel
theorem dX11_weeks_22 : decode cX11_weeks 22 = .ok (.bipush 100, 2) := by decide +kernel
theorem dX11_weeks_24 : decode cX11_weeks 24 = .ok (.if_icmp .ge 7, 3) := by decide +kernel
theorem dX11_weeks_27 : decode cX11_weeks 27 = .ok (.iconst 1, 1) := by decide +kernel
theorem dX11_weeks_28 : decode cX11_weeks 28 = .ok (.goto 4, 3) := by decide +kernel
theorem dX11_weeks_31 : decode cX11_weeks 31 = .ok (.iconst 0, 1) := by decide +kernel
theorem dX11_weeks_32 : decode cX11_weeks 32 = .ok (.istore 7, 2) := by decide +kernel
theorem dX11_weeks_34 : decode cX11_weeks 34 = .ok (.aload_n 0, 1) := by decide +kernel
theorem dX11_weeks_35 : decode cX11_weeks 35 = .ok (.getfield 29, 3) := by decide +kernel
theorem dX11_weeks_38 : decode cX11_weeks 38 = .ok (.iload_n 1, 1) := by decide +kernel
theorem dX11_weeks_39 : decode cX11_weeks 39 = .ok (.invokevirtual 201, 3) := by decide +kernel
theorem dX11_weeks_42 : decode cX11_weeks 42 = .ok (.ifnull 36, 3) := by decide +kernel
theorem dX11_weeks_78 : decode cX11_weeks 78 = .ok (.iconst (-1), 1) := by decide +kernel
theorem dX11_weeks_79 : decode cX11_weeks 79 = .ok (.ireturn, 1) := by decide +kernel
theorem dX11_weightiest_0 : decode cX11_weightiest 0 = .ok (.aload_n 0, 1) := by decide +kernel
theorem dX11_weightiest_1 : decode cX11_weightiest 1 = .ok (.iload_n 1, 1) := by decide +kernel
theorem dX11_weightiest_2 : decode cX11_weightiest 2 = .ok (.iload_n 2, 1) := by decide +kernel
theorem dX11_weightiest_3 : decode cX11_weightiest 3 = .ok (.iconst (-1), 1) := by decide +kernel
theorem dX11_weightiest_4 : decode cX11_weightiest 4 = .ok (.invokevirtual 246, 3) := by decide +kernel
theorem dX11_weightiest_7 : decode cX11_weightiest 7 = .ok (.ifCond .ne 5, 3) := by decide +kernel
theorem dX11_weightiest_10 : decode cX11_weightiest 10 = .ok (.iconst (-1), 1) := by decide +kernel
theorem dX11_weightiest_11 : decode cX11_weightiest 11 = .ok (.ireturn, 1) := by decide +kernel
theorem dX11_without_0 : decode cX11_without 0 = .ok (.aload_n 0, 1) := by decide +kernel
theorem dX11_without_1 : decode cX11_without 1 = .ok (.getfield 10, 3) := by decide +kernel
theorem dX11_without_4 : decode cX11_without 4 = .ok (.getfield 147, 3) := by decide +kernel
theorem dX11_without_7 : decode cX11_without 7 = .ok (.iload_n 3, 1) := by decide +kernel
theorem dX11_without_8 : decode cX11_without 8 = .ok (.invokevirtual 156, 3) := by decide +kernel
theorem dX11_without_11 : decode cX11_without 11 = .ok (.ifCond .eq 13, 3) := by decide +kernel
theorem dX11_without_24 : decode cX11_without 24 = .ok (.ldc 128, 2) := by decide +kernel
theorem dX11_without_26 : decode cX11_without 26 = .ok (.ireturn, 1) := by decide +kernel
theorem dX12_in_0 : decode cX12_in 0 = .ok (.lload_n 0, 1) := by decide +kernel
theorem dX12_in_1 : decode cX12_in 1 = .ok (.lload_n 2, 1) := by decide +kernel
theorem dX12_in_2 : decode cX12_in 2 = .ok (.lcmp, 1) := by decide +kernel
theorem dX12_in_3 : decode cX12_in 3 = .ok (.ifCond .lt 14, 3) := by decide +kernel
theorem dX12_in_6 : decode cX12_in 6 = .ok (.lload_n 0, 1) := by decide +kernel
theorem dX12_in_7 : decode cX12_in 7 = .ok (.lload 4, 2) := by decide +kernel
theorem dX12_in_9 : decode cX12_in 9 = .ok (.lcmp, 1) := by decide +kernel
theorem dX12_in_10 : decode cX12_in 10 = .ok (.ifCond .gt 7, 3) := by decide +kernel
theorem dX12_in_13 : decode cX12_in 13 = .ok (.iconst 1, 1) := by decide +kernel
theorem dX12_in_14 : decode cX12_in 14 = .ok (.goto 4, 3) := by decide +kernel
theorem dX12_in_17 : decode cX12_in 17 = .ok (.iconst 0, 1) := by decide +kernel
theorem dX12_in_18 : decode cX12_in 18 = .ok (.ireturn, 1) := by decide +kernel
theorem dX1_init_0 : decode cX1_init 0 = .ok (.aload_n 0, 1) := by decide +kernel
theorem dX1_init_1 : decode cX1_init 1 = .ok (.invokespecial 3, 3) := by decide +kernel
theorem dX1_init_4 : decode cX1_init 4 = .ok (.aload_n 0, 1) := by decide +kernel
theorem dX1_init_5 : decode cX1_init 5 = .ok (.sipush 300, 3) := by decide +kernel
theorem dX1_init_8 : decode cX1_init 8 = .ok (.newarray .int, 2) := by decide +kernel
theorem dX1_init_10 : decode cX1_init 10 = .ok (.putfield 9, 3) := by decide +kernel
theorem dX1_init_13 : decode cX1_init 13 = .ok (.return_, 1) := by decide +kernel
theorem dX2_faultHere_0 : decode cX2_faultHere 0 = .ok (.aload_n 0, 1) := by decide +kernel
theorem dX2_faultHere_1 : decode cX2_faultHere 1 = .ok (.getfield 33, 3) := by decide +kernel
theorem dX2_faultHere_4 : decode cX2_faultHere 4 = .ok (.ifCond .lt 32, 3) := by decide +kernel
theorem dX2_faultHere_7 : decode cX2_faultHere 7 = .ok (.aload_n 0, 1) := by decide +kernel
theorem dX2_faultHere_8 : decode cX2_faultHere 8 = .ok (.getfield 33, 3) := by decide +kernel
theorem dX2_faultHere_11 : decode cX2_faultHere 11 = .ok (.aload_n 0, 1) := by decide +kernel
theorem dX2_faultHere_12 : decode cX2_faultHere 12 = .ok (.getfield 12, 3) := by decide +kernel
theorem dX2_faultHere_15 : decode cX2_faultHere 15 = .ok (.getfield 57, 3) := by decide +kernel
theorem dX2_faultHere_18 : decode cX2_faultHere 18 = .ok (.if_icmp .ge 18, 3) := by decide +kernel
theorem dX2_faultHere_21 : decode cX2_faultHere 21 = .ok (.aload_n 0, 1) := by decide +kernel
theorem dX2_faultHere_22 : decode cX2_faultHere 22 = .ok (.getfield 12, 3) := by decide +kernel
theorem dX2_faultHere_25 : decode cX2_faultHere 25 = .ok (.getfield 70, 3) := by decide +kernel
theorem dX2_faultHere_28 : decode cX2_faultHere 28 = .ok (.aload_n 0, 1) := by decide +kernel
theorem dX2_faultHere_29 : decode cX2_faultHere 29 = .ok (.getfield 33, 3) := by decide +kernel
theorem dX2_faultHere_32 : decode cX2_faultHere 32 = .ok (.iaload, 1) := by decide +kernel
theorem dX2_faultHere_33 : decode cX2_faultHere 33 = .ok (.goto 4, 3) := by decide +kernel
theorem dX2_faultHere_37 : decode cX2_faultHere 37 = .ok (.istore_n 2, 1) := by decide +kernel
theorem dX2_faultHere_38 : decode cX2_faultHere 38 = .ok (.aload_n 0, 1) := by decide +kernel
theorem dX2_faultHere_39 : decode cX2_faultHere 39 = .ok (.iconst 1, 1) := by decide +kernel
theorem dX2_faultHere_40 : decode cX2_faultHere 40 = .ok (.bipush 8, 2) := by decide +kernel
theorem dX2_faultHere_42 : decode cX2_faultHere 42 = .ok (.iload_n 2, 1) := by decide +kernel
theorem dX2_faultHere_43 : decode cX2_faultHere 43 = .ok (.imul, 1) := by decide +kernel
theorem dX2_faultHere_44 : decode cX2_faultHere 44 = .ok (.iadd, 1) := by decide +kernel
theorem dX2_faultHere_45 : decode cX2_faultHere 45 = .ok (.iload_n 1, 1) := by decide +kernel
theorem dX2_faultHere_46 : decode cX2_faultHere 46 = .ok (.iadd, 1) := by decide +kernel
theorem dX2_faultHere_47 : decode cX2_faultHere 47 = .ok (.putfield 39, 3) := by decide +kernel
theorem dX2_faultHere_50 : decode cX2_faultHere 50 = .ok (.iconst 0, 1) := by decide +kernel
theorem dX2_faultHere_51 : decode cX2_faultHere 51 = .ok (.ireturn, 1) := by decide +kernel
theorem dX2_head_0 : decode cX2_head 0 = .ok (.aload_n 0, 1) := by decide +kernel
theorem dX2_head_1 : decode cX2_head 1 = .ok (.invokevirtual 67, 3) := by decide +kernel
theorem dX2_head_4 : decode cX2_head 4 = .ok (.istore_n 1, 1) := by decide +kernel
theorem dX2_head_5 : decode cX2_head 5 = .ok (.aload_n 0, 1) := by decide +kernel
theorem dX2_head_6 : decode cX2_head 6 = .ok (.invokevirtual 49, 3) := by decide +kernel
theorem dX2_head_9 : decode cX2_head 9 = .ok (.iconst 3, 1) := by decide +kernel
theorem dX2_head_10 : decode cX2_head 10 = .ok (.if_icmp .ne 11, 3) := by decide +kernel
theorem dX2_head_21 : decode cX2_head 21 = .ok (.aload_n 0, 1) := by decide +kernel
theorem dX2_head_22 : decode cX2_head 22 = .ok (.iconst 0, 1) := by decide +kernel
theorem dX2_head_23 : decode cX2_head 23 = .ok (.invokevirtual 53, 3) := by decide +kernel
theorem dX2_head_26 : decode cX2_head 26 = .ok (.ireturn, 1) := by decide +kernel
theorem dX2_init_0 : decode cX2_init 0 = .ok (.aload_n 0, 1) := by decide +kernel
theorem dX2_init_1 : decode cX2_init 1 = .ok (.invokespecial 3, 3) := by decide +kernel
theorem dX2_init_4 : decode cX2_init 4 = .ok (.aload_n 0, 1) := by decide +kernel
theorem dX2_init_5 : decode cX2_init 5 = .ok (.new 9, 3) := by decide +kernel
theorem dX2_init_8 : decode cX2_init 8 = .ok (.dup, 1) := by decide +kernel
theorem dX2_init_9 : decode cX2_init 9 = .ok (.invokespecial 11, 3) := by decide +kernel
theorem dX2_init_12 : decode cX2_init 12 = .ok (.putfield 12, 3) := by decide +kernel
theorem dX2_init_15 : decode cX2_init 15 = .ok (.aload_n 0, 1) := by decide +kernel
theorem dX2_init_16 : decode cX2_init 16 = .ok (.new 18, 3) := by decide +kernel
theorem dX2_init_19 : decode cX2_init 19 = .ok (.dup, 1) := by decide +kernel
theorem dX2_init_20 : decode cX2_init 20 = .ok (.invokespecial 20, 3) := by decide +kernel
theorem dX2_init_23 : decode cX2_init 23 = .ok (.putfield 21, 3) := by decide +kernel
theorem dX2_init_26 : decode cX2_init 26 = .ok (.return_, 1) := by decide +kernel
theorem dX2_kindHere_0 : decode cX2_kindHere 0 = .ok (.aload_n 0, 1) := by decide +kernel
theorem dX2_kindHere_1 : decode cX2_kindHere 1 = .ok (.getfield 33, 3) := by decide +kernel
theorem dX2_kindHere_4 : decode cX2_kindHere 4 = .ok (.ifCond .lt 32, 3) := by decide +kernel
theorem dX2_kindHere_7 : decode cX2_kindHere 7 = .ok (.aload_n 0, 1) := by decide +kernel
theorem dX2_kindHere_8 : decode cX2_kindHere 8 = .ok (.getfield 33, 3) := by decide +kernel
theorem dX2_kindHere_11 : decode cX2_kindHere 11 = .ok (.aload_n 0, 1) := by decide +kernel
theorem dX2_kindHere_12 : decode cX2_kindHere 12 = .ok (.getfield 12, 3) := by decide +kernel
theorem dX2_kindHere_15 : decode cX2_kindHere 15 = .ok (.getfield 57, 3) := by decide +kernel
theorem dX2_kindHere_18 : decode cX2_kindHere 18 = .ok (.if_icmp .ge 18, 3) := by decide +kernel
theorem dX2_kindHere_21 : decode cX2_kindHere 21 = .ok (.aload_n 0, 1) := by decide +kernel
theorem dX2_kindHere_22 : decode cX2_kindHere 22 = .ok (.getfield 12, 3) := by decide +kernel
theorem dX2_kindHere_25 : decode cX2_kindHere 25 = .ok (.getfield 60, 3) := by decide +kernel
theorem dX2_kindHere_28 : decode cX2_kindHere 28 = .ok (.aload_n 0, 1) := by decide +kernel
theorem dX2_kindHere_29 : decode cX2_kindHere 29 = .ok (.getfield 33, 3) := by decide +kernel
theorem dX2_kindHere_32 : decode cX2_kindHere 32 = .ok (.iaload, 1) := by decide +kernel
theorem dX2_kindHere_33 : decode cX2_kindHere 33 = .ok (.goto 4, 3) := by decide +kernel
theorem dX2_kindHere_37 : decode cX2_kindHere 37 = .ok (.ireturn, 1) := by decide +kernel
theorem dX2_parse_0 : decode cX2_parse 0 = .ok (.aload_n 0, 1) := by decide +kernel
theorem dX2_parse_1 : decode cX2_parse 1 = .ok (.getfield 12, 3) := by decide +kernel
theorem dX2_parse_4 : decode cX2_parse 4 = .ok (.aload_n 1, 1) := by decide +kernel
theorem dX2_parse_5 : decode cX2_parse 5 = .ok (.invokevirtual 25, 3) := by decide +kernel
theorem dX2_parse_8 : decode cX2_parse 8 = .ok (.aload_n 0, 1) := by decide +kernel
theorem dX2_parse_9 : decode cX2_parse 9 = .ok (.aload_n 3, 1) := by decide +kernel
theorem dX2_parse_10 : decode cX2_parse 10 = .ok (.putfield 21, 3) := by decide +kernel
theorem dX2_parse_13 : decode cX2_parse 13 = .ok (.aload_n 0, 1) := by decide +kernel
theorem dX2_parse_14 : decode cX2_parse 14 = .ok (.iload_n 2, 1) := by decide +kernel
theorem dX2_parse_15 : decode cX2_parse 15 = .ok (.putfield 29, 3) := by decide +kernel
theorem dX2_parse_18 : decode cX2_parse 18 = .ok (.aload_n 0, 1) := by decide +kernel
theorem dX2_parse_19 : decode cX2_parse 19 = .ok (.iconst 0, 1) := by decide +kernel
theorem dX2_parse_20 : decode cX2_parse 20 = .ok (.putfield 33, 3) := by decide +kernel
theorem dX2_parse_23 : decode cX2_parse 23 = .ok (.aload_n 0, 1) := by decide +kernel
theorem dX2_parse_24 : decode cX2_parse 24 = .ok (.iconst 0, 1) := by decide +kernel
theorem dX2_parse_25 : decode cX2_parse 25 = .ok (.putfield 36, 3) := by decide +kernel
theorem dX2_parse_28 : decode cX2_parse 28 = .ok (.aload_n 0, 1) := by decide +kernel
theorem dX2_parse_29 : decode cX2_parse 29 = .ok (.iconst 0, 1) := by decide +kernel
theorem dX2_parse_30 : decode cX2_parse 30 = .ok (.putfield 39, 3) := by decide +kernel
theorem dX2_parse_33 : decode cX2_parse 33 = .ok (.iconst 0, 1) := by decide +kernel
theorem dX2_parse_34 : decode cX2_parse 34 = .ok (.istore 4, 2) := by decide +kernel
theorem dX2_parse_36 : decode cX2_parse 36 = .ok (.iload 4, 2) := by decide +kernel
theorem dX2_parse_38 : decode cX2_parse 38 = .ok (.bipush 12, 2) := by decide +kernel
theorem dX2_parse_40 : decode cX2_parse 40 = .ok (.if_icmp .gt 67, 3) := by decide +kernel
theorem dX2_parse_43 : decode cX2_parse 43 = .ok (.aload_n 0, 1) := by decide +kernel
theorem dX2_parse_44 : decode cX2_parse 44 = .ok (.invokevirtual 42, 3) := by decide +kernel
theorem dX2_parse_47 : decode cX2_parse 47 = .ok (.ifCond .eq 10, 3) := by decide +kernel
theorem dX2_parse_57 : decode cX2_parse 57 = .ok (.aload_n 0, 1) := by decide +kernel
theorem dX2_parse_58 : decode cX2_parse 58 = .ok (.getfield 39, 3) := by decide +kernel
theorem dX2_parse_61 : decode cX2_parse 61 = .ok (.ireturn, 1) := by decide +kernel
theorem dX2_valueHere_0 : decode cX2_valueHere 0 = .ok (.aload_n 0, 1) := by decide +kernel
theorem dX2_valueHere_1 : decode cX2_valueHere 1 = .ok (.getfield 33, 3) := by decide +kernel
theorem dX2_valueHere_4 : decode cX2_valueHere 4 = .ok (.ifCond .lt 32, 3) := by decide +kernel
theorem dX2_valueHere_7 : decode cX2_valueHere 7 = .ok (.aload_n 0, 1) := by decide +kernel
theorem dX2_valueHere_8 : decode cX2_valueHere 8 = .ok (.getfield 33, 3) := by decide +kernel
theorem dX2_valueHere_11 : decode cX2_valueHere 11 = .ok (.aload_n 0, 1) := by decide +kernel
theorem dX2_valueHere_12 : decode cX2_valueHere 12 = .ok (.getfield 12, 3) := by decide +kernel
theorem dX2_valueHere_15 : decode cX2_valueHere 15 = .ok (.getfield 57, 3) := by decide +kernel
theorem dX2_valueHere_18 : decode cX2_valueHere 18 = .ok (.if_icmp .ge 18, 3) := by decide +kernel
theorem dX2_valueHere_21 : decode cX2_valueHere 21 = .ok (.aload_n 0, 1) := by decide +kernel
theorem dX2_valueHere_22 : decode cX2_valueHere 22 = .ok (.getfield 12, 3) := by decide +kernel
theorem dX2_valueHere_25 : decode cX2_valueHere 25 = .ok (.getfield 64, 3) := by decide +kernel
theorem dX2_valueHere_28 : decode cX2_valueHere 28 = .ok (.aload_n 0, 1) := by decide +kernel
theorem dX2_valueHere_29 : decode cX2_valueHere 29 = .ok (.getfield 33, 3) := by decide +kernel
theorem dX2_valueHere_32 : decode cX2_valueHere 32 = .ok (.iaload, 1) := by decide +kernel
theorem dX2_valueHere_33 : decode cX2_valueHere 33 = .ok (.goto 4, 3) := by decide +kernel
theorem dX2_valueHere_37 : decode cX2_valueHere 37 = .ok (.ireturn, 1) := by decide +kernel
theorem dX3_init_0 : decode cX3_init 0 = .ok (.aload_n 0, 1) := by decide +kernel
theorem dX3_init_1 : decode cX3_init 1 = .ok (.invokespecial 3, 3) := by decide +kernel
theorem dX3_init_4 : decode cX3_init 4 = .ok (.aload_n 0, 1) := by decide +kernel
theorem dX3_init_5 : decode cX3_init 5 = .ok (.bipush 99, 2) := by decide +kernel
theorem dX3_init_7 : decode cX3_init 7 = .ok (.newarray .long, 2) := by decide +kernel
theorem dX3_init_9 : decode cX3_init 9 = .ok (.putfield 9, 3) := by decide +kernel
theorem dX3_init_12 : decode cX3_init 12 = .ok (.aload_n 0, 1) := by decide +kernel
theorem dX3_init_13 : decode cX3_init 13 = .ok (.bipush 99, 2) := by decide +kernel
theorem dX3_init_15 : decode cX3_init 15 = .ok (.newarray .int, 2) := by decide +kernel
theorem dX3_init_17 : decode cX3_init 17 = .ok (.putfield 15, 3) := by decide +kernel
theorem dX3_init_20 : decode cX3_init 20 = .ok (.return_, 1) := by decide +kernel
theorem dX4_add_0 : decode cX4_add 0 = .ok (.aload_n 0, 1) := by decide +kernel
theorem dX4_add_1 : decode cX4_add 1 = .ok (.getfield 26, 3) := by decide +kernel
theorem dX4_add_4 : decode cX4_add 4 = .ok (.bipush 24, 2) := by decide +kernel
theorem dX4_add_6 : decode cX4_add 6 = .ok (.if_icmp .lt 5, 3) := by decide +kernel
theorem dX4_add_11 : decode cX4_add 11 = .ok (.aload_n 0, 1) := by decide +kernel
theorem dX4_add_12 : decode cX4_add 12 = .ok (.getfield 9, 3) := by decide +kernel
theorem dX4_add_15 : decode cX4_add 15 = .ok (.aload_n 0, 1) := by decide +kernel
theorem dX4_add_16 : decode cX4_add 16 = .ok (.getfield 26, 3) := by decide +kernel
theorem dX4_add_19 : decode cX4_add 19 = .ok (.iload_n 1, 1) := by decide +kernel
theorem dX4_add_20 : decode cX4_add 20 = .ok (.iastore, 1) := by decide +kernel
theorem dX4_add_21 : decode cX4_add 21 = .ok (.aload_n 0, 1) := by decide +kernel
theorem dX4_add_22 : decode cX4_add 22 = .ok (.getfield 15, 3) := by decide +kernel
theorem dX4_add_25 : decode cX4_add 25 = .ok (.aload_n 0, 1) := by decide +kernel
theorem dX4_add_26 : decode cX4_add 26 = .ok (.getfield 26, 3) := by decide +kernel
theorem dX4_add_29 : decode cX4_add 29 = .ok (.iload_n 2, 1) := by decide +kernel
theorem dX4_add_30 : decode cX4_add 30 = .ok (.iastore, 1) := by decide +kernel
theorem dX4_add_31 : decode cX4_add 31 = .ok (.aload_n 0, 1) := by decide +kernel
theorem dX4_add_32 : decode cX4_add 32 = .ok (.getfield 18, 3) := by decide +kernel
theorem dX4_add_35 : decode cX4_add 35 = .ok (.aload_n 0, 1) := by decide +kernel
theorem dX4_add_36 : decode cX4_add 36 = .ok (.getfield 26, 3) := by decide +kernel
theorem dX4_add_39 : decode cX4_add 39 = .ok (.iload_n 3, 1) := by decide +kernel
theorem dX4_add_40 : decode cX4_add 40 = .ok (.iastore, 1) := by decide +kernel
theorem dX4_add_41 : decode cX4_add 41 = .ok (.aload_n 0, 1) := by decide +kernel
theorem dX4_add_42 : decode cX4_add 42 = .ok (.getfield 23, 3) := by decide +kernel
theorem dX4_add_45 : decode cX4_add 45 = .ok (.aload_n 0, 1) := by decide +kernel
theorem dX4_add_46 : decode cX4_add 46 = .ok (.getfield 26, 3) := by decide +kernel
theorem dX4_add_49 : decode cX4_add 49 = .ok (.aaload, 1) := by decide +kernel
theorem dX4_add_50 : decode cX4_add 50 = .ok (.ldc 30, 2) := by decide +kernel
theorem dX4_add_52 : decode cX4_add 52 = .ok (.invokestatic 31, 3) := by decide +kernel
theorem dX4_add_55 : decode cX4_add 55 = .ok (.aload_n 0, 1) := by decide +kernel
theorem dX4_add_56 : decode cX4_add 56 = .ok (.dup, 1) := by decide +kernel
theorem dX4_add_57 : decode cX4_add 57 = .ok (.getfield 26, 3) := by decide +kernel
theorem dX4_add_60 : decode cX4_add 60 = .ok (.iconst 1, 1) := by decide +kernel
theorem dX4_add_61 : decode cX4_add 61 = .ok (.iadd, 1) := by decide +kernel
theorem dX4_add_62 : decode cX4_add 62 = .ok (.putfield 26, 3) := by decide +kernel
theorem dX4_add_65 : decode cX4_add 65 = .ok (.aload_n 0, 1) := by decide +kernel
theorem dX4_add_66 : decode cX4_add 66 = .ok (.getfield 26, 3) := by decide +kernel
theorem dX4_add_69 : decode cX4_add 69 = .ok (.iconst 1, 1) := by decide +kernel
theorem dX4_add_70 : decode cX4_add 70 = .ok (.isub, 1) := by decide +kernel
theorem dX4_add_71 : decode cX4_add 71 = .ok (.ireturn, 1) := by decide +kernel
theorem dX4_copyFrom_0 : decode cX4_copyFrom 0 = .ok (.aload_n 0, 1) := by decide +kernel
theorem dX4_copyFrom_1 : decode cX4_copyFrom 1 = .ok (.aload_n 1, 1) := by decide +kernel
theorem dX4_copyFrom_2 : decode cX4_copyFrom 2 = .ok (.getfield 26, 3) := by decide +kernel
theorem dX4_copyFrom_5 : decode cX4_copyFrom 5 = .ok (.putfield 26, 3) := by decide +kernel
theorem dX4_copyFrom_8 : decode cX4_copyFrom 8 = .ok (.aload_n 0, 1) := by decide +kernel
theorem dX4_copyFrom_9 : decode cX4_copyFrom 9 = .ok (.aload_n 1, 1) := by decide +kernel
theorem dX4_copyFrom_10 : decode cX4_copyFrom 10 = .ok (.getfield 44, 3) := by decide +kernel
theorem dX4_copyFrom_13 : decode cX4_copyFrom 13 = .ok (.putfield 44, 3) := by decide +kernel
theorem dX4_copyFrom_16 : decode cX4_copyFrom 16 = .ok (.aload_n 1, 1) := by decide +kernel
theorem dX4_copyFrom_17 : decode cX4_copyFrom 17 = .ok (.getfield 9, 3) := by decide +kernel
theorem dX4_copyFrom_20 : decode cX4_copyFrom 20 = .ok (.iconst 0, 1) := by decide +kernel
theorem dX4_copyFrom_21 : decode cX4_copyFrom 21 = .ok (.aload_n 0, 1) := by decide +kernel
theorem dX4_copyFrom_22 : decode cX4_copyFrom 22 = .ok (.getfield 9, 3) := by decide +kernel
theorem dX4_copyFrom_25 : decode cX4_copyFrom 25 = .ok (.iconst 0, 1) := by decide +kernel
theorem dX4_copyFrom_26 : decode cX4_copyFrom 26 = .ok (.bipush 24, 2) := by decide +kernel
theorem dX4_copyFrom_28 : decode cX4_copyFrom 28 = .ok (.invokestatic 47, 3) := by decide +kernel
theorem dX4_copyFrom_31 : decode cX4_copyFrom 31 = .ok (.aload_n 1, 1) := by decide +kernel
theorem dX4_copyFrom_32 : decode cX4_copyFrom 32 = .ok (.getfield 15, 3) := by decide +kernel
theorem dX4_copyFrom_35 : decode cX4_copyFrom 35 = .ok (.iconst 0, 1) := by decide +kernel
theorem dX4_copyFrom_36 : decode cX4_copyFrom 36 = .ok (.aload_n 0, 1) := by decide +kernel
theorem dX4_copyFrom_37 : decode cX4_copyFrom 37 = .ok (.getfield 15, 3) := by decide +kernel
theorem dX4_copyFrom_40 : decode cX4_copyFrom 40 = .ok (.iconst 0, 1) := by decide +kernel
theorem dX4_copyFrom_41 : decode cX4_copyFrom 41 = .ok (.bipush 24, 2) := by decide +kernel
theorem dX4_copyFrom_43 : decode cX4_copyFrom 43 = .ok (.invokestatic 47, 3) := by decide +kernel
theorem dX4_copyFrom_46 : decode cX4_copyFrom 46 = .ok (.aload_n 1, 1) := by decide +kernel
theorem dX4_copyFrom_47 : decode cX4_copyFrom 47 = .ok (.getfield 18, 3) := by decide +kernel
theorem dX4_copyFrom_50 : decode cX4_copyFrom 50 = .ok (.iconst 0, 1) := by decide +kernel
theorem dX4_copyFrom_51 : decode cX4_copyFrom 51 = .ok (.aload_n 0, 1) := by decide +kernel
theorem dX4_copyFrom_52 : decode cX4_copyFrom 52 = .ok (.getfield 18, 3) := by decide +kernel
theorem dX4_copyFrom_55 : decode cX4_copyFrom 55 = .ok (.iconst 0, 1) := by decide +kernel
theorem dX4_copyFrom_56 : decode cX4_copyFrom 56 = .ok (.bipush 24, 2) := by decide +kernel
theorem dX4_copyFrom_58 : decode cX4_copyFrom 58 = .ok (.invokestatic 47, 3) := by decide +kernel
theorem dX4_copyFrom_61 : decode cX4_copyFrom 61 = .ok (.iconst 0, 1) := by decide +kernel
theorem dX4_copyFrom_62 : decode cX4_copyFrom 62 = .ok (.istore_n 2, 1) := by decide +kernel
theorem dX4_copyFrom_63 : decode cX4_copyFrom 63 = .ok (.iload_n 2, 1) := by decide +kernel
theorem dX4_copyFrom_64 : decode cX4_copyFrom 64 = .ok (.aload_n 0, 1) := by decide +kernel
theorem dX4_copyFrom_65 : decode cX4_copyFrom 65 = .ok (.getfield 26, 3) := by decide +kernel
theorem dX4_copyFrom_68 : decode cX4_copyFrom 68 = .ok (.if_icmp .ge 29, 3) := by decide +kernel
theorem dX4_copyFrom_97 : decode cX4_copyFrom 97 = .ok (.return_, 1) := by decide +kernel
theorem dX4_has_0 : decode cX4_has 0 = .ok (.iload_n 1, 1) := by decide +kernel
theorem dX4_has_1 : decode cX4_has 1 = .ok (.ifCond .lt 15, 3) := by decide +kernel
theorem dX4_has_4 : decode cX4_has 4 = .ok (.iload_n 1, 1) := by decide +kernel
theorem dX4_has_5 : decode cX4_has 5 = .ok (.aload_n 0, 1) := by decide +kernel
theorem dX4_has_6 : decode cX4_has 6 = .ok (.getfield 26, 3) := by decide +kernel
theorem dX4_has_9 : decode cX4_has 9 = .ok (.if_icmp .ge 7, 3) := by decide +kernel
theorem dX4_has_16 : decode cX4_has 16 = .ok (.iconst 0, 1) := by decide +kernel
theorem dX4_has_17 : decode cX4_has 17 = .ok (.ireturn, 1) := by decide +kernel
theorem dX4_init_0 : decode cX4_init 0 = .ok (.aload_n 0, 1) := by decide +kernel
theorem dX4_init_1 : decode cX4_init 1 = .ok (.invokespecial 3, 3) := by decide +kernel
theorem dX4_init_4 : decode cX4_init 4 = .ok (.aload_n 0, 1) := by decide +kernel
theorem dX4_init_5 : decode cX4_init 5 = .ok (.bipush 24, 2) := by decide +kernel
theorem dX4_init_7 : decode cX4_init 7 = .ok (.newarray .int, 2) := by decide +kernel
theorem dX4_init_9 : decode cX4_init 9 = .ok (.putfield 9, 3) := by decide +kernel
theorem dX4_init_12 : decode cX4_init 12 = .ok (.aload_n 0, 1) := by decide +kernel
theorem dX4_init_13 : decode cX4_init 13 = .ok (.bipush 24, 2) := by decide +kernel
theorem dX4_init_15 : decode cX4_init 15 = .ok (.newarray .int, 2) := by decide +kernel
theorem dX4_init_17 : decode cX4_init 17 = .ok (.putfield 15, 3) := by decide +kernel
theorem dX4_init_20 : decode cX4_init 20 = .ok (.aload_n 0, 1) := by decide +kernel
theorem dX4_init_21 : decode cX4_init 21 = .ok (.bipush 24, 2) := by decide +kernel
theorem dX4_init_23 : decode cX4_init 23 = .ok (.newarray .int, 2) := by decide +kernel
theorem dX4_init_25 : decode cX4_init 25 = .ok (.putfield 18, 3) := by decide +kernel
theorem dX4_init_28 : decode cX4_init 28 = .ok (.aload_n 0, 1) := by decide +kernel
theorem dX4_init_29 : decode cX4_init 29 = .ok (.bipush 24, 2) := by decide +kernel
theorem dX4_init_31 : decode cX4_init 31 = .ok (.sipush 300, 3) := by decide +kernel
theorem dX4_init_34 : decode cX4_init 34 = .ok (.multianewarray 21 2, 4) := by decide +kernel
theorem dX4_init_38 : decode cX4_init 38 = .ok (.putfield 23, 3) := by decide +kernel
theorem dX4_init_41 : decode cX4_init 41 = .ok (.return_, 1) := by decide +kernel
theorem dX5_init_0 : decode cX5_init 0 = .ok (.aload_n 0, 1) := by decide +kernel
theorem dX5_init_1 : decode cX5_init 1 = .ok (.invokespecial 3, 3) := by decide +kernel
theorem dX5_init_4 : decode cX5_init 4 = .ok (.aload_n 0, 1) := by decide +kernel
theorem dX5_init_5 : decode cX5_init 5 = .ok (.iconst 5, 1) := by decide +kernel
theorem dX5_init_6 : decode cX5_init 6 = .ok (.newarray .long, 2) := by decide +kernel
theorem dX5_init_8 : decode cX5_init 8 = .ok (.putfield 9, 3) := by decide +kernel
theorem dX5_init_11 : decode cX5_init 11 = .ok (.aload_n 0, 1) := by decide +kernel
theorem dX5_init_12 : decode cX5_init 12 = .ok (.bipush 60, 2) := by decide +kernel
theorem dX5_init_14 : decode cX5_init 14 = .ok (.newarray .long, 2) := by decide +kernel
theorem dX5_init_16 : decode cX5_init 16 = .ok (.putfield 15, 3) := by decide +kernel
theorem dX5_init_19 : decode cX5_init 19 = .ok (.return_, 1) := by decide +kernel
theorem dX6_add_0 : decode cX6_add 0 = .ok (.aload_n 0, 1) := by decide +kernel
theorem dX6_add_1 : decode cX6_add 1 = .ok (.getfield 25, 3) := by decide +kernel
theorem dX6_add_4 : decode cX6_add 4 = .ok (.aload_n 0, 1) := by decide +kernel
theorem dX6_add_5 : decode cX6_add 5 = .ok (.getfield 15, 3) := by decide +kernel
theorem dX6_add_8 : decode cX6_add 8 = .ok (.if_icmp .lt 5, 3) := by decide +kernel
theorem dX6_add_13 : decode cX6_add 13 = .ok (.aload_n 0, 1) := by decide +kernel
theorem dX6_add_14 : decode cX6_add 14 = .ok (.getfield 25, 3) := by decide +kernel
theorem dX6_add_17 : decode cX6_add 17 = .ok (.istore 5, 2) := by decide +kernel
theorem dX6_add_19 : decode cX6_add 19 = .ok (.aload_n 0, 1) := by decide +kernel
theorem dX6_add_20 : decode cX6_add 20 = .ok (.dup, 1) := by decide +kernel
theorem dX6_add_21 : decode cX6_add 21 = .ok (.getfield 25, 3) := by decide +kernel
theorem dX6_add_24 : decode cX6_add 24 = .ok (.iconst 1, 1) := by decide +kernel
theorem dX6_add_25 : decode cX6_add 25 = .ok (.iadd, 1) := by decide +kernel
theorem dX6_add_26 : decode cX6_add 26 = .ok (.putfield 25, 3) := by decide +kernel
theorem dX6_add_29 : decode cX6_add 29 = .ok (.aload_n 0, 1) := by decide +kernel
theorem dX6_add_30 : decode cX6_add 30 = .ok (.iload 5, 2) := by decide +kernel
theorem dX6_add_32 : decode cX6_add 32 = .ok (.iconst 0, 1) := by decide +kernel
theorem dX6_add_33 : decode cX6_add 33 = .ok (.iload_n 1, 1) := by decide +kernel
theorem dX6_add_34 : decode cX6_add 34 = .ok (.invokevirtual 28, 3) := by decide +kernel
theorem dX6_add_37 : decode cX6_add 37 = .ok (.aload_n 0, 1) := by decide +kernel
theorem dX6_add_38 : decode cX6_add 38 = .ok (.iload 5, 2) := by decide +kernel
theorem dX6_add_40 : decode cX6_add 40 = .ok (.iconst 1, 1) := by decide +kernel
theorem dX6_add_41 : decode cX6_add 41 = .ok (.iload_n 2, 1) := by decide +kernel
theorem dX6_add_42 : decode cX6_add 42 = .ok (.invokevirtual 28, 3) := by decide +kernel
theorem dX6_add_45 : decode cX6_add 45 = .ok (.aload_n 0, 1) := by decide +kernel
theorem dX6_add_46 : decode cX6_add 46 = .ok (.iload 5, 2) := by decide +kernel
theorem dX6_add_48 : decode cX6_add 48 = .ok (.iconst 2, 1) := by decide +kernel
theorem dX6_add_49 : decode cX6_add 49 = .ok (.iload_n 3, 1) := by decide +kernel
theorem dX6_add_50 : decode cX6_add 50 = .ok (.invokevirtual 28, 3) := by decide +kernel
theorem dX6_add_53 : decode cX6_add 53 = .ok (.aload_n 0, 1) := by decide +kernel
theorem dX6_add_54 : decode cX6_add 54 = .ok (.iload 5, 2) := by decide +kernel
theorem dX6_add_56 : decode cX6_add 56 = .ok (.iconst 3, 1) := by decide +kernel
theorem dX6_add_57 : decode cX6_add 57 = .ok (.iload 4, 2) := by decide +kernel
theorem dX6_add_59 : decode cX6_add 59 = .ok (.invokevirtual 28, 3) := by decide +kernel
theorem dX6_add_62 : decode cX6_add 62 = .ok (.iload 5, 2) := by decide +kernel
theorem dX6_add_64 : decode cX6_add 64 = .ok (.ireturn, 1) := by decide +kernel
theorem dX6_copyFrom_0 : decode cX6_copyFrom 0 = .ok (.aload_n 0, 1) := by decide +kernel
theorem dX6_copyFrom_1 : decode cX6_copyFrom 1 = .ok (.aload_n 0, 1) := by decide +kernel
theorem dX6_copyFrom_2 : decode cX6_copyFrom 2 = .ok (.getfield 15, 3) := by decide +kernel
theorem dX6_copyFrom_5 : decode cX6_copyFrom 5 = .ok (.aload_n 1, 1) := by decide +kernel
theorem dX6_copyFrom_6 : decode cX6_copyFrom 6 = .ok (.getfield 25, 3) := by decide +kernel
theorem dX6_copyFrom_9 : decode cX6_copyFrom 9 = .ok (.invokestatic 36, 3) := by decide +kernel
theorem dX6_copyFrom_12 : decode cX6_copyFrom 12 = .ok (.putfield 25, 3) := by decide +kernel
theorem dX6_copyFrom_15 : decode cX6_copyFrom 15 = .ok (.aload_n 1, 1) := by decide +kernel
theorem dX6_copyFrom_16 : decode cX6_copyFrom 16 = .ok (.getfield 21, 3) := by decide +kernel
theorem dX6_copyFrom_19 : decode cX6_copyFrom 19 = .ok (.iconst 0, 1) := by decide +kernel
theorem dX6_copyFrom_20 : decode cX6_copyFrom 20 = .ok (.aload_n 0, 1) := by decide +kernel
theorem dX6_copyFrom_21 : decode cX6_copyFrom 21 = .ok (.getfield 21, 3) := by decide +kernel
theorem dX6_copyFrom_24 : decode cX6_copyFrom 24 = .ok (.iconst 0, 1) := by decide +kernel
theorem dX6_copyFrom_25 : decode cX6_copyFrom 25 = .ok (.aload_n 0, 1) := by decide +kernel
theorem dX6_copyFrom_26 : decode cX6_copyFrom 26 = .ok (.getfield 21, 3) := by decide +kernel
theorem dX6_copyFrom_29 : decode cX6_copyFrom 29 = .ok (.arraylength, 1) := by decide +kernel
theorem dX6_copyFrom_30 : decode cX6_copyFrom 30 = .ok (.aload_n 1, 1) := by decide +kernel
theorem dX6_copyFrom_31 : decode cX6_copyFrom 31 = .ok (.getfield 21, 3) := by decide +kernel
theorem dX6_copyFrom_34 : decode cX6_copyFrom 34 = .ok (.arraylength, 1) := by decide +kernel
theorem dX6_copyFrom_35 : decode cX6_copyFrom 35 = .ok (.invokestatic 36, 3) := by decide +kernel
theorem dX6_copyFrom_38 : decode cX6_copyFrom 38 = .ok (.invokestatic 39, 3) := by decide +kernel
theorem dX6_copyFrom_41 : decode cX6_copyFrom 41 = .ok (.return_, 1) := by decide +kernel
theorem dX6_has_0 : decode cX6_has 0 = .ok (.iload_n 1, 1) := by decide +kernel
theorem dX6_has_1 : decode cX6_has 1 = .ok (.ifCond .lt 15, 3) := by decide +kernel
theorem dX6_has_4 : decode cX6_has 4 = .ok (.iload_n 1, 1) := by decide +kernel
theorem dX6_has_5 : decode cX6_has 5 = .ok (.aload_n 0, 1) := by decide +kernel
theorem dX6_has_6 : decode cX6_has 6 = .ok (.getfield 25, 3) := by decide +kernel
theorem dX6_has_9 : decode cX6_has 9 = .ok (.if_icmp .ge 7, 3) := by decide +kernel
theorem dX6_has_12 : decode cX6_has 12 = .ok (.iconst 1, 1) := by decide +kernel
theorem dX6_has_13 : decode cX6_has 13 = .ok (.goto 4, 3) := by decide +kernel
theorem dX6_has_16 : decode cX6_has 16 = .ok (.iconst 0, 1) := by decide +kernel
theorem dX6_has_17 : decode cX6_has 17 = .ok (.ireturn, 1) := by decide +kernel
theorem dX6_init_0 : decode cX6_init 0 = .ok (.aload_n 0, 1) := by decide +kernel
theorem dX6_init_1 : decode cX6_init 1 = .ok (.invokespecial 3, 3) := by decide +kernel
theorem dX6_init_4 : decode cX6_init 4 = .ok (.aload_n 0, 1) := by decide +kernel
theorem dX6_init_5 : decode cX6_init 5 = .ok (.iconst 0, 1) := by decide +kernel
theorem dX6_init_6 : decode cX6_init 6 = .ok (.iload_n 1, 1) := by decide +kernel
theorem dX6_init_7 : decode cX6_init 7 = .ok (.invokestatic 9, 3) := by decide +kernel
theorem dX6_init_10 : decode cX6_init 10 = .ok (.putfield 15, 3) := by decide +kernel
theorem dX6_init_13 : decode cX6_init 13 = .ok (.aload_n 0, 1) := by decide +kernel
theorem dX6_init_14 : decode cX6_init 14 = .ok (.aload_n 0, 1) := by decide +kernel
theorem dX6_init_15 : decode cX6_init 15 = .ok (.getfield 15, 3) := by decide +kernel
theorem dX6_init_18 : decode cX6_init 18 = .ok (.iconst 4, 1) := by decide +kernel
theorem dX6_init_19 : decode cX6_init 19 = .ok (.imul, 1) := by decide +kernel
theorem dX6_init_20 : decode cX6_init 20 = .ok (.newarray .int, 2) := by decide +kernel
theorem dX6_init_22 : decode cX6_init 22 = .ok (.putfield 21, 3) := by decide +kernel
theorem dX6_init_25 : decode cX6_init 25 = .ok (.return_, 1) := by decide +kernel
theorem dX6_set_0 : decode cX6_set 0 = .ok (.aload_n 0, 1) := by decide +kernel
theorem dX6_set_1 : decode cX6_set 1 = .ok (.iload_n 1, 1) := by decide +kernel
theorem dX6_set_2 : decode cX6_set 2 = .ok (.invokevirtual 32, 3) := by decide +kernel
theorem dX6_set_5 : decode cX6_set 5 = .ok (.ifCond .eq 23, 3) := by decide +kernel
theorem dX6_set_8 : decode cX6_set 8 = .ok (.iload_n 2, 1) := by decide +kernel
theorem dX6_set_9 : decode cX6_set 9 = .ok (.ifCond .lt 19, 3) := by decide +kernel
theorem dX6_set_12 : decode cX6_set 12 = .ok (.iload_n 2, 1) := by decide +kernel
theorem dX6_set_13 : decode cX6_set 13 = .ok (.iconst 4, 1) := by decide +kernel
theorem dX6_set_14 : decode cX6_set 14 = .ok (.if_icmp .ge 14, 3) := by decide +kernel
theorem dX6_set_17 : decode cX6_set 17 = .ok (.aload_n 0, 1) := by decide +kernel
theorem dX6_set_18 : decode cX6_set 18 = .ok (.getfield 21, 3) := by decide +kernel
theorem dX6_set_21 : decode cX6_set 21 = .ok (.iload_n 1, 1) := by decide +kernel
theorem dX6_set_22 : decode cX6_set 22 = .ok (.iconst 4, 1) := by decide +kernel
theorem dX6_set_23 : decode cX6_set 23 = .ok (.imul, 1) := by decide +kernel
theorem dX6_set_24 : decode cX6_set 24 = .ok (.iload_n 2, 1) := by decide +kernel
theorem dX6_set_25 : decode cX6_set 25 = .ok (.iadd, 1) := by decide +kernel
theorem dX6_set_26 : decode cX6_set 26 = .ok (.iload_n 3, 1) := by decide +kernel
theorem dX6_set_27 : decode cX6_set 27 = .ok (.iastore, 1) := by decide +kernel
theorem dX6_set_28 : decode cX6_set 28 = .ok (.return_, 1) := by decide +kernel
theorem dX7_init_0 : decode cX7_init 0 = .ok (.aload_n 0, 1) := by decide +kernel
theorem dX7_init_1 : decode cX7_init 1 = .ok (.invokespecial 3, 3) := by decide +kernel
theorem dX7_init_4 : decode cX7_init 4 = .ok (.aload_n 0, 1) := by decide +kernel
theorem dX7_init_5 : decode cX7_init 5 = .ok (.bipush 12, 2) := by decide +kernel
theorem dX7_init_7 : decode cX7_init 7 = .ok (.newarray .int, 2) := by decide +kernel
theorem dX7_init_9 : decode cX7_init 9 = .ok (.putfield 9, 3) := by decide +kernel
theorem dX7_init_12 : decode cX7_init 12 = .ok (.aload_n 0, 1) := by decide +kernel
theorem dX7_init_13 : decode cX7_init 13 = .ok (.bipush 12, 2) := by decide +kernel
theorem dX7_init_15 : decode cX7_init 15 = .ok (.newarray .int, 2) := by decide +kernel
theorem dX7_init_17 : decode cX7_init 17 = .ok (.putfield 15, 3) := by decide +kernel
theorem dX7_init_20 : decode cX7_init 20 = .ok (.aload_n 0, 1) := by decide +kernel
theorem dX7_init_21 : decode cX7_init 21 = .ok (.bipush 12, 2) := by decide +kernel
theorem dX7_init_23 : decode cX7_init 23 = .ok (.newarray .int, 2) := by decide +kernel
theorem dX7_init_25 : decode cX7_init 25 = .ok (.putfield 18, 3) := by decide +kernel
theorem dX7_init_28 : decode cX7_init 28 = .ok (.aload_n 0, 1) := by decide +kernel
theorem dX7_init_29 : decode cX7_init 29 = .ok (.bipush 12, 2) := by decide +kernel
theorem dX7_init_31 : decode cX7_init 31 = .ok (.newarray .int, 2) := by decide +kernel
theorem dX7_init_33 : decode cX7_init 33 = .ok (.putfield 21, 3) := by decide +kernel
theorem dX7_init_36 : decode cX7_init 36 = .ok (.aload_n 0, 1) := by decide +kernel
theorem dX7_init_37 : decode cX7_init 37 = .ok (.bipush 12, 2) := by decide +kernel
theorem dX7_init_39 : decode cX7_init 39 = .ok (.newarray .int, 2) := by decide +kernel
theorem dX7_init_41 : decode cX7_init 41 = .ok (.putfield 24, 3) := by decide +kernel
theorem dX7_init_44 : decode cX7_init 44 = .ok (.aload_n 0, 1) := by decide +kernel
theorem dX7_init_45 : decode cX7_init 45 = .ok (.bipush 12, 2) := by decide +kernel
theorem dX7_init_47 : decode cX7_init 47 = .ok (.newarray .int, 2) := by decide +kernel
theorem dX7_init_49 : decode cX7_init 49 = .ok (.putfield 27, 3) := by decide +kernel
theorem dX7_init_52 : decode cX7_init 52 = .ok (.aload_n 0, 1) := by decide +kernel
theorem dX7_init_53 : decode cX7_init 53 = .ok (.sipush 400, 3) := by decide +kernel
theorem dX7_init_56 : decode cX7_init 56 = .ok (.newarray .int, 2) := by decide +kernel
theorem dX7_init_58 : decode cX7_init 58 = .ok (.putfield 30, 3) := by decide +kernel
theorem dX7_init_61 : decode cX7_init 61 = .ok (.return_, 1) := by decide +kernel
theorem dX7_wipe_0 : decode cX7_wipe 0 = .ok (.aload_n 0, 1) := by decide +kernel
theorem dX7_wipe_1 : decode cX7_wipe 1 = .ok (.iconst 0, 1) := by decide +kernel
theorem dX7_wipe_2 : decode cX7_wipe 2 = .ok (.putfield 33, 3) := by decide +kernel
theorem dX7_wipe_5 : decode cX7_wipe 5 = .ok (.aload_n 0, 1) := by decide +kernel
theorem dX7_wipe_6 : decode cX7_wipe 6 = .ok (.iconst 0, 1) := by decide +kernel
theorem dX7_wipe_7 : decode cX7_wipe 7 = .ok (.putfield 37, 3) := by decide +kernel
theorem dX7_wipe_10 : decode cX7_wipe 10 = .ok (.return_, 1) := by decide +kernel
theorem dX8_at_0 : decode cX8_at 0 = .ok (.iload_n 1, 1) := by decide +kernel
theorem dX8_at_1 : decode cX8_at 1 = .ok (.ifCond .lt 29, 3) := by decide +kernel
theorem dX8_at_4 : decode cX8_at 4 = .ok (.iload_n 1, 1) := by decide +kernel
theorem dX8_at_5 : decode cX8_at 5 = .ok (.aload_n 0, 1) := by decide +kernel
theorem dX8_at_6 : decode cX8_at 6 = .ok (.getfield 23, 3) := by decide +kernel
theorem dX8_at_9 : decode cX8_at 9 = .ok (.if_icmp .ge 21, 3) := by decide +kernel
theorem dX8_at_30 : decode cX8_at 30 = .ok (.aconst_null, 1) := by decide +kernel
theorem dX8_at_31 : decode cX8_at 31 = .ok (.areturn, 1) := by decide +kernel
theorem dX8_init_0 : decode cX8_init 0 = .ok (.aload_n 0, 1) := by decide +kernel
theorem dX8_init_1 : decode cX8_init 1 = .ok (.invokespecial 3, 3) := by decide +kernel
theorem dX8_init_4 : decode cX8_init 4 = .ok (.aload_n 0, 1) := by decide +kernel
theorem dX8_init_5 : decode cX8_init 5 = .ok (.iconst 0, 1) := by decide +kernel
theorem dX8_init_6 : decode cX8_init 6 = .ok (.iload_n 1, 1) := by decide +kernel
theorem dX8_init_7 : decode cX8_init 7 = .ok (.invokestatic 9, 3) := by decide +kernel
theorem dX8_init_10 : decode cX8_init 10 = .ok (.anewarray 15, 3) := by decide +kernel
theorem dX8_init_13 : decode cX8_init 13 = .ok (.putfield 17, 3) := by decide +kernel
theorem dX8_init_16 : decode cX8_init 16 = .ok (.return_, 1) := by decide +kernel
theorem dX8_isFull_0 : decode cX8_isFull 0 = .ok (.aload_n 0, 1) := by decide +kernel
theorem dX8_isFull_1 : decode cX8_isFull 1 = .ok (.getfield 23, 3) := by decide +kernel
theorem dX8_isFull_4 : decode cX8_isFull 4 = .ok (.aload_n 0, 1) := by decide +kernel
theorem dX8_isFull_5 : decode cX8_isFull 5 = .ok (.getfield 17, 3) := by decide +kernel
theorem dX8_isFull_8 : decode cX8_isFull 8 = .ok (.arraylength, 1) := by decide +kernel
theorem dX8_isFull_9 : decode cX8_isFull 9 = .ok (.if_icmp .lt 7, 3) := by decide +kernel
theorem dX8_isFull_16 : decode cX8_isFull 16 = .ok (.iconst 0, 1) := by decide +kernel
theorem dX8_isFull_17 : decode cX8_isFull 17 = .ok (.ireturn, 1) := by decide +kernel
theorem dX9_add_0 : decode cX9_add 0 = .ok (.aload_n 0, 1) := by decide +kernel
theorem dX9_add_1 : decode cX9_add 1 = .ok (.getfield 21, 3) := by decide +kernel
theorem dX9_add_4 : decode cX9_add 4 = .ok (.aload_n 0, 1) := by decide +kernel
theorem dX9_add_5 : decode cX9_add 5 = .ok (.getfield 9, 3) := by decide +kernel
theorem dX9_add_8 : decode cX9_add 8 = .ok (.arraylength, 1) := by decide +kernel
theorem dX9_add_9 : decode cX9_add 9 = .ok (.if_icmp .ge 43, 3) := by decide +kernel
theorem dX9_add_12 : decode cX9_add 12 = .ok (.aload_n 0, 1) := by decide +kernel
theorem dX9_add_13 : decode cX9_add 13 = .ok (.getfield 9, 3) := by decide +kernel
theorem dX9_add_16 : decode cX9_add 16 = .ok (.aload_n 0, 1) := by decide +kernel
theorem dX9_add_17 : decode cX9_add 17 = .ok (.getfield 21, 3) := by decide +kernel
theorem dX9_add_20 : decode cX9_add 20 = .ok (.iload_n 1, 1) := by decide +kernel
theorem dX9_add_21 : decode cX9_add 21 = .ok (.iastore, 1) := by decide +kernel
theorem dX9_add_22 : decode cX9_add 22 = .ok (.aload_n 0, 1) := by decide +kernel
theorem dX9_add_23 : decode cX9_add 23 = .ok (.getfield 15, 3) := by decide +kernel
theorem dX9_add_26 : decode cX9_add 26 = .ok (.aload_n 0, 1) := by decide +kernel
theorem dX9_add_27 : decode cX9_add 27 = .ok (.getfield 21, 3) := by decide +kernel
theorem dX9_add_30 : decode cX9_add 30 = .ok (.iload_n 2, 1) := by decide +kernel
theorem dX9_add_31 : decode cX9_add 31 = .ok (.iastore, 1) := by decide +kernel
theorem dX9_add_32 : decode cX9_add 32 = .ok (.aload_n 0, 1) := by decide +kernel
theorem dX9_add_33 : decode cX9_add 33 = .ok (.getfield 18, 3) := by decide +kernel
theorem dX9_add_36 : decode cX9_add 36 = .ok (.aload_n 0, 1) := by decide +kernel
theorem dX9_add_37 : decode cX9_add 37 = .ok (.getfield 21, 3) := by decide +kernel
theorem dX9_add_40 : decode cX9_add 40 = .ok (.iload_n 3, 1) := by decide +kernel
theorem dX9_add_41 : decode cX9_add 41 = .ok (.iastore, 1) := by decide +kernel
theorem dX9_add_42 : decode cX9_add 42 = .ok (.aload_n 0, 1) := by decide +kernel
theorem dX9_add_43 : decode cX9_add 43 = .ok (.dup, 1) := by decide +kernel
theorem dX9_add_44 : decode cX9_add 44 = .ok (.getfield 21, 3) := by decide +kernel
theorem dX9_add_47 : decode cX9_add 47 = .ok (.iconst 1, 1) := by decide +kernel
theorem dX9_add_48 : decode cX9_add 48 = .ok (.iadd, 1) := by decide +kernel
theorem dX9_add_49 : decode cX9_add 49 = .ok (.putfield 21, 3) := by decide +kernel
theorem dX9_add_52 : decode cX9_add 52 = .ok (.return_, 1) := by decide +kernel
theorem dX9_cut_0 : decode cX9_cut 0 = .ok (.aload_n 0, 1) := by decide +kernel
theorem dX9_cut_1 : decode cX9_cut 1 = .ok (.iconst 0, 1) := by decide +kernel
theorem dX9_cut_2 : decode cX9_cut 2 = .ok (.putfield 21, 3) := by decide +kernel
theorem dX9_cut_5 : decode cX9_cut 5 = .ok (.iconst 0, 1) := by decide +kernel
theorem dX9_cut_6 : decode cX9_cut 6 = .ok (.istore_n 2, 1) := by decide +kernel
theorem dX9_cut_7 : decode cX9_cut 7 = .ok (.iload_n 2, 1) := by decide +kernel
theorem dX9_cut_8 : decode cX9_cut 8 = .ok (.aload_n 1, 1) := by decide +kernel
theorem dX9_cut_9 : decode cX9_cut 9 = .ok (.getfield 25, 3) := by decide +kernel
theorem dX9_cut_12 : decode cX9_cut 12 = .ok (.if_icmp .ge 159, 3) := by decide +kernel
theorem dX9_cut_171 : decode cX9_cut 171 = .ok (.aload_n 0, 1) := by decide +kernel
theorem dX9_cut_172 : decode cX9_cut 172 = .ok (.iconst 0, 1) := by decide +kernel
theorem dX9_cut_173 : decode cX9_cut 173 = .ok (.aload_n 1, 1) := by decide +kernel
theorem dX9_cut_174 : decode cX9_cut 174 = .ok (.getfield 25, 3) := by decide +kernel
theorem dX9_cut_177 : decode cX9_cut 177 = .ok (.iconst 0, 1) := by decide +kernel
theorem dX9_cut_178 : decode cX9_cut 178 = .ok (.invokevirtual 44, 3) := by decide +kernel
theorem dX9_cut_181 : decode cX9_cut 181 = .ok (.return_, 1) := by decide +kernel
theorem dX9_init_0 : decode cX9_init 0 = .ok (.aload_n 0, 1) := by decide +kernel
theorem dX9_init_1 : decode cX9_init 1 = .ok (.invokespecial 3, 3) := by decide +kernel
theorem dX9_init_4 : decode cX9_init 4 = .ok (.aload_n 0, 1) := by decide +kernel
theorem dX9_init_5 : decode cX9_init 5 = .ok (.sipush 401, 3) := by decide +kernel
theorem dX9_init_8 : decode cX9_init 8 = .ok (.newarray .int, 2) := by decide +kernel
theorem dX9_init_10 : decode cX9_init 10 = .ok (.putfield 9, 3) := by decide +kernel
theorem dX9_init_13 : decode cX9_init 13 = .ok (.aload_n 0, 1) := by decide +kernel
theorem dX9_init_14 : decode cX9_init 14 = .ok (.sipush 401, 3) := by decide +kernel
theorem dX9_init_17 : decode cX9_init 17 = .ok (.newarray .int, 2) := by decide +kernel
theorem dX9_init_19 : decode cX9_init 19 = .ok (.putfield 15, 3) := by decide +kernel
theorem dX9_init_22 : decode cX9_init 22 = .ok (.aload_n 0, 1) := by decide +kernel
theorem dX9_init_23 : decode cX9_init 23 = .ok (.sipush 401, 3) := by decide +kernel
theorem dX9_init_26 : decode cX9_init 26 = .ok (.newarray .int, 2) := by decide +kernel
theorem dX9_init_28 : decode cX9_init 28 = .ok (.putfield 18, 3) := by decide +kernel
theorem dX9_init_31 : decode cX9_init 31 = .ok (.return_, 1) := by decide +kernel
