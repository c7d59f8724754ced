theorem dX0_append_0 : decode cX0_append 0 = .ok (.bipush 24, 2) := by decide +kernel
theorem dX0_append_2 : decode cX0_append 2 = .ok (.istore_n 2, 1) := by decide +kernel
theorem dX0_append_3 : decode cX0_append 3 = .ok (.iload_n 2, 1) := by decide +kernel
theorem dX0_append_4 : decode cX0_append 4 = .ok (.ifCond .lt 45, 3) := by decide +kernel
theorem dX0_append_7 : decode cX0_append 7 = .ok (.aload_n 0, 1) := by decide +kernel
theorem dX0_append_8 : decode cX0_append 8 = .ok (.getfield 60, 3) := by decide +kernel
theorem dX0_append_11 : decode cX0_append 11 = .ok (.sipush 400, 3) := by decide +kernel
theorem dX0_append_14 : decode cX0_append 14 = .ok (.if_icmp .ge 35, 3) := by decide +kernel
theorem dX0_append_17 : decode cX0_append 17 = .ok (.aload_n 0, 1) := by decide +kernel
theorem dX0_append_18 : decode cX0_append 18 = .ok (.getfield 40, 3) := by decide +kernel
theorem dX0_append_21 : decode cX0_append 21 = .ok (.aload_n 0, 1) := by decide +kernel
theorem dX0_append_22 : decode cX0_append 22 = .ok (.getfield 60, 3) := by decide +kernel
theorem dX0_append_25 : decode cX0_append 25 = .ok (.iload_n 1, 1) := by decide +kernel
theorem dX0_append_26 : decode cX0_append 26 = .ok (.iload_n 2, 1) := by decide +kernel
theorem dX0_append_27 : decode cX0_append 27 = .ok (.ishr, 1) := by decide +kernel
theorem dX0_append_28 : decode cX0_append 28 = .ok (.sipush 255, 3) := by decide +kernel
theorem dX0_append_31 : decode cX0_append 31 = .ok (.iand, 1) := by decide +kernel
theorem dX0_append_32 : decode cX0_append 32 = .ok (.iastore, 1) := by decide +kernel
theorem dX0_append_33 : decode cX0_append 33 = .ok (.aload_n 0, 1) := by decide +kernel
theorem dX0_append_34 : decode cX0_append 34 = .ok (.dup, 1) := by decide +kernel
theorem dX0_append_35 : decode cX0_append 35 = .ok (.getfield 60, 3) := by decide +kernel
theorem dX0_append_38 : decode cX0_append 38 = .ok (.iconst 1, 1) := by decide +kernel
theorem dX0_append_39 : decode cX0_append 39 = .ok (.iadd, 1) := by decide +kernel
theorem dX0_append_40 : decode cX0_append 40 = .ok (.putfield 60, 3) := by decide +kernel
theorem dX0_append_43 : decode cX0_append 43 = .ok (.iinc 2 (-8), 3) := by decide +kernel
theorem dX0_append_46 : decode cX0_append 46 = .ok (.goto (-43), 3) := by decide +kernel
theorem dX0_append_49 : decode cX0_append 49 = .ok (.return_, 1) := by decide +kernel
theorem dX0_byteAt_0 : decode cX0_byteAt 0 = .ok (.iload_n 1, 1) := by decide +kernel
theorem dX0_byteAt_1 : decode cX0_byteAt 1 = .ok (.ifCond .lt 27, 3) := by decide +kernel
theorem dX0_byteAt_4 : decode cX0_byteAt 4 = .ok (.iload_n 1, 1) := by decide +kernel
theorem dX0_byteAt_5 : decode cX0_byteAt 5 = .ok (.aload_n 0, 1) := by decide +kernel
theorem dX0_byteAt_6 : decode cX0_byteAt 6 = .ok (.getfield 60, 3) := by decide +kernel
theorem dX0_byteAt_9 : decode cX0_byteAt 9 = .ok (.if_icmp .ge 19, 3) := by decide +kernel
theorem dX0_byteAt_12 : decode cX0_byteAt 12 = .ok (.iload_n 1, 1) := by decide +kernel
theorem dX0_byteAt_13 : decode cX0_byteAt 13 = .ok (.sipush 400, 3) := by decide +kernel
theorem dX0_byteAt_16 : decode cX0_byteAt 16 = .ok (.if_icmp .ge 12, 3) := by decide +kernel
theorem dX0_byteAt_19 : decode cX0_byteAt 19 = .ok (.aload_n 0, 1) := by decide +kernel
theorem dX0_byteAt_20 : decode cX0_byteAt 20 = .ok (.getfield 40, 3) := by decide +kernel
theorem dX0_byteAt_23 : decode cX0_byteAt 23 = .ok (.iload_n 1, 1) := by decide +kernel
theorem dX0_byteAt_24 : decode cX0_byteAt 24 = .ok (.iaload, 1) := by decide +kernel
theorem dX0_byteAt_25 : decode cX0_byteAt 25 = .ok (.goto 4, 3) := by decide +kernel
theorem dX0_byteAt_28 : decode cX0_byteAt 28 = .ok (.iconst (-1), 1) := by decide +kernel
theorem dX0_byteAt_29 : decode cX0_byteAt 29 = .ok (.ireturn, 1) := by decide +kernel
theorem dX0_hasLine_0 : decode cX0_hasLine 0 = .ok (.iconst 0, 1) := by decide +kernel
theorem dX0_hasLine_1 : decode cX0_hasLine 1 = .ok (.istore_n 3, 1) := by decide +kernel
theorem dX0_hasLine_2 : decode cX0_hasLine 2 = .ok (.iconst 0, 1) := by decide +kernel
theorem dX0_hasLine_3 : decode cX0_hasLine 3 = .ok (.istore 4, 2) := by decide +kernel
theorem dX0_hasLine_5 : decode cX0_hasLine 5 = .ok (.iload 4, 2) := by decide +kernel
theorem dX0_hasLine_7 : decode cX0_hasLine 7 = .ok (.aload_n 0, 1) := by decide +kernel
theorem dX0_hasLine_8 : decode cX0_hasLine 8 = .ok (.getfield 31, 3) := by decide +kernel
theorem dX0_hasLine_11 : decode cX0_hasLine 11 = .ok (.getfield 63, 3) := by decide +kernel
theorem dX0_hasLine_14 : decode cX0_hasLine 14 = .ok (.if_icmp .ge 45, 3) := by decide +kernel
theorem dX0_hasLine_17 : decode cX0_hasLine 17 = .ok (.iload_n 3, 1) := by decide +kernel
theorem dX0_hasLine_18 : decode cX0_hasLine 18 = .ok (.aload_n 0, 1) := by decide +kernel
theorem dX0_hasLine_19 : decode cX0_hasLine 19 = .ok (.getfield 31, 3) := by decide +kernel
theorem dX0_hasLine_22 : decode cX0_hasLine 22 = .ok (.iload 4, 2) := by decide +kernel
theorem dX0_hasLine_24 : decode cX0_hasLine 24 = .ok (.iconst 0, 1) := by decide +kernel
theorem dX0_hasLine_25 : decode cX0_hasLine 25 = .ok (.invokevirtual 66, 3) := by decide +kernel
theorem dX0_hasLine_28 : decode cX0_hasLine 28 = .ok (.iload_n 1, 1) := by decide +kernel
theorem dX0_hasLine_29 : decode cX0_hasLine 29 = .ok (.if_icmp .ne 21, 3) := by decide +kernel
theorem dX0_hasLine_32 : decode cX0_hasLine 32 = .ok (.aload_n 0, 1) := by decide +kernel
theorem dX0_hasLine_33 : decode cX0_hasLine 33 = .ok (.getfield 31, 3) := by decide +kernel
theorem dX0_hasLine_36 : decode cX0_hasLine 36 = .ok (.iload 4, 2) := by decide +kernel
theorem dX0_hasLine_38 : decode cX0_hasLine 38 = .ok (.iconst 1, 1) := by decide +kernel
theorem dX0_hasLine_39 : decode cX0_hasLine 39 = .ok (.invokevirtual 66, 3) := by decide +kernel
theorem dX0_hasLine_42 : decode cX0_hasLine 42 = .ok (.iload_n 2, 1) := by decide +kernel
theorem dX0_hasLine_43 : decode cX0_hasLine 43 = .ok (.if_icmp .ne 7, 3) := by decide +kernel
theorem dX0_hasLine_46 : decode cX0_hasLine 46 = .ok (.iconst 1, 1) := by decide +kernel
theorem dX0_hasLine_47 : decode cX0_hasLine 47 = .ok (.goto 4, 3) := by decide +kernel
theorem dX0_hasLine_50 : decode cX0_hasLine 50 = .ok (.iconst 0, 1) := by decide +kernel
theorem dX0_hasLine_51 : decode cX0_hasLine 51 = .ok (.ior, 1) := by decide +kernel
theorem dX0_hasLine_52 : decode cX0_hasLine 52 = .ok (.istore_n 3, 1) := by decide +kernel
theorem dX0_hasLine_53 : decode cX0_hasLine 53 = .ok (.iinc 4 1, 3) := by decide +kernel
theorem dX0_hasLine_56 : decode cX0_hasLine 56 = .ok (.goto (-51), 3) := by decide +kernel
theorem dX0_hasLine_59 : decode cX0_hasLine 59 = .ok (.iload_n 3, 1) := by decide +kernel
theorem dX0_hasLine_60 : decode cX0_hasLine 60 = .ok (.ireturn, 1) := by decide +kernel
theorem dX0_readRow_0 : decode cX0_readRow 0 = .ok (.aload_n 0, 1) := by decide +kernel
theorem dX0_readRow_1 : decode cX0_readRow 1 = .ok (.getfield 18, 3) := by decide +kernel
theorem dX0_readRow_4 : decode cX0_readRow 4 = .ok (.iload_n 1, 1) := by decide +kernel
theorem dX0_readRow_5 : decode cX0_readRow 5 = .ok (.invokevirtual 70, 3) := by decide +kernel
theorem dX0_readRow_8 : decode cX0_readRow 8 = .ok (.ifCond .ne 4, 3) := by decide +kernel
theorem dX0_readRow_11 : decode cX0_readRow 11 = .ok (.return_, 1) := by decide +kernel
theorem dX0_readRow_12 : decode cX0_readRow 12 = .ok (.iconst 0, 1) := by decide +kernel
theorem dX0_readRow_13 : decode cX0_readRow 13 = .ok (.istore 5, 2) := by decide +kernel
theorem dX0_readRow_15 : decode cX0_readRow 15 = .ok (.iload 5, 2) := by decide +kernel
theorem dX0_readRow_17 : decode cX0_readRow 17 = .ok (.sipush 300, 3) := by decide +kernel
theorem dX0_readRow_20 : decode cX0_readRow 20 = .ok (.if_icmp .ge 46, 3) := by decide +kernel
theorem dX0_readRow_23 : decode cX0_readRow 23 = .ok (.aload_n 0, 1) := by decide +kernel
theorem dX0_readRow_24 : decode cX0_readRow 24 = .ok (.getfield 18, 3) := by decide +kernel
theorem dX0_readRow_27 : decode cX0_readRow 27 = .ok (.getfield 74, 3) := by decide +kernel
theorem dX0_readRow_30 : decode cX0_readRow 30 = .ok (.iload_n 1, 1) := by decide +kernel
theorem dX0_readRow_31 : decode cX0_readRow 31 = .ok (.aaload, 1) := by decide +kernel
theorem dX0_readRow_32 : decode cX0_readRow 32 = .ok (.iload 5, 2) := by decide +kernel
theorem dX0_readRow_34 : decode cX0_readRow 34 = .ok (.iaload, 1) := by decide +kernel
theorem dX0_readRow_35 : decode cX0_readRow 35 = .ok (.istore 6, 2) := by decide +kernel
theorem dX0_readRow_37 : decode cX0_readRow 37 = .ok (.aload_n 3, 1) := by decide +kernel
theorem dX0_readRow_38 : decode cX0_readRow 38 = .ok (.iload 5, 2) := by decide +kernel
theorem dX0_readRow_40 : decode cX0_readRow 40 = .ok (.iload 6, 2) := by decide +kernel
theorem dX0_readRow_42 : decode cX0_readRow 42 = .ok (.ldc 78, 2) := by decide +kernel
theorem dX0_readRow_44 : decode cX0_readRow 44 = .ok (.if_icmp .eq 7, 3) := by decide +kernel
theorem dX0_readRow_47 : decode cX0_readRow 47 = .ok (.iconst 1, 1) := by decide +kernel
theorem dX0_readRow_48 : decode cX0_readRow 48 = .ok (.goto 4, 3) := by decide +kernel
theorem dX0_readRow_51 : decode cX0_readRow 51 = .ok (.iconst 0, 1) := by decide +kernel
theorem dX0_readRow_52 : decode cX0_readRow 52 = .ok (.bastore, 1) := by decide +kernel
theorem dX0_readRow_53 : decode cX0_readRow 53 = .ok (.aload 4, 2) := by decide +kernel
theorem dX0_readRow_55 : decode cX0_readRow 55 = .ok (.iload 5, 2) := by decide +kernel
theorem dX0_readRow_57 : decode cX0_readRow 57 = .ok (.iload 6, 2) := by decide +kernel
theorem dX0_readRow_59 : decode cX0_readRow 59 = .ok (.iastore, 1) := by decide +kernel
theorem dX0_readRow_60 : decode cX0_readRow 60 = .ok (.iinc 5 1, 3) := by decide +kernel
theorem dX0_readRow_63 : decode cX0_readRow 63 = .ok (.goto (-48), 3) := by decide +kernel
theorem dX0_readRow_66 : decode cX0_readRow 66 = .ok (.iconst 0, 1) := by decide +kernel
theorem dX0_readRow_67 : decode cX0_readRow 67 = .ok (.istore 5, 2) := by decide +kernel
theorem dX0_readRow_69 : decode cX0_readRow 69 = .ok (.iload 5, 2) := by decide +kernel
theorem dX0_readRow_71 : decode cX0_readRow 71 = .ok (.aload_n 0, 1) := by decide +kernel
theorem dX0_readRow_72 : decode cX0_readRow 72 = .ok (.getfield 27, 3) := by decide +kernel
theorem dX0_readRow_75 : decode cX0_readRow 75 = .ok (.getfield 63, 3) := by decide +kernel
theorem dX0_readRow_78 : decode cX0_readRow 78 = .ok (.if_icmp .ge 45, 3) := by decide +kernel
theorem dX0_readRow_81 : decode cX0_readRow 81 = .ok (.iload 5, 2) := by decide +kernel
theorem dX0_readRow_83 : decode cX0_readRow 83 = .ok (.iload_n 2, 1) := by decide +kernel
theorem dX0_readRow_84 : decode cX0_readRow 84 = .ok (.if_icmp .eq 33, 3) := by decide +kernel
theorem dX0_readRow_87 : decode cX0_readRow 87 = .ok (.aload_n 0, 1) := by decide +kernel
theorem dX0_readRow_88 : decode cX0_readRow 88 = .ok (.getfield 27, 3) := by decide +kernel
theorem dX0_readRow_91 : decode cX0_readRow 91 = .ok (.iload 5, 2) := by decide +kernel
theorem dX0_readRow_93 : decode cX0_readRow 93 = .ok (.iconst 0, 1) := by decide +kernel
theorem dX0_readRow_94 : decode cX0_readRow 94 = .ok (.invokevirtual 66, 3) := by decide +kernel
theorem dX0_readRow_97 : decode cX0_readRow 97 = .ok (.aload_n 0, 1) := by decide +kernel
theorem dX0_readRow_98 : decode cX0_readRow 98 = .ok (.getfield 18, 3) := by decide +kernel
theorem dX0_readRow_101 : decode cX0_readRow 101 = .ok (.getfield 79, 3) := by decide +kernel
theorem dX0_readRow_104 : decode cX0_readRow 104 = .ok (.iload_n 1, 1) := by decide +kernel
theorem dX0_readRow_105 : decode cX0_readRow 105 = .ok (.iaload, 1) := by decide +kernel
theorem dX0_readRow_106 : decode cX0_readRow 106 = .ok (.if_icmp .ne 11, 3) := by decide +kernel
theorem dX0_readRow_109 : decode cX0_readRow 109 = .ok (.aload_n 0, 1) := by decide +kernel
theorem dX0_readRow_110 : decode cX0_readRow 110 = .ok (.iload 5, 2) := by decide +kernel
theorem dX0_readRow_112 : decode cX0_readRow 112 = .ok (.aload 4, 2) := by decide +kernel
theorem dX0_readRow_114 : decode cX0_readRow 114 = .ok (.invokevirtual 82, 3) := by decide +kernel
theorem dX0_readRow_117 : decode cX0_readRow 117 = .ok (.iinc 5 1, 3) := by decide +kernel
theorem dX0_readRow_120 : decode cX0_readRow 120 = .ok (.goto (-51), 3) := by decide +kernel
theorem dX0_readRow_123 : decode cX0_readRow 123 = .ok (.return_, 1) := by decide +kernel
theorem dX0_slipped_0 : decode cX0_slipped 0 = .ok (.iconst 0, 1) := by decide +kernel
theorem dX0_slipped_1 : decode cX0_slipped 1 = .ok (.istore_n 3, 1) := by decide +kernel
theorem dX0_slipped_2 : decode cX0_slipped 2 = .ok (.iconst 0, 1) := by decide +kernel
theorem dX0_slipped_3 : decode cX0_slipped 3 = .ok (.istore 4, 2) := by decide +kernel
theorem dX0_slipped_5 : decode cX0_slipped 5 = .ok (.iload 4, 2) := by decide +kernel
theorem dX0_slipped_7 : decode cX0_slipped 7 = .ok (.aload_n 0, 1) := by decide +kernel
theorem dX0_slipped_8 : decode cX0_slipped 8 = .ok (.getfield 27, 3) := by decide +kernel
theorem dX0_slipped_11 : decode cX0_slipped 11 = .ok (.getfield 63, 3) := by decide +kernel
theorem dX0_slipped_14 : decode cX0_slipped 14 = .ok (.if_icmp .ge 80, 3) := by decide +kernel
theorem dX0_slipped_17 : decode cX0_slipped 17 = .ok (.aload_n 0, 1) := by decide +kernel
theorem dX0_slipped_18 : decode cX0_slipped 18 = .ok (.getfield 27, 3) := by decide +kernel
theorem dX0_slipped_21 : decode cX0_slipped 21 = .ok (.iload 4, 2) := by decide +kernel
theorem dX0_slipped_23 : decode cX0_slipped 23 = .ok (.iconst 1, 1) := by decide +kernel
theorem dX0_slipped_24 : decode cX0_slipped 24 = .ok (.invokevirtual 66, 3) := by decide +kernel
theorem dX0_slipped_27 : decode cX0_slipped 27 = .ok (.iload_n 2, 1) := by decide +kernel
theorem dX0_slipped_28 : decode cX0_slipped 28 = .ok (.if_icmp .gt 21, 3) := by decide +kernel
theorem dX0_slipped_31 : decode cX0_slipped 31 = .ok (.iload_n 2, 1) := by decide +kernel
theorem dX0_slipped_32 : decode cX0_slipped 32 = .ok (.aload_n 0, 1) := by decide +kernel
theorem dX0_slipped_33 : decode cX0_slipped 33 = .ok (.getfield 27, 3) := by decide +kernel
theorem dX0_slipped_36 : decode cX0_slipped 36 = .ok (.iload 4, 2) := by decide +kernel
theorem dX0_slipped_38 : decode cX0_slipped 38 = .ok (.iconst 2, 1) := by decide +kernel
theorem dX0_slipped_39 : decode cX0_slipped 39 = .ok (.invokevirtual 66, 3) := by decide +kernel
theorem dX0_slipped_42 : decode cX0_slipped 42 = .ok (.if_icmp .gt 7, 3) := by decide +kernel
theorem dX0_slipped_45 : decode cX0_slipped 45 = .ok (.iconst 1, 1) := by decide +kernel
theorem dX0_slipped_46 : decode cX0_slipped 46 = .ok (.goto 4, 3) := by decide +kernel
theorem dX0_slipped_49 : decode cX0_slipped 49 = .ok (.iconst 0, 1) := by decide +kernel
theorem dX0_slipped_50 : decode cX0_slipped 50 = .ok (.istore 5, 2) := by decide +kernel
theorem dX0_slipped_52 : decode cX0_slipped 52 = .ok (.iload_n 3, 1) := by decide +kernel
theorem dX0_slipped_53 : decode cX0_slipped 53 = .ok (.iload 5, 2) := by decide +kernel
theorem dX0_slipped_55 : decode cX0_slipped 55 = .ok (.ifCond .eq 30, 3) := by decide +kernel
theorem dX0_slipped_58 : decode cX0_slipped 58 = .ok (.aload_n 0, 1) := by decide +kernel
theorem dX0_slipped_59 : decode cX0_slipped 59 = .ok (.getfield 27, 3) := by decide +kernel
theorem dX0_slipped_62 : decode cX0_slipped 62 = .ok (.iload 4, 2) := by decide +kernel
theorem dX0_slipped_64 : decode cX0_slipped 64 = .ok (.iconst 0, 1) := by decide +kernel
theorem dX0_slipped_65 : decode cX0_slipped 65 = .ok (.invokevirtual 66, 3) := by decide +kernel
theorem dX0_slipped_68 : decode cX0_slipped 68 = .ok (.iload_n 1, 1) := by decide +kernel
theorem dX0_slipped_69 : decode cX0_slipped 69 = .ok (.if_icmp .ne 16, 3) := by decide +kernel
theorem dX0_slipped_72 : decode cX0_slipped 72 = .ok (.aload_n 0, 1) := by decide +kernel
theorem dX0_slipped_73 : decode cX0_slipped 73 = .ok (.getfield 27, 3) := by decide +kernel
theorem dX0_slipped_76 : decode cX0_slipped 76 = .ok (.iload 4, 2) := by decide +kernel
theorem dX0_slipped_78 : decode cX0_slipped 78 = .ok (.iconst 3, 1) := by decide +kernel
theorem dX0_slipped_79 : decode cX0_slipped 79 = .ok (.invokevirtual 66, 3) := by decide +kernel
theorem dX0_slipped_82 : decode cX0_slipped 82 = .ok (.goto 4, 3) := by decide +kernel
theorem dX0_slipped_85 : decode cX0_slipped 85 = .ok (.iconst 0, 1) := by decide +kernel
theorem dX0_slipped_86 : decode cX0_slipped 86 = .ok (.iadd, 1) := by decide +kernel
theorem dX0_slipped_87 : decode cX0_slipped 87 = .ok (.istore_n 3, 1) := by decide +kernel
theorem dX0_slipped_88 : decode cX0_slipped 88 = .ok (.iinc 4 1, 3) := by decide +kernel
theorem dX0_slipped_91 : decode cX0_slipped 91 = .ok (.goto (-86), 3) := by decide +kernel
theorem dX0_slipped_94 : decode cX0_slipped 94 = .ok (.iload_n 3, 1) := by decide +kernel
theorem dX0_slipped_95 : decode cX0_slipped 95 = .ok (.ireturn, 1) := by decide +kernel
theorem dX0_takeOff_0 : decode cX0_takeOff 0 = .ok (.aload_n 0, 1) := by decide +kernel
theorem dX0_takeOff_1 : decode cX0_takeOff 1 = .ok (.getfield 27, 3) := by decide +kernel
theorem dX0_takeOff_4 : decode cX0_takeOff 4 = .ok (.iload_n 1, 1) := by decide +kernel
theorem dX0_takeOff_5 : decode cX0_takeOff 5 = .ok (.iconst 3, 1) := by decide +kernel
theorem dX0_takeOff_6 : decode cX0_takeOff 6 = .ok (.invokevirtual 66, 3) := by decide +kernel
theorem dX0_takeOff_9 : decode cX0_takeOff 9 = .ok (.istore_n 3, 1) := by decide +kernel
theorem dX0_takeOff_10 : decode cX0_takeOff 10 = .ok (.sipush 299, 3) := by decide +kernel
theorem dX0_takeOff_13 : decode cX0_takeOff 13 = .ok (.aload_n 0, 1) := by decide +kernel
theorem dX0_takeOff_14 : decode cX0_takeOff 14 = .ok (.getfield 27, 3) := by decide +kernel
theorem dX0_takeOff_17 : decode cX0_takeOff 17 = .ok (.iload_n 1, 1) := by decide +kernel
theorem dX0_takeOff_18 : decode cX0_takeOff 18 = .ok (.iconst 2, 1) := by decide +kernel
theorem dX0_takeOff_19 : decode cX0_takeOff 19 = .ok (.invokevirtual 66, 3) := by decide +kernel
theorem dX0_takeOff_22 : decode cX0_takeOff 22 = .ok (.invokestatic 86, 3) := by decide +kernel
theorem dX0_takeOff_25 : decode cX0_takeOff 25 = .ok (.istore 4, 2) := by decide +kernel
theorem dX0_takeOff_27 : decode cX0_takeOff 27 = .ok (.iconst 0, 1) := by decide +kernel
theorem dX0_takeOff_28 : decode cX0_takeOff 28 = .ok (.aload_n 0, 1) := by decide +kernel
theorem dX0_takeOff_29 : decode cX0_takeOff 29 = .ok (.getfield 27, 3) := by decide +kernel
theorem dX0_takeOff_32 : decode cX0_takeOff 32 = .ok (.iload_n 1, 1) := by decide +kernel
theorem dX0_takeOff_33 : decode cX0_takeOff 33 = .ok (.iconst 1, 1) := by decide +kernel
theorem dX0_takeOff_34 : decode cX0_takeOff 34 = .ok (.invokevirtual 66, 3) := by decide +kernel
theorem dX0_takeOff_37 : decode cX0_takeOff 37 = .ok (.invokestatic 91, 3) := by decide +kernel
theorem dX0_takeOff_40 : decode cX0_takeOff 40 = .ok (.istore 5, 2) := by decide +kernel
theorem dX0_takeOff_42 : decode cX0_takeOff 42 = .ok (.iload 5, 2) := by decide +kernel
theorem dX0_takeOff_44 : decode cX0_takeOff 44 = .ok (.iload 4, 2) := by decide +kernel
theorem dX0_takeOff_46 : decode cX0_takeOff 46 = .ok (.if_icmp .gt 17, 3) := by decide +kernel
theorem dX0_takeOff_49 : decode cX0_takeOff 49 = .ok (.aload_n 2, 1) := by decide +kernel
theorem dX0_takeOff_50 : decode cX0_takeOff 50 = .ok (.iload 5, 2) := by decide +kernel
theorem dX0_takeOff_52 : decode cX0_takeOff 52 = .ok (.dup2, 1) := by decide +kernel
theorem dX0_takeOff_53 : decode cX0_takeOff 53 = .ok (.iaload, 1) := by decide +kernel
theorem dX0_takeOff_54 : decode cX0_takeOff 54 = .ok (.iload_n 3, 1) := by decide +kernel
theorem dX0_takeOff_55 : decode cX0_takeOff 55 = .ok (.isub, 1) := by decide +kernel
theorem dX0_takeOff_56 : decode cX0_takeOff 56 = .ok (.iastore, 1) := by decide +kernel
theorem dX0_takeOff_57 : decode cX0_takeOff 57 = .ok (.iinc 5 1, 3) := by decide +kernel
theorem dX0_takeOff_60 : decode cX0_takeOff 60 = .ok (.goto (-18), 3) := by decide +kernel
theorem dX0_takeOff_63 : decode cX0_takeOff 63 = .ok (.return_, 1) := by decide +kernel
theorem dX11_isBar_0 : decode cX11_isBar 0 = .ok (.iload_n 0, 1) := by decide +kernel
theorem dX11_isBar_1 : decode cX11_isBar 1 = .ok (.ldc_w 494, 3) := by decide +kernel
theorem dX11_isBar_4 : decode cX11_isBar 4 = .ok (.ldc_w 495, 3) := by decide +kernel
theorem dX11_isBar_7 : decode cX11_isBar 7 = .ok (.invokestatic 105, 3) := by decide +kernel
theorem dX11_isBar_10 : decode cX11_isBar 10 = .ok (.ireturn, 1) := by decide +kernel
theorem dX11_isColour_0 : decode cX11_isColour 0 = .ok (.iload_n 0, 1) := by decide +kernel
theorem dX11_isColour_1 : decode cX11_isColour 1 = .ok (.iconst 0, 1) := by decide +kernel
theorem dX11_isColour_2 : decode cX11_isColour 2 = .ok (.sipush 299, 3) := by decide +kernel
theorem dX11_isColour_5 : decode cX11_isColour 5 = .ok (.invokestatic 105, 3) := by decide +kernel
theorem dX11_isColour_8 : decode cX11_isColour 8 = .ok (.ireturn, 1) := by decide +kernel
theorem dX11_isGlass_0 : decode cX11_isGlass 0 = .ok (.iload_n 0, 1) := by decide +kernel
theorem dX11_isGlass_1 : decode cX11_isGlass 1 = .ok (.iconst 0, 1) := by decide +kernel
theorem dX11_isGlass_2 : decode cX11_isGlass 2 = .ok (.iconst 3, 1) := by decide +kernel
theorem dX11_isGlass_3 : decode cX11_isGlass 3 = .ok (.invokestatic 105, 3) := by decide +kernel
theorem dX11_isGlass_6 : decode cX11_isGlass 6 = .ok (.ireturn, 1) := by decide +kernel
theorem dX11_isIn_0 : decode cX11_isIn 0 = .ok (.iload_n 0, 1) := by decide +kernel
theorem dX11_isIn_1 : decode cX11_isIn 1 = .ok (.iload_n 1, 1) := by decide +kernel
theorem dX11_isIn_2 : decode cX11_isIn 2 = .ok (.if_icmp .lt 12, 3) := by decide +kernel
theorem dX11_isIn_5 : decode cX11_isIn 5 = .ok (.iload_n 0, 1) := by decide +kernel
theorem dX11_isIn_6 : decode cX11_isIn 6 = .ok (.iload_n 2, 1) := by decide +kernel
theorem dX11_isIn_7 : decode cX11_isIn 7 = .ok (.if_icmp .gt 7, 3) := by decide +kernel
theorem dX11_isIn_10 : decode cX11_isIn 10 = .ok (.iconst 1, 1) := by decide +kernel
theorem dX11_isIn_11 : decode cX11_isIn 11 = .ok (.goto 4, 3) := by decide +kernel
theorem dX11_isIn_14 : decode cX11_isIn 14 = .ok (.iconst 0, 1) := by decide +kernel
theorem dX11_isIn_15 : decode cX11_isIn 15 = .ok (.ireturn, 1) := by decide +kernel
theorem dX11_isNeed_0 : decode cX11_isNeed 0 = .ok (.iload_n 0, 1) := by decide +kernel
theorem dX11_isNeed_1 : decode cX11_isNeed 1 = .ok (.iconst 0, 1) := by decide +kernel
theorem dX11_isNeed_2 : decode cX11_isNeed 2 = .ok (.ldc_w 496, 3) := by decide +kernel
theorem dX11_isNeed_5 : decode cX11_isNeed 5 = .ok (.invokestatic 105, 3) := by decide +kernel
theorem dX11_isNeed_8 : decode cX11_isNeed 8 = .ok (.ireturn, 1) := by decide +kernel
theorem dX11_isSpan_0 : decode cX11_isSpan 0 = .ok (.iload_n 0, 1) := by decide +kernel
theorem dX11_isSpan_1 : decode cX11_isSpan 1 = .ok (.invokestatic 125, 3) := by decide +kernel
theorem dX11_isSpan_4 : decode cX11_isSpan 4 = .ok (.ifCond .eq 19, 3) := by decide +kernel
theorem dX11_isSpan_7 : decode cX11_isSpan 7 = .ok (.iload_n 1, 1) := by decide +kernel
theorem dX11_isSpan_8 : decode cX11_isSpan 8 = .ok (.invokestatic 125, 3) := by decide +kernel
theorem dX11_isSpan_11 : decode cX11_isSpan 11 = .ok (.ifCond .eq 12, 3) := by decide +kernel
theorem dX11_isSpan_14 : decode cX11_isSpan 14 = .ok (.iload_n 0, 1) := by decide +kernel
theorem dX11_isSpan_15 : decode cX11_isSpan 15 = .ok (.iload_n 1, 1) := by decide +kernel
theorem dX11_isSpan_16 : decode cX11_isSpan 16 = .ok (.if_icmp .gt 7, 3) := by decide +kernel
theorem dX11_isSpan_19 : decode cX11_isSpan 19 = .ok (.iconst 1, 1) := by decide +kernel
theorem dX11_isSpan_20 : decode cX11_isSpan 20 = .ok (.goto 4, 3) := by decide +kernel
theorem dX11_isSpan_23 : decode cX11_isSpan 23 = .ok (.iconst 0, 1) := by decide +kernel
theorem dX11_isSpan_24 : decode cX11_isSpan 24 = .ok (.ireturn, 1) := by decide +kernel
theorem dX11_isStuff_0 : decode cX11_isStuff 0 = .ok (.iload_n 0, 1) := by decide +kernel
theorem dX11_isStuff_1 : decode cX11_isStuff 1 = .ok (.iconst 0, 1) := by decide +kernel
theorem dX11_isStuff_2 : decode cX11_isStuff 2 = .ok (.bipush 11, 2) := by decide +kernel
theorem dX11_isStuff_4 : decode cX11_isStuff 4 = .ok (.invokestatic 105, 3) := by decide +kernel
theorem dX11_isStuff_7 : decode cX11_isStuff 7 = .ok (.ireturn, 1) := by decide +kernel
theorem dX11_isWeek_0 : decode cX11_isWeek 0 = .ok (.iload_n 0, 1) := by decide +kernel
theorem dX11_isWeek_1 : decode cX11_isWeek 1 = .ok (.iconst 0, 1) := by decide +kernel
theorem dX11_isWeek_2 : decode cX11_isWeek 2 = .ok (.sipush 399, 3) := by decide +kernel
theorem dX11_isWeek_5 : decode cX11_isWeek 5 = .ok (.invokestatic 105, 3) := by decide +kernel
theorem dX11_isWeek_8 : decode cX11_isWeek 8 = .ok (.ireturn, 1) := by decide +kernel
theorem dX4_has_0 : decode cX4_has 0 = .ok (.iload_n 1, 1) := by decide +kernel
theorem dX4_has_1 : decode cX4_has 1 = .ok (.ifCond .lt 15, 3) := by decide +kernel
theorem dX4_has_4 : decode cX4_has 4 = .ok (.iload_n 1, 1) := by decide +kernel
theorem dX4_has_5 : decode cX4_has 5 = .ok (.aload_n 0, 1) := by decide +kernel
theorem dX4_has_6 : decode cX4_has 6 = .ok (.getfield 26, 3) := by decide +kernel
theorem dX4_has_9 : decode cX4_has 9 = .ok (.if_icmp .ge 7, 3) := by decide +kernel
theorem dX4_has_12 : decode cX4_has 12 = .ok (.iconst 1, 1) := by decide +kernel
theorem dX4_has_13 : decode cX4_has 13 = .ok (.goto 4, 3) := by decide +kernel
theorem dX4_has_16 : decode cX4_has 16 = .ok (.iconst 0, 1) := by decide +kernel
theorem dX4_has_17 : decode cX4_has 17 = .ok (.ireturn, 1) := by decide +kernel
theorem dX4_put_0 : decode cX4_put 0 = .ok (.aload_n 0, 1) := by decide +kernel
theorem dX4_put_1 : decode cX4_put 1 = .ok (.iload_n 1, 1) := by decide +kernel
theorem dX4_put_2 : decode cX4_put 2 = .ok (.invokevirtual 37, 3) := by decide +kernel
theorem dX4_put_5 : decode cX4_put 5 = .ok (.ifCond .eq 10, 3) := by decide +kernel
theorem dX4_put_8 : decode cX4_put 8 = .ok (.iload_n 2, 1) := by decide +kernel
theorem dX4_put_9 : decode cX4_put 9 = .ok (.invokestatic 41, 3) := by decide +kernel
theorem dX4_put_12 : decode cX4_put 12 = .ok (.ifCond .ne 6, 3) := by decide +kernel
theorem dX4_put_15 : decode cX4_put 15 = .ok (.ldc 30, 2) := by decide +kernel
theorem dX4_put_17 : decode cX4_put 17 = .ok (.ireturn, 1) := by decide +kernel
theorem dX4_put_18 : decode cX4_put 18 = .ok (.aload_n 0, 1) := by decide +kernel
theorem dX4_put_19 : decode cX4_put 19 = .ok (.getfield 23, 3) := by decide +kernel
theorem dX4_put_22 : decode cX4_put 22 = .ok (.iload_n 1, 1) := by decide +kernel
theorem dX4_put_23 : decode cX4_put 23 = .ok (.aaload, 1) := by decide +kernel
theorem dX4_put_24 : decode cX4_put 24 = .ok (.iload_n 2, 1) := by decide +kernel
theorem dX4_put_25 : decode cX4_put 25 = .ok (.iaload, 1) := by decide +kernel
theorem dX4_put_26 : decode cX4_put 26 = .ok (.istore 4, 2) := by decide +kernel
theorem dX4_put_28 : decode cX4_put 28 = .ok (.aload_n 0, 1) := by decide +kernel
theorem dX4_put_29 : decode cX4_put 29 = .ok (.getfield 23, 3) := by decide +kernel
theorem dX4_put_32 : decode cX4_put 32 = .ok (.iload_n 1, 1) := by decide +kernel
theorem dX4_put_33 : decode cX4_put 33 = .ok (.aaload, 1) := by decide +kernel
theorem dX4_put_34 : decode cX4_put 34 = .ok (.iload_n 2, 1) := by decide +kernel
theorem dX4_put_35 : decode cX4_put 35 = .ok (.iload_n 3, 1) := by decide +kernel
theorem dX4_put_36 : decode cX4_put 36 = .ok (.iastore, 1) := by decide +kernel
theorem dX4_put_37 : decode cX4_put 37 = .ok (.aload_n 0, 1) := by decide +kernel
theorem dX4_put_38 : decode cX4_put 38 = .ok (.dup, 1) := by decide +kernel
theorem dX4_put_39 : decode cX4_put 39 = .ok (.getfield 44, 3) := by decide +kernel
theorem dX4_put_42 : decode cX4_put 42 = .ok (.iload_n 3, 1) := by decide +kernel
theorem dX4_put_43 : decode cX4_put 43 = .ok (.ldc 30, 2) := by decide +kernel
theorem dX4_put_45 : decode cX4_put 45 = .ok (.if_icmp .ne 7, 3) := by decide +kernel
theorem dX4_put_48 : decode cX4_put 48 = .ok (.iconst 0, 1) := by decide +kernel
theorem dX4_put_49 : decode cX4_put 49 = .ok (.goto 4, 3) := by decide +kernel
theorem dX4_put_52 : decode cX4_put 52 = .ok (.iconst 1, 1) := by decide +kernel
theorem dX4_put_53 : decode cX4_put 53 = .ok (.iload 4, 2) := by decide +kernel
theorem dX4_put_55 : decode cX4_put 55 = .ok (.ldc 30, 2) := by decide +kernel
theorem dX4_put_57 : decode cX4_put 57 = .ok (.if_icmp .ne 7, 3) := by decide +kernel
theorem dX4_put_60 : decode cX4_put 60 = .ok (.iconst 0, 1) := by decide +kernel
theorem dX4_put_61 : decode cX4_put 61 = .ok (.goto 4, 3) := by decide +kernel
theorem dX4_put_64 : decode cX4_put 64 = .ok (.iconst 1, 1) := by decide +kernel
theorem dX4_put_65 : decode cX4_put 65 = .ok (.isub, 1) := by decide +kernel
theorem dX4_put_66 : decode cX4_put 66 = .ok (.iadd, 1) := by decide +kernel
theorem dX4_put_67 : decode cX4_put 67 = .ok (.putfield 44, 3) := by decide +kernel
theorem dX4_put_70 : decode cX4_put 70 = .ok (.iload 4, 2) := by decide +kernel
theorem dX4_put_72 : decode cX4_put 72 = .ok (.ireturn, 1) := by decide +kernel
theorem dX6_add_0 : decode cX6_add 0 = .ok (.aload_n 0, 1) := by decide +kernel
theorem dX6_add_1 : decode cX6_add 1 = .ok (.getfield 25, 3) := by decide +kernel
theorem dX6_add_4 : decode cX6_add 4 = .ok (.aload_n 0, 1) := by decide +kernel
theorem dX6_add_5 : decode cX6_add 5 = .ok (.getfield 15, 3) := by decide +kernel
theorem dX6_add_8 : decode cX6_add 8 = .ok (.if_icmp .lt 5, 3) := by decide +kernel
theorem dX6_add_11 : decode cX6_add 11 = .ok (.iconst (-1), 1) := by decide +kernel
theorem dX6_add_12 : decode cX6_add 12 = .ok (.ireturn, 1) := by decide +kernel
theorem dX6_add_13 : decode cX6_add 13 = .ok (.aload_n 0, 1) := by decide +kernel
theorem dX6_add_14 : decode cX6_add 14 = .ok (.getfield 25, 3) := by decide +kernel
theorem dX6_add_17 : decode cX6_add 17 = .ok (.istore 5, 2) := by decide +kernel
theorem dX6_add_19 : decode cX6_add 19 = .ok (.aload_n 0, 1) := by decide +kernel
theorem dX6_add_20 : decode cX6_add 20 = .ok (.dup, 1) := by decide +kernel
theorem dX6_add_21 : decode cX6_add 21 = .ok (.getfield 25, 3) := by decide +kernel
theorem dX6_add_24 : decode cX6_add 24 = .ok (.iconst 1, 1) := by decide +kernel
theorem dX6_add_25 : decode cX6_add 25 = .ok (.iadd, 1) := by decide +kernel
theorem dX6_add_26 : decode cX6_add 26 = .ok (.putfield 25, 3) := by decide +kernel
theorem dX6_add_29 : decode cX6_add 29 = .ok (.aload_n 0, 1) := by decide +kernel
theorem dX6_add_30 : decode cX6_add 30 = .ok (.iload 5, 2) := by decide +kernel
theorem dX6_add_32 : decode cX6_add 32 = .ok (.iconst 0, 1) := by decide +kernel
theorem dX6_add_33 : decode cX6_add 33 = .ok (.iload_n 1, 1) := by decide +kernel
theorem dX6_add_34 : decode cX6_add 34 = .ok (.invokevirtual 28, 3) := by decide +kernel
theorem dX6_add_37 : decode cX6_add 37 = .ok (.aload_n 0, 1) := by decide +kernel
theorem dX6_add_38 : decode cX6_add 38 = .ok (.iload 5, 2) := by decide +kernel
theorem dX6_add_40 : decode cX6_add 40 = .ok (.iconst 1, 1) := by decide +kernel
theorem dX6_add_41 : decode cX6_add 41 = .ok (.iload_n 2, 1) := by decide +kernel
theorem dX6_add_42 : decode cX6_add 42 = .ok (.invokevirtual 28, 3) := by decide +kernel
theorem dX6_add_45 : decode cX6_add 45 = .ok (.aload_n 0, 1) := by decide +kernel
theorem dX6_add_46 : decode cX6_add 46 = .ok (.iload 5, 2) := by decide +kernel
theorem dX6_add_48 : decode cX6_add 48 = .ok (.iconst 2, 1) := by decide +kernel
theorem dX6_add_49 : decode cX6_add 49 = .ok (.iload_n 3, 1) := by decide +kernel
theorem dX6_add_50 : decode cX6_add 50 = .ok (.invokevirtual 28, 3) := by decide +kernel
theorem dX6_add_53 : decode cX6_add 53 = .ok (.aload_n 0, 1) := by decide +kernel
theorem dX6_add_54 : decode cX6_add 54 = .ok (.iload 5, 2) := by decide +kernel
theorem dX6_add_56 : decode cX6_add 56 = .ok (.iconst 3, 1) := by decide +kernel
theorem dX6_add_57 : decode cX6_add 57 = .ok (.iload 4, 2) := by decide +kernel
theorem dX6_add_59 : decode cX6_add 59 = .ok (.invokevirtual 28, 3) := by decide +kernel
theorem dX6_add_62 : decode cX6_add 62 = .ok (.iload 5, 2) := by decide +kernel
theorem dX6_add_64 : decode cX6_add 64 = .ok (.ireturn, 1) := by decide +kernel
theorem dX6_cell_0 : decode cX6_cell 0 = .ok (.iload_n 1, 1) := by decide +kernel
theorem dX6_cell_1 : decode cX6_cell 1 = .ok (.ifCond .lt 24, 3) := by decide +kernel
theorem dX6_cell_4 : decode cX6_cell 4 = .ok (.iload_n 1, 1) := by decide +kernel
theorem dX6_cell_5 : decode cX6_cell 5 = .ok (.aload_n 0, 1) := by decide +kernel
theorem dX6_cell_6 : decode cX6_cell 6 = .ok (.getfield 25, 3) := by decide +kernel
theorem dX6_cell_9 : decode cX6_cell 9 = .ok (.if_icmp .ge 16, 3) := by decide +kernel
theorem dX6_cell_12 : decode cX6_cell 12 = .ok (.iload_n 2, 1) := by decide +kernel
theorem dX6_cell_13 : decode cX6_cell 13 = .ok (.ifCond .lt 12, 3) := by decide +kernel
theorem dX6_cell_16 : decode cX6_cell 16 = .ok (.iload_n 2, 1) := by decide +kernel
theorem dX6_cell_17 : decode cX6_cell 17 = .ok (.iconst 4, 1) := by decide +kernel
theorem dX6_cell_18 : decode cX6_cell 18 = .ok (.if_icmp .ge 7, 3) := by decide +kernel
theorem dX6_cell_21 : decode cX6_cell 21 = .ok (.iconst 1, 1) := by decide +kernel
theorem dX6_cell_22 : decode cX6_cell 22 = .ok (.goto 4, 3) := by decide +kernel
theorem dX6_cell_25 : decode cX6_cell 25 = .ok (.iconst 0, 1) := by decide +kernel
theorem dX6_cell_26 : decode cX6_cell 26 = .ok (.istore_n 3, 1) := by decide +kernel
theorem dX6_cell_27 : decode cX6_cell 27 = .ok (.iload_n 3, 1) := by decide +kernel
theorem dX6_cell_28 : decode cX6_cell 28 = .ok (.ifCond .eq 16, 3) := by decide +kernel
theorem dX6_cell_31 : decode cX6_cell 31 = .ok (.aload_n 0, 1) := by decide +kernel
theorem dX6_cell_32 : decode cX6_cell 32 = .ok (.getfield 21, 3) := by decide +kernel
theorem dX6_cell_35 : decode cX6_cell 35 = .ok (.iload_n 1, 1) := by decide +kernel
theorem dX6_cell_36 : decode cX6_cell 36 = .ok (.iconst 4, 1) := by decide +kernel
theorem dX6_cell_37 : decode cX6_cell 37 = .ok (.imul, 1) := by decide +kernel
theorem dX6_cell_38 : decode cX6_cell 38 = .ok (.iload_n 2, 1) := by decide +kernel
theorem dX6_cell_39 : decode cX6_cell 39 = .ok (.iadd, 1) := by decide +kernel
theorem dX6_cell_40 : decode cX6_cell 40 = .ok (.iaload, 1) := by decide +kernel
theorem dX6_cell_41 : decode cX6_cell 41 = .ok (.goto 4, 3) := by decide +kernel
theorem dX6_cell_44 : decode cX6_cell 44 = .ok (.iconst 0, 1) := by decide +kernel
theorem dX6_cell_45 : decode cX6_cell 45 = .ok (.ireturn, 1) := by decide +kernel
theorem dX6_has_0 : decode cX6_has 0 = .ok (.iload_n 1, 1) := by decide +kernel
theorem dX6_has_1 : decode cX6_has 1 = .ok (.ifCond .lt 15, 3) := by decide +kernel
theorem dX6_has_4 : decode cX6_has 4 = .ok (.iload_n 1, 1) := by decide +kernel
theorem dX6_has_5 : decode cX6_has 5 = .ok (.aload_n 0, 1) := by decide +kernel
theorem dX6_has_6 : decode cX6_has 6 = .ok (.getfield 25, 3) := by decide +kernel
theorem dX6_has_9 : decode cX6_has 9 = .ok (.if_icmp .ge 7, 3) := by decide +kernel
theorem dX6_has_12 : decode cX6_has 12 = .ok (.iconst 1, 1) := by decide +kernel
theorem dX6_has_13 : decode cX6_has 13 = .ok (.goto 4, 3) := by decide +kernel
theorem dX6_has_16 : decode cX6_has 16 = .ok (.iconst 0, 1) := by decide +kernel
theorem dX6_has_17 : decode cX6_has 17 = .ok (.ireturn, 1) := by decide +kernel
theorem dX6_set_0 : decode cX6_set 0 = .ok (.aload_n 0, 1) := by decide +kernel
theorem dX6_set_1 : decode cX6_set 1 = .ok (.iload_n 1, 1) := by decide +kernel
theorem dX6_set_2 : decode cX6_set 2 = .ok (.invokevirtual 32, 3) := by decide +kernel
theorem dX6_set_5 : decode cX6_set 5 = .ok (.ifCond .eq 23, 3) := by decide +kernel
theorem dX6_set_8 : decode cX6_set 8 = .ok (.iload_n 2, 1) := by decide +kernel
theorem dX6_set_9 : decode cX6_set 9 = .ok (.ifCond .lt 19, 3) := by decide +kernel
theorem dX6_set_12 : decode cX6_set 12 = .ok (.iload_n 2, 1) := by decide +kernel
theorem dX6_set_13 : decode cX6_set 13 = .ok (.iconst 4, 1) := by decide +kernel
theorem dX6_set_14 : decode cX6_set 14 = .ok (.if_icmp .ge 14, 3) := by decide +kernel
theorem dX6_set_17 : decode cX6_set 17 = .ok (.aload_n 0, 1) := by decide +kernel
theorem dX6_set_18 : decode cX6_set 18 = .ok (.getfield 21, 3) := by decide +kernel
theorem dX6_set_21 : decode cX6_set 21 = .ok (.iload_n 1, 1) := by decide +kernel
theorem dX6_set_22 : decode cX6_set 22 = .ok (.iconst 4, 1) := by decide +kernel
theorem dX6_set_23 : decode cX6_set 23 = .ok (.imul, 1) := by decide +kernel
theorem dX6_set_24 : decode cX6_set 24 = .ok (.iload_n 2, 1) := by decide +kernel
theorem dX6_set_25 : decode cX6_set 25 = .ok (.iadd, 1) := by decide +kernel
theorem dX6_set_26 : decode cX6_set 26 = .ok (.iload_n 3, 1) := by decide +kernel
theorem dX6_set_27 : decode cX6_set 27 = .ok (.iastore, 1) := by decide +kernel
theorem dX6_set_28 : decode cX6_set 28 = .ok (.return_, 1) := by decide +kernel
theorem dX7_clauseOf_0 : decode cX7_clauseOf 0 = .ok (.iconst 0, 1) := by decide +kernel
theorem dX7_clauseOf_1 : decode cX7_clauseOf 1 = .ok (.istore_n 2, 1) := by decide +kernel
theorem dX7_clauseOf_2 : decode cX7_clauseOf 2 = .ok (.iload_n 2, 1) := by decide +kernel
theorem dX7_clauseOf_3 : decode cX7_clauseOf 3 = .ok (.aload_n 0, 1) := by decide +kernel
theorem dX7_clauseOf_4 : decode cX7_clauseOf 4 = .ok (.getfield 33, 3) := by decide +kernel
theorem dX7_clauseOf_7 : decode cX7_clauseOf 7 = .ok (.if_icmp .ge 27, 3) := by decide +kernel
theorem dX7_clauseOf_10 : decode cX7_clauseOf 10 = .ok (.iload_n 2, 1) := by decide +kernel
theorem dX7_clauseOf_11 : decode cX7_clauseOf 11 = .ok (.bipush 12, 2) := by decide +kernel
theorem dX7_clauseOf_13 : decode cX7_clauseOf 13 = .ok (.if_icmp .ge 21, 3) := by decide +kernel
theorem dX7_clauseOf_16 : decode cX7_clauseOf 16 = .ok (.aload_n 0, 1) := by decide +kernel
theorem dX7_clauseOf_17 : decode cX7_clauseOf 17 = .ok (.getfield 9, 3) := by decide +kernel
theorem dX7_clauseOf_20 : decode cX7_clauseOf 20 = .ok (.iload_n 2, 1) := by decide +kernel
theorem dX7_clauseOf_21 : decode cX7_clauseOf 21 = .ok (.iaload, 1) := by decide +kernel
theorem dX7_clauseOf_22 : decode cX7_clauseOf 22 = .ok (.iload_n 1, 1) := by decide +kernel
theorem dX7_clauseOf_23 : decode cX7_clauseOf 23 = .ok (.if_icmp .ne 5, 3) := by decide +kernel
theorem dX7_clauseOf_26 : decode cX7_clauseOf 26 = .ok (.iload_n 2, 1) := by decide +kernel
theorem dX7_clauseOf_27 : decode cX7_clauseOf 27 = .ok (.ireturn, 1) := by decide +kernel
theorem dX7_clauseOf_28 : decode cX7_clauseOf 28 = .ok (.iinc 2 1, 3) := by decide +kernel
theorem dX7_clauseOf_31 : decode cX7_clauseOf 31 = .ok (.goto (-29), 3) := by decide +kernel
theorem dX7_clauseOf_34 : decode cX7_clauseOf 34 = .ok (.iconst (-1), 1) := by decide +kernel
theorem dX7_clauseOf_35 : decode cX7_clauseOf 35 = .ok (.ireturn, 1) := by decide +kernel
theorem dX7_firstOf_0 : decode cX7_firstOf 0 = .ok (.aload_n 0, 1) := by decide +kernel
theorem dX7_firstOf_1 : decode cX7_firstOf 1 = .ok (.iload_n 1, 1) := by decide +kernel
theorem dX7_firstOf_2 : decode cX7_firstOf 2 = .ok (.invokevirtual 40, 3) := by decide +kernel
theorem dX7_firstOf_5 : decode cX7_firstOf 5 = .ok (.istore_n 3, 1) := by decide +kernel
theorem dX7_firstOf_6 : decode cX7_firstOf 6 = .ok (.iload_n 3, 1) := by decide +kernel
theorem dX7_firstOf_7 : decode cX7_firstOf 7 = .ok (.ifCond .ge 7, 3) := by decide +kernel
theorem dX7_firstOf_10 : decode cX7_firstOf 10 = .ok (.iload_n 2, 1) := by decide +kernel
theorem dX7_firstOf_11 : decode cX7_firstOf 11 = .ok (.goto 9, 3) := by decide +kernel
theorem dX7_firstOf_14 : decode cX7_firstOf 14 = .ok (.aload_n 0, 1) := by decide +kernel
theorem dX7_firstOf_15 : decode cX7_firstOf 15 = .ok (.getfield 15, 3) := by decide +kernel
theorem dX7_firstOf_18 : decode cX7_firstOf 18 = .ok (.iload_n 3, 1) := by decide +kernel
theorem dX7_firstOf_19 : decode cX7_firstOf 19 = .ok (.iaload, 1) := by decide +kernel
theorem dX7_firstOf_20 : decode cX7_firstOf 20 = .ok (.ireturn, 1) := by decide +kernel
theorem dX7_open_0 : decode cX7_open 0 = .ok (.aload_n 0, 1) := by decide +kernel
theorem dX7_open_1 : decode cX7_open 1 = .ok (.getfield 33, 3) := by decide +kernel
theorem dX7_open_4 : decode cX7_open 4 = .ok (.bipush 12, 2) := by decide +kernel
theorem dX7_open_6 : decode cX7_open 6 = .ok (.if_icmp .ge 62, 3) := by decide +kernel
theorem dX7_open_9 : decode cX7_open 9 = .ok (.aload_n 0, 1) := by decide +kernel
theorem dX7_open_10 : decode cX7_open 10 = .ok (.getfield 9, 3) := by decide +kernel
theorem dX7_open_13 : decode cX7_open 13 = .ok (.aload_n 0, 1) := by decide +kernel
theorem dX7_open_14 : decode cX7_open 14 = .ok (.getfield 33, 3) := by decide +kernel
theorem dX7_open_17 : decode cX7_open 17 = .ok (.iload_n 1, 1) := by decide +kernel
theorem dX7_open_18 : decode cX7_open 18 = .ok (.iastore, 1) := by decide +kernel
theorem dX7_open_19 : decode cX7_open 19 = .ok (.aload_n 0, 1) := by decide +kernel
theorem dX7_open_20 : decode cX7_open 20 = .ok (.getfield 21, 3) := by decide +kernel
theorem dX7_open_23 : decode cX7_open 23 = .ok (.aload_n 0, 1) := by decide +kernel
theorem dX7_open_24 : decode cX7_open 24 = .ok (.getfield 33, 3) := by decide +kernel
theorem dX7_open_27 : decode cX7_open 27 = .ok (.aload_n 0, 1) := by decide +kernel
theorem dX7_open_28 : decode cX7_open 28 = .ok (.getfield 37, 3) := by decide +kernel
theorem dX7_open_31 : decode cX7_open 31 = .ok (.iastore, 1) := by decide +kernel
theorem dX7_open_32 : decode cX7_open 32 = .ok (.aload_n 0, 1) := by decide +kernel
theorem dX7_open_33 : decode cX7_open 33 = .ok (.getfield 24, 3) := by decide +kernel
theorem dX7_open_36 : decode cX7_open 36 = .ok (.aload_n 0, 1) := by decide +kernel
theorem dX7_open_37 : decode cX7_open 37 = .ok (.getfield 33, 3) := by decide +kernel
theorem dX7_open_40 : decode cX7_open 40 = .ok (.aload_n 0, 1) := by decide +kernel
theorem dX7_open_41 : decode cX7_open 41 = .ok (.getfield 37, 3) := by decide +kernel
theorem dX7_open_44 : decode cX7_open 44 = .ok (.iastore, 1) := by decide +kernel
theorem dX7_open_45 : decode cX7_open 45 = .ok (.aload_n 0, 1) := by decide +kernel
theorem dX7_open_46 : decode cX7_open 46 = .ok (.getfield 27, 3) := by decide +kernel
theorem dX7_open_49 : decode cX7_open 49 = .ok (.aload_n 0, 1) := by decide +kernel
theorem dX7_open_50 : decode cX7_open 50 = .ok (.getfield 33, 3) := by decide +kernel
theorem dX7_open_53 : decode cX7_open 53 = .ok (.aload_n 0, 1) := by decide +kernel
theorem dX7_open_54 : decode cX7_open 54 = .ok (.getfield 37, 3) := by decide +kernel
theorem dX7_open_57 : decode cX7_open 57 = .ok (.iastore, 1) := by decide +kernel
theorem dX7_open_58 : decode cX7_open 58 = .ok (.aload_n 0, 1) := by decide +kernel
theorem dX7_open_59 : decode cX7_open 59 = .ok (.dup, 1) := by decide +kernel
theorem dX7_open_60 : decode cX7_open 60 = .ok (.getfield 33, 3) := by decide +kernel
theorem dX7_open_63 : decode cX7_open 63 = .ok (.iconst 1, 1) := by decide +kernel
theorem dX7_open_64 : decode cX7_open 64 = .ok (.iadd, 1) := by decide +kernel
theorem dX7_open_65 : decode cX7_open 65 = .ok (.putfield 33, 3) := by decide +kernel
theorem dX7_open_68 : decode cX7_open 68 = .ok (.return_, 1) := by decide +kernel
theorem dX7_secondOf_0 : decode cX7_secondOf 0 = .ok (.aload_n 0, 1) := by decide +kernel
theorem dX7_secondOf_1 : decode cX7_secondOf 1 = .ok (.iload_n 1, 1) := by decide +kernel
theorem dX7_secondOf_2 : decode cX7_secondOf 2 = .ok (.invokevirtual 40, 3) := by decide +kernel
theorem dX7_secondOf_5 : decode cX7_secondOf 5 = .ok (.istore_n 3, 1) := by decide +kernel
theorem dX7_secondOf_6 : decode cX7_secondOf 6 = .ok (.iload_n 3, 1) := by decide +kernel
theorem dX7_secondOf_7 : decode cX7_secondOf 7 = .ok (.ifCond .ge 7, 3) := by decide +kernel
theorem dX7_secondOf_10 : decode cX7_secondOf 10 = .ok (.iload_n 2, 1) := by decide +kernel
theorem dX7_secondOf_11 : decode cX7_secondOf 11 = .ok (.goto 9, 3) := by decide +kernel
theorem dX7_secondOf_14 : decode cX7_secondOf 14 = .ok (.aload_n 0, 1) := by decide +kernel
theorem dX7_secondOf_15 : decode cX7_secondOf 15 = .ok (.getfield 18, 3) := by decide +kernel
theorem dX7_secondOf_18 : decode cX7_secondOf 18 = .ok (.iload_n 3, 1) := by decide +kernel
theorem dX7_secondOf_19 : decode cX7_secondOf 19 = .ok (.iaload, 1) := by decide +kernel
theorem dX7_secondOf_20 : decode cX7_secondOf 20 = .ok (.ireturn, 1) := by decide +kernel
theorem dX7_step_0 : decode cX7_step 0 = .ok (.aload_n 0, 1) := by decide +kernel
theorem dX7_step_1 : decode cX7_step 1 = .ok (.getfield 37, 3) := by decide +kernel
theorem dX7_step_4 : decode cX7_step 4 = .ok (.aload_n 0, 1) := by decide +kernel
theorem dX7_step_5 : decode cX7_step 5 = .ok (.getfield 30, 3) := by decide +kernel
theorem dX7_step_8 : decode cX7_step 8 = .ok (.arraylength, 1) := by decide +kernel
theorem dX7_step_9 : decode cX7_step 9 = .ok (.if_icmp .ge 28, 3) := by decide +kernel
theorem dX7_step_12 : decode cX7_step 12 = .ok (.aload_n 0, 1) := by decide +kernel
theorem dX7_step_13 : decode cX7_step 13 = .ok (.getfield 30, 3) := by decide +kernel
theorem dX7_step_16 : decode cX7_step 16 = .ok (.aload_n 0, 1) := by decide +kernel
theorem dX7_step_17 : decode cX7_step 17 = .ok (.getfield 37, 3) := by decide +kernel
theorem dX7_step_20 : decode cX7_step 20 = .ok (.iload_n 1, 1) := by decide +kernel
theorem dX7_step_21 : decode cX7_step 21 = .ok (.bipush 16, 2) := by decide +kernel
theorem dX7_step_23 : decode cX7_step 23 = .ok (.iload_n 2, 1) := by decide +kernel
theorem dX7_step_24 : decode cX7_step 24 = .ok (.imul, 1) := by decide +kernel
theorem dX7_step_25 : decode cX7_step 25 = .ok (.iadd, 1) := by decide +kernel
theorem dX7_step_26 : decode cX7_step 26 = .ok (.iastore, 1) := by decide +kernel
theorem dX7_step_27 : decode cX7_step 27 = .ok (.aload_n 0, 1) := by decide +kernel
theorem dX7_step_28 : decode cX7_step 28 = .ok (.dup, 1) := by decide +kernel
theorem dX7_step_29 : decode cX7_step 29 = .ok (.getfield 37, 3) := by decide +kernel
theorem dX7_step_32 : decode cX7_step 32 = .ok (.iconst 1, 1) := by decide +kernel
theorem dX7_step_33 : decode cX7_step 33 = .ok (.iadd, 1) := by decide +kernel
theorem dX7_step_34 : decode cX7_step 34 = .ok (.putfield 37, 3) := by decide +kernel
theorem dX7_step_37 : decode cX7_step 37 = .ok (.return_, 1) := by decide +kernel
theorem dX7_wipe_0 : decode cX7_wipe 0 = .ok (.aload_n 0, 1) := by decide +kernel
theorem dX7_wipe_1 : decode cX7_wipe 1 = .ok (.iconst 0, 1) := by decide +kernel
theorem dX7_wipe_2 : decode cX7_wipe 2 = .ok (.putfield 33, 3) := by decide +kernel
theorem dX7_wipe_5 : decode cX7_wipe 5 = .ok (.aload_n 0, 1) := by decide +kernel
theorem dX7_wipe_6 : decode cX7_wipe 6 = .ok (.iconst 0, 1) := by decide +kernel
theorem dX7_wipe_7 : decode cX7_wipe 7 = .ok (.putfield 37, 3) := by decide +kernel
theorem dX7_wipe_10 : decode cX7_wipe 10 = .ok (.return_, 1) := by decide +kernel
theorem dX8_at_0 : decode cX8_at 0 = .ok (.iload_n 1, 1) := by decide +kernel
theorem dX8_at_1 : decode cX8_at 1 = .ok (.ifCond .lt 29, 3) := by decide +kernel
theorem dX8_at_4 : decode cX8_at 4 = .ok (.iload_n 1, 1) := by decide +kernel
theorem dX8_at_5 : decode cX8_at 5 = .ok (.aload_n 0, 1) := by decide +kernel
theorem dX8_at_6 : decode cX8_at 6 = .ok (.getfield 23, 3) := by decide +kernel
theorem dX8_at_9 : decode cX8_at 9 = .ok (.if_icmp .ge 21, 3) := by decide +kernel
theorem dX8_at_12 : decode cX8_at 12 = .ok (.iload_n 1, 1) := by decide +kernel
theorem dX8_at_13 : decode cX8_at 13 = .ok (.aload_n 0, 1) := by decide +kernel
theorem dX8_at_14 : decode cX8_at 14 = .ok (.getfield 17, 3) := by decide +kernel
theorem dX8_at_17 : decode cX8_at 17 = .ok (.arraylength, 1) := by decide +kernel
theorem dX8_at_18 : decode cX8_at 18 = .ok (.if_icmp .ge 12, 3) := by decide +kernel
theorem dX8_at_21 : decode cX8_at 21 = .ok (.aload_n 0, 1) := by decide +kernel
theorem dX8_at_22 : decode cX8_at 22 = .ok (.getfield 17, 3) := by decide +kernel
theorem dX8_at_25 : decode cX8_at 25 = .ok (.iload_n 1, 1) := by decide +kernel
theorem dX8_at_26 : decode cX8_at 26 = .ok (.aaload, 1) := by decide +kernel
theorem dX8_at_27 : decode cX8_at 27 = .ok (.goto 4, 3) := by decide +kernel
theorem dX8_at_30 : decode cX8_at 30 = .ok (.aconst_null, 1) := by decide +kernel
theorem dX8_at_31 : decode cX8_at 31 = .ok (.areturn, 1) := by decide +kernel
theorem dX8_isFull_0 : decode cX8_isFull 0 = .ok (.aload_n 0, 1) := by decide +kernel
theorem dX8_isFull_1 : decode cX8_isFull 1 = .ok (.getfield 23, 3) := by decide +kernel
theorem dX8_isFull_4 : decode cX8_isFull 4 = .ok (.aload_n 0, 1) := by decide +kernel
theorem dX8_isFull_5 : decode cX8_isFull 5 = .ok (.getfield 17, 3) := by decide +kernel
theorem dX8_isFull_8 : decode cX8_isFull 8 = .ok (.arraylength, 1) := by decide +kernel
theorem dX8_isFull_9 : decode cX8_isFull 9 = .ok (.if_icmp .lt 7, 3) := by decide +kernel
theorem dX8_isFull_12 : decode cX8_isFull 12 = .ok (.iconst 1, 1) := by decide +kernel
theorem dX8_isFull_13 : decode cX8_isFull 13 = .ok (.goto 4, 3) := by decide +kernel
theorem dX8_isFull_16 : decode cX8_isFull 16 = .ok (.iconst 0, 1) := by decide +kernel
theorem dX8_isFull_17 : decode cX8_isFull 17 = .ok (.ireturn, 1) := by decide +kernel
