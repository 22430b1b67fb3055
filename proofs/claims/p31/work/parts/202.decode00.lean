theorem dX12_ahead_0 : decode cX12_ahead 0 = .ok (.aload_n 0, 1) := by decide +kernel
theorem dX12_ahead_1 : decode cX12_ahead 1 = .ok (.iload_n 1, 1) := by decide +kernel
theorem dX12_ahead_2 : decode cX12_ahead 2 = .ok (.invokevirtual 388, 3) := by decide +kernel
theorem dX12_ahead_5 : decode cX12_ahead 5 = .ok (.ifCond .eq 25, 3) := by decide +kernel
theorem dX12_ahead_8 : decode cX12_ahead 8 = .ok (.aload_n 0, 1) := by decide +kernel
theorem dX12_ahead_9 : decode cX12_ahead 9 = .ok (.iload_n 2, 1) := by decide +kernel
theorem dX12_ahead_10 : decode cX12_ahead 10 = .ok (.invokevirtual 388, 3) := by decide +kernel
theorem dX12_ahead_13 : decode cX12_ahead 13 = .ok (.ifCond .eq 17, 3) := by decide +kernel
theorem dX12_ahead_16 : decode cX12_ahead 16 = .ok (.iload_n 1, 1) := by decide +kernel
theorem dX12_ahead_17 : decode cX12_ahead 17 = .ok (.iload_n 2, 1) := by decide +kernel
theorem dX12_ahead_18 : decode cX12_ahead 18 = .ok (.if_icmp .eq 12, 3) := by decide +kernel
theorem dX12_ahead_21 : decode cX12_ahead 21 = .ok (.iload_n 3, 1) := by decide +kernel
theorem dX12_ahead_22 : decode cX12_ahead 22 = .ok (.iconst 0, 1) := by decide +kernel
theorem dX12_ahead_23 : decode cX12_ahead 23 = .ok (.iconst 1, 1) := by decide +kernel
theorem dX12_ahead_24 : decode cX12_ahead 24 = .ok (.invokestatic 323, 3) := by decide +kernel
theorem dX12_ahead_27 : decode cX12_ahead 27 = .ok (.ifCond .ne 5, 3) := by decide +kernel
theorem dX12_ahead_30 : decode cX12_ahead 30 = .ok (.iconst (-1), 1) := by decide +kernel
theorem dX12_ahead_31 : decode cX12_ahead 31 = .ok (.ireturn, 1) := by decide +kernel
theorem dX12_ahead_32 : decode cX12_ahead 32 = .ok (.aload_n 0, 1) := by decide +kernel
theorem dX12_ahead_33 : decode cX12_ahead 33 = .ok (.iload_n 1, 1) := by decide +kernel
theorem dX12_ahead_34 : decode cX12_ahead 34 = .ok (.iload_n 2, 1) := by decide +kernel
theorem dX12_ahead_35 : decode cX12_ahead 35 = .ok (.invokevirtual 408, 3) := by decide +kernel
theorem dX12_ahead_38 : decode cX12_ahead 38 = .ok (.ifCond .ne 6, 3) := by decide +kernel
theorem dX12_ahead_41 : decode cX12_ahead 41 = .ok (.bipush (-2), 2) := by decide +kernel
theorem dX12_ahead_43 : decode cX12_ahead 43 = .ok (.ireturn, 1) := by decide +kernel
theorem dX12_ahead_44 : decode cX12_ahead 44 = .ok (.iload_n 3, 1) := by decide +kernel
theorem dX12_ahead_45 : decode cX12_ahead 45 = .ok (.ifCond .ne 8, 3) := by decide +kernel
theorem dX12_ahead_48 : decode cX12_ahead 48 = .ok (.aload_n 0, 1) := by decide +kernel
theorem dX12_ahead_49 : decode cX12_ahead 49 = .ok (.getfield 397, 3) := by decide +kernel
theorem dX12_ahead_52 : decode cX12_ahead 52 = .ok (.ireturn, 1) := by decide +kernel
theorem dX12_ahead_53 : decode cX12_ahead 53 = .ok (.iconst 0, 1) := by decide +kernel
theorem dX12_ahead_54 : decode cX12_ahead 54 = .ok (.istore 4, 2) := by decide +kernel
theorem dX12_ahead_56 : decode cX12_ahead 56 = .ok (.iconst 0, 1) := by decide +kernel
theorem dX12_ahead_57 : decode cX12_ahead 57 = .ok (.istore 5, 2) := by decide +kernel
theorem dX12_ahead_59 : decode cX12_ahead 59 = .ok (.iload 5, 2) := by decide +kernel
theorem dX12_ahead_61 : decode cX12_ahead 61 = .ok (.aload_n 0, 1) := by decide +kernel
theorem dX12_ahead_62 : decode cX12_ahead 62 = .ok (.getfield 397, 3) := by decide +kernel
theorem dX12_ahead_65 : decode cX12_ahead 65 = .ok (.if_icmp .ge 26, 3) := by decide +kernel
theorem dX12_ahead_68 : decode cX12_ahead 68 = .ok (.aload_n 0, 1) := by decide +kernel
theorem dX12_ahead_69 : decode cX12_ahead 69 = .ok (.aload_n 0, 1) := by decide +kernel
theorem dX12_ahead_70 : decode cX12_ahead 70 = .ok (.getfield 125, 3) := by decide +kernel
theorem dX12_ahead_73 : decode cX12_ahead 73 = .ok (.iload 5, 2) := by decide +kernel
theorem dX12_ahead_75 : decode cX12_ahead 75 = .ok (.iaload, 1) := by decide +kernel
theorem dX12_ahead_76 : decode cX12_ahead 76 = .ok (.invokevirtual 358, 3) := by decide +kernel
theorem dX12_ahead_79 : decode cX12_ahead 79 = .ok (.ifCond .ne 6, 3) := by decide +kernel
theorem dX12_ahead_82 : decode cX12_ahead 82 = .ok (.iinc 4 1, 3) := by decide +kernel
theorem dX12_ahead_85 : decode cX12_ahead 85 = .ok (.iinc 5 1, 3) := by decide +kernel
theorem dX12_ahead_88 : decode cX12_ahead 88 = .ok (.goto (-29), 3) := by decide +kernel
theorem dX12_ahead_91 : decode cX12_ahead 91 = .ok (.iload 4, 2) := by decide +kernel
theorem dX12_ahead_93 : decode cX12_ahead 93 = .ok (.ireturn, 1) := by decide +kernel
theorem dX12_aheadAt_0 : decode cX12_aheadAt 0 = .ok (.aload_n 0, 1) := by decide +kernel
theorem dX12_aheadAt_1 : decode cX12_aheadAt 1 = .ok (.iload_n 1, 1) := by decide +kernel
theorem dX12_aheadAt_2 : decode cX12_aheadAt 2 = .ok (.invokevirtual 388, 3) := by decide +kernel
theorem dX12_aheadAt_5 : decode cX12_aheadAt 5 = .ok (.ifCond .eq 20, 3) := by decide +kernel
theorem dX12_aheadAt_8 : decode cX12_aheadAt 8 = .ok (.aload_n 0, 1) := by decide +kernel
theorem dX12_aheadAt_9 : decode cX12_aheadAt 9 = .ok (.iload_n 2, 1) := by decide +kernel
theorem dX12_aheadAt_10 : decode cX12_aheadAt 10 = .ok (.invokevirtual 388, 3) := by decide +kernel
theorem dX12_aheadAt_13 : decode cX12_aheadAt 13 = .ok (.ifCond .eq 12, 3) := by decide +kernel
theorem dX12_aheadAt_16 : decode cX12_aheadAt 16 = .ok (.iload_n 1, 1) := by decide +kernel
theorem dX12_aheadAt_17 : decode cX12_aheadAt 17 = .ok (.iload_n 2, 1) := by decide +kernel
theorem dX12_aheadAt_18 : decode cX12_aheadAt 18 = .ok (.if_icmp .eq 7, 3) := by decide +kernel
theorem dX12_aheadAt_21 : decode cX12_aheadAt 21 = .ok (.iload_n 3, 1) := by decide +kernel
theorem dX12_aheadAt_22 : decode cX12_aheadAt 22 = .ok (.ifCond .ge 5, 3) := by decide +kernel
theorem dX12_aheadAt_25 : decode cX12_aheadAt 25 = .ok (.iconst (-1), 1) := by decide +kernel
theorem dX12_aheadAt_26 : decode cX12_aheadAt 26 = .ok (.ireturn, 1) := by decide +kernel
theorem dX12_aheadAt_27 : decode cX12_aheadAt 27 = .ok (.aload_n 0, 1) := by decide +kernel
theorem dX12_aheadAt_28 : decode cX12_aheadAt 28 = .ok (.iload_n 1, 1) := by decide +kernel
theorem dX12_aheadAt_29 : decode cX12_aheadAt 29 = .ok (.iload_n 2, 1) := by decide +kernel
theorem dX12_aheadAt_30 : decode cX12_aheadAt 30 = .ok (.invokevirtual 408, 3) := by decide +kernel
theorem dX12_aheadAt_33 : decode cX12_aheadAt 33 = .ok (.ifCond .ne 6, 3) := by decide +kernel
theorem dX12_aheadAt_36 : decode cX12_aheadAt 36 = .ok (.bipush (-2), 2) := by decide +kernel
theorem dX12_aheadAt_38 : decode cX12_aheadAt 38 = .ok (.ireturn, 1) := by decide +kernel
theorem dX12_aheadAt_39 : decode cX12_aheadAt 39 = .ok (.iload_n 3, 1) := by decide +kernel
theorem dX12_aheadAt_40 : decode cX12_aheadAt 40 = .ok (.aload_n 0, 1) := by decide +kernel
theorem dX12_aheadAt_41 : decode cX12_aheadAt 41 = .ok (.getfield 397, 3) := by decide +kernel
theorem dX12_aheadAt_44 : decode cX12_aheadAt 44 = .ok (.if_icmp .ge 12, 3) := by decide +kernel
theorem dX12_aheadAt_47 : decode cX12_aheadAt 47 = .ok (.aload_n 0, 1) := by decide +kernel
theorem dX12_aheadAt_48 : decode cX12_aheadAt 48 = .ok (.getfield 125, 3) := by decide +kernel
theorem dX12_aheadAt_51 : decode cX12_aheadAt 51 = .ok (.iload_n 3, 1) := by decide +kernel
theorem dX12_aheadAt_52 : decode cX12_aheadAt 52 = .ok (.iaload, 1) := by decide +kernel
theorem dX12_aheadAt_53 : decode cX12_aheadAt 53 = .ok (.goto 4, 3) := by decide +kernel
theorem dX12_aheadAt_56 : decode cX12_aheadAt 56 = .ok (.iconst (-1), 1) := by decide +kernel
theorem dX12_aheadAt_57 : decode cX12_aheadAt 57 = .ok (.ireturn, 1) := by decide +kernel
theorem dX12_allStates_0 : decode cX12_allStates 0 = .ok (.iconst 1, 1) := by decide +kernel
theorem dX12_allStates_1 : decode cX12_allStates 1 = .ok (.aload_n 0, 1) := by decide +kernel
theorem dX12_allStates_2 : decode cX12_allStates 2 = .ok (.getfield 49, 3) := by decide +kernel
theorem dX12_allStates_5 : decode cX12_allStates 5 = .ok (.aload_n 0, 1) := by decide +kernel
theorem dX12_allStates_6 : decode cX12_allStates 6 = .ok (.getfield 222, 3) := by decide +kernel
theorem dX12_allStates_9 : decode cX12_allStates 9 = .ok (.iaload, 1) := by decide +kernel
theorem dX12_allStates_10 : decode cX12_allStates 10 = .ok (.ishl, 1) := by decide +kernel
theorem dX12_allStates_11 : decode cX12_allStates 11 = .ok (.istore_n 1, 1) := by decide +kernel
theorem dX12_allStates_12 : decode cX12_allStates 12 = .ok (.iload_n 1, 1) := by decide +kernel
theorem dX12_allStates_13 : decode cX12_allStates 13 = .ok (.bipush 64, 2) := by decide +kernel
theorem dX12_allStates_15 : decode cX12_allStates 15 = .ok (.if_icmp .ne 9, 3) := by decide +kernel
theorem dX12_allStates_18 : decode cX12_allStates 18 = .ok (.ldc2_w 290, 3) := by decide +kernel
theorem dX12_allStates_21 : decode cX12_allStates 21 = .ok (.goto 8, 3) := by decide +kernel
theorem dX12_allStates_24 : decode cX12_allStates 24 = .ok (.lconst 1, 1) := by decide +kernel
theorem dX12_allStates_25 : decode cX12_allStates 25 = .ok (.iload_n 1, 1) := by decide +kernel
theorem dX12_allStates_26 : decode cX12_allStates 26 = .ok (.lshl, 1) := by decide +kernel
theorem dX12_allStates_27 : decode cX12_allStates 27 = .ok (.lconst 1, 1) := by decide +kernel
theorem dX12_allStates_28 : decode cX12_allStates 28 = .ok (.lsub, 1) := by decide +kernel
theorem dX12_allStates_29 : decode cX12_allStates 29 = .ok (.lreturn, 1) := by decide +kernel
theorem dX12_appends_0 : decode cX12_appends 0 = .ok (.iload_n 2, 1) := by decide +kernel
theorem dX12_appends_1 : decode cX12_appends 1 = .ok (.ifCond .ne 7, 3) := by decide +kernel
theorem dX12_appends_4 : decode cX12_appends 4 = .ok (.lload_n 0, 1) := by decide +kernel
theorem dX12_appends_5 : decode cX12_appends 5 = .ok (.goto 16, 3) := by decide +kernel
theorem dX12_appends_8 : decode cX12_appends 8 = .ok (.ldc2_w 164, 3) := by decide +kernel
theorem dX12_appends_11 : decode cX12_appends 11 = .ok (.lload_n 0, 1) := by decide +kernel
theorem dX12_appends_12 : decode cX12_appends 12 = .ok (.lmul, 1) := by decide +kernel
theorem dX12_appends_13 : decode cX12_appends 13 = .ok (.iload_n 2, 1) := by decide +kernel
theorem dX12_appends_14 : decode cX12_appends 14 = .ok (.bipush 97, 2) := by decide +kernel
theorem dX12_appends_16 : decode cX12_appends 16 = .ok (.isub, 1) := by decide +kernel
theorem dX12_appends_17 : decode cX12_appends 17 = .ok (.iconst 1, 1) := by decide +kernel
theorem dX12_appends_18 : decode cX12_appends 18 = .ok (.iadd, 1) := by decide +kernel
theorem dX12_appends_19 : decode cX12_appends 19 = .ok (.i2l, 1) := by decide +kernel
theorem dX12_appends_20 : decode cX12_appends 20 = .ok (.ladd, 1) := by decide +kernel
theorem dX12_appends_21 : decode cX12_appends 21 = .ok (.lreturn, 1) := by decide +kernel
theorem dX12_back_0 : decode cX12_back 0 = .ok (.iload_n 1, 1) := by decide +kernel
theorem dX12_back_1 : decode cX12_back 1 = .ok (.ifCond .lt 11, 3) := by decide +kernel
theorem dX12_back_4 : decode cX12_back 4 = .ok (.iload_n 1, 1) := by decide +kernel
theorem dX12_back_5 : decode cX12_back 5 = .ok (.aload_n 0, 1) := by decide +kernel
theorem dX12_back_6 : decode cX12_back 6 = .ok (.getfield 154, 3) := by decide +kernel
theorem dX12_back_9 : decode cX12_back 9 = .ok (.if_icmp .le 5, 3) := by decide +kernel
theorem dX12_back_12 : decode cX12_back 12 = .ok (.iconst (-1), 1) := by decide +kernel
theorem dX12_back_13 : decode cX12_back 13 = .ok (.ireturn, 1) := by decide +kernel
theorem dX12_back_14 : decode cX12_back 14 = .ok (.aload_n 0, 1) := by decide +kernel
theorem dX12_back_15 : decode cX12_back 15 = .ok (.dup, 1) := by decide +kernel
theorem dX12_back_16 : decode cX12_back 16 = .ok (.getfield 154, 3) := by decide +kernel
theorem dX12_back_19 : decode cX12_back 19 = .ok (.iload_n 1, 1) := by decide +kernel
theorem dX12_back_20 : decode cX12_back 20 = .ok (.isub, 1) := by decide +kernel
theorem dX12_back_21 : decode cX12_back 21 = .ok (.putfield 154, 3) := by decide +kernel
theorem dX12_back_24 : decode cX12_back 24 = .ok (.aload_n 0, 1) := by decide +kernel
theorem dX12_back_25 : decode cX12_back 25 = .ok (.getfield 154, 3) := by decide +kernel
theorem dX12_back_28 : decode cX12_back 28 = .ok (.ireturn, 1) := by decide +kernel
theorem dX12_begins_0 : decode cX12_begins 0 = .ok (.iconst 0, 1) := by decide +kernel
theorem dX12_begins_1 : decode cX12_begins 1 = .ok (.istore_n 1, 1) := by decide +kernel
theorem dX12_begins_2 : decode cX12_begins 2 = .ok (.iload_n 1, 1) := by decide +kernel
theorem dX12_begins_3 : decode cX12_begins 3 = .ok (.bipush 40, 2) := by decide +kernel
theorem dX12_begins_5 : decode cX12_begins 5 = .ok (.if_icmp .ge 33, 3) := by decide +kernel
theorem dX12_begins_8 : decode cX12_begins 8 = .ok (.aload_n 0, 1) := by decide +kernel
theorem dX12_begins_9 : decode cX12_begins 9 = .ok (.getfield 119, 3) := by decide +kernel
theorem dX12_begins_12 : decode cX12_begins 12 = .ok (.iload_n 1, 1) := by decide +kernel
theorem dX12_begins_13 : decode cX12_begins 13 = .ok (.iload_n 1, 1) := by decide +kernel
theorem dX12_begins_14 : decode cX12_begins 14 = .ok (.bipush 12, 2) := by decide +kernel
theorem dX12_begins_16 : decode cX12_begins 16 = .ok (.if_icmp .lt 14, 3) := by decide +kernel
theorem dX12_begins_19 : decode cX12_begins 19 = .ok (.iload_n 1, 1) := by decide +kernel
theorem dX12_begins_20 : decode cX12_begins 20 = .ok (.bipush 20, 2) := by decide +kernel
theorem dX12_begins_22 : decode cX12_begins 22 = .ok (.if_icmp .ge 8, 3) := by decide +kernel
theorem dX12_begins_25 : decode cX12_begins 25 = .ok (.bipush (-2), 2) := by decide +kernel
theorem dX12_begins_27 : decode cX12_begins 27 = .ok (.goto 4, 3) := by decide +kernel
theorem dX12_begins_30 : decode cX12_begins 30 = .ok (.iconst 0, 1) := by decide +kernel
theorem dX12_begins_31 : decode cX12_begins 31 = .ok (.iastore, 1) := by decide +kernel
theorem dX12_begins_32 : decode cX12_begins 32 = .ok (.iinc 1 1, 3) := by decide +kernel
theorem dX12_begins_35 : decode cX12_begins 35 = .ok (.goto (-33), 3) := by decide +kernel
theorem dX12_begins_38 : decode cX12_begins 38 = .ok (.aload_n 0, 1) := by decide +kernel
theorem dX12_begins_39 : decode cX12_begins 39 = .ok (.getfield 119, 3) := by decide +kernel
theorem dX12_begins_42 : decode cX12_begins 42 = .ok (.iconst 0, 1) := by decide +kernel
theorem dX12_begins_43 : decode cX12_begins 43 = .ok (.aload_n 0, 1) := by decide +kernel
theorem dX12_begins_44 : decode cX12_begins 44 = .ok (.getfield 89, 3) := by decide +kernel
theorem dX12_begins_47 : decode cX12_begins 47 = .ok (.aload_n 0, 1) := by decide +kernel
theorem dX12_begins_48 : decode cX12_begins 48 = .ok (.getfield 222, 3) := by decide +kernel
theorem dX12_begins_51 : decode cX12_begins 51 = .ok (.iaload, 1) := by decide +kernel
theorem dX12_begins_52 : decode cX12_begins 52 = .ok (.iastore, 1) := by decide +kernel
theorem dX12_begins_53 : decode cX12_begins 53 = .ok (.aload_n 0, 1) := by decide +kernel
theorem dX12_begins_54 : decode cX12_begins 54 = .ok (.getfield 119, 3) := by decide +kernel
theorem dX12_begins_57 : decode cX12_begins 57 = .ok (.iconst 3, 1) := by decide +kernel
theorem dX12_begins_58 : decode cX12_begins 58 = .ok (.aload_n 0, 1) := by decide +kernel
theorem dX12_begins_59 : decode cX12_begins 59 = .ok (.getfield 55, 3) := by decide +kernel
theorem dX12_begins_62 : decode cX12_begins 62 = .ok (.aload_n 0, 1) := by decide +kernel
theorem dX12_begins_63 : decode cX12_begins 63 = .ok (.getfield 222, 3) := by decide +kernel
theorem dX12_begins_66 : decode cX12_begins 66 = .ok (.iaload, 1) := by decide +kernel
theorem dX12_begins_67 : decode cX12_begins 67 = .ok (.iastore, 1) := by decide +kernel
theorem dX12_begins_68 : decode cX12_begins 68 = .ok (.return_, 1) := by decide +kernel
theorem dX12_bits_0 : decode cX12_bits 0 = .ok (.iconst 0, 1) := by decide +kernel
theorem dX12_bits_1 : decode cX12_bits 1 = .ok (.istore_n 1, 1) := by decide +kernel
theorem dX12_bits_2 : decode cX12_bits 2 = .ok (.iconst 0, 1) := by decide +kernel
theorem dX12_bits_3 : decode cX12_bits 3 = .ok (.istore_n 2, 1) := by decide +kernel
theorem dX12_bits_4 : decode cX12_bits 4 = .ok (.iload_n 2, 1) := by decide +kernel
theorem dX12_bits_5 : decode cX12_bits 5 = .ok (.bipush 16, 2) := by decide +kernel
theorem dX12_bits_7 : decode cX12_bits 7 = .ok (.if_icmp .ge 17, 3) := by decide +kernel
theorem dX12_bits_10 : decode cX12_bits 10 = .ok (.iload_n 1, 1) := by decide +kernel
theorem dX12_bits_11 : decode cX12_bits 11 = .ok (.iload_n 0, 1) := by decide +kernel
theorem dX12_bits_12 : decode cX12_bits 12 = .ok (.iload_n 2, 1) := by decide +kernel
theorem dX12_bits_13 : decode cX12_bits 13 = .ok (.ishr, 1) := by decide +kernel
theorem dX12_bits_14 : decode cX12_bits 14 = .ok (.iconst 1, 1) := by decide +kernel
theorem dX12_bits_15 : decode cX12_bits 15 = .ok (.iand, 1) := by decide +kernel
theorem dX12_bits_16 : decode cX12_bits 16 = .ok (.iadd, 1) := by decide +kernel
theorem dX12_bits_17 : decode cX12_bits 17 = .ok (.istore_n 1, 1) := by decide +kernel
theorem dX12_bits_18 : decode cX12_bits 18 = .ok (.iinc 2 1, 3) := by decide +kernel
theorem dX12_bits_21 : decode cX12_bits 21 = .ok (.goto (-17), 3) := by decide +kernel
theorem dX12_bits_24 : decode cX12_bits 24 = .ok (.iload_n 1, 1) := by decide +kernel
theorem dX12_bits_25 : decode cX12_bits 25 = .ok (.ireturn, 1) := by decide +kernel
theorem dX12_bounded_0 : decode cX12_bounded 0 = .ok (.aload_n 0, 1) := by decide +kernel
theorem dX12_bounded_1 : decode cX12_bounded 1 = .ok (.getfield 192, 3) := by decide +kernel
theorem dX12_bounded_4 : decode cX12_bounded 4 = .ok (.ifCond .gt 11, 3) := by decide +kernel
theorem dX12_bounded_7 : decode cX12_bounded 7 = .ok (.aload_n 0, 1) := by decide +kernel
theorem dX12_bounded_8 : decode cX12_bounded 8 = .ok (.iconst 2, 1) := by decide +kernel
theorem dX12_bounded_9 : decode cX12_bounded 9 = .ok (.invokevirtual 210, 3) := by decide +kernel
theorem dX12_bounded_12 : decode cX12_bounded 12 = .ok (.ifCond .ne 10, 3) := by decide +kernel
theorem dX12_bounded_15 : decode cX12_bounded 15 = .ok (.aload_n 0, 1) := by decide +kernel
theorem dX12_bounded_16 : decode cX12_bounded 16 = .ok (.iconst 1, 1) := by decide +kernel
theorem dX12_bounded_17 : decode cX12_bounded 17 = .ok (.invokevirtual 207, 3) := by decide +kernel
theorem dX12_bounded_20 : decode cX12_bounded 20 = .ok (.iload_n 1, 1) := by decide +kernel
theorem dX12_bounded_21 : decode cX12_bounded 21 = .ok (.ireturn, 1) := by decide +kernel
theorem dX12_bounded_22 : decode cX12_bounded 22 = .ok (.aload_n 0, 1) := by decide +kernel
theorem dX12_bounded_23 : decode cX12_bounded 23 = .ok (.getfield 27, 3) := by decide +kernel
theorem dX12_bounded_26 : decode cX12_bounded 26 = .ok (.aload_n 0, 1) := by decide +kernel
theorem dX12_bounded_27 : decode cX12_bounded 27 = .ok (.getfield 195, 3) := by decide +kernel
theorem dX12_bounded_30 : decode cX12_bounded 30 = .ok (.iaload, 1) := by decide +kernel
theorem dX12_bounded_31 : decode cX12_bounded 31 = .ok (.istore_n 3, 1) := by decide +kernel
theorem dX12_bounded_32 : decode cX12_bounded 32 = .ok (.iload_n 3, 1) := by decide +kernel
theorem dX12_bounded_33 : decode cX12_bounded 33 = .ok (.iload_n 1, 1) := by decide +kernel
theorem dX12_bounded_34 : decode cX12_bounded 34 = .ok (.if_icmp .lt 8, 3) := by decide +kernel
theorem dX12_bounded_37 : decode cX12_bounded 37 = .ok (.iload_n 3, 1) := by decide +kernel
theorem dX12_bounded_38 : decode cX12_bounded 38 = .ok (.iload_n 2, 1) := by decide +kernel
theorem dX12_bounded_39 : decode cX12_bounded 39 = .ok (.if_icmp .le 12, 3) := by decide +kernel
theorem dX12_bounded_42 : decode cX12_bounded 42 = .ok (.aload_n 0, 1) := by decide +kernel
theorem dX12_bounded_43 : decode cX12_bounded 43 = .ok (.iconst 5, 1) := by decide +kernel
theorem dX12_bounded_44 : decode cX12_bounded 44 = .ok (.aload_n 0, 1) := by decide +kernel
theorem dX12_bounded_45 : decode cX12_bounded 45 = .ok (.getfield 195, 3) := by decide +kernel
theorem dX12_bounded_48 : decode cX12_bounded 48 = .ok (.invokevirtual 272, 3) := by decide +kernel
theorem dX12_bounded_51 : decode cX12_bounded 51 = .ok (.aload_n 0, 1) := by decide +kernel
theorem dX12_bounded_52 : decode cX12_bounded 52 = .ok (.invokevirtual 213, 3) := by decide +kernel
theorem dX12_bounded_55 : decode cX12_bounded 55 = .ok (.iload_n 3, 1) := by decide +kernel
theorem dX12_bounded_56 : decode cX12_bounded 56 = .ok (.ireturn, 1) := by decide +kernel
theorem dX12_burn_0 : decode cX12_burn 0 = .ok (.aload_n 0, 1) := by decide +kernel
theorem dX12_burn_1 : decode cX12_burn 1 = .ok (.getfield 243, 3) := by decide +kernel
theorem dX12_burn_4 : decode cX12_burn 4 = .ok (.istore_n 1, 1) := by decide +kernel
theorem dX12_burn_5 : decode cX12_burn 5 = .ok (.aload_n 0, 1) := by decide +kernel
theorem dX12_burn_6 : decode cX12_burn 6 = .ok (.iconst 0, 1) := by decide +kernel
theorem dX12_burn_7 : decode cX12_burn 7 = .ok (.putfield 243, 3) := by decide +kernel
theorem dX12_burn_10 : decode cX12_burn 10 = .ok (.iload_n 1, 1) := by decide +kernel
theorem dX12_burn_11 : decode cX12_burn 11 = .ok (.ireturn, 1) := by decide +kernel
theorem dX12_byteAt_0 : decode cX12_byteAt 0 = .ok (.iload_n 1, 1) := by decide +kernel
theorem dX12_byteAt_1 : decode cX12_byteAt 1 = .ok (.aload_n 0, 1) := by decide +kernel
theorem dX12_byteAt_2 : decode cX12_byteAt 2 = .ok (.getfield 161, 3) := by decide +kernel
theorem dX12_byteAt_5 : decode cX12_byteAt 5 = .ok (.if_icmp .ge 16, 3) := by decide +kernel
theorem dX12_byteAt_8 : decode cX12_byteAt 8 = .ok (.aload_n 0, 1) := by decide +kernel
theorem dX12_byteAt_9 : decode cX12_byteAt 9 = .ok (.getfield 17, 3) := by decide +kernel
theorem dX12_byteAt_12 : decode cX12_byteAt 12 = .ok (.iload_n 1, 1) := by decide +kernel
theorem dX12_byteAt_13 : decode cX12_byteAt 13 = .ok (.baload, 1) := by decide +kernel
theorem dX12_byteAt_14 : decode cX12_byteAt 14 = .ok (.sipush 255, 3) := by decide +kernel
theorem dX12_byteAt_17 : decode cX12_byteAt 17 = .ok (.iand, 1) := by decide +kernel
theorem dX12_byteAt_18 : decode cX12_byteAt 18 = .ok (.goto 4, 3) := by decide +kernel
theorem dX12_byteAt_21 : decode cX12_byteAt 21 = .ok (.iconst 0, 1) := by decide +kernel
theorem dX12_byteAt_22 : decode cX12_byteAt 22 = .ok (.ireturn, 1) := by decide +kernel
theorem dX12_clock_0 : decode cX12_clock 0 = .ok (.aload_n 0, 1) := by decide +kernel
theorem dX12_clock_1 : decode cX12_clock 1 = .ok (.getfield 116, 3) := by decide +kernel
theorem dX12_clock_4 : decode cX12_clock 4 = .ok (.iconst 0, 1) := by decide +kernel
theorem dX12_clock_5 : decode cX12_clock 5 = .ok (.iaload, 1) := by decide +kernel
theorem dX12_clock_6 : decode cX12_clock 6 = .ok (.ireturn, 1) := by decide +kernel
theorem dX12_comesOut_0 : decode cX12_comesOut 0 = .ok (.aload_n 0, 1) := by decide +kernel
theorem dX12_comesOut_1 : decode cX12_comesOut 1 = .ok (.getfield 306, 3) := by decide +kernel
theorem dX12_comesOut_4 : decode cX12_comesOut 4 = .ok (.ifCond .le 87, 3) := by decide +kernel
theorem dX12_comesOut_7 : decode cX12_comesOut 7 = .ok (.aload_n 0, 1) := by decide +kernel
theorem dX12_comesOut_8 : decode cX12_comesOut 8 = .ok (.getfield 107, 3) := by decide +kernel
theorem dX12_comesOut_11 : decode cX12_comesOut 11 = .ok (.aload_n 0, 1) := by decide +kernel
theorem dX12_comesOut_12 : decode cX12_comesOut 12 = .ok (.getfield 306, 3) := by decide +kernel
theorem dX12_comesOut_15 : decode cX12_comesOut 15 = .ok (.iconst 1, 1) := by decide +kernel
theorem dX12_comesOut_16 : decode cX12_comesOut 16 = .ok (.isub, 1) := by decide +kernel
theorem dX12_comesOut_17 : decode cX12_comesOut 17 = .ok (.iaload, 1) := by decide +kernel
theorem dX12_comesOut_18 : decode cX12_comesOut 18 = .ok (.istore_n 2, 1) := by decide +kernel
theorem dX12_comesOut_19 : decode cX12_comesOut 19 = .ok (.iload_n 2, 1) := by decide +kernel
theorem dX12_comesOut_20 : decode cX12_comesOut 20 = .ok (.bipush 6, 2) := by decide +kernel
theorem dX12_comesOut_22 : decode cX12_comesOut 22 = .ok (.if_icmp .eq 19, 3) := by decide +kernel
theorem dX12_comesOut_25 : decode cX12_comesOut 25 = .ok (.iload_n 1, 1) := by decide +kernel
theorem dX12_comesOut_26 : decode cX12_comesOut 26 = .ok (.ifCond .eq 16, 3) := by decide +kernel
theorem dX12_comesOut_29 : decode cX12_comesOut 29 = .ok (.iload_n 2, 1) := by decide +kernel
theorem dX12_comesOut_30 : decode cX12_comesOut 30 = .ok (.bipush 8, 2) := by decide +kernel
theorem dX12_comesOut_32 : decode cX12_comesOut 32 = .ok (.if_icmp .eq 9, 3) := by decide +kernel
theorem dX12_comesOut_35 : decode cX12_comesOut 35 = .ok (.iload_n 2, 1) := by decide +kernel
theorem dX12_comesOut_36 : decode cX12_comesOut 36 = .ok (.bipush 9, 2) := by decide +kernel
theorem dX12_comesOut_38 : decode cX12_comesOut 38 = .ok (.if_icmp .ne 4, 3) := by decide +kernel
theorem dX12_comesOut_41 : decode cX12_comesOut 41 = .ok (.return_, 1) := by decide +kernel
theorem dX12_comesOut_42 : decode cX12_comesOut 42 = .ok (.aload_n 0, 1) := by decide +kernel
theorem dX12_comesOut_43 : decode cX12_comesOut 43 = .ok (.dup, 1) := by decide +kernel
theorem dX12_comesOut_44 : decode cX12_comesOut 44 = .ok (.getfield 306, 3) := by decide +kernel
theorem dX12_comesOut_47 : decode cX12_comesOut 47 = .ok (.iconst 1, 1) := by decide +kernel
theorem dX12_comesOut_48 : decode cX12_comesOut 48 = .ok (.isub, 1) := by decide +kernel
theorem dX12_comesOut_49 : decode cX12_comesOut 49 = .ok (.putfield 306, 3) := by decide +kernel
theorem dX12_comesOut_52 : decode cX12_comesOut 52 = .ok (.aload_n 0, 1) := by decide +kernel
theorem dX12_comesOut_53 : decode cX12_comesOut 53 = .ok (.iload_n 2, 1) := by decide +kernel
theorem dX12_comesOut_54 : decode cX12_comesOut 54 = .ok (.bipush 8, 2) := by decide +kernel
theorem dX12_comesOut_56 : decode cX12_comesOut 56 = .ok (.if_icmp .ne 7, 3) := by decide +kernel
theorem dX12_comesOut_59 : decode cX12_comesOut 59 = .ok (.iconst 2, 1) := by decide +kernel
theorem dX12_comesOut_60 : decode cX12_comesOut 60 = .ok (.goto 24, 3) := by decide +kernel
theorem dX12_comesOut_63 : decode cX12_comesOut 63 = .ok (.iload_n 2, 1) := by decide +kernel
theorem dX12_comesOut_64 : decode cX12_comesOut 64 = .ok (.bipush 9, 2) := by decide +kernel
theorem dX12_comesOut_66 : decode cX12_comesOut 66 = .ok (.if_icmp .ne 7, 3) := by decide +kernel
theorem dX12_comesOut_69 : decode cX12_comesOut 69 = .ok (.iconst 3, 1) := by decide +kernel
theorem dX12_comesOut_70 : decode cX12_comesOut 70 = .ok (.goto 14, 3) := by decide +kernel
theorem dX12_comesOut_73 : decode cX12_comesOut 73 = .ok (.iload_n 2, 1) := by decide +kernel
theorem dX12_comesOut_74 : decode cX12_comesOut 74 = .ok (.bipush 10, 2) := by decide +kernel
theorem dX12_comesOut_76 : decode cX12_comesOut 76 = .ok (.if_icmp .ne 7, 3) := by decide +kernel
theorem dX12_comesOut_79 : decode cX12_comesOut 79 = .ok (.iconst 4, 1) := by decide +kernel
theorem dX12_comesOut_80 : decode cX12_comesOut 80 = .ok (.goto 4, 3) := by decide +kernel
theorem dX12_comesOut_83 : decode cX12_comesOut 83 = .ok (.iconst 5, 1) := by decide +kernel
theorem dX12_comesOut_84 : decode cX12_comesOut 84 = .ok (.iconst 0, 1) := by decide +kernel
theorem dX12_comesOut_85 : decode cX12_comesOut 85 = .ok (.invokevirtual 309, 3) := by decide +kernel
theorem dX12_comesOut_88 : decode cX12_comesOut 88 = .ok (.goto (-88), 3) := by decide +kernel
theorem dX12_comesOut_91 : decode cX12_comesOut 91 = .ok (.return_, 1) := by decide +kernel
theorem dX12_condition_0 : decode cX12_condition 0 = .ok (.aload_n 0, 1) := by decide +kernel
theorem dX12_condition_1 : decode cX12_condition 1 = .ok (.getfield 192, 3) := by decide +kernel
theorem dX12_condition_4 : decode cX12_condition 4 = .ok (.ifCond .le 5, 3) := by decide +kernel
theorem dX12_condition_7 : decode cX12_condition 7 = .ok (.lconst 0, 1) := by decide +kernel
theorem dX12_condition_8 : decode cX12_condition 8 = .ok (.lreturn, 1) := by decide +kernel
theorem dX12_condition_9 : decode cX12_condition 9 = .ok (.aload_n 0, 1) := by decide +kernel
theorem dX12_condition_10 : decode cX12_condition 10 = .ok (.invokevirtual 292, 3) := by decide +kernel
theorem dX12_condition_13 : decode cX12_condition 13 = .ok (.iconst 1, 1) := by decide +kernel
theorem dX12_condition_14 : decode cX12_condition 14 = .ok (.istore_n 1, 1) := by decide +kernel
theorem dX12_condition_15 : decode cX12_condition 15 = .ok (.iload_n 1, 1) := by decide +kernel
theorem dX12_condition_16 : decode cX12_condition 16 = .ok (.ifCond .eq 102, 3) := by decide +kernel
theorem dX12_condition_19 : decode cX12_condition 19 = .ok (.aload_n 0, 1) := by decide +kernel
theorem dX12_condition_20 : decode cX12_condition 20 = .ok (.getfield 192, 3) := by decide +kernel
theorem dX12_condition_23 : decode cX12_condition 23 = .ok (.ifCond .ne 95, 3) := by decide +kernel
theorem dX12_condition_26 : decode cX12_condition 26 = .ok (.aload_n 0, 1) := by decide +kernel
theorem dX12_condition_27 : decode cX12_condition 27 = .ok (.invokevirtual 295, 3) := by decide +kernel
theorem dX12_condition_30 : decode cX12_condition 30 = .ok (.aload_n 0, 1) := by decide +kernel
theorem dX12_condition_31 : decode cX12_condition 31 = .ok (.bipush 6, 2) := by decide +kernel
theorem dX12_condition_33 : decode cX12_condition 33 = .ok (.invokevirtual 210, 3) := by decide +kernel
theorem dX12_condition_36 : decode cX12_condition 36 = .ok (.ifCond .eq 47, 3) := by decide +kernel
theorem dX12_condition_39 : decode cX12_condition 39 = .ok (.aload_n 0, 1) := by decide +kernel
theorem dX12_condition_40 : decode cX12_condition 40 = .ok (.getfield 219, 3) := by decide +kernel
theorem dX12_condition_43 : decode cX12_condition 43 = .ok (.bipush 6, 2) := by decide +kernel
theorem dX12_condition_45 : decode cX12_condition 45 = .ok (.if_icmp .ne 8, 3) := by decide +kernel
theorem dX12_condition_48 : decode cX12_condition 48 = .ok (.aload_n 0, 1) := by decide +kernel
theorem dX12_condition_49 : decode cX12_condition 49 = .ok (.iconst 2, 1) := by decide +kernel
theorem dX12_condition_50 : decode cX12_condition 50 = .ok (.invokevirtual 207, 3) := by decide +kernel
theorem dX12_condition_53 : decode cX12_condition 53 = .ok (.aload_n 0, 1) := by decide +kernel
theorem dX12_condition_54 : decode cX12_condition 54 = .ok (.getfield 192, 3) := by decide +kernel
theorem dX12_condition_57 : decode cX12_condition 57 = .ok (.ifCond .le 5, 3) := by decide +kernel
theorem dX12_condition_60 : decode cX12_condition 60 = .ok (.lconst 0, 1) := by decide +kernel
theorem dX12_condition_61 : decode cX12_condition 61 = .ok (.lreturn, 1) := by decide +kernel
theorem dX12_condition_62 : decode cX12_condition 62 = .ok (.aload_n 0, 1) := by decide +kernel
theorem dX12_condition_63 : decode cX12_condition 63 = .ok (.dup, 1) := by decide +kernel
theorem dX12_condition_64 : decode cX12_condition 64 = .ok (.getfield 219, 3) := by decide +kernel
theorem dX12_condition_67 : decode cX12_condition 67 = .ok (.iconst 1, 1) := by decide +kernel
theorem dX12_condition_68 : decode cX12_condition 68 = .ok (.iadd, 1) := by decide +kernel
theorem dX12_condition_69 : decode cX12_condition 69 = .ok (.putfield 219, 3) := by decide +kernel
theorem dX12_condition_72 : decode cX12_condition 72 = .ok (.aload_n 0, 1) := by decide +kernel
theorem dX12_condition_73 : decode cX12_condition 73 = .ok (.invokevirtual 213, 3) := by decide +kernel
theorem dX12_condition_76 : decode cX12_condition 76 = .ok (.aload_n 0, 1) := by decide +kernel
theorem dX12_condition_77 : decode cX12_condition 77 = .ok (.invokevirtual 292, 3) := by decide +kernel
theorem dX12_condition_80 : decode cX12_condition 80 = .ok (.goto (-65), 3) := by decide +kernel
theorem dX12_condition_83 : decode cX12_condition 83 = .ok (.aload_n 0, 1) := by decide +kernel
theorem dX12_condition_84 : decode cX12_condition 84 = .ok (.iconst 0, 1) := by decide +kernel
theorem dX12_condition_85 : decode cX12_condition 85 = .ok (.invokevirtual 283, 3) := by decide +kernel
theorem dX12_condition_88 : decode cX12_condition 88 = .ok (.istore_n 2, 1) := by decide +kernel
theorem dX12_condition_89 : decode cX12_condition 89 = .ok (.aload_n 0, 1) := by decide +kernel
theorem dX12_condition_90 : decode cX12_condition 90 = .ok (.getfield 192, 3) := by decide +kernel
theorem dX12_condition_93 : decode cX12_condition 93 = .ok (.ifCond .le 5, 3) := by decide +kernel
theorem dX12_condition_96 : decode cX12_condition 96 = .ok (.lconst 0, 1) := by decide +kernel
theorem dX12_condition_97 : decode cX12_condition 97 = .ok (.lreturn, 1) := by decide +kernel
theorem dX12_condition_98 : decode cX12_condition 98 = .ok (.aload_n 0, 1) := by decide +kernel
theorem dX12_condition_99 : decode cX12_condition 99 = .ok (.iload_n 2, 1) := by decide +kernel
theorem dX12_condition_100 : decode cX12_condition 100 = .ok (.ifCond .ge 7, 3) := by decide +kernel
theorem dX12_condition_103 : decode cX12_condition 103 = .ok (.lconst 0, 1) := by decide +kernel
theorem dX12_condition_104 : decode cX12_condition 104 = .ok (.goto 7, 3) := by decide +kernel
theorem dX12_condition_107 : decode cX12_condition 107 = .ok (.iload_n 2, 1) := by decide +kernel
theorem dX12_condition_108 : decode cX12_condition 108 = .ok (.invokestatic 298, 3) := by decide +kernel
theorem dX12_condition_111 : decode cX12_condition 111 = .ok (.invokevirtual 302, 3) := by decide +kernel
theorem dX12_condition_114 : decode cX12_condition 114 = .ok (.istore_n 1, 1) := by decide +kernel
theorem dX12_condition_115 : decode cX12_condition 115 = .ok (.goto (-100), 3) := by decide +kernel
theorem dX12_condition_118 : decode cX12_condition 118 = .ok (.aload_n 0, 1) := by decide +kernel
theorem dX12_condition_119 : decode cX12_condition 119 = .ok (.getfield 98, 3) := by decide +kernel
theorem dX12_condition_122 : decode cX12_condition 122 = .ok (.iconst 0, 1) := by decide +kernel
theorem dX12_condition_123 : decode cX12_condition 123 = .ok (.laload, 1) := by decide +kernel
theorem dX12_condition_124 : decode cX12_condition 124 = .ok (.lreturn, 1) := by decide +kernel
theorem dX12_copies_0 : decode cX12_copies 0 = .ok (.iconst 0, 1) := by decide +kernel
theorem dX12_copies_1 : decode cX12_copies 1 = .ok (.istore_n 1, 1) := by decide +kernel
theorem dX12_copies_2 : decode cX12_copies 2 = .ok (.iload_n 1, 1) := by decide +kernel
theorem dX12_copies_3 : decode cX12_copies 3 = .ok (.bipush 40, 2) := by decide +kernel
theorem dX12_copies_5 : decode cX12_copies 5 = .ok (.if_icmp .ge 21, 3) := by decide +kernel
theorem dX12_copies_8 : decode cX12_copies 8 = .ok (.aload_n 0, 1) := by decide +kernel
theorem dX12_copies_9 : decode cX12_copies 9 = .ok (.getfield 119, 3) := by decide +kernel
theorem dX12_copies_12 : decode cX12_copies 12 = .ok (.iload_n 1, 1) := by decide +kernel
theorem dX12_copies_13 : decode cX12_copies 13 = .ok (.aload_n 0, 1) := by decide +kernel
theorem dX12_copies_14 : decode cX12_copies 14 = .ok (.getfield 116, 3) := by decide +kernel
theorem dX12_copies_17 : decode cX12_copies 17 = .ok (.iload_n 1, 1) := by decide +kernel
theorem dX12_copies_18 : decode cX12_copies 18 = .ok (.iaload, 1) := by decide +kernel
theorem dX12_copies_19 : decode cX12_copies 19 = .ok (.iastore, 1) := by decide +kernel
theorem dX12_copies_20 : decode cX12_copies 20 = .ok (.iinc 1 1, 3) := by decide +kernel
theorem dX12_copies_23 : decode cX12_copies 23 = .ok (.goto (-21), 3) := by decide +kernel
theorem dX12_copies_26 : decode cX12_copies 26 = .ok (.return_, 1) := by decide +kernel
theorem dX12_count_0 : decode cX12_count 0 = .ok (.iload_n 1, 1) := by decide +kernel
theorem dX12_count_1 : decode cX12_count 1 = .ok (.tableswitch 202 0 11 #[63, 73, 83, 93, 103, 113, 123, 133, 142, 147, 152, 157], 63) := by decide +kernel
theorem dX12_count_64 : decode cX12_count 64 = .ok (.aload_n 0, 1) := by decide +kernel
theorem dX12_count_65 : decode cX12_count 65 = .ok (.getfield 49, 3) := by decide +kernel
theorem dX12_count_68 : decode cX12_count 68 = .ok (.aload_n 0, 1) := by decide +kernel
theorem dX12_count_69 : decode cX12_count 69 = .ok (.getfield 222, 3) := by decide +kernel
theorem dX12_count_72 : decode cX12_count 72 = .ok (.iaload, 1) := by decide +kernel
theorem dX12_count_73 : decode cX12_count 73 = .ok (.ireturn, 1) := by decide +kernel
theorem dX12_count_74 : decode cX12_count 74 = .ok (.aload_n 0, 1) := by decide +kernel
theorem dX12_count_75 : decode cX12_count 75 = .ok (.getfield 58, 3) := by decide +kernel
theorem dX12_count_78 : decode cX12_count 78 = .ok (.aload_n 0, 1) := by decide +kernel
theorem dX12_count_79 : decode cX12_count 79 = .ok (.getfield 222, 3) := by decide +kernel
theorem dX12_count_82 : decode cX12_count 82 = .ok (.iaload, 1) := by decide +kernel
theorem dX12_count_83 : decode cX12_count 83 = .ok (.ireturn, 1) := by decide +kernel
theorem dX12_count_84 : decode cX12_count 84 = .ok (.aload_n 0, 1) := by decide +kernel
theorem dX12_count_85 : decode cX12_count 85 = .ok (.getfield 61, 3) := by decide +kernel
theorem dX12_count_88 : decode cX12_count 88 = .ok (.aload_n 0, 1) := by decide +kernel
theorem dX12_count_89 : decode cX12_count 89 = .ok (.getfield 222, 3) := by decide +kernel
theorem dX12_count_92 : decode cX12_count 92 = .ok (.iaload, 1) := by decide +kernel
theorem dX12_count_93 : decode cX12_count 93 = .ok (.ireturn, 1) := by decide +kernel
theorem dX12_count_94 : decode cX12_count 94 = .ok (.aload_n 0, 1) := by decide +kernel
theorem dX12_count_95 : decode cX12_count 95 = .ok (.getfield 74, 3) := by decide +kernel
theorem dX12_count_98 : decode cX12_count 98 = .ok (.aload_n 0, 1) := by decide +kernel
theorem dX12_count_99 : decode cX12_count 99 = .ok (.getfield 222, 3) := by decide +kernel
theorem dX12_count_102 : decode cX12_count 102 = .ok (.iaload, 1) := by decide +kernel
theorem dX12_count_103 : decode cX12_count 103 = .ok (.ireturn, 1) := by decide +kernel
theorem dX12_count_104 : decode cX12_count 104 = .ok (.aload_n 0, 1) := by decide +kernel
theorem dX12_count_105 : decode cX12_count 105 = .ok (.getfield 116, 3) := by decide +kernel
theorem dX12_count_108 : decode cX12_count 108 = .ok (.iconst 3, 1) := by decide +kernel
theorem dX12_count_109 : decode cX12_count 109 = .ok (.iaload, 1) := by decide +kernel
theorem dX12_count_110 : decode cX12_count 110 = .ok (.invokestatic 346, 3) := by decide +kernel
theorem dX12_count_113 : decode cX12_count 113 = .ok (.ireturn, 1) := by decide +kernel
theorem dX12_count_114 : decode cX12_count 114 = .ok (.aload_n 0, 1) := by decide +kernel
theorem dX12_count_115 : decode cX12_count 115 = .ok (.getfield 116, 3) := by decide +kernel
theorem dX12_count_118 : decode cX12_count 118 = .ok (.iconst 1, 1) := by decide +kernel
theorem dX12_count_119 : decode cX12_count 119 = .ok (.iaload, 1) := by decide +kernel
theorem dX12_count_120 : decode cX12_count 120 = .ok (.invokestatic 346, 3) := by decide +kernel
theorem dX12_count_123 : decode cX12_count 123 = .ok (.ireturn, 1) := by decide +kernel
theorem dX12_count_124 : decode cX12_count 124 = .ok (.aload_n 0, 1) := by decide +kernel
theorem dX12_count_125 : decode cX12_count 125 = .ok (.getfield 116, 3) := by decide +kernel
theorem dX12_count_128 : decode cX12_count 128 = .ok (.iconst 2, 1) := by decide +kernel
theorem dX12_count_129 : decode cX12_count 129 = .ok (.iaload, 1) := by decide +kernel
theorem dX12_count_130 : decode cX12_count 130 = .ok (.invokestatic 346, 3) := by decide +kernel
theorem dX12_count_133 : decode cX12_count 133 = .ok (.ireturn, 1) := by decide +kernel
theorem dX12_count_134 : decode cX12_count 134 = .ok (.aload_n 0, 1) := by decide +kernel
theorem dX12_count_135 : decode cX12_count 135 = .ok (.invokevirtual 384, 3) := by decide +kernel
theorem dX12_count_138 : decode cX12_count 138 = .ok (.aload_n 0, 1) := by decide +kernel
theorem dX12_count_139 : decode cX12_count 139 = .ok (.invokevirtual 349, 3) := by decide +kernel
theorem dX12_count_142 : decode cX12_count 142 = .ok (.ireturn, 1) := by decide +kernel
theorem dX12_count_143 : decode cX12_count 143 = .ok (.aload_n 0, 1) := by decide +kernel
theorem dX12_count_144 : decode cX12_count 144 = .ok (.getfield 243, 3) := by decide +kernel
theorem dX12_count_147 : decode cX12_count 147 = .ok (.ireturn, 1) := by decide +kernel
theorem dX12_count_148 : decode cX12_count 148 = .ok (.aload_n 0, 1) := by decide +kernel
theorem dX12_count_149 : decode cX12_count 149 = .ok (.getfield 154, 3) := by decide +kernel
theorem dX12_count_152 : decode cX12_count 152 = .ok (.ireturn, 1) := by decide +kernel
theorem dX12_count_153 : decode cX12_count 153 = .ok (.aload_n 0, 1) := by decide +kernel
theorem dX12_count_154 : decode cX12_count 154 = .ok (.getfield 240, 3) := by decide +kernel
theorem dX12_count_157 : decode cX12_count 157 = .ok (.ireturn, 1) := by decide +kernel
theorem dX12_count_158 : decode cX12_count 158 = .ok (.aload_n 0, 1) := by decide +kernel
theorem dX12_count_159 : decode cX12_count 159 = .ok (.getfield 144, 3) := by decide +kernel
theorem dX12_count_162 : decode cX12_count 162 = .ok (.iconst 0, 1) := by decide +kernel
theorem dX12_count_163 : decode cX12_count 163 = .ok (.baload, 1) := by decide +kernel
theorem dX12_count_164 : decode cX12_count 164 = .ok (.ifCond .eq 7, 3) := by decide +kernel
theorem dX12_count_167 : decode cX12_count 167 = .ok (.iconst 1, 1) := by decide +kernel
theorem dX12_count_168 : decode cX12_count 168 = .ok (.goto 4, 3) := by decide +kernel
theorem dX12_count_171 : decode cX12_count 171 = .ok (.iconst 0, 1) := by decide +kernel
theorem dX12_count_172 : decode cX12_count 172 = .ok (.aload_n 0, 1) := by decide +kernel
theorem dX12_count_173 : decode cX12_count 173 = .ok (.getfield 144, 3) := by decide +kernel
theorem dX12_count_176 : decode cX12_count 176 = .ok (.iconst 1, 1) := by decide +kernel
theorem dX12_count_177 : decode cX12_count 177 = .ok (.baload, 1) := by decide +kernel
theorem dX12_count_178 : decode cX12_count 178 = .ok (.ifCond .eq 7, 3) := by decide +kernel
theorem dX12_count_181 : decode cX12_count 181 = .ok (.iconst 1, 1) := by decide +kernel
theorem dX12_count_182 : decode cX12_count 182 = .ok (.goto 4, 3) := by decide +kernel
theorem dX12_count_185 : decode cX12_count 185 = .ok (.iconst 0, 1) := by decide +kernel
theorem dX12_count_186 : decode cX12_count 186 = .ok (.iadd, 1) := by decide +kernel
theorem dX12_count_187 : decode cX12_count 187 = .ok (.aload_n 0, 1) := by decide +kernel
theorem dX12_count_188 : decode cX12_count 188 = .ok (.getfield 144, 3) := by decide +kernel
theorem dX12_count_191 : decode cX12_count 191 = .ok (.iconst 2, 1) := by decide +kernel
theorem dX12_count_192 : decode cX12_count 192 = .ok (.baload, 1) := by decide +kernel
theorem dX12_count_193 : decode cX12_count 193 = .ok (.ifCond .eq 7, 3) := by decide +kernel
theorem dX12_count_196 : decode cX12_count 196 = .ok (.iconst 1, 1) := by decide +kernel
theorem dX12_count_197 : decode cX12_count 197 = .ok (.goto 4, 3) := by decide +kernel
theorem dX12_count_200 : decode cX12_count 200 = .ok (.iconst 0, 1) := by decide +kernel
theorem dX12_count_201 : decode cX12_count 201 = .ok (.iadd, 1) := by decide +kernel
theorem dX12_count_202 : decode cX12_count 202 = .ok (.ireturn, 1) := by decide +kernel
theorem dX12_count_203 : decode cX12_count 203 = .ok (.iconst (-1), 1) := by decide +kernel
theorem dX12_count_204 : decode cX12_count 204 = .ok (.ireturn, 1) := by decide +kernel
theorem dX12_cut_0 : decode cX12_cut 0 = .ok (.aload_n 0, 1) := by decide +kernel
theorem dX12_cut_1 : decode cX12_cut 1 = .ok (.iconst 0, 1) := by decide +kernel
theorem dX12_cut_2 : decode cX12_cut 2 = .ok (.putfield 170, 3) := by decide +kernel
theorem dX12_cut_5 : decode cX12_cut 5 = .ok (.iconst 0, 1) := by decide +kernel
theorem dX12_cut_6 : decode cX12_cut 6 = .ok (.istore_n 1, 1) := by decide +kernel
theorem dX12_cut_7 : decode cX12_cut 7 = .ok (.aload_n 0, 1) := by decide +kernel
theorem dX12_cut_8 : decode cX12_cut 8 = .ok (.getfield 170, 3) := by decide +kernel
theorem dX12_cut_11 : decode cX12_cut 11 = .ok (.sipush 400, 3) := by decide +kernel
theorem dX12_cut_14 : decode cX12_cut 14 = .ok (.if_icmp .gt 280, 3) := by decide +kernel
theorem dX12_cut_17 : decode cX12_cut 17 = .ok (.aload_n 0, 1) := by decide +kernel
theorem dX12_cut_18 : decode cX12_cut 18 = .ok (.iload_n 1, 1) := by decide +kernel
theorem dX12_cut_19 : decode cX12_cut 19 = .ok (.invokevirtual 173, 3) := by decide +kernel
theorem dX12_cut_22 : decode cX12_cut 22 = .ok (.istore_n 2, 1) := by decide +kernel
theorem dX12_cut_23 : decode cX12_cut 23 = .ok (.iload_n 1, 1) := by decide +kernel
theorem dX12_cut_24 : decode cX12_cut 24 = .ok (.aload_n 0, 1) := by decide +kernel
theorem dX12_cut_25 : decode cX12_cut 25 = .ok (.getfield 161, 3) := by decide +kernel
theorem dX12_cut_28 : decode cX12_cut 28 = .ok (.if_icmp .lt 15, 3) := by decide +kernel
theorem dX12_cut_31 : decode cX12_cut 31 = .ok (.aload_n 0, 1) := by decide +kernel
theorem dX12_cut_32 : decode cX12_cut 32 = .ok (.iconst 0, 1) := by decide +kernel
theorem dX12_cut_33 : decode cX12_cut 33 = .ok (.aload_n 0, 1) := by decide +kernel
theorem dX12_cut_34 : decode cX12_cut 34 = .ok (.getfield 161, 3) := by decide +kernel
theorem dX12_cut_37 : decode cX12_cut 37 = .ok (.iconst 0, 1) := by decide +kernel
theorem dX12_cut_38 : decode cX12_cut 38 = .ok (.lconst 0, 1) := by decide +kernel
theorem dX12_cut_39 : decode cX12_cut 39 = .ok (.invokevirtual 177, 3) := by decide +kernel
theorem dX12_cut_42 : decode cX12_cut 42 = .ok (.return_, 1) := by decide +kernel
theorem dX12_cut_43 : decode cX12_cut 43 = .ok (.iload_n 2, 1) := by decide +kernel
theorem dX12_cut_44 : decode cX12_cut 44 = .ok (.bipush 9, 2) := by decide +kernel
theorem dX12_cut_46 : decode cX12_cut 46 = .ok (.if_icmp .eq 21, 3) := by decide +kernel
theorem dX12_cut_49 : decode cX12_cut 49 = .ok (.iload_n 2, 1) := by decide +kernel
theorem dX12_cut_50 : decode cX12_cut 50 = .ok (.bipush 10, 2) := by decide +kernel
theorem dX12_cut_52 : decode cX12_cut 52 = .ok (.if_icmp .eq 15, 3) := by decide +kernel
theorem dX12_cut_55 : decode cX12_cut 55 = .ok (.iload_n 2, 1) := by decide +kernel
theorem dX12_cut_56 : decode cX12_cut 56 = .ok (.bipush 13, 2) := by decide +kernel
theorem dX12_cut_58 : decode cX12_cut 58 = .ok (.if_icmp .eq 9, 3) := by decide +kernel
theorem dX12_cut_61 : decode cX12_cut 61 = .ok (.iload_n 2, 1) := by decide +kernel
theorem dX12_cut_62 : decode cX12_cut 62 = .ok (.bipush 32, 2) := by decide +kernel
theorem dX12_cut_64 : decode cX12_cut 64 = .ok (.if_icmp .ne 9, 3) := by decide +kernel
theorem dX12_cut_67 : decode cX12_cut 67 = .ok (.iinc 1 1, 3) := by decide +kernel
theorem dX12_cut_70 : decode cX12_cut 70 = .ok (.goto 221, 3) := by decide +kernel
theorem dX12_cut_73 : decode cX12_cut 73 = .ok (.iload_n 2, 1) := by decide +kernel
theorem dX12_cut_74 : decode cX12_cut 74 = .ok (.invokestatic 181, 3) := by decide +kernel
theorem dX12_cut_77 : decode cX12_cut 77 = .ok (.ifCond .eq 119, 3) := by decide +kernel
theorem dX12_cut_80 : decode cX12_cut 80 = .ok (.iconst 0, 1) := by decide +kernel
theorem dX12_cut_81 : decode cX12_cut 81 = .ok (.istore_n 3, 1) := by decide +kernel
theorem dX12_cut_82 : decode cX12_cut 82 = .ok (.lconst 0, 1) := by decide +kernel
theorem dX12_cut_83 : decode cX12_cut 83 = .ok (.lstore 4, 2) := by decide +kernel
theorem dX12_cut_85 : decode cX12_cut 85 = .ok (.aload_n 0, 1) := by decide +kernel
theorem dX12_cut_86 : decode cX12_cut 86 = .ok (.iload_n 1, 1) := by decide +kernel
theorem dX12_cut_87 : decode cX12_cut 87 = .ok (.iload_n 3, 1) := by decide +kernel
theorem dX12_cut_88 : decode cX12_cut 88 = .ok (.iadd, 1) := by decide +kernel
theorem dX12_cut_89 : decode cX12_cut 89 = .ok (.invokevirtual 173, 3) := by decide +kernel
theorem dX12_cut_92 : decode cX12_cut 92 = .ok (.invokestatic 181, 3) := by decide +kernel
theorem dX12_cut_95 : decode cX12_cut 95 = .ok (.ifCond .eq 29, 3) := by decide +kernel
theorem dX12_cut_98 : decode cX12_cut 98 = .ok (.iload_n 3, 1) := by decide +kernel
theorem dX12_cut_99 : decode cX12_cut 99 = .ok (.bipush 8, 2) := by decide +kernel
theorem dX12_cut_101 : decode cX12_cut 101 = .ok (.if_icmp .ge 17, 3) := by decide +kernel
theorem dX12_cut_104 : decode cX12_cut 104 = .ok (.lload 4, 2) := by decide +kernel
theorem dX12_cut_106 : decode cX12_cut 106 = .ok (.aload_n 0, 1) := by decide +kernel
theorem dX12_cut_107 : decode cX12_cut 107 = .ok (.iload_n 1, 1) := by decide +kernel
theorem dX12_cut_108 : decode cX12_cut 108 = .ok (.iload_n 3, 1) := by decide +kernel
theorem dX12_cut_109 : decode cX12_cut 109 = .ok (.iadd, 1) := by decide +kernel
theorem dX12_cut_110 : decode cX12_cut 110 = .ok (.invokevirtual 173, 3) := by decide +kernel
theorem dX12_cut_113 : decode cX12_cut 113 = .ok (.invokestatic 166, 3) := by decide +kernel
theorem dX12_cut_116 : decode cX12_cut 116 = .ok (.lstore 4, 2) := by decide +kernel
theorem dX12_cut_118 : decode cX12_cut 118 = .ok (.iinc 3 1, 3) := by decide +kernel
theorem dX12_cut_121 : decode cX12_cut 121 = .ok (.goto (-36), 3) := by decide +kernel
theorem dX12_cut_124 : decode cX12_cut 124 = .ok (.iload_n 3, 1) := by decide +kernel
theorem dX12_cut_125 : decode cX12_cut 125 = .ok (.bipush 8, 2) := by decide +kernel
theorem dX12_cut_127 : decode cX12_cut 127 = .ok (.if_icmp .le 7, 3) := by decide +kernel
theorem dX12_cut_130 : decode cX12_cut 130 = .ok (.iconst 3, 1) := by decide +kernel
theorem dX12_cut_131 : decode cX12_cut 131 = .ok (.goto 4, 3) := by decide +kernel
theorem dX12_cut_134 : decode cX12_cut 134 = .ok (.iconst 1, 1) := by decide +kernel
theorem dX12_cut_135 : decode cX12_cut 135 = .ok (.istore 6, 2) := by decide +kernel
theorem dX12_cut_137 : decode cX12_cut 137 = .ok (.iload_n 3, 1) := by decide +kernel
theorem dX12_cut_138 : decode cX12_cut 138 = .ok (.bipush 7, 2) := by decide +kernel
theorem dX12_cut_140 : decode cX12_cut 140 = .ok (.if_icmp .gt 39, 3) := by decide +kernel
theorem dX12_cut_143 : decode cX12_cut 143 = .ok (.iconst 0, 1) := by decide +kernel
theorem dX12_cut_144 : decode cX12_cut 144 = .ok (.istore 7, 2) := by decide +kernel
theorem dX12_cut_146 : decode cX12_cut 146 = .ok (.iload 7, 2) := by decide +kernel
theorem dX12_cut_148 : decode cX12_cut 148 = .ok (.bipush 18, 2) := by decide +kernel
theorem dX12_cut_150 : decode cX12_cut 150 = .ok (.if_icmp .ge 29, 3) := by decide +kernel
theorem dX12_cut_153 : decode cX12_cut 153 = .ok (.aload_n 0, 1) := by decide +kernel
theorem dX12_cut_154 : decode cX12_cut 154 = .ok (.getfield 34, 3) := by decide +kernel
theorem dX12_cut_157 : decode cX12_cut 157 = .ok (.iload 7, 2) := by decide +kernel
theorem dX12_cut_159 : decode cX12_cut 159 = .ok (.laload, 1) := by decide +kernel
theorem dX12_cut_160 : decode cX12_cut 160 = .ok (.lload 4, 2) := by decide +kernel
theorem dX12_cut_162 : decode cX12_cut 162 = .ok (.lcmp, 1) := by decide +kernel
theorem dX12_cut_163 : decode cX12_cut 163 = .ok (.ifCond .ne 10, 3) := by decide +kernel
theorem dX12_cut_166 : decode cX12_cut 166 = .ok (.bipush 20, 2) := by decide +kernel
theorem dX12_cut_168 : decode cX12_cut 168 = .ok (.iload 7, 2) := by decide +kernel
theorem dX12_cut_170 : decode cX12_cut 170 = .ok (.iadd, 1) := by decide +kernel
theorem dX12_cut_171 : decode cX12_cut 171 = .ok (.istore 6, 2) := by decide +kernel
theorem dX12_cut_173 : decode cX12_cut 173 = .ok (.iinc 7 1, 3) := by decide +kernel
theorem dX12_cut_176 : decode cX12_cut 176 = .ok (.goto (-30), 3) := by decide +kernel
theorem dX12_cut_179 : decode cX12_cut 179 = .ok (.aload_n 0, 1) := by decide +kernel
theorem dX12_cut_180 : decode cX12_cut 180 = .ok (.iload 6, 2) := by decide +kernel
theorem dX12_cut_182 : decode cX12_cut 182 = .ok (.iload_n 1, 1) := by decide +kernel
theorem dX12_cut_183 : decode cX12_cut 183 = .ok (.iconst 0, 1) := by decide +kernel
theorem dX12_cut_184 : decode cX12_cut 184 = .ok (.lload 4, 2) := by decide +kernel
theorem dX12_cut_186 : decode cX12_cut 186 = .ok (.invokevirtual 177, 3) := by decide +kernel
theorem dX12_cut_189 : decode cX12_cut 189 = .ok (.iload_n 1, 1) := by decide +kernel
theorem dX12_cut_190 : decode cX12_cut 190 = .ok (.iload_n 3, 1) := by decide +kernel
theorem dX12_cut_191 : decode cX12_cut 191 = .ok (.iadd, 1) := by decide +kernel
theorem dX12_cut_192 : decode cX12_cut 192 = .ok (.istore_n 1, 1) := by decide +kernel
theorem dX12_cut_193 : decode cX12_cut 193 = .ok (.goto 98, 3) := by decide +kernel
theorem dX12_cut_196 : decode cX12_cut 196 = .ok (.iload_n 2, 1) := by decide +kernel
theorem dX12_cut_197 : decode cX12_cut 197 = .ok (.invokestatic 185, 3) := by decide +kernel
theorem dX12_cut_200 : decode cX12_cut 200 = .ok (.ifCond .eq 75, 3) := by decide +kernel
theorem dX12_cut_203 : decode cX12_cut 203 = .ok (.iconst 0, 1) := by decide +kernel
theorem dX12_cut_204 : decode cX12_cut 204 = .ok (.istore_n 3, 1) := by decide +kernel
theorem dX12_cut_205 : decode cX12_cut 205 = .ok (.iconst 0, 1) := by decide +kernel
theorem dX12_cut_206 : decode cX12_cut 206 = .ok (.istore 4, 2) := by decide +kernel
theorem dX12_cut_208 : decode cX12_cut 208 = .ok (.aload_n 0, 1) := by decide +kernel
theorem dX12_cut_209 : decode cX12_cut 209 = .ok (.iload_n 1, 1) := by decide +kernel
theorem dX12_cut_210 : decode cX12_cut 210 = .ok (.iload_n 3, 1) := by decide +kernel
theorem dX12_cut_211 : decode cX12_cut 211 = .ok (.iadd, 1) := by decide +kernel
theorem dX12_cut_212 : decode cX12_cut 212 = .ok (.invokevirtual 173, 3) := by decide +kernel
theorem dX12_cut_215 : decode cX12_cut 215 = .ok (.invokestatic 185, 3) := by decide +kernel
theorem dX12_cut_218 : decode cX12_cut 218 = .ok (.ifCond .eq 32, 3) := by decide +kernel
theorem dX12_cut_221 : decode cX12_cut 221 = .ok (.iload_n 3, 1) := by decide +kernel
theorem dX12_cut_222 : decode cX12_cut 222 = .ok (.iconst 4, 1) := by decide +kernel
theorem dX12_cut_223 : decode cX12_cut 223 = .ok (.if_icmp .ge 21, 3) := by decide +kernel
theorem dX12_cut_226 : decode cX12_cut 226 = .ok (.bipush 10, 2) := by decide +kernel
theorem dX12_cut_228 : decode cX12_cut 228 = .ok (.iload 4, 2) := by decide +kernel
theorem dX12_cut_230 : decode cX12_cut 230 = .ok (.imul, 1) := by decide +kernel
theorem dX12_cut_231 : decode cX12_cut 231 = .ok (.aload_n 0, 1) := by decide +kernel
theorem dX12_cut_232 : decode cX12_cut 232 = .ok (.iload_n 1, 1) := by decide +kernel
theorem dX12_cut_233 : decode cX12_cut 233 = .ok (.iload_n 3, 1) := by decide +kernel
theorem dX12_cut_234 : decode cX12_cut 234 = .ok (.iadd, 1) := by decide +kernel
theorem dX12_cut_235 : decode cX12_cut 235 = .ok (.invokevirtual 173, 3) := by decide +kernel
theorem dX12_cut_238 : decode cX12_cut 238 = .ok (.iadd, 1) := by decide +kernel
theorem dX12_cut_239 : decode cX12_cut 239 = .ok (.bipush 48, 2) := by decide +kernel
theorem dX12_cut_241 : decode cX12_cut 241 = .ok (.isub, 1) := by decide +kernel
theorem dX12_cut_242 : decode cX12_cut 242 = .ok (.istore 4, 2) := by decide +kernel
theorem dX12_cut_244 : decode cX12_cut 244 = .ok (.iinc 3 1, 3) := by decide +kernel
theorem dX12_cut_247 : decode cX12_cut 247 = .ok (.goto (-39), 3) := by decide +kernel
theorem dX12_cut_250 : decode cX12_cut 250 = .ok (.aload_n 0, 1) := by decide +kernel
theorem dX12_cut_251 : decode cX12_cut 251 = .ok (.iload_n 3, 1) := by decide +kernel
theorem dX12_cut_252 : decode cX12_cut 252 = .ok (.iconst 4, 1) := by decide +kernel
theorem dX12_cut_253 : decode cX12_cut 253 = .ok (.if_icmp .le 7, 3) := by decide +kernel
theorem dX12_cut_256 : decode cX12_cut 256 = .ok (.iconst 3, 1) := by decide +kernel
theorem dX12_cut_257 : decode cX12_cut 257 = .ok (.goto 4, 3) := by decide +kernel
theorem dX12_cut_260 : decode cX12_cut 260 = .ok (.iconst 2, 1) := by decide +kernel
theorem dX12_cut_261 : decode cX12_cut 261 = .ok (.iload_n 1, 1) := by decide +kernel
theorem dX12_cut_262 : decode cX12_cut 262 = .ok (.iload 4, 2) := by decide +kernel
theorem dX12_cut_264 : decode cX12_cut 264 = .ok (.lconst 0, 1) := by decide +kernel
theorem dX12_cut_265 : decode cX12_cut 265 = .ok (.invokevirtual 177, 3) := by decide +kernel
theorem dX12_cut_268 : decode cX12_cut 268 = .ok (.iload_n 1, 1) := by decide +kernel
theorem dX12_cut_269 : decode cX12_cut 269 = .ok (.iload_n 3, 1) := by decide +kernel
theorem dX12_cut_270 : decode cX12_cut 270 = .ok (.iadd, 1) := by decide +kernel
theorem dX12_cut_271 : decode cX12_cut 271 = .ok (.istore_n 1, 1) := by decide +kernel
theorem dX12_cut_272 : decode cX12_cut 272 = .ok (.goto 19, 3) := by decide +kernel
theorem dX12_cut_275 : decode cX12_cut 275 = .ok (.iload_n 1, 1) := by decide +kernel
theorem dX12_cut_276 : decode cX12_cut 276 = .ok (.aload_n 0, 1) := by decide +kernel
theorem dX12_cut_277 : decode cX12_cut 277 = .ok (.iload_n 1, 1) := by decide +kernel
theorem dX12_cut_278 : decode cX12_cut 278 = .ok (.iload_n 2, 1) := by decide +kernel
theorem dX12_cut_279 : decode cX12_cut 279 = .ok (.aload_n 0, 1) := by decide +kernel
theorem dX12_cut_280 : decode cX12_cut 280 = .ok (.iload_n 1, 1) := by decide +kernel
theorem dX12_cut_281 : decode cX12_cut 281 = .ok (.iconst 1, 1) := by decide +kernel
theorem dX12_cut_282 : decode cX12_cut 282 = .ok (.iadd, 1) := by decide +kernel
theorem dX12_cut_283 : decode cX12_cut 283 = .ok (.invokevirtual 173, 3) := by decide +kernel
theorem dX12_cut_286 : decode cX12_cut 286 = .ok (.invokevirtual 188, 3) := by decide +kernel
theorem dX12_cut_289 : decode cX12_cut 289 = .ok (.iadd, 1) := by decide +kernel
theorem dX12_cut_290 : decode cX12_cut 290 = .ok (.istore_n 1, 1) := by decide +kernel
theorem dX12_cut_291 : decode cX12_cut 291 = .ok (.goto (-284), 3) := by decide +kernel
theorem dX12_cut_294 : decode cX12_cut 294 = .ok (.return_, 1) := by decide +kernel
theorem dX12_emit_0 : decode cX12_emit 0 = .ok (.aload_n 0, 1) := by decide +kernel
theorem dX12_emit_1 : decode cX12_emit 1 = .ok (.getfield 92, 3) := by decide +kernel
theorem dX12_emit_4 : decode cX12_emit 4 = .ok (.aload_n 0, 1) := by decide +kernel
theorem dX12_emit_5 : decode cX12_emit 5 = .ok (.getfield 231, 3) := by decide +kernel
theorem dX12_emit_8 : decode cX12_emit 8 = .ok (.iload_n 1, 1) := by decide +kernel
theorem dX12_emit_9 : decode cX12_emit 9 = .ok (.iastore, 1) := by decide +kernel
theorem dX12_emit_10 : decode cX12_emit 10 = .ok (.aload_n 0, 1) := by decide +kernel
theorem dX12_emit_11 : decode cX12_emit 11 = .ok (.getfield 95, 3) := by decide +kernel
theorem dX12_emit_14 : decode cX12_emit 14 = .ok (.aload_n 0, 1) := by decide +kernel
theorem dX12_emit_15 : decode cX12_emit 15 = .ok (.getfield 231, 3) := by decide +kernel
theorem dX12_emit_18 : decode cX12_emit 18 = .ok (.iload_n 2, 1) := by decide +kernel
theorem dX12_emit_19 : decode cX12_emit 19 = .ok (.iastore, 1) := by decide +kernel
theorem dX12_emit_20 : decode cX12_emit 20 = .ok (.aload_n 0, 1) := by decide +kernel
theorem dX12_emit_21 : decode cX12_emit 21 = .ok (.dup, 1) := by decide +kernel
theorem dX12_emit_22 : decode cX12_emit 22 = .ok (.getfield 231, 3) := by decide +kernel
theorem dX12_emit_25 : decode cX12_emit 25 = .ok (.iconst 1, 1) := by decide +kernel
theorem dX12_emit_26 : decode cX12_emit 26 = .ok (.iadd, 1) := by decide +kernel
theorem dX12_emit_27 : decode cX12_emit 27 = .ok (.putfield 231, 3) := by decide +kernel
theorem dX12_emit_30 : decode cX12_emit 30 = .ok (.return_, 1) := by decide +kernel
theorem dX12_expression_0 : decode cX12_expression 0 = .ok (.aload_n 0, 1) := by decide +kernel
theorem dX12_expression_1 : decode cX12_expression 1 = .ok (.iconst 0, 1) := by decide +kernel
theorem dX12_expression_2 : decode cX12_expression 2 = .ok (.putfield 306, 3) := by decide +kernel
theorem dX12_expression_5 : decode cX12_expression 5 = .ok (.aload_n 0, 1) := by decide +kernel
theorem dX12_expression_6 : decode cX12_expression 6 = .ok (.getfield 219, 3) := by decide +kernel
theorem dX12_expression_9 : decode cX12_expression 9 = .ok (.istore_n 1, 1) := by decide +kernel
theorem dX12_expression_10 : decode cX12_expression 10 = .ok (.iconst 1, 1) := by decide +kernel
theorem dX12_expression_11 : decode cX12_expression 11 = .ok (.istore_n 2, 1) := by decide +kernel
theorem dX12_expression_12 : decode cX12_expression 12 = .ok (.iload_n 2, 1) := by decide +kernel
theorem dX12_expression_13 : decode cX12_expression 13 = .ok (.ifCond .eq 259, 3) := by decide +kernel
theorem dX12_expression_16 : decode cX12_expression 16 = .ok (.aload_n 0, 1) := by decide +kernel
theorem dX12_expression_17 : decode cX12_expression 17 = .ok (.getfield 192, 3) := by decide +kernel
theorem dX12_expression_20 : decode cX12_expression 20 = .ok (.ifCond .ne 252, 3) := by decide +kernel
theorem dX12_expression_23 : decode cX12_expression 23 = .ok (.aload_n 0, 1) := by decide +kernel
theorem dX12_expression_24 : decode cX12_expression 24 = .ok (.bipush 6, 2) := by decide +kernel
theorem dX12_expression_26 : decode cX12_expression 26 = .ok (.invokevirtual 210, 3) := by decide +kernel
theorem dX12_expression_29 : decode cX12_expression 29 = .ok (.ifCond .eq 55, 3) := by decide +kernel
theorem dX12_expression_32 : decode cX12_expression 32 = .ok (.aload_n 0, 1) := by decide +kernel
theorem dX12_expression_33 : decode cX12_expression 33 = .ok (.getfield 219, 3) := by decide +kernel
theorem dX12_expression_36 : decode cX12_expression 36 = .ok (.bipush 6, 2) := by decide +kernel
theorem dX12_expression_38 : decode cX12_expression 38 = .ok (.if_icmp .ne 8, 3) := by decide +kernel
theorem dX12_expression_41 : decode cX12_expression 41 = .ok (.aload_n 0, 1) := by decide +kernel
theorem dX12_expression_42 : decode cX12_expression 42 = .ok (.iconst 2, 1) := by decide +kernel
theorem dX12_expression_43 : decode cX12_expression 43 = .ok (.invokevirtual 207, 3) := by decide +kernel
theorem dX12_expression_46 : decode cX12_expression 46 = .ok (.aload_n 0, 1) := by decide +kernel
theorem dX12_expression_47 : decode cX12_expression 47 = .ok (.dup, 1) := by decide +kernel
theorem dX12_expression_48 : decode cX12_expression 48 = .ok (.getfield 219, 3) := by decide +kernel
theorem dX12_expression_51 : decode cX12_expression 51 = .ok (.iconst 1, 1) := by decide +kernel
theorem dX12_expression_52 : decode cX12_expression 52 = .ok (.iadd, 1) := by decide +kernel
theorem dX12_expression_53 : decode cX12_expression 53 = .ok (.putfield 219, 3) := by decide +kernel
theorem dX12_expression_56 : decode cX12_expression 56 = .ok (.aload_n 0, 1) := by decide +kernel
theorem dX12_expression_57 : decode cX12_expression 57 = .ok (.invokevirtual 213, 3) := by decide +kernel
theorem dX12_expression_60 : decode cX12_expression 60 = .ok (.aload_n 0, 1) := by decide +kernel
theorem dX12_expression_61 : decode cX12_expression 61 = .ok (.getfield 107, 3) := by decide +kernel
theorem dX12_expression_64 : decode cX12_expression 64 = .ok (.aload_n 0, 1) := by decide +kernel
theorem dX12_expression_65 : decode cX12_expression 65 = .ok (.getfield 306, 3) := by decide +kernel
theorem dX12_expression_68 : decode cX12_expression 68 = .ok (.bipush 6, 2) := by decide +kernel
theorem dX12_expression_70 : decode cX12_expression 70 = .ok (.iastore, 1) := by decide +kernel
theorem dX12_expression_71 : decode cX12_expression 71 = .ok (.aload_n 0, 1) := by decide +kernel
theorem dX12_expression_72 : decode cX12_expression 72 = .ok (.dup, 1) := by decide +kernel
theorem dX12_expression_73 : decode cX12_expression 73 = .ok (.getfield 306, 3) := by decide +kernel
theorem dX12_expression_76 : decode cX12_expression 76 = .ok (.iconst 1, 1) := by decide +kernel
theorem dX12_expression_77 : decode cX12_expression 77 = .ok (.iadd, 1) := by decide +kernel
theorem dX12_expression_78 : decode cX12_expression 78 = .ok (.putfield 306, 3) := by decide +kernel
theorem dX12_expression_81 : decode cX12_expression 81 = .ok (.goto (-58), 3) := by decide +kernel
theorem dX12_expression_84 : decode cX12_expression 84 = .ok (.aload_n 0, 1) := by decide +kernel
theorem dX12_expression_85 : decode cX12_expression 85 = .ok (.invokevirtual 312, 3) := by decide +kernel
theorem dX12_expression_88 : decode cX12_expression 88 = .ok (.aload_n 0, 1) := by decide +kernel
theorem dX12_expression_89 : decode cX12_expression 89 = .ok (.getfield 192, 3) := by decide +kernel
theorem dX12_expression_92 : decode cX12_expression 92 = .ok (.ifCond .le 4, 3) := by decide +kernel
theorem dX12_expression_95 : decode cX12_expression 95 = .ok (.return_, 1) := by decide +kernel
theorem dX12_expression_96 : decode cX12_expression 96 = .ok (.aload_n 0, 1) := by decide +kernel
theorem dX12_expression_97 : decode cX12_expression 97 = .ok (.bipush 7, 2) := by decide +kernel
theorem dX12_expression_99 : decode cX12_expression 99 = .ok (.invokevirtual 210, 3) := by decide +kernel
theorem dX12_expression_102 : decode cX12_expression 102 = .ok (.ifCond .eq 43, 3) := by decide +kernel
theorem dX12_expression_105 : decode cX12_expression 105 = .ok (.aload_n 0, 1) := by decide +kernel
theorem dX12_expression_106 : decode cX12_expression 106 = .ok (.getfield 219, 3) := by decide +kernel
theorem dX12_expression_109 : decode cX12_expression 109 = .ok (.iload_n 1, 1) := by decide +kernel
theorem dX12_expression_110 : decode cX12_expression 110 = .ok (.if_icmp .le 35, 3) := by decide +kernel
theorem dX12_expression_113 : decode cX12_expression 113 = .ok (.aload_n 0, 1) := by decide +kernel
theorem dX12_expression_114 : decode cX12_expression 114 = .ok (.iconst 0, 1) := by decide +kernel
theorem dX12_expression_115 : decode cX12_expression 115 = .ok (.invokevirtual 315, 3) := by decide +kernel
theorem dX12_expression_118 : decode cX12_expression 118 = .ok (.aload_n 0, 1) := by decide +kernel
theorem dX12_expression_119 : decode cX12_expression 119 = .ok (.dup, 1) := by decide +kernel
theorem dX12_expression_120 : decode cX12_expression 120 = .ok (.getfield 306, 3) := by decide +kernel
theorem dX12_expression_123 : decode cX12_expression 123 = .ok (.iconst 1, 1) := by decide +kernel
theorem dX12_expression_124 : decode cX12_expression 124 = .ok (.isub, 1) := by decide +kernel
theorem dX12_expression_125 : decode cX12_expression 125 = .ok (.putfield 306, 3) := by decide +kernel
theorem dX12_expression_128 : decode cX12_expression 128 = .ok (.aload_n 0, 1) := by decide +kernel
theorem dX12_expression_129 : decode cX12_expression 129 = .ok (.dup, 1) := by decide +kernel
theorem dX12_expression_130 : decode cX12_expression 130 = .ok (.getfield 219, 3) := by decide +kernel
theorem dX12_expression_133 : decode cX12_expression 133 = .ok (.iconst 1, 1) := by decide +kernel
theorem dX12_expression_134 : decode cX12_expression 134 = .ok (.isub, 1) := by decide +kernel
theorem dX12_expression_135 : decode cX12_expression 135 = .ok (.putfield 219, 3) := by decide +kernel
theorem dX12_expression_138 : decode cX12_expression 138 = .ok (.aload_n 0, 1) := by decide +kernel
theorem dX12_expression_139 : decode cX12_expression 139 = .ok (.invokevirtual 213, 3) := by decide +kernel
theorem dX12_expression_142 : decode cX12_expression 142 = .ok (.goto (-46), 3) := by decide +kernel
theorem dX12_expression_145 : decode cX12_expression 145 = .ok (.aload_n 0, 1) := by decide +kernel
theorem dX12_expression_146 : decode cX12_expression 146 = .ok (.bipush 8, 2) := by decide +kernel
theorem dX12_expression_148 : decode cX12_expression 148 = .ok (.invokevirtual 210, 3) := by decide +kernel
theorem dX12_expression_151 : decode cX12_expression 151 = .ok (.ifCond .ne 30, 3) := by decide +kernel
theorem dX12_expression_154 : decode cX12_expression 154 = .ok (.aload_n 0, 1) := by decide +kernel
theorem dX12_expression_155 : decode cX12_expression 155 = .ok (.bipush 9, 2) := by decide +kernel
theorem dX12_expression_157 : decode cX12_expression 157 = .ok (.invokevirtual 210, 3) := by decide +kernel
theorem dX12_expression_160 : decode cX12_expression 160 = .ok (.ifCond .ne 21, 3) := by decide +kernel
theorem dX12_expression_163 : decode cX12_expression 163 = .ok (.aload_n 0, 1) := by decide +kernel
theorem dX12_expression_164 : decode cX12_expression 164 = .ok (.bipush 10, 2) := by decide +kernel
theorem dX12_expression_166 : decode cX12_expression 166 = .ok (.invokevirtual 210, 3) := by decide +kernel
theorem dX12_expression_169 : decode cX12_expression 169 = .ok (.ifCond .ne 12, 3) := by decide +kernel
theorem dX12_expression_172 : decode cX12_expression 172 = .ok (.aload_n 0, 1) := by decide +kernel
theorem dX12_expression_173 : decode cX12_expression 173 = .ok (.bipush 15, 2) := by decide +kernel
theorem dX12_expression_175 : decode cX12_expression 175 = .ok (.invokevirtual 210, 3) := by decide +kernel
theorem dX12_expression_178 : decode cX12_expression 178 = .ok (.ifCond .eq 7, 3) := by decide +kernel
theorem dX12_expression_181 : decode cX12_expression 181 = .ok (.iconst 1, 1) := by decide +kernel
theorem dX12_expression_182 : decode cX12_expression 182 = .ok (.goto 4, 3) := by decide +kernel
theorem dX12_expression_185 : decode cX12_expression 185 = .ok (.iconst 0, 1) := by decide +kernel
theorem dX12_expression_186 : decode cX12_expression 186 = .ok (.istore_n 2, 1) := by decide +kernel
theorem dX12_expression_187 : decode cX12_expression 187 = .ok (.iload_n 2, 1) := by decide +kernel
theorem dX12_expression_188 : decode cX12_expression 188 = .ok (.ifCond .ne 22, 3) := by decide +kernel
theorem dX12_expression_191 : decode cX12_expression 191 = .ok (.aload_n 0, 1) := by decide +kernel
theorem dX12_expression_192 : decode cX12_expression 192 = .ok (.getfield 219, 3) := by decide +kernel
theorem dX12_expression_195 : decode cX12_expression 195 = .ok (.iload_n 1, 1) := by decide +kernel
theorem dX12_expression_196 : decode cX12_expression 196 = .ok (.if_icmp .le 8, 3) := by decide +kernel
theorem dX12_expression_199 : decode cX12_expression 199 = .ok (.aload_n 0, 1) := by decide +kernel
theorem dX12_expression_200 : decode cX12_expression 200 = .ok (.iconst 1, 1) := by decide +kernel
theorem dX12_expression_201 : decode cX12_expression 201 = .ok (.invokevirtual 207, 3) := by decide +kernel
theorem dX12_expression_204 : decode cX12_expression 204 = .ok (.aload_n 0, 1) := by decide +kernel
theorem dX12_expression_205 : decode cX12_expression 205 = .ok (.iconst 0, 1) := by decide +kernel
theorem dX12_expression_206 : decode cX12_expression 206 = .ok (.invokevirtual 315, 3) := by decide +kernel
theorem dX12_expression_209 : decode cX12_expression 209 = .ok (.return_, 1) := by decide +kernel
theorem dX12_expression_210 : decode cX12_expression 210 = .ok (.aload_n 0, 1) := by decide +kernel
theorem dX12_expression_211 : decode cX12_expression 211 = .ok (.aload_n 0, 1) := by decide +kernel
theorem dX12_expression_212 : decode cX12_expression 212 = .ok (.bipush 10, 2) := by decide +kernel
theorem dX12_expression_214 : decode cX12_expression 214 = .ok (.invokevirtual 210, 3) := by decide +kernel
theorem dX12_expression_217 : decode cX12_expression 217 = .ok (.ifCond .ne 12, 3) := by decide +kernel
theorem dX12_expression_220 : decode cX12_expression 220 = .ok (.aload_n 0, 1) := by decide +kernel
theorem dX12_expression_221 : decode cX12_expression 221 = .ok (.bipush 15, 2) := by decide +kernel
theorem dX12_expression_223 : decode cX12_expression 223 = .ok (.invokevirtual 210, 3) := by decide +kernel
theorem dX12_expression_226 : decode cX12_expression 226 = .ok (.ifCond .eq 7, 3) := by decide +kernel
theorem dX12_expression_229 : decode cX12_expression 229 = .ok (.iconst 1, 1) := by decide +kernel
theorem dX12_expression_230 : decode cX12_expression 230 = .ok (.goto 4, 3) := by decide +kernel
theorem dX12_expression_233 : decode cX12_expression 233 = .ok (.iconst 0, 1) := by decide +kernel
theorem dX12_expression_234 : decode cX12_expression 234 = .ok (.invokevirtual 315, 3) := by decide +kernel
theorem dX12_expression_237 : decode cX12_expression 237 = .ok (.aload_n 0, 1) := by decide +kernel
theorem dX12_expression_238 : decode cX12_expression 238 = .ok (.getfield 107, 3) := by decide +kernel
theorem dX12_expression_241 : decode cX12_expression 241 = .ok (.aload_n 0, 1) := by decide +kernel
theorem dX12_expression_242 : decode cX12_expression 242 = .ok (.getfield 306, 3) := by decide +kernel
theorem dX12_expression_245 : decode cX12_expression 245 = .ok (.aload_n 0, 1) := by decide +kernel
theorem dX12_expression_246 : decode cX12_expression 246 = .ok (.getfield 20, 3) := by decide +kernel
theorem dX12_expression_249 : decode cX12_expression 249 = .ok (.aload_n 0, 1) := by decide +kernel
theorem dX12_expression_250 : decode cX12_expression 250 = .ok (.getfield 195, 3) := by decide +kernel
theorem dX12_expression_253 : decode cX12_expression 253 = .ok (.iaload, 1) := by decide +kernel
theorem dX12_expression_254 : decode cX12_expression 254 = .ok (.iastore, 1) := by decide +kernel
theorem dX12_expression_255 : decode cX12_expression 255 = .ok (.aload_n 0, 1) := by decide +kernel
theorem dX12_expression_256 : decode cX12_expression 256 = .ok (.dup, 1) := by decide +kernel
theorem dX12_expression_257 : decode cX12_expression 257 = .ok (.getfield 306, 3) := by decide +kernel
theorem dX12_expression_260 : decode cX12_expression 260 = .ok (.iconst 1, 1) := by decide +kernel
theorem dX12_expression_261 : decode cX12_expression 261 = .ok (.iadd, 1) := by decide +kernel
theorem dX12_expression_262 : decode cX12_expression 262 = .ok (.putfield 306, 3) := by decide +kernel
theorem dX12_expression_265 : decode cX12_expression 265 = .ok (.aload_n 0, 1) := by decide +kernel
theorem dX12_expression_266 : decode cX12_expression 266 = .ok (.invokevirtual 213, 3) := by decide +kernel
theorem dX12_expression_269 : decode cX12_expression 269 = .ok (.goto (-257), 3) := by decide +kernel
theorem dX12_expression_272 : decode cX12_expression 272 = .ok (.return_, 1) := by decide +kernel
theorem dX12_fact_0 : decode cX12_fact 0 = .ok (.iload_n 1, 1) := by decide +kernel
theorem dX12_fact_1 : decode cX12_fact 1 = .ok (.iconst 0, 1) := by decide +kernel
theorem dX12_fact_2 : decode cX12_fact 2 = .ok (.aload_n 0, 1) := by decide +kernel
theorem dX12_fact_3 : decode cX12_fact 3 = .ok (.getfield 49, 3) := by decide +kernel
theorem dX12_fact_6 : decode cX12_fact 6 = .ok (.aload_n 0, 1) := by decide +kernel
theorem dX12_fact_7 : decode cX12_fact 7 = .ok (.getfield 222, 3) := by decide +kernel
theorem dX12_fact_10 : decode cX12_fact 10 = .ok (.iaload, 1) := by decide +kernel
theorem dX12_fact_11 : decode cX12_fact 11 = .ok (.iconst 1, 1) := by decide +kernel
theorem dX12_fact_12 : decode cX12_fact 12 = .ok (.isub, 1) := by decide +kernel
theorem dX12_fact_13 : decode cX12_fact 13 = .ok (.invokestatic 323, 3) := by decide +kernel
theorem dX12_fact_16 : decode cX12_fact 16 = .ok (.ifCond .eq 12, 3) := by decide +kernel
theorem dX12_fact_19 : decode cX12_fact 19 = .ok (.iload_n 2, 1) := by decide +kernel
theorem dX12_fact_20 : decode cX12_fact 20 = .ok (.iconst 0, 1) := by decide +kernel
theorem dX12_fact_21 : decode cX12_fact 21 = .ok (.iconst 1, 1) := by decide +kernel
theorem dX12_fact_22 : decode cX12_fact 22 = .ok (.invokestatic 323, 3) := by decide +kernel
theorem dX12_fact_25 : decode cX12_fact 25 = .ok (.ifCond .ne 5, 3) := by decide +kernel
theorem dX12_fact_28 : decode cX12_fact 28 = .ok (.iconst (-1), 1) := by decide +kernel
theorem dX12_fact_29 : decode cX12_fact 29 = .ok (.ireturn, 1) := by decide +kernel
theorem dX12_fact_30 : decode cX12_fact 30 = .ok (.iload_n 2, 1) := by decide +kernel
theorem dX12_fact_31 : decode cX12_fact 31 = .ok (.ifCond .ne 15, 3) := by decide +kernel
theorem dX12_fact_34 : decode cX12_fact 34 = .ok (.aload_n 0, 1) := by decide +kernel
theorem dX12_fact_35 : decode cX12_fact 35 = .ok (.getfield 52, 3) := by decide +kernel
theorem dX12_fact_38 : decode cX12_fact 38 = .ok (.aload_n 0, 1) := by decide +kernel
theorem dX12_fact_39 : decode cX12_fact 39 = .ok (.getfield 222, 3) := by decide +kernel
theorem dX12_fact_42 : decode cX12_fact 42 = .ok (.iaload, 1) := by decide +kernel
theorem dX12_fact_43 : decode cX12_fact 43 = .ok (.goto 9, 3) := by decide +kernel
theorem dX12_fact_46 : decode cX12_fact 46 = .ok (.aload_n 0, 1) := by decide +kernel
theorem dX12_fact_47 : decode cX12_fact 47 = .ok (.getfield 116, 3) := by decide +kernel
theorem dX12_fact_50 : decode cX12_fact 50 = .ok (.iconst 3, 1) := by decide +kernel
theorem dX12_fact_51 : decode cX12_fact 51 = .ok (.iaload, 1) := by decide +kernel
theorem dX12_fact_52 : decode cX12_fact 52 = .ok (.iload_n 1, 1) := by decide +kernel
theorem dX12_fact_53 : decode cX12_fact 53 = .ok (.ishr, 1) := by decide +kernel
theorem dX12_fact_54 : decode cX12_fact 54 = .ok (.iconst 1, 1) := by decide +kernel
theorem dX12_fact_55 : decode cX12_fact 55 = .ok (.iand, 1) := by decide +kernel
theorem dX12_fact_56 : decode cX12_fact 56 = .ok (.ireturn, 1) := by decide +kernel
theorem dX12_fail_0 : decode cX12_fail 0 = .ok (.aload_n 0, 1) := by decide +kernel
theorem dX12_fail_1 : decode cX12_fail 1 = .ok (.getfield 192, 3) := by decide +kernel
theorem dX12_fail_4 : decode cX12_fail 4 = .ok (.ifCond .le 4, 3) := by decide +kernel
theorem dX12_fail_7 : decode cX12_fail 7 = .ok (.return_, 1) := by decide +kernel
theorem dX12_fail_8 : decode cX12_fail 8 = .ok (.aload_n 0, 1) := by decide +kernel
theorem dX12_fail_9 : decode cX12_fail 9 = .ok (.iload_n 1, 1) := by decide +kernel
theorem dX12_fail_10 : decode cX12_fail 10 = .ok (.putfield 192, 3) := by decide +kernel
theorem dX12_fail_13 : decode cX12_fail 13 = .ok (.aload_n 0, 1) := by decide +kernel
theorem dX12_fail_14 : decode cX12_fail 14 = .ok (.aload_n 0, 1) := by decide +kernel
theorem dX12_fail_15 : decode cX12_fail 15 = .ok (.getfield 24, 3) := by decide +kernel
theorem dX12_fail_18 : decode cX12_fail 18 = .ok (.aload_n 0, 1) := by decide +kernel
theorem dX12_fail_19 : decode cX12_fail 19 = .ok (.getfield 195, 3) := by decide +kernel
theorem dX12_fail_22 : decode cX12_fail 22 = .ok (.iaload, 1) := by decide +kernel
theorem dX12_fail_23 : decode cX12_fail 23 = .ok (.putfield 198, 3) := by decide +kernel
theorem dX12_fail_26 : decode cX12_fail 26 = .ok (.return_, 1) := by decide +kernel
theorem dX12_feed_0 : decode cX12_feed 0 = .ok (.aload_n 0, 1) := by decide +kernel
theorem dX12_feed_1 : decode cX12_feed 1 = .ok (.getfield 154, 3) := by decide +kernel
theorem dX12_feed_4 : decode cX12_feed 4 = .ok (.bipush 20, 2) := by decide +kernel
theorem dX12_feed_6 : decode cX12_feed 6 = .ok (.iadd, 1) := by decide +kernel
theorem dX12_feed_7 : decode cX12_feed 7 = .ok (.sipush 2000, 3) := by decide +kernel
theorem dX12_feed_10 : decode cX12_feed 10 = .ok (.if_icmp .le 5, 3) := by decide +kernel
theorem dX12_feed_13 : decode cX12_feed 13 = .ok (.iconst (-1), 1) := by decide +kernel
theorem dX12_feed_14 : decode cX12_feed 14 = .ok (.ireturn, 1) := by decide +kernel
theorem dX12_feed_15 : decode cX12_feed 15 = .ok (.aload_n 0, 1) := by decide +kernel
theorem dX12_feed_16 : decode cX12_feed 16 = .ok (.iload_n 1, 1) := by decide +kernel
theorem dX12_feed_17 : decode cX12_feed 17 = .ok (.invokevirtual 157, 3) := by decide +kernel
theorem dX12_feed_20 : decode cX12_feed 20 = .ok (.aload_n 0, 1) := by decide +kernel
theorem dX12_feed_21 : decode cX12_feed 21 = .ok (.iload_n 2, 1) := by decide +kernel
theorem dX12_feed_22 : decode cX12_feed 22 = .ok (.invokevirtual 157, 3) := by decide +kernel
theorem dX12_feed_25 : decode cX12_feed 25 = .ok (.aload_n 0, 1) := by decide +kernel
theorem dX12_feed_26 : decode cX12_feed 26 = .ok (.iload_n 3, 1) := by decide +kernel
theorem dX12_feed_27 : decode cX12_feed 27 = .ok (.invokevirtual 157, 3) := by decide +kernel
theorem dX12_feed_30 : decode cX12_feed 30 = .ok (.aload_n 0, 1) := by decide +kernel
theorem dX12_feed_31 : decode cX12_feed 31 = .ok (.iload 4, 2) := by decide +kernel
theorem dX12_feed_33 : decode cX12_feed 33 = .ok (.invokevirtual 157, 3) := by decide +kernel
theorem dX12_feed_36 : decode cX12_feed 36 = .ok (.aload_n 0, 1) := by decide +kernel
theorem dX12_feed_37 : decode cX12_feed 37 = .ok (.iload 5, 2) := by decide +kernel
theorem dX12_feed_39 : decode cX12_feed 39 = .ok (.invokevirtual 157, 3) := by decide +kernel
theorem dX12_feed_42 : decode cX12_feed 42 = .ok (.aload_n 0, 1) := by decide +kernel
theorem dX12_feed_43 : decode cX12_feed 43 = .ok (.getfield 154, 3) := by decide +kernel
theorem dX12_feed_46 : decode cX12_feed 46 = .ok (.ireturn, 1) := by decide +kernel
theorem dX12_fillsBook_0 : decode cX12_fillsBook 0 = .ok (.aload_n 0, 1) := by decide +kernel
theorem dX12_fillsBook_1 : decode cX12_fillsBook 1 = .ok (.lconst 0, 1) := by decide +kernel
theorem dX12_fillsBook_2 : decode cX12_fillsBook 2 = .ok (.putfield 432, 3) := by decide +kernel
theorem dX12_fillsBook_5 : decode cX12_fillsBook 5 = .ok (.aload_n 0, 1) := by decide +kernel
theorem dX12_fillsBook_6 : decode cX12_fillsBook 6 = .ok (.iconst 0, 1) := by decide +kernel
theorem dX12_fillsBook_7 : decode cX12_fillsBook 7 = .ok (.putfield 436, 3) := by decide +kernel
theorem dX12_fillsBook_10 : decode cX12_fillsBook 10 = .ok (.aload_n 0, 1) := by decide +kernel
theorem dX12_fillsBook_11 : decode cX12_fillsBook 11 = .ok (.iconst 0, 1) := by decide +kernel
theorem dX12_fillsBook_12 : decode cX12_fillsBook 12 = .ok (.putfield 439, 3) := by decide +kernel
theorem dX12_fillsBook_15 : decode cX12_fillsBook 15 = .ok (.aload_n 0, 1) := by decide +kernel
theorem dX12_fillsBook_16 : decode cX12_fillsBook 16 = .ok (.invokevirtual 237, 3) := by decide +kernel
theorem dX12_fillsBook_19 : decode cX12_fillsBook 19 = .ok (.iload_n 1, 1) := by decide +kernel
theorem dX12_fillsBook_20 : decode cX12_fillsBook 20 = .ok (.ifCond .ne 9, 3) := by decide +kernel
theorem dX12_fillsBook_23 : decode cX12_fillsBook 23 = .ok (.aload_n 0, 1) := by decide +kernel
theorem dX12_fillsBook_24 : decode cX12_fillsBook 24 = .ok (.iconst 0, 1) := by decide +kernel
theorem dX12_fillsBook_25 : decode cX12_fillsBook 25 = .ok (.invokevirtual 442, 3) := by decide +kernel
theorem dX12_fillsBook_28 : decode cX12_fillsBook 28 = .ok (.return_, 1) := by decide +kernel
theorem dX12_fillsBook_29 : decode cX12_fillsBook 29 = .ok (.iconst 0, 1) := by decide +kernel
theorem dX12_fillsBook_30 : decode cX12_fillsBook 30 = .ok (.istore_n 2, 1) := by decide +kernel
theorem dX12_fillsBook_31 : decode cX12_fillsBook 31 = .ok (.iload_n 2, 1) := by decide +kernel
theorem dX12_fillsBook_32 : decode cX12_fillsBook 32 = .ok (.bipush 40, 2) := by decide +kernel
theorem dX12_fillsBook_34 : decode cX12_fillsBook 34 = .ok (.if_icmp .ge 21, 3) := by decide +kernel
theorem dX12_fillsBook_37 : decode cX12_fillsBook 37 = .ok (.aload_n 0, 1) := by decide +kernel
theorem dX12_fillsBook_38 : decode cX12_fillsBook 38 = .ok (.getfield 141, 3) := by decide +kernel
theorem dX12_fillsBook_41 : decode cX12_fillsBook 41 = .ok (.iload_n 2, 1) := by decide +kernel
