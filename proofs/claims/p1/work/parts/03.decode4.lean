theorem dX4_avoids_17 : decode cX4_avoids 17 = .ok (.ireturn, 1) := by decide +kernel
theorem dX4_canAvoid_0 : decode cX4_canAvoid 0 = .ok (.aload_n 0, 1) := by decide +kernel
theorem dX4_canAvoid_1 : decode cX4_canAvoid 1 = .ok (.getfield 11, 3) := by decide +kernel
theorem dX4_canAvoid_4 : decode cX4_canAvoid 4 = .ok (.iconst 0, 1) := by decide +kernel
theorem dX4_canAvoid_5 : decode cX4_canAvoid 5 = .ok (.aaload, 1) := by decide +kernel
theorem dX4_canAvoid_6 : decode cX4_canAvoid 6 = .ok (.aload_n 2, 1) := by decide +kernel
theorem dX4_canAvoid_7 : decode cX4_canAvoid 7 = .ok (.invokevirtual 41, 3) := by decide +kernel
theorem dX4_canAvoid_10 : decode cX4_canAvoid 10 = .ok (.aload_n 0, 1) := by decide +kernel
theorem dX4_canAvoid_11 : decode cX4_canAvoid 11 = .ok (.aload_n 1, 1) := by decide +kernel
theorem dX4_canAvoid_12 : decode cX4_canAvoid 12 = .ok (.iload_n 3, 1) := by decide +kernel
theorem dX4_canAvoid_13 : decode cX4_canAvoid 13 = .ok (.iload 4, 2) := by decide +kernel
theorem dX4_canAvoid_15 : decode cX4_canAvoid 15 = .ok (.iconst 0, 1) := by decide +kernel
theorem dX4_canAvoid_16 : decode cX4_canAvoid 16 = .ok (.invokevirtual 83, 3) := by decide +kernel
theorem dX4_canAvoid_19 : decode cX4_canAvoid 19 = .ok (.ireturn, 1) := by decide +kernel
theorem dX4_extend_0 : decode cX4_extend 0 = .ok (.iload_n 2, 1) := by decide +kernel
theorem dX4_extend_1 : decode cX4_extend 1 = .ok (.ifCond .eq 13, 3) := by decide +kernel
theorem dX4_extend_14 : decode cX4_extend 14 = .ok (.aload_n 0, 1) := by decide +kernel
theorem dX4_extend_15 : decode cX4_extend 15 = .ok (.aload_n 0, 1) := by decide +kernel
theorem dX4_extend_16 : decode cX4_extend 16 = .ok (.getfield 11, 3) := by decide +kernel
theorem dX4_extend_19 : decode cX4_extend 19 = .ok (.iconst 0, 1) := by decide +kernel
theorem dX4_extend_20 : decode cX4_extend 20 = .ok (.iload_n 3, 1) := by decide +kernel
theorem dX4_extend_21 : decode cX4_extend 21 = .ok (.bipush 6, 2) := by decide +kernel
theorem dX4_extend_23 : decode cX4_extend 23 = .ok (.invokestatic 49, 3) := by decide +kernel
theorem dX4_extend_26 : decode cX4_extend 26 = .ok (.invokestatic 55, 3) := by decide +kernel
theorem dX4_extend_29 : decode cX4_extend 29 = .ok (.aaload, 1) := by decide +kernel
theorem dX4_extend_30 : decode cX4_extend 30 = .ok (.getfield 58, 3) := by decide +kernel
theorem dX4_extend_33 : decode cX4_extend 33 = .ok (.invokevirtual 61, 3) := by decide +kernel
theorem dX4_extend_36 : decode cX4_extend 36 = .ok (.return_, 1) := by decide +kernel
theorem dX4_find_0 : decode cX4_find 0 = .ok (.aload_n 0, 1) := by decide +kernel
theorem dX4_find_1 : decode cX4_find 1 = .ok (.getfield 27, 3) := by decide +kernel
theorem dX4_find_4 : decode cX4_find 4 = .ok (.ifCond .eq 21, 3) := by decide +kernel
theorem dX4_find_25 : decode cX4_find 25 = .ok (.aload_n 0, 1) := by decide +kernel
theorem dX4_find_26 : decode cX4_find 26 = .ok (.iconst 1, 1) := by decide +kernel
theorem dX4_find_27 : decode cX4_find 27 = .ok (.putfield 27, 3) := by decide +kernel
theorem dX4_find_30 : decode cX4_find 30 = .ok (.aload_n 0, 1) := by decide +kernel
theorem dX4_find_31 : decode cX4_find 31 = .ok (.iload_n 3, 1) := by decide +kernel
theorem dX4_find_32 : decode cX4_find 32 = .ok (.putfield 31, 3) := by decide +kernel
theorem dX4_find_35 : decode cX4_find 35 = .ok (.aload_n 0, 1) := by decide +kernel
theorem dX4_find_36 : decode cX4_find 36 = .ok (.iload 4, 2) := by decide +kernel
theorem dX4_find_38 : decode cX4_find 38 = .ok (.putfield 35, 3) := by decide +kernel
theorem dX4_find_41 : decode cX4_find 41 = .ok (.aload_n 0, 1) := by decide +kernel
theorem dX4_find_42 : decode cX4_find 42 = .ok (.iconst 0, 1) := by decide +kernel
theorem dX4_find_43 : decode cX4_find 43 = .ok (.putfield 38, 3) := by decide +kernel
theorem dX4_find_46 : decode cX4_find 46 = .ok (.aload_n 0, 1) := by decide +kernel
theorem dX4_find_47 : decode cX4_find 47 = .ok (.getfield 11, 3) := by decide +kernel
theorem dX4_find_50 : decode cX4_find 50 = .ok (.iconst 0, 1) := by decide +kernel
theorem dX4_find_51 : decode cX4_find 51 = .ok (.aaload, 1) := by decide +kernel
theorem dX4_find_52 : decode cX4_find 52 = .ok (.aload_n 2, 1) := by decide +kernel
theorem dX4_find_53 : decode cX4_find 53 = .ok (.invokevirtual 41, 3) := by decide +kernel
theorem dX4_find_56 : decode cX4_find 56 = .ok (.aload_n 0, 1) := by decide +kernel
theorem dX4_find_57 : decode cX4_find 57 = .ok (.aload_n 1, 1) := by decide +kernel
theorem dX4_find_58 : decode cX4_find 58 = .ok (.iload_n 3, 1) := by decide +kernel
theorem dX4_find_59 : decode cX4_find 59 = .ok (.iconst 0, 1) := by decide +kernel
theorem dX4_find_60 : decode cX4_find 60 = .ok (.invokevirtual 45, 3) := by decide +kernel
theorem dX4_find_63 : decode cX4_find 63 = .ok (.return_, 1) := by decide +kernel
theorem dX4_init_0 : decode cX4_init 0 = .ok (.aload_n 0, 1) := by decide +kernel
theorem dX4_init_1 : decode cX4_init 1 = .ok (.invokespecial 3, 3) := by decide +kernel
theorem dX4_init_4 : decode cX4_init 4 = .ok (.aload_n 0, 1) := by decide +kernel
theorem dX4_init_5 : decode cX4_init 5 = .ok (.bipush 7, 2) := by decide +kernel
theorem dX4_init_7 : decode cX4_init 7 = .ok (.anewarray 9, 3) := by decide +kernel
theorem dX4_init_10 : decode cX4_init 10 = .ok (.putfield 11, 3) := by decide +kernel
theorem dX4_init_13 : decode cX4_init 13 = .ok (.aload_n 0, 1) := by decide +kernel
theorem dX4_init_14 : decode cX4_init 14 = .ok (.bipush 6, 2) := by decide +kernel
theorem dX4_init_16 : decode cX4_init 16 = .ok (.newarray .int, 2) := by decide +kernel
theorem dX4_init_18 : decode cX4_init 18 = .ok (.putfield 17, 3) := by decide +kernel
theorem dX4_init_21 : decode cX4_init 21 = .ok (.aload_n 0, 1) := by decide +kernel
theorem dX4_init_22 : decode cX4_init 22 = .ok (.bipush 6, 2) := by decide +kernel
theorem dX4_init_24 : decode cX4_init 24 = .ok (.newarray .int, 2) := by decide +kernel
theorem dX4_init_26 : decode cX4_init 26 = .ok (.putfield 21, 3) := by decide +kernel
theorem dX4_init_29 : decode cX4_init 29 = .ok (.iconst 0, 1) := by decide +kernel
theorem dX4_init_30 : decode cX4_init 30 = .ok (.istore_n 1, 1) := by decide +kernel
theorem dX4_init_31 : decode cX4_init 31 = .ok (.iload_n 1, 1) := by decide +kernel
theorem dX4_init_32 : decode cX4_init 32 = .ok (.bipush 6, 2) := by decide +kernel
theorem dX4_init_34 : decode cX4_init 34 = .ok (.if_icmp .gt 23, 3) := by decide +kernel
theorem dX4_init_37 : decode cX4_init 37 = .ok (.aload_n 0, 1) := by decide +kernel
theorem dX4_init_38 : decode cX4_init 38 = .ok (.getfield 11, 3) := by decide +kernel
theorem dX4_init_41 : decode cX4_init 41 = .ok (.iload_n 1, 1) := by decide +kernel
theorem dX4_init_42 : decode cX4_init 42 = .ok (.new 9, 3) := by decide +kernel
theorem dX4_init_45 : decode cX4_init 45 = .ok (.dup, 1) := by decide +kernel
theorem dX4_init_46 : decode cX4_init 46 = .ok (.iconst 0, 1) := by decide +kernel
theorem dX4_init_47 : decode cX4_init 47 = .ok (.invokespecial 24, 3) := by decide +kernel
theorem dX4_init_50 : decode cX4_init 50 = .ok (.aastore, 1) := by decide +kernel
theorem dX4_init_51 : decode cX4_init 51 = .ok (.iinc 1 1, 3) := by decide +kernel
theorem dX4_init_54 : decode cX4_init 54 = .ok (.goto (-23), 3) := by decide +kernel
theorem dX4_init_57 : decode cX4_init 57 = .ok (.return_, 1) := by decide +kernel
theorem dX4_judge_0 : decode cX4_judge 0 = .ok (.aload_n 0, 1) := by decide +kernel
theorem dX4_judge_1 : decode cX4_judge 1 = .ok (.getfield 38, 3) := by decide +kernel
theorem dX4_judge_4 : decode cX4_judge 4 = .ok (.ifCond .eq 30, 3) := by decide +kernel
theorem dX4_judge_34 : decode cX4_judge 34 = .ok (.aload_n 0, 1) := by decide +kernel
theorem dX4_judge_35 : decode cX4_judge 35 = .ok (.iconst 1, 1) := by decide +kernel
theorem dX4_judge_36 : decode cX4_judge 36 = .ok (.putfield 38, 3) := by decide +kernel
theorem dX4_judge_39 : decode cX4_judge 39 = .ok (.aload_n 0, 1) := by decide +kernel
theorem dX4_judge_40 : decode cX4_judge 40 = .ok (.iload_n 1, 1) := by decide +kernel
theorem dX4_judge_41 : decode cX4_judge 41 = .ok (.putfield 74, 3) := by decide +kernel
theorem dX4_judge_44 : decode cX4_judge 44 = .ok (.aload_n 0, 1) := by decide +kernel
theorem dX4_judge_45 : decode cX4_judge 45 = .ok (.getfield 17, 3) := by decide +kernel
theorem dX4_judge_48 : decode cX4_judge 48 = .ok (.iconst 0, 1) := by decide +kernel
theorem dX4_judge_49 : decode cX4_judge 49 = .ok (.aload_n 0, 1) := by decide +kernel
theorem dX4_judge_50 : decode cX4_judge 50 = .ok (.getfield 21, 3) := by decide +kernel
theorem dX4_judge_53 : decode cX4_judge 53 = .ok (.iconst 0, 1) := by decide +kernel
theorem dX4_judge_54 : decode cX4_judge 54 = .ok (.bipush 6, 2) := by decide +kernel
theorem dX4_judge_56 : decode cX4_judge 56 = .ok (.invokestatic 77, 3) := by decide +kernel
theorem dX4_judge_59 : decode cX4_judge 59 = .ok (.return_, 1) := by decide +kernel
theorem dX5_faultPlace_0 : decode cX5_faultPlace 0 = .ok (.aload_n 0, 1) := by decide +kernel
theorem dX5_faultPlace_1 : decode cX5_faultPlace 1 = .ok (.getfield 42, 3) := by decide +kernel
theorem dX5_faultPlace_4 : decode cX5_faultPlace 4 = .ok (.ifCond .eq 15, 3) := by decide +kernel
theorem dX5_faultPlace_19 : decode cX5_faultPlace 19 = .ok (.aload_n 0, 1) := by decide +kernel
theorem dX5_faultPlace_20 : decode cX5_faultPlace 20 = .ok (.getfield 45, 3) := by decide +kernel
theorem dX5_faultPlace_23 : decode cX5_faultPlace 23 = .ok (.ifCond .eq 10, 3) := by decide +kernel
theorem dX5_faultPlace_33 : decode cX5_faultPlace 33 = .ok (.iconst (-1), 1) := by decide +kernel
theorem dX5_faultPlace_34 : decode cX5_faultPlace 34 = .ok (.ireturn, 1) := by decide +kernel
theorem dX5_init_0 : decode cX5_init 0 = .ok (.aload_n 0, 1) := by decide +kernel
theorem dX5_init_1 : decode cX5_init 1 = .ok (.invokespecial 3, 3) := by decide +kernel
theorem dX5_init_4 : decode cX5_init 4 = .ok (.aload_n 0, 1) := by decide +kernel
theorem dX5_init_5 : decode cX5_init 5 = .ok (.new 9, 3) := by decide +kernel
theorem dX5_init_8 : decode cX5_init 8 = .ok (.dup, 1) := by decide +kernel
theorem dX5_init_9 : decode cX5_init 9 = .ok (.invokespecial 11, 3) := by decide +kernel
theorem dX5_init_12 : decode cX5_init 12 = .ok (.putfield 12, 3) := by decide +kernel
theorem dX5_init_15 : decode cX5_init 15 = .ok (.aload_n 0, 1) := by decide +kernel
theorem dX5_init_16 : decode cX5_init 16 = .ok (.aload_n 1, 1) := by decide +kernel
theorem dX5_init_17 : decode cX5_init 17 = .ok (.putfield 18, 3) := by decide +kernel
theorem dX5_init_20 : decode cX5_init 20 = .ok (.return_, 1) := by decide +kernel
theorem dX5_parse_0 : decode cX5_parse 0 = .ok (.aload_n 0, 1) := by decide +kernel
theorem dX5_parse_1 : decode cX5_parse 1 = .ok (.getfield 12, 3) := by decide +kernel
theorem dX5_parse_4 : decode cX5_parse 4 = .ok (.aload_n 1, 1) := by decide +kernel
theorem dX5_parse_5 : decode cX5_parse 5 = .ok (.invokevirtual 22, 3) := by decide +kernel
theorem dX5_parse_8 : decode cX5_parse 8 = .ok (.aload_n 0, 1) := by decide +kernel
theorem dX5_parse_9 : decode cX5_parse 9 = .ok (.aload_n 2, 1) := by decide +kernel
theorem dX5_parse_10 : decode cX5_parse 10 = .ok (.putfield 18, 3) := by decide +kernel
theorem dX5_parse_13 : decode cX5_parse 13 = .ok (.aload_n 0, 1) := by decide +kernel
theorem dX5_parse_14 : decode cX5_parse 14 = .ok (.getfield 18, 3) := by decide +kernel
theorem dX5_parse_17 : decode cX5_parse 17 = .ok (.invokevirtual 26, 3) := by decide +kernel
theorem dX5_parse_20 : decode cX5_parse 20 = .ok (.aload_n 0, 1) := by decide +kernel
theorem dX5_parse_21 : decode cX5_parse 21 = .ok (.iconst 0, 1) := by decide +kernel
theorem dX5_parse_22 : decode cX5_parse 22 = .ok (.putfield 31, 3) := by decide +kernel
theorem dX5_parse_25 : decode cX5_parse 25 = .ok (.aload_n 0, 1) := by decide +kernel
theorem dX5_parse_26 : decode cX5_parse 26 = .ok (.aload_n 0, 1) := by decide +kernel
theorem dX5_parse_27 : decode cX5_parse 27 = .ok (.getfield 12, 3) := by decide +kernel
theorem dX5_parse_30 : decode cX5_parse 30 = .ok (.getfield 35, 3) := by decide +kernel
theorem dX5_parse_33 : decode cX5_parse 33 = .ok (.iconst 0, 1) := by decide +kernel
theorem dX5_parse_34 : decode cX5_parse 34 = .ok (.iaload, 1) := by decide +kernel
theorem dX5_parse_35 : decode cX5_parse 35 = .ok (.putfield 39, 3) := by decide +kernel
theorem dX5_parse_38 : decode cX5_parse 38 = .ok (.aload_n 0, 1) := by decide +kernel
theorem dX5_parse_39 : decode cX5_parse 39 = .ok (.iconst 0, 1) := by decide +kernel
theorem dX5_parse_40 : decode cX5_parse 40 = .ok (.putfield 42, 3) := by decide +kernel
theorem dX5_parse_43 : decode cX5_parse 43 = .ok (.aload_n 0, 1) := by decide +kernel
theorem dX5_parse_44 : decode cX5_parse 44 = .ok (.iconst 0, 1) := by decide +kernel
theorem dX5_parse_45 : decode cX5_parse 45 = .ok (.putfield 45, 3) := by decide +kernel
theorem dX5_parse_48 : decode cX5_parse 48 = .ok (.iconst 0, 1) := by decide +kernel
theorem dX5_parse_49 : decode cX5_parse 49 = .ok (.istore_n 3, 1) := by decide +kernel
theorem dX5_parse_50 : decode cX5_parse 50 = .ok (.iload_n 3, 1) := by decide +kernel
theorem dX5_parse_51 : decode cX5_parse 51 = .ok (.sipush 400, 3) := by decide +kernel
theorem dX5_parse_54 : decode cX5_parse 54 = .ok (.if_icmp .gt 148, 3) := by decide +kernel
theorem dX5_parse_57 : decode cX5_parse 57 = .ok (.aload_n 0, 1) := by decide +kernel
theorem dX5_parse_58 : decode cX5_parse 58 = .ok (.getfield 39, 3) := by decide +kernel
theorem dX5_parse_61 : decode cX5_parse 61 = .ok (.ifCond .eq 141, 3) := by decide +kernel
theorem dX5_parse_202 : decode cX5_parse 202 = .ok (.aload_n 0, 1) := by decide +kernel
theorem dX5_parse_203 : decode cX5_parse 203 = .ok (.getfield 18, 3) := by decide +kernel
theorem dX5_parse_206 : decode cX5_parse 206 = .ok (.invokevirtual 78, 3) := by decide +kernel
theorem dX5_parse_209 : decode cX5_parse 209 = .ok (.aload_n 0, 1) := by decide +kernel
theorem dX5_parse_210 : decode cX5_parse 210 = .ok (.getfield 42, 3) := by decide +kernel
theorem dX5_parse_213 : decode cX5_parse 213 = .ok (.ifCond .eq 10, 3) := by decide +kernel
theorem dX5_parse_223 : decode cX5_parse 223 = .ok (.aload_n 0, 1) := by decide +kernel
theorem dX5_parse_224 : decode cX5_parse 224 = .ok (.getfield 45, 3) := by decide +kernel
theorem dX5_parse_227 : decode cX5_parse 227 = .ok (.ireturn, 1) := by decide +kernel
theorem dX6_fewest_0 : decode cX6_fewest 0 = .ok (.aload_n 0, 1) := by decide +kernel
theorem dX6_fewest_1 : decode cX6_fewest 1 = .ok (.lload_n 3, 1) := by decide +kernel
theorem dX6_fewest_2 : decode cX6_fewest 2 = .ok (.putfield 45, 3) := by decide +kernel
theorem dX6_fewest_5 : decode cX6_fewest 5 = .ok (.aload_n 0, 1) := by decide +kernel
theorem dX6_fewest_6 : decode cX6_fewest 6 = .ok (.lload 5, 2) := by decide +kernel
theorem dX6_fewest_8 : decode cX6_fewest 8 = .ok (.putfield 49, 3) := by decide +kernel
theorem dX6_fewest_11 : decode cX6_fewest 11 = .ok (.aload_n 0, 1) := by decide +kernel
theorem dX6_fewest_12 : decode cX6_fewest 12 = .ok (.lload_n 1, 1) := by decide +kernel
theorem dX6_fewest_13 : decode cX6_fewest 13 = .ok (.invokevirtual 52, 3) := by decide +kernel
theorem dX6_fewest_16 : decode cX6_fewest 16 = .ok (.ifCond .eq 5, 3) := by decide +kernel
theorem dX6_fewest_21 : decode cX6_fewest 21 = .ok (.aload_n 0, 1) := by decide +kernel
theorem dX6_fewest_22 : decode cX6_fewest 22 = .ok (.getfield 19, 3) := by decide +kernel
theorem dX6_fewest_25 : decode cX6_fewest 25 = .ok (.iconst 0, 1) := by decide +kernel
theorem dX6_fewest_26 : decode cX6_fewest 26 = .ok (.ldc2_w 56, 3) := by decide +kernel
theorem dX6_fewest_29 : decode cX6_fewest 29 = .ok (.lastore, 1) := by decide +kernel
theorem dX6_fewest_30 : decode cX6_fewest 30 = .ok (.iconst 0, 1) := by decide +kernel
theorem dX6_fewest_31 : decode cX6_fewest 31 = .ok (.istore 7, 2) := by decide +kernel
theorem dX6_fewest_33 : decode cX6_fewest 33 = .ok (.iload 7, 2) := by decide +kernel
theorem dX6_fewest_35 : decode cX6_fewest 35 = .ok (.aload_n 0, 1) := by decide +kernel
theorem dX6_fewest_36 : decode cX6_fewest 36 = .ok (.getfield 22, 3) := by decide +kernel
theorem dX6_fewest_39 : decode cX6_fewest 39 = .ok (.if_icmp .ge 33, 3) := by decide +kernel
theorem dX6_fewest_72 : decode cX6_fewest 72 = .ok (.aload_n 0, 1) := by decide +kernel
theorem dX6_fewest_73 : decode cX6_fewest 73 = .ok (.lload_n 1, 1) := by decide +kernel
theorem dX6_fewest_74 : decode cX6_fewest 74 = .ok (.aload_n 0, 1) := by decide +kernel
theorem dX6_fewest_75 : decode cX6_fewest 75 = .ok (.getfield 19, 3) := by decide +kernel
theorem dX6_fewest_78 : decode cX6_fewest 78 = .ok (.aload_n 0, 1) := by decide +kernel
theorem dX6_fewest_79 : decode cX6_fewest 79 = .ok (.getfield 22, 3) := by decide +kernel
theorem dX6_fewest_82 : decode cX6_fewest 82 = .ok (.laload, 1) := by decide +kernel
theorem dX6_fewest_83 : decode cX6_fewest 83 = .ok (.land, 1) := by decide +kernel
theorem dX6_fewest_84 : decode cX6_fewest 84 = .ok (.invokevirtual 52, 3) := by decide +kernel
theorem dX6_fewest_87 : decode cX6_fewest 87 = .ok (.ifCond .ne 6, 3) := by decide +kernel
theorem dX6_fewest_90 : decode cX6_fewest 90 = .ok (.bipush (-2), 2) := by decide +kernel
theorem dX6_fewest_92 : decode cX6_fewest 92 = .ok (.ireturn, 1) := by decide +kernel
theorem dX6_init_0 : decode cX6_init 0 = .ok (.aload_n 0, 1) := by decide +kernel
theorem dX6_init_1 : decode cX6_init 1 = .ok (.invokespecial 3, 3) := by decide +kernel
theorem dX6_init_4 : decode cX6_init 4 = .ok (.aload_n 0, 1) := by decide +kernel
theorem dX6_init_5 : decode cX6_init 5 = .ok (.bipush 16, 2) := by decide +kernel
theorem dX6_init_7 : decode cX6_init 7 = .ok (.newarray .long, 2) := by decide +kernel
theorem dX6_init_9 : decode cX6_init 9 = .ok (.putfield 9, 3) := by decide +kernel
theorem dX6_init_12 : decode cX6_init 12 = .ok (.aload_n 0, 1) := by decide +kernel
theorem dX6_init_13 : decode cX6_init 13 = .ok (.bipush 16, 2) := by decide +kernel
theorem dX6_init_15 : decode cX6_init 15 = .ok (.newarray .int, 2) := by decide +kernel
theorem dX6_init_17 : decode cX6_init 17 = .ok (.putfield 15, 3) := by decide +kernel
theorem dX6_init_20 : decode cX6_init 20 = .ok (.aload_n 0, 1) := by decide +kernel
theorem dX6_init_21 : decode cX6_init 21 = .ok (.bipush 17, 2) := by decide +kernel
theorem dX6_init_23 : decode cX6_init 23 = .ok (.newarray .long, 2) := by decide +kernel
theorem dX6_init_25 : decode cX6_init 25 = .ok (.putfield 19, 3) := by decide +kernel
theorem dX6_init_28 : decode cX6_init 28 = .ok (.return_, 1) := by decide +kernel
theorem dX6_isEnough_0 : decode cX6_isEnough 0 = .ok (.lload_n 1, 1) := by decide +kernel
theorem dX6_isEnough_1 : decode cX6_isEnough 1 = .ok (.aload_n 0, 1) := by decide +kernel
theorem dX6_isEnough_2 : decode cX6_isEnough 2 = .ok (.getfield 45, 3) := by decide +kernel
theorem dX6_isEnough_5 : decode cX6_isEnough 5 = .ok (.land, 1) := by decide +kernel
theorem dX6_isEnough_6 : decode cX6_isEnough 6 = .ok (.lconst 0, 1) := by decide +kernel
theorem dX6_isEnough_7 : decode cX6_isEnough 7 = .ok (.lcmp, 1) := by decide +kernel
theorem dX6_isEnough_8 : decode cX6_isEnough 8 = .ok (.ifCond .eq 14, 3) := by decide +kernel
theorem dX6_isEnough_11 : decode cX6_isEnough 11 = .ok (.lload_n 1, 1) := by decide +kernel
theorem dX6_isEnough_12 : decode cX6_isEnough 12 = .ok (.aload_n 0, 1) := by decide +kernel
theorem dX6_isEnough_13 : decode cX6_isEnough 13 = .ok (.getfield 49, 3) := by decide +kernel
theorem dX6_isEnough_16 : decode cX6_isEnough 16 = .ok (.land, 1) := by decide +kernel
theorem dX6_isEnough_17 : decode cX6_isEnough 17 = .ok (.lconst 0, 1) := by decide +kernel
theorem dX6_isEnough_18 : decode cX6_isEnough 18 = .ok (.lcmp, 1) := by decide +kernel
theorem dX6_isEnough_19 : decode cX6_isEnough 19 = .ok (.ifCond .ne 7, 3) := by decide +kernel
theorem dX6_isEnough_26 : decode cX6_isEnough 26 = .ok (.iconst 0, 1) := by decide +kernel
theorem dX6_isEnough_27 : decode cX6_isEnough 27 = .ok (.ireturn, 1) := by decide +kernel
theorem dX6_takeWords_0 : decode cX6_takeWords 0 = .ok (.aload_n 0, 1) := by decide +kernel
theorem dX6_takeWords_1 : decode cX6_takeWords 1 = .ok (.iconst 0, 1) := by decide +kernel
theorem dX6_takeWords_2 : decode cX6_takeWords 2 = .ok (.putfield 22, 3) := by decide +kernel
theorem dX6_takeWords_5 : decode cX6_takeWords 5 = .ok (.iconst 0, 1) := by decide +kernel
theorem dX6_takeWords_6 : decode cX6_takeWords 6 = .ok (.istore_n 3, 1) := by decide +kernel
theorem dX6_takeWords_7 : decode cX6_takeWords 7 = .ok (.iload_n 3, 1) := by decide +kernel
theorem dX6_takeWords_8 : decode cX6_takeWords 8 = .ok (.aload_n 1, 1) := by decide +kernel
theorem dX6_takeWords_9 : decode cX6_takeWords 9 = .ok (.getfield 26, 3) := by decide +kernel
theorem dX6_takeWords_12 : decode cX6_takeWords 12 = .ok (.if_icmp .ge 28, 3) := by decide +kernel
theorem dX6_takeWords_40 : decode cX6_takeWords 40 = .ok (.return_, 1) := by decide +kernel
theorem dX7_begin_0 : decode cX7_begin 0 = .ok (.aload_n 0, 1) := by decide +kernel
theorem dX7_begin_1 : decode cX7_begin 1 = .ok (.aload_n 1, 1) := by decide +kernel
theorem dX7_begin_2 : decode cX7_begin 2 = .ok (.getfield 25, 3) := by decide +kernel
theorem dX7_begin_5 : decode cX7_begin 5 = .ok (.putfield 31, 3) := by decide +kernel
theorem dX7_begin_8 : decode cX7_begin 8 = .ok (.aload_n 0, 1) := by decide +kernel
theorem dX7_begin_9 : decode cX7_begin 9 = .ok (.iconst 0, 1) := by decide +kernel
theorem dX7_begin_10 : decode cX7_begin 10 = .ok (.putfield 34, 3) := by decide +kernel
theorem dX7_begin_13 : decode cX7_begin 13 = .ok (.aload_n 0, 1) := by decide +kernel
theorem dX7_begin_14 : decode cX7_begin 14 = .ok (.iconst 0, 1) := by decide +kernel
theorem dX7_begin_15 : decode cX7_begin 15 = .ok (.putfield 37, 3) := by decide +kernel
theorem dX7_begin_18 : decode cX7_begin 18 = .ok (.aload_n 0, 1) := by decide +kernel
theorem dX7_begin_19 : decode cX7_begin 19 = .ok (.aload_n 1, 1) := by decide +kernel
theorem dX7_begin_20 : decode cX7_begin 20 = .ok (.getfield 40, 3) := by decide +kernel
theorem dX7_begin_23 : decode cX7_begin 23 = .ok (.putfield 43, 3) := by decide +kernel
theorem dX7_begin_26 : decode cX7_begin 26 = .ok (.aload_n 0, 1) := by decide +kernel
theorem dX7_begin_27 : decode cX7_begin 27 = .ok (.iconst 0, 1) := by decide +kernel
theorem dX7_begin_28 : decode cX7_begin 28 = .ok (.putfield 46, 3) := by decide +kernel
theorem dX7_begin_31 : decode cX7_begin 31 = .ok (.aload_n 0, 1) := by decide +kernel
theorem dX7_begin_32 : decode cX7_begin 32 = .ok (.aload_n 1, 1) := by decide +kernel
theorem dX7_begin_33 : decode cX7_begin 33 = .ok (.getfield 49, 3) := by decide +kernel
theorem dX7_begin_36 : decode cX7_begin 36 = .ok (.putfield 53, 3) := by decide +kernel
theorem dX7_begin_39 : decode cX7_begin 39 = .ok (.iconst 0, 1) := by decide +kernel
theorem dX7_begin_40 : decode cX7_begin 40 = .ok (.istore_n 2, 1) := by decide +kernel
theorem dX7_begin_41 : decode cX7_begin 41 = .ok (.iload_n 2, 1) := by decide +kernel
theorem dX7_begin_42 : decode cX7_begin 42 = .ok (.aload_n 1, 1) := by decide +kernel
theorem dX7_begin_43 : decode cX7_begin 43 = .ok (.getfield 56, 3) := by decide +kernel
theorem dX7_begin_46 : decode cX7_begin 46 = .ok (.if_icmp .ge 34, 3) := by decide +kernel
theorem dX7_begin_80 : decode cX7_begin 80 = .ok (.aload_n 0, 1) := by decide +kernel
theorem dX7_begin_81 : decode cX7_begin 81 = .ok (.getfield 9, 3) := by decide +kernel
theorem dX7_begin_84 : decode cX7_begin 84 = .ok (.iconst 0, 1) := by decide +kernel
theorem dX7_begin_85 : decode cX7_begin 85 = .ok (.invokestatic 63, 3) := by decide +kernel
theorem dX7_begin_88 : decode cX7_begin 88 = .ok (.aload_n 0, 1) := by decide +kernel
theorem dX7_begin_89 : decode cX7_begin 89 = .ok (.getfield 15, 3) := by decide +kernel
theorem dX7_begin_92 : decode cX7_begin 92 = .ok (.bipush (-2), 2) := by decide +kernel
theorem dX7_begin_94 : decode cX7_begin 94 = .ok (.invokestatic 63, 3) := by decide +kernel
theorem dX7_begin_97 : decode cX7_begin 97 = .ok (.aload_n 0, 1) := by decide +kernel
theorem dX7_begin_98 : decode cX7_begin 98 = .ok (.getfield 18, 3) := by decide +kernel
theorem dX7_begin_101 : decode cX7_begin 101 = .ok (.iconst 0, 1) := by decide +kernel
theorem dX7_begin_102 : decode cX7_begin 102 = .ok (.invokestatic 63, 3) := by decide +kernel
theorem dX7_begin_105 : decode cX7_begin 105 = .ok (.return_, 1) := by decide +kernel
theorem dX7_copyFrom_0 : decode cX7_copyFrom 0 = .ok (.aload_n 0, 1) := by decide +kernel
theorem dX7_copyFrom_1 : decode cX7_copyFrom 1 = .ok (.aload_n 1, 1) := by decide +kernel
theorem dX7_copyFrom_2 : decode cX7_copyFrom 2 = .ok (.invokevirtual 69, 3) := by decide +kernel
theorem dX7_copyFrom_5 : decode cX7_copyFrom 5 = .ok (.aload_n 1, 1) := by decide +kernel
theorem dX7_copyFrom_6 : decode cX7_copyFrom 6 = .ok (.getfield 9, 3) := by decide +kernel
theorem dX7_copyFrom_9 : decode cX7_copyFrom 9 = .ok (.iconst 0, 1) := by decide +kernel
theorem dX7_copyFrom_10 : decode cX7_copyFrom 10 = .ok (.aload_n 0, 1) := by decide +kernel
theorem dX7_copyFrom_11 : decode cX7_copyFrom 11 = .ok (.getfield 9, 3) := by decide +kernel
theorem dX7_copyFrom_14 : decode cX7_copyFrom 14 = .ok (.iconst 0, 1) := by decide +kernel
theorem dX7_copyFrom_15 : decode cX7_copyFrom 15 = .ok (.bipush 8, 2) := by decide +kernel
theorem dX7_copyFrom_17 : decode cX7_copyFrom 17 = .ok (.invokestatic 73, 3) := by decide +kernel
theorem dX7_copyFrom_20 : decode cX7_copyFrom 20 = .ok (.aload_n 1, 1) := by decide +kernel
theorem dX7_copyFrom_21 : decode cX7_copyFrom 21 = .ok (.getfield 15, 3) := by decide +kernel
theorem dX7_copyFrom_24 : decode cX7_copyFrom 24 = .ok (.iconst 0, 1) := by decide +kernel
theorem dX7_copyFrom_25 : decode cX7_copyFrom 25 = .ok (.aload_n 0, 1) := by decide +kernel
theorem dX7_copyFrom_26 : decode cX7_copyFrom 26 = .ok (.getfield 15, 3) := by decide +kernel
theorem dX7_copyFrom_29 : decode cX7_copyFrom 29 = .ok (.iconst 0, 1) := by decide +kernel
theorem dX7_copyFrom_30 : decode cX7_copyFrom 30 = .ok (.bipush 8, 2) := by decide +kernel
theorem dX7_copyFrom_32 : decode cX7_copyFrom 32 = .ok (.invokestatic 73, 3) := by decide +kernel
theorem dX7_copyFrom_35 : decode cX7_copyFrom 35 = .ok (.aload_n 1, 1) := by decide +kernel
theorem dX7_copyFrom_36 : decode cX7_copyFrom 36 = .ok (.getfield 18, 3) := by decide +kernel
theorem dX7_copyFrom_39 : decode cX7_copyFrom 39 = .ok (.iconst 0, 1) := by decide +kernel
theorem dX7_copyFrom_40 : decode cX7_copyFrom 40 = .ok (.aload_n 0, 1) := by decide +kernel
theorem dX7_copyFrom_41 : decode cX7_copyFrom 41 = .ok (.getfield 18, 3) := by decide +kernel
theorem dX7_copyFrom_44 : decode cX7_copyFrom 44 = .ok (.iconst 0, 1) := by decide +kernel
theorem dX7_copyFrom_45 : decode cX7_copyFrom 45 = .ok (.bipush 6, 2) := by decide +kernel
theorem dX7_copyFrom_47 : decode cX7_copyFrom 47 = .ok (.invokestatic 73, 3) := by decide +kernel
theorem dX7_copyFrom_50 : decode cX7_copyFrom 50 = .ok (.return_, 1) := by decide +kernel
theorem dX7_copyMoment_0 : decode cX7_copyMoment 0 = .ok (.aload_n 0, 1) := by decide +kernel
theorem dX7_copyMoment_1 : decode cX7_copyMoment 1 = .ok (.aload_n 1, 1) := by decide +kernel
theorem dX7_copyMoment_2 : decode cX7_copyMoment 2 = .ok (.getfield 31, 3) := by decide +kernel
theorem dX7_copyMoment_5 : decode cX7_copyMoment 5 = .ok (.putfield 31, 3) := by decide +kernel
theorem dX7_copyMoment_8 : decode cX7_copyMoment 8 = .ok (.aload_n 0, 1) := by decide +kernel
theorem dX7_copyMoment_9 : decode cX7_copyMoment 9 = .ok (.aload_n 1, 1) := by decide +kernel
theorem dX7_copyMoment_10 : decode cX7_copyMoment 10 = .ok (.getfield 34, 3) := by decide +kernel
theorem dX7_copyMoment_13 : decode cX7_copyMoment 13 = .ok (.putfield 34, 3) := by decide +kernel
theorem dX7_copyMoment_16 : decode cX7_copyMoment 16 = .ok (.aload_n 0, 1) := by decide +kernel
theorem dX7_copyMoment_17 : decode cX7_copyMoment 17 = .ok (.aload_n 1, 1) := by decide +kernel
theorem dX7_copyMoment_18 : decode cX7_copyMoment 18 = .ok (.getfield 37, 3) := by decide +kernel
theorem dX7_copyMoment_21 : decode cX7_copyMoment 21 = .ok (.putfield 37, 3) := by decide +kernel
theorem dX7_copyMoment_24 : decode cX7_copyMoment 24 = .ok (.aload_n 0, 1) := by decide +kernel
theorem dX7_copyMoment_25 : decode cX7_copyMoment 25 = .ok (.aload_n 1, 1) := by decide +kernel
theorem dX7_copyMoment_26 : decode cX7_copyMoment 26 = .ok (.getfield 43, 3) := by decide +kernel
theorem dX7_copyMoment_29 : decode cX7_copyMoment 29 = .ok (.putfield 43, 3) := by decide +kernel
theorem dX7_copyMoment_32 : decode cX7_copyMoment 32 = .ok (.aload_n 0, 1) := by decide +kernel
theorem dX7_copyMoment_33 : decode cX7_copyMoment 33 = .ok (.aload_n 1, 1) := by decide +kernel
theorem dX7_copyMoment_34 : decode cX7_copyMoment 34 = .ok (.getfield 46, 3) := by decide +kernel
theorem dX7_copyMoment_37 : decode cX7_copyMoment 37 = .ok (.putfield 46, 3) := by decide +kernel
theorem dX7_copyMoment_40 : decode cX7_copyMoment 40 = .ok (.aload_n 0, 1) := by decide +kernel
theorem dX7_copyMoment_41 : decode cX7_copyMoment 41 = .ok (.aload_n 1, 1) := by decide +kernel
theorem dX7_copyMoment_42 : decode cX7_copyMoment 42 = .ok (.getfield 53, 3) := by decide +kernel
theorem dX7_copyMoment_45 : decode cX7_copyMoment 45 = .ok (.putfield 53, 3) := by decide +kernel
theorem dX7_copyMoment_48 : decode cX7_copyMoment 48 = .ok (.return_, 1) := by decide +kernel
theorem dX7_goForward_0 : decode cX7_goForward 0 = .ok (.aload_n 0, 1) := by decide +kernel
theorem dX7_goForward_1 : decode cX7_goForward 1 = .ok (.getfield 31, 3) := by decide +kernel
theorem dX7_goForward_4 : decode cX7_goForward 4 = .ok (.istore_n 3, 1) := by decide +kernel
theorem dX7_goForward_5 : decode cX7_goForward 5 = .ok (.iload_n 3, 1) := by decide +kernel
theorem dX7_goForward_6 : decode cX7_goForward 6 = .ok (.iload_n 2, 1) := by decide +kernel
theorem dX7_goForward_7 : decode cX7_goForward 7 = .ok (.iadd, 1) := by decide +kernel
theorem dX7_goForward_8 : decode cX7_goForward 8 = .ok (.ldc 112, 2) := by decide +kernel
theorem dX7_goForward_10 : decode cX7_goForward 10 = .ok (.invokestatic 113, 3) := by decide +kernel
theorem dX7_goForward_13 : decode cX7_goForward 13 = .ok (.istore 4, 2) := by decide +kernel
theorem dX7_goForward_15 : decode cX7_goForward 15 = .ok (.iconst 0, 1) := by decide +kernel
theorem dX7_goForward_16 : decode cX7_goForward 16 = .ok (.istore 5, 2) := by decide +kernel
theorem dX7_goForward_18 : decode cX7_goForward 18 = .ok (.iload 5, 2) := by decide +kernel
theorem dX7_goForward_20 : decode cX7_goForward 20 = .ok (.aload_n 1, 1) := by decide +kernel
theorem dX7_goForward_21 : decode cX7_goForward 21 = .ok (.getfield 119, 3) := by decide +kernel
theorem dX7_goForward_24 : decode cX7_goForward 24 = .ok (.if_icmp .ge 39, 3) := by decide +kernel
theorem dX7_goForward_63 : decode cX7_goForward 63 = .ok (.aload_n 0, 1) := by decide +kernel
theorem dX7_goForward_64 : decode cX7_goForward 64 = .ok (.dup, 1) := by decide +kernel
theorem dX7_goForward_65 : decode cX7_goForward 65 = .ok (.getfield 128, 3) := by decide +kernel
theorem dX7_goForward_68 : decode cX7_goForward 68 = .ok (.aload_n 0, 1) := by decide +kernel
theorem dX7_goForward_69 : decode cX7_goForward 69 = .ok (.getfield 131, 3) := by decide +kernel
theorem dX7_goForward_72 : decode cX7_goForward 72 = .ok (.iload_n 3, 1) := by decide +kernel
theorem dX7_goForward_73 : decode cX7_goForward 73 = .ok (.if_icmp .le 16, 3) := by decide +kernel
theorem dX7_goForward_89 : decode cX7_goForward 89 = .ok (.iconst 0, 1) := by decide +kernel
theorem dX7_goForward_90 : decode cX7_goForward 90 = .ok (.ior, 1) := by decide +kernel
theorem dX7_goForward_91 : decode cX7_goForward 91 = .ok (.putfield 128, 3) := by decide +kernel
theorem dX7_goForward_94 : decode cX7_goForward 94 = .ok (.aload_n 0, 1) := by decide +kernel
theorem dX7_goForward_95 : decode cX7_goForward 95 = .ok (.iload 4, 2) := by decide +kernel
theorem dX7_goForward_97 : decode cX7_goForward 97 = .ok (.putfield 31, 3) := by decide +kernel
theorem dX7_goForward_100 : decode cX7_goForward 100 = .ok (.return_, 1) := by decide +kernel
theorem dX7_init_0 : decode cX7_init 0 = .ok (.aload_n 0, 1) := by decide +kernel
theorem dX7_init_1 : decode cX7_init 1 = .ok (.invokespecial 3, 3) := by decide +kernel
theorem dX7_init_4 : decode cX7_init 4 = .ok (.aload_n 0, 1) := by decide +kernel
theorem dX7_init_5 : decode cX7_init 5 = .ok (.bipush 8, 2) := by decide +kernel
theorem dX7_init_7 : decode cX7_init 7 = .ok (.newarray .int, 2) := by decide +kernel
theorem dX7_init_9 : decode cX7_init 9 = .ok (.putfield 9, 3) := by decide +kernel
theorem dX7_init_12 : decode cX7_init 12 = .ok (.aload_n 0, 1) := by decide +kernel
theorem dX7_init_13 : decode cX7_init 13 = .ok (.bipush 8, 2) := by decide +kernel
theorem dX7_init_15 : decode cX7_init 15 = .ok (.newarray .int, 2) := by decide +kernel
theorem dX7_init_17 : decode cX7_init 17 = .ok (.putfield 15, 3) := by decide +kernel
theorem dX7_init_20 : decode cX7_init 20 = .ok (.aload_n 0, 1) := by decide +kernel
theorem dX7_init_21 : decode cX7_init 21 = .ok (.bipush 6, 2) := by decide +kernel
theorem dX7_init_23 : decode cX7_init 23 = .ok (.newarray .int, 2) := by decide +kernel
theorem dX7_init_25 : decode cX7_init 25 = .ok (.putfield 18, 3) := by decide +kernel
theorem dX7_init_28 : decode cX7_init 28 = .ok (.aload_n 0, 1) := by decide +kernel
theorem dX7_init_29 : decode cX7_init 29 = .ok (.iload_n 1, 1) := by decide +kernel
theorem dX7_init_30 : decode cX7_init 30 = .ok (.putfield 21, 3) := by decide +kernel
theorem dX7_init_33 : decode cX7_init 33 = .ok (.return_, 1) := by decide +kernel
theorem dX8_append_0 : decode cX8_append 0 = .ok (.bipush 24, 2) := by decide +kernel
theorem dX8_append_2 : decode cX8_append 2 = .ok (.istore_n 2, 1) := by decide +kernel
theorem dX8_append_3 : decode cX8_append 3 = .ok (.iload_n 2, 1) := by decide +kernel
theorem dX8_append_4 : decode cX8_append 4 = .ok (.ifCond .lt 42, 3) := by decide +kernel
theorem dX8_append_7 : decode cX8_append 7 = .ok (.aload_n 0, 1) := by decide +kernel
theorem dX8_append_8 : decode cX8_append 8 = .ok (.getfield 15, 3) := by decide +kernel
theorem dX8_append_11 : decode cX8_append 11 = .ok (.sipush 2000, 3) := by decide +kernel
theorem dX8_append_14 : decode cX8_append 14 = .ok (.if_icmp .ge 32, 3) := by decide +kernel
theorem dX8_append_17 : decode cX8_append 17 = .ok (.aload_n 0, 1) := by decide +kernel
theorem dX8_append_18 : decode cX8_append 18 = .ok (.getfield 9, 3) := by decide +kernel
theorem dX8_append_21 : decode cX8_append 21 = .ok (.aload_n 0, 1) := by decide +kernel
theorem dX8_append_22 : decode cX8_append 22 = .ok (.getfield 15, 3) := by decide +kernel
theorem dX8_append_25 : decode cX8_append 25 = .ok (.iload_n 1, 1) := by decide +kernel
theorem dX8_append_26 : decode cX8_append 26 = .ok (.iload_n 2, 1) := by decide +kernel
theorem dX8_append_27 : decode cX8_append 27 = .ok (.ishr, 1) := by decide +kernel
theorem dX8_append_28 : decode cX8_append 28 = .ok (.i2b, 1) := by decide +kernel
theorem dX8_append_29 : decode cX8_append 29 = .ok (.bastore, 1) := by decide +kernel
theorem dX8_append_30 : decode cX8_append 30 = .ok (.aload_n 0, 1) := by decide +kernel
theorem dX8_append_31 : decode cX8_append 31 = .ok (.dup, 1) := by decide +kernel
theorem dX8_append_32 : decode cX8_append 32 = .ok (.getfield 15, 3) := by decide +kernel
theorem dX8_append_35 : decode cX8_append 35 = .ok (.iconst 1, 1) := by decide +kernel
theorem dX8_append_36 : decode cX8_append 36 = .ok (.iadd, 1) := by decide +kernel
theorem dX8_append_37 : decode cX8_append 37 = .ok (.putfield 15, 3) := by decide +kernel
theorem dX8_append_40 : decode cX8_append 40 = .ok (.iinc 2 (-8), 3) := by decide +kernel
theorem dX8_append_43 : decode cX8_append 43 = .ok (.goto (-40), 3) := by decide +kernel
theorem dX8_append_46 : decode cX8_append 46 = .ok (.return_, 1) := by decide +kernel
theorem dX8_at_0 : decode cX8_at 0 = .ok (.iload_n 1, 1) := by decide +kernel
theorem dX8_at_1 : decode cX8_at 1 = .ok (.ifCond .lt 24, 3) := by decide +kernel
theorem dX8_at_4 : decode cX8_at 4 = .ok (.iload_n 1, 1) := by decide +kernel
theorem dX8_at_5 : decode cX8_at 5 = .ok (.aload_n 0, 1) := by decide +kernel
theorem dX8_at_6 : decode cX8_at 6 = .ok (.getfield 15, 3) := by decide +kernel
theorem dX8_at_9 : decode cX8_at 9 = .ok (.if_icmp .ge 16, 3) := by decide +kernel
theorem dX8_at_25 : decode cX8_at 25 = .ok (.iconst (-1), 1) := by decide +kernel
theorem dX8_at_26 : decode cX8_at 26 = .ok (.ireturn, 1) := by decide +kernel
theorem dX8_copyFrom_0 : decode cX8_copyFrom 0 = .ok (.aload_n 1, 1) := by decide +kernel
theorem dX8_copyFrom_1 : decode cX8_copyFrom 1 = .ok (.getfield 9, 3) := by decide +kernel
theorem dX8_copyFrom_4 : decode cX8_copyFrom 4 = .ok (.iconst 0, 1) := by decide +kernel
theorem dX8_copyFrom_5 : decode cX8_copyFrom 5 = .ok (.aload_n 0, 1) := by decide +kernel
theorem dX8_copyFrom_6 : decode cX8_copyFrom 6 = .ok (.getfield 9, 3) := by decide +kernel
theorem dX8_copyFrom_9 : decode cX8_copyFrom 9 = .ok (.iconst 0, 1) := by decide +kernel
theorem dX8_copyFrom_10 : decode cX8_copyFrom 10 = .ok (.aload_n 1, 1) := by decide +kernel
theorem dX8_copyFrom_11 : decode cX8_copyFrom 11 = .ok (.getfield 15, 3) := by decide +kernel
theorem dX8_copyFrom_14 : decode cX8_copyFrom 14 = .ok (.invokestatic 19, 3) := by decide +kernel
theorem dX8_copyFrom_17 : decode cX8_copyFrom 17 = .ok (.aload_n 0, 1) := by decide +kernel
theorem dX8_copyFrom_18 : decode cX8_copyFrom 18 = .ok (.aload_n 1, 1) := by decide +kernel
theorem dX8_copyFrom_19 : decode cX8_copyFrom 19 = .ok (.getfield 15, 3) := by decide +kernel
theorem dX8_copyFrom_22 : decode cX8_copyFrom 22 = .ok (.putfield 15, 3) := by decide +kernel
theorem dX8_copyFrom_25 : decode cX8_copyFrom 25 = .ok (.return_, 1) := by decide +kernel
theorem dX8_init_0 : decode cX8_init 0 = .ok (.aload_n 0, 1) := by decide +kernel
theorem dX8_init_1 : decode cX8_init 1 = .ok (.invokespecial 3, 3) := by decide +kernel
theorem dX8_init_4 : decode cX8_init 4 = .ok (.aload_n 0, 1) := by decide +kernel
theorem dX8_init_5 : decode cX8_init 5 = .ok (.sipush 2000, 3) := by decide +kernel
theorem dX8_init_8 : decode cX8_init 8 = .ok (.newarray .byte, 2) := by decide +kernel
theorem dX8_init_10 : decode cX8_init 10 = .ok (.putfield 9, 3) := by decide +kernel
theorem dX8_init_13 : decode cX8_init 13 = .ok (.return_, 1) := by decide +kernel
theorem dX9_add_0 : decode cX9_add 0 = .ok (.aload_n 0, 1) := by decide +kernel
theorem dX9_add_1 : decode cX9_add 1 = .ok (.getfield 41, 3) := by decide +kernel
theorem dX9_add_4 : decode cX9_add 4 = .ok (.sipush 400, 3) := by decide +kernel
theorem dX9_add_7 : decode cX9_add 7 = .ok (.if_icmp .gt 43, 3) := by decide +kernel
theorem dX9_add_10 : decode cX9_add 10 = .ok (.aload_n 0, 1) := by decide +kernel
theorem dX9_add_11 : decode cX9_add 11 = .ok (.getfield 9, 3) := by decide +kernel
theorem dX9_add_14 : decode cX9_add 14 = .ok (.aload_n 0, 1) := by decide +kernel
theorem dX9_add_15 : decode cX9_add 15 = .ok (.getfield 41, 3) := by decide +kernel
theorem dX9_add_18 : decode cX9_add 18 = .ok (.iload_n 1, 1) := by decide +kernel
theorem dX9_add_19 : decode cX9_add 19 = .ok (.iastore, 1) := by decide +kernel
theorem dX9_add_20 : decode cX9_add 20 = .ok (.aload_n 0, 1) := by decide +kernel
theorem dX9_add_21 : decode cX9_add 21 = .ok (.getfield 15, 3) := by decide +kernel
theorem dX9_add_24 : decode cX9_add 24 = .ok (.aload_n 0, 1) := by decide +kernel
theorem dX9_add_25 : decode cX9_add 25 = .ok (.getfield 41, 3) := by decide +kernel
theorem dX9_add_28 : decode cX9_add 28 = .ok (.iload_n 2, 1) := by decide +kernel
theorem dX9_add_29 : decode cX9_add 29 = .ok (.iastore, 1) := by decide +kernel
theorem dX9_add_30 : decode cX9_add 30 = .ok (.aload_n 0, 1) := by decide +kernel
theorem dX9_add_31 : decode cX9_add 31 = .ok (.getfield 18, 3) := by decide +kernel
theorem dX9_add_34 : decode cX9_add 34 = .ok (.aload_n 0, 1) := by decide +kernel
theorem dX9_add_35 : decode cX9_add 35 = .ok (.getfield 41, 3) := by decide +kernel
theorem dX9_add_38 : decode cX9_add 38 = .ok (.lload_n 3, 1) := by decide +kernel
theorem dX9_add_39 : decode cX9_add 39 = .ok (.lastore, 1) := by decide +kernel
theorem dX9_add_40 : decode cX9_add 40 = .ok (.aload_n 0, 1) := by decide +kernel
theorem dX9_add_41 : decode cX9_add 41 = .ok (.dup, 1) := by decide +kernel
theorem dX9_add_42 : decode cX9_add 42 = .ok (.getfield 41, 3) := by decide +kernel
theorem dX9_add_45 : decode cX9_add 45 = .ok (.iconst 1, 1) := by decide +kernel
theorem dX9_add_46 : decode cX9_add 46 = .ok (.iadd, 1) := by decide +kernel
theorem dX9_add_47 : decode cX9_add 47 = .ok (.putfield 41, 3) := by decide +kernel
theorem dX9_add_50 : decode cX9_add 50 = .ok (.return_, 1) := by decide +kernel
theorem dX9_cut_0 : decode cX9_cut 0 = .ok (.aload_n 0, 1) := by decide +kernel
theorem dX9_cut_1 : decode cX9_cut 1 = .ok (.iconst 0, 1) := by decide +kernel
theorem dX9_cut_2 : decode cX9_cut 2 = .ok (.putfield 41, 3) := by decide +kernel
theorem dX9_cut_5 : decode cX9_cut 5 = .ok (.iconst 0, 1) := by decide +kernel
theorem dX9_cut_6 : decode cX9_cut 6 = .ok (.istore_n 2, 1) := by decide +kernel
theorem dX9_cut_7 : decode cX9_cut 7 = .ok (.iconst 1, 1) := by decide +kernel
theorem dX9_cut_8 : decode cX9_cut 8 = .ok (.istore_n 3, 1) := by decide +kernel
theorem dX9_cut_9 : decode cX9_cut 9 = .ok (.iconst 0, 1) := by decide +kernel
theorem dX9_cut_10 : decode cX9_cut 10 = .ok (.istore 4, 2) := by decide +kernel
theorem dX9_cut_12 : decode cX9_cut 12 = .ok (.iload 4, 2) := by decide +kernel
theorem dX9_cut_14 : decode cX9_cut 14 = .ok (.sipush 400, 3) := by decide +kernel
theorem dX9_cut_17 : decode cX9_cut 17 = .ok (.if_icmp .gt 51, 3) := by decide +kernel
theorem dX9_cut_20 : decode cX9_cut 20 = .ok (.iload_n 3, 1) := by decide +kernel
theorem dX9_cut_21 : decode cX9_cut 21 = .ok (.ifCond .eq 47, 3) := by decide +kernel
theorem dX9_cut_24 : decode cX9_cut 24 = .ok (.aload_n 0, 1) := by decide +kernel
theorem dX9_cut_25 : decode cX9_cut 25 = .ok (.aload_n 1, 1) := by decide +kernel
theorem dX9_cut_26 : decode cX9_cut 26 = .ok (.aload_n 1, 1) := by decide +kernel
theorem dX9_cut_27 : decode cX9_cut 27 = .ok (.iload_n 2, 1) := by decide +kernel
theorem dX9_cut_28 : decode cX9_cut 28 = .ok (.invokestatic 45, 3) := by decide +kernel
theorem dX9_cut_31 : decode cX9_cut 31 = .ok (.invokevirtual 49, 3) := by decide +kernel
theorem dX9_cut_34 : decode cX9_cut 34 = .ok (.istore_n 2, 1) := by decide +kernel
theorem dX9_cut_35 : decode cX9_cut 35 = .ok (.aload_n 0, 1) := by decide +kernel
theorem dX9_cut_36 : decode cX9_cut 36 = .ok (.getfield 9, 3) := by decide +kernel
theorem dX9_cut_39 : decode cX9_cut 39 = .ok (.iload 4, 2) := by decide +kernel
theorem dX9_cut_41 : decode cX9_cut 41 = .ok (.iaload, 1) := by decide +kernel
theorem dX9_cut_42 : decode cX9_cut 42 = .ok (.ifCond .eq 18, 3) := by decide +kernel
theorem dX9_cut_60 : decode cX9_cut 60 = .ok (.iconst 0, 1) := by decide +kernel
theorem dX9_cut_61 : decode cX9_cut 61 = .ok (.istore_n 3, 1) := by decide +kernel
theorem dX9_cut_62 : decode cX9_cut 62 = .ok (.iinc 4 1, 3) := by decide +kernel
theorem dX9_cut_65 : decode cX9_cut 65 = .ok (.goto (-53), 3) := by decide +kernel
theorem dX9_cut_68 : decode cX9_cut 68 = .ok (.return_, 1) := by decide +kernel
theorem dX9_cutOne_0 : decode cX9_cutOne 0 = .ok (.aload_n 1, 1) := by decide +kernel
theorem dX9_cutOne_1 : decode cX9_cutOne 1 = .ok (.iload_n 2, 1) := by decide +kernel
theorem dX9_cutOne_2 : decode cX9_cutOne 2 = .ok (.invokevirtual 56, 3) := by decide +kernel
theorem dX9_cutOne_5 : decode cX9_cutOne 5 = .ok (.istore_n 3, 1) := by decide +kernel
theorem dX9_cutOne_6 : decode cX9_cutOne 6 = .ok (.iload_n 3, 1) := by decide +kernel
theorem dX9_cutOne_7 : decode cX9_cutOne 7 = .ok (.invokestatic 64, 3) := by decide +kernel
theorem dX9_cutOne_10 : decode cX9_cutOne 10 = .ok (.ifCond .eq 10, 3) := by decide +kernel
theorem dX9_cutOne_20 : decode cX9_cutOne 20 = .ok (.iload_n 3, 1) := by decide +kernel
theorem dX9_cutOne_21 : decode cX9_cutOne 21 = .ok (.invokestatic 70, 3) := by decide +kernel
theorem dX9_cutOne_24 : decode cX9_cutOne 24 = .ok (.ifCond .eq 10, 3) := by decide +kernel
theorem dX9_cutOne_34 : decode cX9_cutOne 34 = .ok (.iload_n 3, 1) := by decide +kernel
theorem dX9_cutOne_35 : decode cX9_cutOne 35 = .ok (.iconst (-1), 1) := by decide +kernel
theorem dX9_cutOne_36 : decode cX9_cutOne 36 = .ok (.if_icmp .ne 13, 3) := by decide +kernel
theorem dX9_cutOne_39 : decode cX9_cutOne 39 = .ok (.aload_n 0, 1) := by decide +kernel
theorem dX9_cutOne_40 : decode cX9_cutOne 40 = .ok (.iconst 0, 1) := by decide +kernel
theorem dX9_cutOne_41 : decode cX9_cutOne 41 = .ok (.iload_n 2, 1) := by decide +kernel
theorem dX9_cutOne_42 : decode cX9_cutOne 42 = .ok (.lconst 0, 1) := by decide +kernel
theorem dX9_cutOne_43 : decode cX9_cutOne 43 = .ok (.invokevirtual 76, 3) := by decide +kernel
theorem dX9_cutOne_46 : decode cX9_cutOne 46 = .ok (.goto 24, 3) := by decide +kernel
theorem dX9_cutOne_70 : decode cX9_cutOne 70 = .ok (.iload_n 2, 1) := by decide +kernel
theorem dX9_cutOne_71 : decode cX9_cutOne 71 = .ok (.iconst 1, 1) := by decide +kernel
theorem dX9_cutOne_72 : decode cX9_cutOne 72 = .ok (.iadd, 1) := by decide +kernel
theorem dX9_cutOne_73 : decode cX9_cutOne 73 = .ok (.ireturn, 1) := by decide +kernel
theorem dX9_init_0 : decode cX9_init 0 = .ok (.aload_n 0, 1) := by decide +kernel
theorem dX9_init_1 : decode cX9_init 1 = .ok (.invokespecial 3, 3) := by decide +kernel
theorem dX9_init_4 : decode cX9_init 4 = .ok (.aload_n 0, 1) := by decide +kernel
theorem dX9_init_5 : decode cX9_init 5 = .ok (.sipush 401, 3) := by decide +kernel
theorem dX9_init_8 : decode cX9_init 8 = .ok (.newarray .int, 2) := by decide +kernel
theorem dX9_init_10 : decode cX9_init 10 = .ok (.putfield 9, 3) := by decide +kernel
theorem dX9_init_13 : decode cX9_init 13 = .ok (.aload_n 0, 1) := by decide +kernel
theorem dX9_init_14 : decode cX9_init 14 = .ok (.sipush 401, 3) := by decide +kernel
theorem dX9_init_17 : decode cX9_init 17 = .ok (.newarray .int, 2) := by decide +kernel
theorem dX9_init_19 : decode cX9_init 19 = .ok (.putfield 15, 3) := by decide +kernel
theorem dX9_init_22 : decode cX9_init 22 = .ok (.aload_n 0, 1) := by decide +kernel
theorem dX9_init_23 : decode cX9_init 23 = .ok (.sipush 401, 3) := by decide +kernel
theorem dX9_init_26 : decode cX9_init 26 = .ok (.newarray .long, 2) := by decide +kernel
theorem dX9_init_28 : decode cX9_init 28 = .ok (.putfield 18, 3) := by decide +kernel
theorem dX9_init_31 : decode cX9_init 31 = .ok (.aload_n 0, 1) := by decide +kernel
theorem dX9_init_32 : decode cX9_init 32 = .ok (.bipush 18, 2) := by decide +kernel
theorem dX9_init_34 : decode cX9_init 34 = .ok (.newarray .long, 2) := by decide +kernel
theorem dX9_init_36 : decode cX9_init 36 = .ok (.putfield 22, 3) := by decide +kernel
theorem dX9_init_39 : decode cX9_init 39 = .ok (.iconst 0, 1) := by decide +kernel
theorem dX9_init_40 : decode cX9_init 40 = .ok (.istore_n 1, 1) := by decide +kernel
theorem dX9_init_41 : decode cX9_init 41 = .ok (.lconst 0, 1) := by decide +kernel
theorem dX9_init_42 : decode cX9_init 42 = .ok (.lstore_n 2, 1) := by decide +kernel
theorem dX9_init_43 : decode cX9_init 43 = .ok (.iconst 0, 1) := by decide +kernel
theorem dX9_init_44 : decode cX9_init 44 = .ok (.istore 4, 2) := by decide +kernel
theorem dX9_init_46 : decode cX9_init 46 = .ok (.iload 4, 2) := by decide +kernel
theorem dX9_init_48 : decode cX9_init 48 = .ok (.ldc 25, 2) := by decide +kernel
theorem dX9_init_50 : decode cX9_init 50 = .ok (.invokevirtual 27, 3) := by decide +kernel
theorem dX9_init_53 : decode cX9_init 53 = .ok (.if_icmp .ge 53, 3) := by decide +kernel
theorem dX9_init_56 : decode cX9_init 56 = .ok (.iload_n 1, 1) := by decide +kernel
theorem dX9_init_57 : decode cX9_init 57 = .ok (.bipush 18, 2) := by decide +kernel
theorem dX9_init_59 : decode cX9_init 59 = .ok (.if_icmp .ge 47, 3) := by decide +kernel
theorem dX9_init_62 : decode cX9_init 62 = .ok (.ldc 25, 2) := by decide +kernel
theorem dX9_init_64 : decode cX9_init 64 = .ok (.iload 4, 2) := by decide +kernel
theorem dX9_init_66 : decode cX9_init 66 = .ok (.invokevirtual 33, 3) := by decide +kernel
theorem dX9_init_69 : decode cX9_init 69 = .ok (.istore 5, 2) := by decide +kernel
theorem dX9_init_71 : decode cX9_init 71 = .ok (.iload 5, 2) := by decide +kernel
theorem dX9_init_73 : decode cX9_init 73 = .ok (.bipush 32, 2) := by decide +kernel
theorem dX9_init_75 : decode cX9_init 75 = .ok (.if_icmp .ne 18, 3) := by decide +kernel
theorem dX9_init_78 : decode cX9_init 78 = .ok (.aload_n 0, 1) := by decide +kernel
theorem dX9_init_79 : decode cX9_init 79 = .ok (.getfield 22, 3) := by decide +kernel
theorem dX9_init_82 : decode cX9_init 82 = .ok (.iload_n 1, 1) := by decide +kernel
theorem dX9_init_83 : decode cX9_init 83 = .ok (.lload_n 2, 1) := by decide +kernel
theorem dX9_init_84 : decode cX9_init 84 = .ok (.lastore, 1) := by decide +kernel
theorem dX9_init_85 : decode cX9_init 85 = .ok (.iinc 1 1, 3) := by decide +kernel
theorem dX9_init_88 : decode cX9_init 88 = .ok (.lconst 0, 1) := by decide +kernel
theorem dX9_init_89 : decode cX9_init 89 = .ok (.lstore_n 2, 1) := by decide +kernel
theorem dX9_init_90 : decode cX9_init 90 = .ok (.goto 10, 3) := by decide +kernel
theorem dX9_init_93 : decode cX9_init 93 = .ok (.lload_n 2, 1) := by decide +kernel
theorem dX9_init_94 : decode cX9_init 94 = .ok (.iload 5, 2) := by decide +kernel
theorem dX9_init_96 : decode cX9_init 96 = .ok (.invokestatic 37, 3) := by decide +kernel
theorem dX9_init_99 : decode cX9_init 99 = .ok (.lstore_n 2, 1) := by decide +kernel
theorem dX9_init_100 : decode cX9_init 100 = .ok (.iinc 4 1, 3) := by decide +kernel
theorem dX9_init_103 : decode cX9_init 103 = .ok (.goto (-57), 3) := by decide +kernel
theorem dX9_init_106 : decode cX9_init 106 = .ok (.return_, 1) := by decide +kernel
theorem dX9_isDigit_0 : decode cX9_isDigit 0 = .ok (.iload_n 0, 1) := by decide +kernel
theorem dX9_isDigit_1 : decode cX9_isDigit 1 = .ok (.bipush 48, 2) := by decide +kernel
theorem dX9_isDigit_3 : decode cX9_isDigit 3 = .ok (.if_icmp .lt 13, 3) := by decide +kernel
theorem dX9_isDigit_16 : decode cX9_isDigit 16 = .ok (.iconst 0, 1) := by decide +kernel
theorem dX9_isDigit_17 : decode cX9_isDigit 17 = .ok (.ireturn, 1) := by decide +kernel
theorem dX9_isLetter_0 : decode cX9_isLetter 0 = .ok (.iload_n 0, 1) := by decide +kernel
theorem dX9_isLetter_1 : decode cX9_isLetter 1 = .ok (.bipush 97, 2) := by decide +kernel
theorem dX9_isLetter_3 : decode cX9_isLetter 3 = .ok (.if_icmp .lt 13, 3) := by decide +kernel
theorem dX9_isLetter_16 : decode cX9_isLetter 16 = .ok (.iconst 0, 1) := by decide +kernel
theorem dX9_isLetter_17 : decode cX9_isLetter 17 = .ok (.ireturn, 1) := by decide +kernel
theorem dX9_skipBlanks_0 : decode cX9_skipBlanks 0 = .ok (.iload_n 1, 1) := by decide +kernel
theorem dX9_skipBlanks_1 : decode cX9_skipBlanks 1 = .ok (.istore_n 2, 1) := by decide +kernel
theorem dX9_skipBlanks_2 : decode cX9_skipBlanks 2 = .ok (.iload_n 1, 1) := by decide +kernel
theorem dX9_skipBlanks_3 : decode cX9_skipBlanks 3 = .ok (.istore_n 3, 1) := by decide +kernel
theorem dX9_skipBlanks_4 : decode cX9_skipBlanks 4 = .ok (.iload_n 3, 1) := by decide +kernel
theorem dX9_skipBlanks_5 : decode cX9_skipBlanks 5 = .ok (.aload_n 0, 1) := by decide +kernel
theorem dX9_skipBlanks_6 : decode cX9_skipBlanks 6 = .ok (.getfield 52, 3) := by decide +kernel
theorem dX9_skipBlanks_9 : decode cX9_skipBlanks 9 = .ok (.if_icmp .ge 24, 3) := by decide +kernel
theorem dX9_skipBlanks_33 : decode cX9_skipBlanks 33 = .ok (.iload_n 2, 1) := by decide +kernel
theorem dX9_skipBlanks_34 : decode cX9_skipBlanks 34 = .ok (.ireturn, 1) := by decide +kernel
theorem dX9_withLetter_0 : decode cX9_withLetter 0 = .ok (.lload_n 0, 1) := by decide +kernel
theorem dX9_withLetter_1 : decode cX9_withLetter 1 = .ok (.ldc2_w 93, 3) := by decide +kernel
theorem dX9_withLetter_4 : decode cX9_withLetter 4 = .ok (.lmul, 1) := by decide +kernel
theorem dX9_withLetter_5 : decode cX9_withLetter 5 = .ok (.iload_n 2, 1) := by decide +kernel
theorem dX9_withLetter_6 : decode cX9_withLetter 6 = .ok (.bipush 97, 2) := by decide +kernel
theorem dX9_withLetter_8 : decode cX9_withLetter 8 = .ok (.isub, 1) := by decide +kernel
theorem dX9_withLetter_9 : decode cX9_withLetter 9 = .ok (.iconst 1, 1) := by decide +kernel
theorem dX9_withLetter_10 : decode cX9_withLetter 10 = .ok (.iadd, 1) := by decide +kernel
theorem dX9_withLetter_11 : decode cX9_withLetter 11 = .ok (.i2l, 1) := by decide +kernel
theorem dX9_withLetter_12 : decode cX9_withLetter 12 = .ok (.ladd, 1) := by decide +kernel
theorem dX9_withLetter_13 : decode cX9_withLetter 13 = .ok (.lreturn, 1) := by decide +kernel

