theorem dX5_sum_28 : decode cX5_sum 28 = .ok (.bipush 45, 2) := by decide +kernel
theorem dX5_sum_30 : decode cX5_sum 30 = .ok (.if_icmp .ne 35, 3) := by decide +kernel
theorem dX5_sum_33 : decode cX5_sum 33 = .ok (.aload_n 0, 1) := by decide +kernel
theorem dX5_sum_34 : decode cX5_sum 34 = .ok (.getfield 39, 3) := by decide +kernel
theorem dX5_sum_37 : decode cX5_sum 37 = .ok (.istore 4, 2) := by decide +kernel
theorem dX5_sum_39 : decode cX5_sum 39 = .ok (.aload_n 0, 1) := by decide +kernel
theorem dX5_sum_40 : decode cX5_sum 40 = .ok (.iload 4, 2) := by decide +kernel
theorem dX5_sum_42 : decode cX5_sum 42 = .ok (.invokevirtual 88, 3) := by decide +kernel
theorem dX5_sum_45 : decode cX5_sum 45 = .ok (.pop, 1) := by decide +kernel
theorem dX5_sum_46 : decode cX5_sum 46 = .ok (.aload_n 0, 1) := by decide +kernel
theorem dX5_sum_47 : decode cX5_sum 47 = .ok (.aload_n 1, 1) := by decide +kernel
theorem dX5_sum_48 : decode cX5_sum 48 = .ok (.iload_n 2, 1) := by decide +kernel
theorem dX5_sum_49 : decode cX5_sum 49 = .ok (.invokevirtual 183, 3) := by decide +kernel
theorem dX5_sum_52 : decode cX5_sum 52 = .ok (.aload_n 1, 1) := by decide +kernel
theorem dX5_sum_53 : decode cX5_sum 53 = .ok (.iload 4, 2) := by decide +kernel
theorem dX5_sum_55 : decode cX5_sum 55 = .ok (.ineg, 1) := by decide +kernel
theorem dX5_sum_56 : decode cX5_sum 56 = .ok (.invokevirtual 186, 3) := by decide +kernel
theorem dX5_sum_59 : decode cX5_sum 59 = .ok (.iinc 3 1, 3) := by decide +kernel
theorem dX5_sum_62 : decode cX5_sum 62 = .ok (.goto (-54), 3) := by decide +kernel
theorem dX5_sum_65 : decode cX5_sum 65 = .ok (.return_, 1) := by decide +kernel
theorem dX5_take_0 : decode cX5_take 0 = .ok (.aload_n 0, 1) := by decide +kernel
theorem dX5_take_1 : decode cX5_take 1 = .ok (.iload_n 1, 1) := by decide +kernel
theorem dX5_take_2 : decode cX5_take 2 = .ok (.invokevirtual 88, 3) := by decide +kernel
theorem dX5_take_5 : decode cX5_take 5 = .ok (.ifCond .ne 10, 3) := by decide +kernel
theorem dX5_take_8 : decode cX5_take 8 = .ok (.aload_n 0, 1) := by decide +kernel
theorem dX5_take_9 : decode cX5_take 9 = .ok (.iconst 1, 1) := by decide +kernel
theorem dX5_take_10 : decode cX5_take 10 = .ok (.invokevirtual 74, 3) := by decide +kernel
theorem dX5_take_13 : decode cX5_take 13 = .ok (.lconst 0, 1) := by decide +kernel
theorem dX5_take_14 : decode cX5_take 14 = .ok (.lreturn, 1) := by decide +kernel
theorem dX5_take_15 : decode cX5_take 15 = .ok (.aload_n 0, 1) := by decide +kernel
theorem dX5_take_16 : decode cX5_take 16 = .ok (.getfield 12, 3) := by decide +kernel
theorem dX5_take_19 : decode cX5_take 19 = .ok (.getfield 92, 3) := by decide +kernel
theorem dX5_take_22 : decode cX5_take 22 = .ok (.aload_n 0, 1) := by decide +kernel
theorem dX5_take_23 : decode cX5_take 23 = .ok (.getfield 31, 3) := by decide +kernel
theorem dX5_take_26 : decode cX5_take 26 = .ok (.iconst 1, 1) := by decide +kernel
theorem dX5_take_27 : decode cX5_take 27 = .ok (.isub, 1) := by decide +kernel
theorem dX5_take_28 : decode cX5_take 28 = .ok (.laload, 1) := by decide +kernel
theorem dX5_take_29 : decode cX5_take 29 = .ok (.lreturn, 1) := by decide +kernel
theorem dX5_takeMinute_0 : decode cX5_takeMinute 0 = .ok (.aload_n 0, 1) := by decide +kernel
theorem dX5_takeMinute_1 : decode cX5_takeMinute 1 = .ok (.iconst 3, 1) := by decide +kernel
theorem dX5_takeMinute_2 : decode cX5_takeMinute 2 = .ok (.invokevirtual 124, 3) := by decide +kernel
theorem dX5_takeMinute_5 : decode cX5_takeMinute 5 = .ok (.l2i, 1) := by decide +kernel
theorem dX5_takeMinute_6 : decode cX5_takeMinute 6 = .ok (.istore_n 1, 1) := by decide +kernel
theorem dX5_takeMinute_7 : decode cX5_takeMinute 7 = .ok (.iload_n 1, 1) := by decide +kernel
theorem dX5_takeMinute_8 : decode cX5_takeMinute 8 = .ok (.sipush 2879, 3) := by decide +kernel
theorem dX5_takeMinute_11 : decode cX5_takeMinute 11 = .ok (.if_icmp .le 8, 3) := by decide +kernel
theorem dX5_takeMinute_14 : decode cX5_takeMinute 14 = .ok (.aload_n 0, 1) := by decide +kernel
theorem dX5_takeMinute_15 : decode cX5_takeMinute 15 = .ok (.iconst 5, 1) := by decide +kernel
theorem dX5_takeMinute_16 : decode cX5_takeMinute 16 = .ok (.invokevirtual 132, 3) := by decide +kernel
theorem dX5_takeMinute_19 : decode cX5_takeMinute 19 = .ok (.iload_n 1, 1) := by decide +kernel
theorem dX5_takeMinute_20 : decode cX5_takeMinute 20 = .ok (.ireturn, 1) := by decide +kernel
theorem dX5_takeNewName_0 : decode cX5_takeNewName 0 = .ok (.aload_n 0, 1) := by decide +kernel
theorem dX5_takeNewName_1 : decode cX5_takeNewName 1 = .ok (.iconst 2, 1) := by decide +kernel
theorem dX5_takeNewName_2 : decode cX5_takeNewName 2 = .ok (.invokevirtual 124, 3) := by decide +kernel
theorem dX5_takeNewName_5 : decode cX5_takeNewName 5 = .ok (.lstore_n 1, 1) := by decide +kernel
theorem dX5_takeNewName_6 : decode cX5_takeNewName 6 = .ok (.aload_n 0, 1) := by decide +kernel
theorem dX5_takeNewName_7 : decode cX5_takeNewName 7 = .ok (.getfield 18, 3) := by decide +kernel
theorem dX5_takeNewName_10 : decode cX5_takeNewName 10 = .ok (.lload_n 1, 1) := by decide +kernel
theorem dX5_takeNewName_11 : decode cX5_takeNewName 11 = .ok (.invokevirtual 162, 3) := by decide +kernel
theorem dX5_takeNewName_14 : decode cX5_takeNewName 14 = .ok (.ifCond .eq 8, 3) := by decide +kernel
theorem dX5_takeNewName_17 : decode cX5_takeNewName 17 = .ok (.aload_n 0, 1) := by decide +kernel
theorem dX5_takeNewName_18 : decode cX5_takeNewName 18 = .ok (.iconst 3, 1) := by decide +kernel
theorem dX5_takeNewName_19 : decode cX5_takeNewName 19 = .ok (.invokevirtual 132, 3) := by decide +kernel
theorem dX5_takeNewName_22 : decode cX5_takeNewName 22 = .ok (.lload_n 1, 1) := by decide +kernel
theorem dX5_takeNewName_23 : decode cX5_takeNewName 23 = .ok (.lreturn, 1) := by decide +kernel
theorem dX5_tellCase_0 : decode cX5_tellCase 0 = .ok (.aload_n 0, 1) := by decide +kernel
theorem dX5_tellCase_1 : decode cX5_tellCase 1 = .ok (.aload_n 0, 1) := by decide +kernel
theorem dX5_tellCase_2 : decode cX5_tellCase 2 = .ok (.getfield 18, 3) := by decide +kernel
theorem dX5_tellCase_5 : decode cX5_tellCase 5 = .ok (.getfield 142, 3) := by decide +kernel
theorem dX5_tellCase_8 : decode cX5_tellCase 8 = .ok (.bipush 8, 2) := by decide +kernel
theorem dX5_tellCase_10 : decode cX5_tellCase 10 = .ok (.invokevirtual 99, 3) := by decide +kernel
theorem dX5_tellCase_13 : decode cX5_tellCase 13 = .ok (.aload_n 0, 1) := by decide +kernel
theorem dX5_tellCase_14 : decode cX5_tellCase 14 = .ok (.invokevirtual 103, 3) := by decide +kernel
theorem dX5_tellCase_17 : decode cX5_tellCase 17 = .ok (.lstore_n 1, 1) := by decide +kernel
theorem dX5_tellCase_18 : decode cX5_tellCase 18 = .ok (.aload_n 0, 1) := by decide +kernel
theorem dX5_tellCase_19 : decode cX5_tellCase 19 = .ok (.invokevirtual 145, 3) := by decide +kernel
theorem dX5_tellCase_22 : decode cX5_tellCase 22 = .ok (.istore_n 3, 1) := by decide +kernel
theorem dX5_tellCase_23 : decode cX5_tellCase 23 = .ok (.aload_n 0, 1) := by decide +kernel
theorem dX5_tellCase_24 : decode cX5_tellCase 24 = .ok (.bipush 61, 2) := by decide +kernel
theorem dX5_tellCase_26 : decode cX5_tellCase 26 = .ok (.invokevirtual 107, 3) := by decide +kernel
theorem dX5_tellCase_29 : decode cX5_tellCase 29 = .ok (.aload_n 0, 1) := by decide +kernel
theorem dX5_tellCase_30 : decode cX5_tellCase 30 = .ok (.iconst 0, 1) := by decide +kernel
theorem dX5_tellCase_31 : decode cX5_tellCase 31 = .ok (.invokevirtual 135, 3) := by decide +kernel
theorem dX5_tellCase_34 : decode cX5_tellCase 34 = .ok (.lstore 4, 2) := by decide +kernel
theorem dX5_tellCase_36 : decode cX5_tellCase 36 = .ok (.aload_n 0, 1) := by decide +kernel
theorem dX5_tellCase_37 : decode cX5_tellCase 37 = .ok (.bipush 59, 2) := by decide +kernel
theorem dX5_tellCase_39 : decode cX5_tellCase 39 = .ok (.invokevirtual 107, 3) := by decide +kernel
theorem dX5_tellCase_42 : decode cX5_tellCase 42 = .ok (.aload_n 0, 1) := by decide +kernel
theorem dX5_tellCase_43 : decode cX5_tellCase 43 = .ok (.getfield 42, 3) := by decide +kernel
theorem dX5_tellCase_46 : decode cX5_tellCase 46 = .ok (.ifCond .ne 14, 3) := by decide +kernel
theorem dX5_tellCase_49 : decode cX5_tellCase 49 = .ok (.aload_n 0, 1) := by decide +kernel
theorem dX5_tellCase_50 : decode cX5_tellCase 50 = .ok (.getfield 18, 3) := by decide +kernel
theorem dX5_tellCase_53 : decode cX5_tellCase 53 = .ok (.lload_n 1, 1) := by decide +kernel
theorem dX5_tellCase_54 : decode cX5_tellCase 54 = .ok (.iload_n 3, 1) := by decide +kernel
theorem dX5_tellCase_55 : decode cX5_tellCase 55 = .ok (.lload 4, 2) := by decide +kernel
theorem dX5_tellCase_57 : decode cX5_tellCase 57 = .ok (.invokevirtual 149, 3) := by decide +kernel
theorem dX5_tellCase_60 : decode cX5_tellCase 60 = .ok (.return_, 1) := by decide +kernel
theorem dX5_tellClock_0 : decode cX5_tellClock 0 = .ok (.aload_n 0, 1) := by decide +kernel
theorem dX5_tellClock_1 : decode cX5_tellClock 1 = .ok (.aload_n 0, 1) := by decide +kernel
theorem dX5_tellClock_2 : decode cX5_tellClock 2 = .ok (.getfield 39, 3) := by decide +kernel
theorem dX5_tellClock_5 : decode cX5_tellClock 5 = .ok (.invokevirtual 88, 3) := by decide +kernel
theorem dX5_tellClock_8 : decode cX5_tellClock 8 = .ok (.pop, 1) := by decide +kernel
theorem dX5_tellClock_9 : decode cX5_tellClock 9 = .ok (.aload_n 0, 1) := by decide +kernel
theorem dX5_tellClock_10 : decode cX5_tellClock 10 = .ok (.getfield 18, 3) := by decide +kernel
theorem dX5_tellClock_13 : decode cX5_tellClock 13 = .ok (.aload_n 0, 1) := by decide +kernel
theorem dX5_tellClock_14 : decode cX5_tellClock 14 = .ok (.invokevirtual 145, 3) := by decide +kernel
theorem dX5_tellClock_17 : decode cX5_tellClock 17 = .ok (.putfield 160, 3) := by decide +kernel
theorem dX5_tellClock_20 : decode cX5_tellClock 20 = .ok (.aload_n 0, 1) := by decide +kernel
theorem dX5_tellClock_21 : decode cX5_tellClock 21 = .ok (.bipush 59, 2) := by decide +kernel
theorem dX5_tellClock_23 : decode cX5_tellClock 23 = .ok (.invokevirtual 107, 3) := by decide +kernel
theorem dX5_tellClock_26 : decode cX5_tellClock 26 = .ok (.return_, 1) := by decide +kernel
theorem dX5_tellFact_0 : decode cX5_tellFact 0 = .ok (.aload_n 0, 1) := by decide +kernel
theorem dX5_tellFact_1 : decode cX5_tellFact 1 = .ok (.aload_n 0, 1) := by decide +kernel
theorem dX5_tellFact_2 : decode cX5_tellFact 2 = .ok (.getfield 18, 3) := by decide +kernel
theorem dX5_tellFact_5 : decode cX5_tellFact 5 = .ok (.getfield 96, 3) := by decide +kernel
theorem dX5_tellFact_8 : decode cX5_tellFact 8 = .ok (.bipush 6, 2) := by decide +kernel
theorem dX5_tellFact_10 : decode cX5_tellFact 10 = .ok (.invokevirtual 99, 3) := by decide +kernel
theorem dX5_tellFact_13 : decode cX5_tellFact 13 = .ok (.aload_n 0, 1) := by decide +kernel
theorem dX5_tellFact_14 : decode cX5_tellFact 14 = .ok (.invokevirtual 103, 3) := by decide +kernel
theorem dX5_tellFact_17 : decode cX5_tellFact 17 = .ok (.lstore_n 1, 1) := by decide +kernel
theorem dX5_tellFact_18 : decode cX5_tellFact 18 = .ok (.aload_n 0, 1) := by decide +kernel
theorem dX5_tellFact_19 : decode cX5_tellFact 19 = .ok (.bipush 101, 2) := by decide +kernel
theorem dX5_tellFact_21 : decode cX5_tellFact 21 = .ok (.invokevirtual 88, 3) := by decide +kernel
theorem dX5_tellFact_24 : decode cX5_tellFact 24 = .ok (.istore_n 3, 1) := by decide +kernel
theorem dX5_tellFact_25 : decode cX5_tellFact 25 = .ok (.iload_n 3, 1) := by decide +kernel
theorem dX5_tellFact_26 : decode cX5_tellFact 26 = .ok (.ifCond .ne 9, 3) := by decide +kernel
theorem dX5_tellFact_29 : decode cX5_tellFact 29 = .ok (.aload_n 0, 1) := by decide +kernel
theorem dX5_tellFact_30 : decode cX5_tellFact 30 = .ok (.bipush 102, 2) := by decide +kernel
theorem dX5_tellFact_32 : decode cX5_tellFact 32 = .ok (.invokevirtual 107, 3) := by decide +kernel
theorem dX5_tellFact_35 : decode cX5_tellFact 35 = .ok (.aload_n 0, 1) := by decide +kernel
theorem dX5_tellFact_36 : decode cX5_tellFact 36 = .ok (.bipush 103, 2) := by decide +kernel
theorem dX5_tellFact_38 : decode cX5_tellFact 38 = .ok (.invokevirtual 88, 3) := by decide +kernel
theorem dX5_tellFact_41 : decode cX5_tellFact 41 = .ok (.istore 4, 2) := by decide +kernel
theorem dX5_tellFact_43 : decode cX5_tellFact 43 = .ok (.aload_n 0, 1) := by decide +kernel
theorem dX5_tellFact_44 : decode cX5_tellFact 44 = .ok (.bipush 59, 2) := by decide +kernel
theorem dX5_tellFact_46 : decode cX5_tellFact 46 = .ok (.invokevirtual 107, 3) := by decide +kernel
theorem dX5_tellFact_49 : decode cX5_tellFact 49 = .ok (.aload_n 0, 1) := by decide +kernel
theorem dX5_tellFact_50 : decode cX5_tellFact 50 = .ok (.getfield 42, 3) := by decide +kernel
theorem dX5_tellFact_53 : decode cX5_tellFact 53 = .ok (.ifCond .ne 14, 3) := by decide +kernel
theorem dX5_tellFact_56 : decode cX5_tellFact 56 = .ok (.aload_n 0, 1) := by decide +kernel
theorem dX5_tellFact_57 : decode cX5_tellFact 57 = .ok (.getfield 18, 3) := by decide +kernel
theorem dX5_tellFact_60 : decode cX5_tellFact 60 = .ok (.lload_n 1, 1) := by decide +kernel
theorem dX5_tellFact_61 : decode cX5_tellFact 61 = .ok (.iload_n 3, 1) := by decide +kernel
theorem dX5_tellFact_62 : decode cX5_tellFact 62 = .ok (.iload 4, 2) := by decide +kernel
theorem dX5_tellFact_64 : decode cX5_tellFact 64 = .ok (.invokevirtual 110, 3) := by decide +kernel
theorem dX5_tellFact_67 : decode cX5_tellFact 67 = .ok (.return_, 1) := by decide +kernel
theorem dX5_tellLaw_0 : decode cX5_tellLaw 0 = .ok (.aload_n 0, 1) := by decide +kernel
theorem dX5_tellLaw_1 : decode cX5_tellLaw 1 = .ok (.aload_n 0, 1) := by decide +kernel
theorem dX5_tellLaw_2 : decode cX5_tellLaw 2 = .ok (.getfield 39, 3) := by decide +kernel
theorem dX5_tellLaw_5 : decode cX5_tellLaw 5 = .ok (.invokevirtual 88, 3) := by decide +kernel
theorem dX5_tellLaw_8 : decode cX5_tellLaw 8 = .ok (.pop, 1) := by decide +kernel
theorem dX5_tellLaw_9 : decode cX5_tellLaw 9 = .ok (.aload_n 1, 1) := by decide +kernel
theorem dX5_tellLaw_10 : decode cX5_tellLaw 10 = .ok (.invokevirtual 153, 3) := by decide +kernel
theorem dX5_tellLaw_13 : decode cX5_tellLaw 13 = .ok (.aload_n 0, 1) := by decide +kernel
theorem dX5_tellLaw_14 : decode cX5_tellLaw 14 = .ok (.aload_n 1, 1) := by decide +kernel
theorem dX5_tellLaw_15 : decode cX5_tellLaw 15 = .ok (.iconst 0, 1) := by decide +kernel
theorem dX5_tellLaw_16 : decode cX5_tellLaw 16 = .ok (.invokevirtual 156, 3) := by decide +kernel
theorem dX5_tellLaw_19 : decode cX5_tellLaw 19 = .ok (.aload_n 0, 1) := by decide +kernel
theorem dX5_tellLaw_20 : decode cX5_tellLaw 20 = .ok (.bipush 59, 2) := by decide +kernel
theorem dX5_tellLaw_22 : decode cX5_tellLaw 22 = .ok (.invokevirtual 107, 3) := by decide +kernel
theorem dX5_tellLaw_25 : decode cX5_tellLaw 25 = .ok (.return_, 1) := by decide +kernel
theorem dX5_tellWitness_0 : decode cX5_tellWitness 0 = .ok (.aload_n 0, 1) := by decide +kernel
theorem dX5_tellWitness_1 : decode cX5_tellWitness 1 = .ok (.aload_n 0, 1) := by decide +kernel
theorem dX5_tellWitness_2 : decode cX5_tellWitness 2 = .ok (.getfield 18, 3) := by decide +kernel
theorem dX5_tellWitness_5 : decode cX5_tellWitness 5 = .ok (.getfield 114, 3) := by decide +kernel
theorem dX5_tellWitness_8 : decode cX5_tellWitness 8 = .ok (.bipush 6, 2) := by decide +kernel
theorem dX5_tellWitness_10 : decode cX5_tellWitness 10 = .ok (.invokevirtual 99, 3) := by decide +kernel
theorem dX5_tellWitness_13 : decode cX5_tellWitness 13 = .ok (.aload_n 0, 1) := by decide +kernel
theorem dX5_tellWitness_14 : decode cX5_tellWitness 14 = .ok (.invokevirtual 103, 3) := by decide +kernel
theorem dX5_tellWitness_17 : decode cX5_tellWitness 17 = .ok (.lstore_n 1, 1) := by decide +kernel
theorem dX5_tellWitness_18 : decode cX5_tellWitness 18 = .ok (.aload_n 0, 1) := by decide +kernel
theorem dX5_tellWitness_19 : decode cX5_tellWitness 19 = .ok (.bipush 59, 2) := by decide +kernel
theorem dX5_tellWitness_21 : decode cX5_tellWitness 21 = .ok (.invokevirtual 107, 3) := by decide +kernel
theorem dX5_tellWitness_24 : decode cX5_tellWitness 24 = .ok (.aload_n 0, 1) := by decide +kernel
theorem dX5_tellWitness_25 : decode cX5_tellWitness 25 = .ok (.getfield 42, 3) := by decide +kernel
theorem dX5_tellWitness_28 : decode cX5_tellWitness 28 = .ok (.ifCond .ne 11, 3) := by decide +kernel
theorem dX5_tellWitness_31 : decode cX5_tellWitness 31 = .ok (.aload_n 0, 1) := by decide +kernel
theorem dX5_tellWitness_32 : decode cX5_tellWitness 32 = .ok (.getfield 18, 3) := by decide +kernel
theorem dX5_tellWitness_35 : decode cX5_tellWitness 35 = .ok (.lload_n 1, 1) := by decide +kernel
theorem dX5_tellWitness_36 : decode cX5_tellWitness 36 = .ok (.invokevirtual 117, 3) := by decide +kernel
theorem dX5_tellWitness_39 : decode cX5_tellWitness 39 = .ok (.return_, 1) := by decide +kernel
theorem dX5_tellWord_0 : decode cX5_tellWord 0 = .ok (.aload_n 0, 1) := by decide +kernel
theorem dX5_tellWord_1 : decode cX5_tellWord 1 = .ok (.aload_n 0, 1) := by decide +kernel
theorem dX5_tellWord_2 : decode cX5_tellWord 2 = .ok (.getfield 18, 3) := by decide +kernel
theorem dX5_tellWord_5 : decode cX5_tellWord 5 = .ok (.getfield 121, 3) := by decide +kernel
theorem dX5_tellWord_8 : decode cX5_tellWord 8 = .ok (.bipush 16, 2) := by decide +kernel
theorem dX5_tellWord_10 : decode cX5_tellWord 10 = .ok (.invokevirtual 99, 3) := by decide +kernel
theorem dX5_tellWord_13 : decode cX5_tellWord 13 = .ok (.aload_n 0, 1) := by decide +kernel
theorem dX5_tellWord_14 : decode cX5_tellWord 14 = .ok (.getfield 18, 3) := by decide +kernel
theorem dX5_tellWord_17 : decode cX5_tellWord 17 = .ok (.aload_n 0, 1) := by decide +kernel
theorem dX5_tellWord_18 : decode cX5_tellWord 18 = .ok (.iconst 2, 1) := by decide +kernel
theorem dX5_tellWord_19 : decode cX5_tellWord 19 = .ok (.invokevirtual 124, 3) := by decide +kernel
theorem dX5_tellWord_22 : decode cX5_tellWord 22 = .ok (.invokevirtual 128, 3) := by decide +kernel
theorem dX5_tellWord_25 : decode cX5_tellWord 25 = .ok (.istore_n 1, 1) := by decide +kernel
theorem dX5_tellWord_26 : decode cX5_tellWord 26 = .ok (.iload_n 1, 1) := by decide +kernel
theorem dX5_tellWord_27 : decode cX5_tellWord 27 = .ok (.ifCond .ge 8, 3) := by decide +kernel
theorem dX5_tellWord_30 : decode cX5_tellWord 30 = .ok (.aload_n 0, 1) := by decide +kernel
theorem dX5_tellWord_31 : decode cX5_tellWord 31 = .ok (.iconst 4, 1) := by decide +kernel
theorem dX5_tellWord_32 : decode cX5_tellWord 32 = .ok (.invokevirtual 132, 3) := by decide +kernel
theorem dX5_tellWord_35 : decode cX5_tellWord 35 = .ok (.aload_n 0, 1) := by decide +kernel
theorem dX5_tellWord_36 : decode cX5_tellWord 36 = .ok (.bipush 106, 2) := by decide +kernel
theorem dX5_tellWord_38 : decode cX5_tellWord 38 = .ok (.invokevirtual 88, 3) := by decide +kernel
theorem dX5_tellWord_41 : decode cX5_tellWord 41 = .ok (.istore_n 2, 1) := by decide +kernel
theorem dX5_tellWord_42 : decode cX5_tellWord 42 = .ok (.aload_n 0, 1) := by decide +kernel
theorem dX5_tellWord_43 : decode cX5_tellWord 43 = .ok (.bipush 61, 2) := by decide +kernel
theorem dX5_tellWord_45 : decode cX5_tellWord 45 = .ok (.invokevirtual 107, 3) := by decide +kernel
theorem dX5_tellWord_48 : decode cX5_tellWord 48 = .ok (.aload_n 0, 1) := by decide +kernel
theorem dX5_tellWord_49 : decode cX5_tellWord 49 = .ok (.iconst 0, 1) := by decide +kernel
theorem dX5_tellWord_50 : decode cX5_tellWord 50 = .ok (.invokevirtual 135, 3) := by decide +kernel
theorem dX5_tellWord_53 : decode cX5_tellWord 53 = .ok (.lstore_n 3, 1) := by decide +kernel
theorem dX5_tellWord_54 : decode cX5_tellWord 54 = .ok (.aload_n 0, 1) := by decide +kernel
theorem dX5_tellWord_55 : decode cX5_tellWord 55 = .ok (.bipush 59, 2) := by decide +kernel
theorem dX5_tellWord_57 : decode cX5_tellWord 57 = .ok (.invokevirtual 107, 3) := by decide +kernel
theorem dX5_tellWord_60 : decode cX5_tellWord 60 = .ok (.aload_n 0, 1) := by decide +kernel
theorem dX5_tellWord_61 : decode cX5_tellWord 61 = .ok (.getfield 42, 3) := by decide +kernel
theorem dX5_tellWord_64 : decode cX5_tellWord 64 = .ok (.ifCond .ne 13, 3) := by decide +kernel
theorem dX5_tellWord_67 : decode cX5_tellWord 67 = .ok (.aload_n 0, 1) := by decide +kernel
theorem dX5_tellWord_68 : decode cX5_tellWord 68 = .ok (.getfield 18, 3) := by decide +kernel
theorem dX5_tellWord_71 : decode cX5_tellWord 71 = .ok (.iload_n 1, 1) := by decide +kernel
theorem dX5_tellWord_72 : decode cX5_tellWord 72 = .ok (.iload_n 2, 1) := by decide +kernel
theorem dX5_tellWord_73 : decode cX5_tellWord 73 = .ok (.lload_n 3, 1) := by decide +kernel
theorem dX5_tellWord_74 : decode cX5_tellWord 74 = .ok (.invokevirtual 138, 3) := by decide +kernel
theorem dX5_tellWord_77 : decode cX5_tellWord 77 = .ok (.return_, 1) := by decide +kernel
theorem dX5_unit_0 : decode cX5_unit 0 = .ok (.aload_n 0, 1) := by decide +kernel
theorem dX5_unit_1 : decode cX5_unit 1 = .ok (.getfield 39, 3) := by decide +kernel
theorem dX5_unit_4 : decode cX5_unit 4 = .ok (.istore_n 3, 1) := by decide +kernel
theorem dX5_unit_5 : decode cX5_unit 5 = .ok (.iload_n 3, 1) := by decide +kernel
theorem dX5_unit_6 : decode cX5_unit 6 = .ok (.bipush 40, 2) := by decide +kernel
theorem dX5_unit_8 : decode cX5_unit 8 = .ok (.if_icmp .ne 28, 3) := by decide +kernel
theorem dX5_unit_11 : decode cX5_unit 11 = .ok (.aload_n 0, 1) := by decide +kernel
theorem dX5_unit_12 : decode cX5_unit 12 = .ok (.iload_n 2, 1) := by decide +kernel
theorem dX5_unit_13 : decode cX5_unit 13 = .ok (.invokevirtual 172, 3) := by decide +kernel
theorem dX5_unit_16 : decode cX5_unit 16 = .ok (.ifCond .eq 11, 3) := by decide +kernel
theorem dX5_unit_19 : decode cX5_unit 19 = .ok (.aload_n 0, 1) := by decide +kernel
theorem dX5_unit_20 : decode cX5_unit 20 = .ok (.aload_n 1, 1) := by decide +kernel
theorem dX5_unit_21 : decode cX5_unit 21 = .ok (.iload_n 2, 1) := by decide +kernel
theorem dX5_unit_22 : decode cX5_unit 22 = .ok (.iconst 1, 1) := by decide +kernel
theorem dX5_unit_23 : decode cX5_unit 23 = .ok (.iadd, 1) := by decide +kernel
theorem dX5_unit_24 : decode cX5_unit 24 = .ok (.invokevirtual 156, 3) := by decide +kernel
theorem dX5_unit_27 : decode cX5_unit 27 = .ok (.aload_n 0, 1) := by decide +kernel
theorem dX5_unit_28 : decode cX5_unit 28 = .ok (.bipush 41, 2) := by decide +kernel
theorem dX5_unit_30 : decode cX5_unit 30 = .ok (.invokevirtual 107, 3) := by decide +kernel
theorem dX5_unit_33 : decode cX5_unit 33 = .ok (.goto 46, 3) := by decide +kernel
theorem dX5_unit_36 : decode cX5_unit 36 = .ok (.iload_n 3, 1) := by decide +kernel
theorem dX5_unit_37 : decode cX5_unit 37 = .ok (.bipush 103, 2) := by decide +kernel
theorem dX5_unit_39 : decode cX5_unit 39 = .ok (.if_icmp .eq 15, 3) := by decide +kernel
theorem dX5_unit_42 : decode cX5_unit 42 = .ok (.iload_n 3, 1) := by decide +kernel
theorem dX5_unit_43 : decode cX5_unit 43 = .ok (.bipush 114, 2) := by decide +kernel
theorem dX5_unit_45 : decode cX5_unit 45 = .ok (.if_icmp .lt 24, 3) := by decide +kernel
theorem dX5_unit_48 : decode cX5_unit 48 = .ok (.iload_n 3, 1) := by decide +kernel
theorem dX5_unit_49 : decode cX5_unit 49 = .ok (.bipush 117, 2) := by decide +kernel
theorem dX5_unit_51 : decode cX5_unit 51 = .ok (.if_icmp .gt 18, 3) := by decide +kernel
theorem dX5_unit_54 : decode cX5_unit 54 = .ok (.aload_n 0, 1) := by decide +kernel
theorem dX5_unit_55 : decode cX5_unit 55 = .ok (.iload_n 3, 1) := by decide +kernel
theorem dX5_unit_56 : decode cX5_unit 56 = .ok (.invokevirtual 88, 3) := by decide +kernel
theorem dX5_unit_59 : decode cX5_unit 59 = .ok (.pop, 1) := by decide +kernel
theorem dX5_unit_60 : decode cX5_unit 60 = .ok (.aload_n 1, 1) := by decide +kernel
theorem dX5_unit_61 : decode cX5_unit 61 = .ok (.iload_n 3, 1) := by decide +kernel
theorem dX5_unit_62 : decode cX5_unit 62 = .ok (.ineg, 1) := by decide +kernel
theorem dX5_unit_63 : decode cX5_unit 63 = .ok (.invokevirtual 186, 3) := by decide +kernel
theorem dX5_unit_66 : decode cX5_unit 66 = .ok (.goto 13, 3) := by decide +kernel
theorem dX5_unit_69 : decode cX5_unit 69 = .ok (.aload_n 1, 1) := by decide +kernel
theorem dX5_unit_70 : decode cX5_unit 70 = .ok (.aload_n 0, 1) := by decide +kernel
theorem dX5_unit_71 : decode cX5_unit 71 = .ok (.iconst 3, 1) := by decide +kernel
theorem dX5_unit_72 : decode cX5_unit 72 = .ok (.invokevirtual 124, 3) := by decide +kernel
theorem dX5_unit_75 : decode cX5_unit 75 = .ok (.l2i, 1) := by decide +kernel
theorem dX5_unit_76 : decode cX5_unit 76 = .ok (.invokevirtual 186, 3) := by decide +kernel
theorem dX5_unit_79 : decode cX5_unit 79 = .ok (.return_, 1) := by decide +kernel
theorem dX6_add_0 : decode cX6_add 0 = .ok (.aload_n 0, 1) := by decide +kernel
theorem dX6_add_1 : decode cX6_add 1 = .ok (.getfield 22, 3) := by decide +kernel
theorem dX6_add_4 : decode cX6_add 4 = .ok (.bipush 16, 2) := by decide +kernel
theorem dX6_add_6 : decode cX6_add 6 = .ok (.if_icmp .ge 33, 3) := by decide +kernel
theorem dX6_add_9 : decode cX6_add 9 = .ok (.aload_n 0, 1) := by decide +kernel
theorem dX6_add_10 : decode cX6_add 10 = .ok (.getfield 9, 3) := by decide +kernel
theorem dX6_add_13 : decode cX6_add 13 = .ok (.aload_n 0, 1) := by decide +kernel
theorem dX6_add_14 : decode cX6_add 14 = .ok (.getfield 22, 3) := by decide +kernel
theorem dX6_add_17 : decode cX6_add 17 = .ok (.lload_n 2, 1) := by decide +kernel
theorem dX6_add_18 : decode cX6_add 18 = .ok (.lastore, 1) := by decide +kernel
theorem dX6_add_19 : decode cX6_add 19 = .ok (.aload_n 0, 1) := by decide +kernel
theorem dX6_add_20 : decode cX6_add 20 = .ok (.getfield 15, 3) := by decide +kernel
theorem dX6_add_23 : decode cX6_add 23 = .ok (.aload_n 0, 1) := by decide +kernel
theorem dX6_add_24 : decode cX6_add 24 = .ok (.getfield 22, 3) := by decide +kernel
theorem dX6_add_27 : decode cX6_add 27 = .ok (.iload_n 1, 1) := by decide +kernel
theorem dX6_add_28 : decode cX6_add 28 = .ok (.iastore, 1) := by decide +kernel
theorem dX6_add_29 : decode cX6_add 29 = .ok (.aload_n 0, 1) := by decide +kernel
theorem dX6_add_30 : decode cX6_add 30 = .ok (.dup, 1) := by decide +kernel
theorem dX6_add_31 : decode cX6_add 31 = .ok (.getfield 22, 3) := by decide +kernel
theorem dX6_add_34 : decode cX6_add 34 = .ok (.iconst 1, 1) := by decide +kernel
theorem dX6_add_35 : decode cX6_add 35 = .ok (.iadd, 1) := by decide +kernel
theorem dX6_add_36 : decode cX6_add 36 = .ok (.putfield 22, 3) := by decide +kernel
theorem dX6_add_39 : decode cX6_add 39 = .ok (.return_, 1) := by decide +kernel
theorem dX6_fewest_0 : decode cX6_fewest 0 = .ok (.aload_n 0, 1) := by decide +kernel
theorem dX6_fewest_1 : decode cX6_fewest 1 = .ok (.lload_n 3, 1) := by decide +kernel
theorem dX6_fewest_2 : decode cX6_fewest 2 = .ok (.putfield 45, 3) := by decide +kernel
theorem dX6_fewest_5 : decode cX6_fewest 5 = .ok (.aload_n 0, 1) := by decide +kernel
theorem dX6_fewest_6 : decode cX6_fewest 6 = .ok (.lload 5, 2) := by decide +kernel
theorem dX6_fewest_8 : decode cX6_fewest 8 = .ok (.putfield 49, 3) := by decide +kernel
theorem dX6_fewest_11 : decode cX6_fewest 11 = .ok (.aload_n 0, 1) := by decide +kernel
theorem dX6_fewest_12 : decode cX6_fewest 12 = .ok (.lload_n 1, 1) := by decide +kernel
theorem dX6_fewest_13 : decode cX6_fewest 13 = .ok (.invokevirtual 52, 3) := by decide +kernel
theorem dX6_fewest_16 : decode cX6_fewest 16 = .ok (.ifCond .eq 5, 3) := by decide +kernel
theorem dX6_fewest_19 : decode cX6_fewest 19 = .ok (.iconst 0, 1) := by decide +kernel
theorem dX6_fewest_20 : decode cX6_fewest 20 = .ok (.ireturn, 1) := by decide +kernel
theorem dX6_fewest_21 : decode cX6_fewest 21 = .ok (.aload_n 0, 1) := by decide +kernel
theorem dX6_fewest_22 : decode cX6_fewest 22 = .ok (.getfield 19, 3) := by decide +kernel
theorem dX6_fewest_25 : decode cX6_fewest 25 = .ok (.iconst 0, 1) := by decide +kernel
theorem dX6_fewest_26 : decode cX6_fewest 26 = .ok (.ldc2_w 56, 3) := by decide +kernel
theorem dX6_fewest_29 : decode cX6_fewest 29 = .ok (.lastore, 1) := by decide +kernel
theorem dX6_fewest_30 : decode cX6_fewest 30 = .ok (.iconst 0, 1) := by decide +kernel
theorem dX6_fewest_31 : decode cX6_fewest 31 = .ok (.istore 7, 2) := by decide +kernel
theorem dX6_fewest_33 : decode cX6_fewest 33 = .ok (.iload 7, 2) := by decide +kernel
theorem dX6_fewest_35 : decode cX6_fewest 35 = .ok (.aload_n 0, 1) := by decide +kernel
theorem dX6_fewest_36 : decode cX6_fewest 36 = .ok (.getfield 22, 3) := by decide +kernel
theorem dX6_fewest_39 : decode cX6_fewest 39 = .ok (.if_icmp .ge 33, 3) := by decide +kernel
theorem dX6_fewest_42 : decode cX6_fewest 42 = .ok (.aload_n 0, 1) := by decide +kernel
theorem dX6_fewest_43 : decode cX6_fewest 43 = .ok (.getfield 19, 3) := by decide +kernel
theorem dX6_fewest_46 : decode cX6_fewest 46 = .ok (.iload 7, 2) := by decide +kernel
theorem dX6_fewest_48 : decode cX6_fewest 48 = .ok (.iconst 1, 1) := by decide +kernel
theorem dX6_fewest_49 : decode cX6_fewest 49 = .ok (.iadd, 1) := by decide +kernel
theorem dX6_fewest_50 : decode cX6_fewest 50 = .ok (.aload_n 0, 1) := by decide +kernel
theorem dX6_fewest_51 : decode cX6_fewest 51 = .ok (.getfield 19, 3) := by decide +kernel
theorem dX6_fewest_54 : decode cX6_fewest 54 = .ok (.iload 7, 2) := by decide +kernel
theorem dX6_fewest_56 : decode cX6_fewest 56 = .ok (.laload, 1) := by decide +kernel
theorem dX6_fewest_57 : decode cX6_fewest 57 = .ok (.aload_n 0, 1) := by decide +kernel
theorem dX6_fewest_58 : decode cX6_fewest 58 = .ok (.getfield 9, 3) := by decide +kernel
theorem dX6_fewest_61 : decode cX6_fewest 61 = .ok (.iload 7, 2) := by decide +kernel
theorem dX6_fewest_63 : decode cX6_fewest 63 = .ok (.laload, 1) := by decide +kernel
theorem dX6_fewest_64 : decode cX6_fewest 64 = .ok (.land, 1) := by decide +kernel
theorem dX6_fewest_65 : decode cX6_fewest 65 = .ok (.lastore, 1) := by decide +kernel
theorem dX6_fewest_66 : decode cX6_fewest 66 = .ok (.iinc 7 1, 3) := by decide +kernel
theorem dX6_fewest_69 : decode cX6_fewest 69 = .ok (.goto (-36), 3) := by decide +kernel
theorem dX6_fewest_72 : decode cX6_fewest 72 = .ok (.aload_n 0, 1) := by decide +kernel
theorem dX6_fewest_73 : decode cX6_fewest 73 = .ok (.lload_n 1, 1) := by decide +kernel
theorem dX6_fewest_74 : decode cX6_fewest 74 = .ok (.aload_n 0, 1) := by decide +kernel
theorem dX6_fewest_75 : decode cX6_fewest 75 = .ok (.getfield 19, 3) := by decide +kernel
theorem dX6_fewest_78 : decode cX6_fewest 78 = .ok (.aload_n 0, 1) := by decide +kernel
theorem dX6_fewest_79 : decode cX6_fewest 79 = .ok (.getfield 22, 3) := by decide +kernel
theorem dX6_fewest_82 : decode cX6_fewest 82 = .ok (.laload, 1) := by decide +kernel
theorem dX6_fewest_83 : decode cX6_fewest 83 = .ok (.land, 1) := by decide +kernel
theorem dX6_fewest_84 : decode cX6_fewest 84 = .ok (.invokevirtual 52, 3) := by decide +kernel
theorem dX6_fewest_87 : decode cX6_fewest 87 = .ok (.ifCond .ne 6, 3) := by decide +kernel
theorem dX6_fewest_90 : decode cX6_fewest 90 = .ok (.bipush (-2), 2) := by decide +kernel
theorem dX6_fewest_92 : decode cX6_fewest 92 = .ok (.ireturn, 1) := by decide +kernel
theorem dX6_fewest_93 : decode cX6_fewest 93 = .ok (.iconst 1, 1) := by decide +kernel
theorem dX6_fewest_94 : decode cX6_fewest 94 = .ok (.istore 7, 2) := by decide +kernel
theorem dX6_fewest_96 : decode cX6_fewest 96 = .ok (.iload 7, 2) := by decide +kernel
theorem dX6_fewest_98 : decode cX6_fewest 98 = .ok (.aload_n 0, 1) := by decide +kernel
theorem dX6_fewest_99 : decode cX6_fewest 99 = .ok (.getfield 22, 3) := by decide +kernel
theorem dX6_fewest_102 : decode cX6_fewest 102 = .ok (.if_icmp .gt 30, 3) := by decide +kernel
theorem dX6_fewest_105 : decode cX6_fewest 105 = .ok (.aload_n 0, 1) := by decide +kernel
theorem dX6_fewest_106 : decode cX6_fewest 106 = .ok (.iload 7, 2) := by decide +kernel
theorem dX6_fewest_108 : decode cX6_fewest 108 = .ok (.aload_n 0, 1) := by decide +kernel
theorem dX6_fewest_109 : decode cX6_fewest 109 = .ok (.getfield 22, 3) := by decide +kernel
theorem dX6_fewest_112 : decode cX6_fewest 112 = .ok (.lload_n 1, 1) := by decide +kernel
theorem dX6_fewest_113 : decode cX6_fewest 113 = .ok (.invokevirtual 58, 3) := by decide +kernel
theorem dX6_fewest_116 : decode cX6_fewest 116 = .ok (.istore 8, 2) := by decide +kernel
theorem dX6_fewest_118 : decode cX6_fewest 118 = .ok (.iload 8, 2) := by decide +kernel
theorem dX6_fewest_120 : decode cX6_fewest 120 = .ok (.ifCond .eq 6, 3) := by decide +kernel
theorem dX6_fewest_123 : decode cX6_fewest 123 = .ok (.iload 8, 2) := by decide +kernel
theorem dX6_fewest_125 : decode cX6_fewest 125 = .ok (.ireturn, 1) := by decide +kernel
theorem dX6_fewest_126 : decode cX6_fewest 126 = .ok (.iinc 7 1, 3) := by decide +kernel
theorem dX6_fewest_129 : decode cX6_fewest 129 = .ok (.goto (-33), 3) := by decide +kernel
theorem dX6_fewest_132 : decode cX6_fewest 132 = .ok (.bipush (-2), 2) := by decide +kernel
theorem dX6_fewest_134 : decode cX6_fewest 134 = .ok (.ireturn, 1) := by decide +kernel
theorem dX6_isEnough_0 : decode cX6_isEnough 0 = .ok (.lload_n 1, 1) := by decide +kernel
theorem dX6_isEnough_1 : decode cX6_isEnough 1 = .ok (.aload_n 0, 1) := by decide +kernel
theorem dX6_isEnough_2 : decode cX6_isEnough 2 = .ok (.getfield 45, 3) := by decide +kernel
theorem dX6_isEnough_5 : decode cX6_isEnough 5 = .ok (.land, 1) := by decide +kernel
theorem dX6_isEnough_6 : decode cX6_isEnough 6 = .ok (.lconst 0, 1) := by decide +kernel
theorem dX6_isEnough_7 : decode cX6_isEnough 7 = .ok (.lcmp, 1) := by decide +kernel
theorem dX6_isEnough_8 : decode cX6_isEnough 8 = .ok (.ifCond .eq 14, 3) := by decide +kernel
theorem dX6_isEnough_11 : decode cX6_isEnough 11 = .ok (.lload_n 1, 1) := by decide +kernel
theorem dX6_isEnough_12 : decode cX6_isEnough 12 = .ok (.aload_n 0, 1) := by decide +kernel
theorem dX6_isEnough_13 : decode cX6_isEnough 13 = .ok (.getfield 49, 3) := by decide +kernel
theorem dX6_isEnough_16 : decode cX6_isEnough 16 = .ok (.land, 1) := by decide +kernel
theorem dX6_isEnough_17 : decode cX6_isEnough 17 = .ok (.lconst 0, 1) := by decide +kernel
theorem dX6_isEnough_18 : decode cX6_isEnough 18 = .ok (.lcmp, 1) := by decide +kernel
theorem dX6_isEnough_19 : decode cX6_isEnough 19 = .ok (.ifCond .ne 7, 3) := by decide +kernel
theorem dX6_isEnough_22 : decode cX6_isEnough 22 = .ok (.iconst 1, 1) := by decide +kernel
theorem dX6_isEnough_23 : decode cX6_isEnough 23 = .ok (.goto 4, 3) := by decide +kernel
theorem dX6_isEnough_26 : decode cX6_isEnough 26 = .ok (.iconst 0, 1) := by decide +kernel
theorem dX6_isEnough_27 : decode cX6_isEnough 27 = .ok (.ireturn, 1) := by decide +kernel
theorem dX6_pick_0 : decode cX6_pick 0 = .ok (.iload_n 1, 1) := by decide +kernel
theorem dX6_pick_1 : decode cX6_pick 1 = .ok (.iconst 1, 1) := by decide +kernel
theorem dX6_pick_2 : decode cX6_pick 2 = .ok (.isub, 1) := by decide +kernel
theorem dX6_pick_3 : decode cX6_pick 3 = .ok (.istore 5, 2) := by decide +kernel
theorem dX6_pick_5 : decode cX6_pick 5 = .ok (.iload 5, 2) := by decide +kernel
theorem dX6_pick_7 : decode cX6_pick 7 = .ok (.ifCond .lt 107, 3) := by decide +kernel
theorem dX6_pick_10 : decode cX6_pick 10 = .ok (.iload 5, 2) := by decide +kernel
theorem dX6_pick_12 : decode cX6_pick 12 = .ok (.iload_n 2, 1) := by decide +kernel
theorem dX6_pick_13 : decode cX6_pick 13 = .ok (.if_icmp .ge 101, 3) := by decide +kernel
theorem dX6_pick_16 : decode cX6_pick 16 = .ok (.iload 5, 2) := by decide +kernel
theorem dX6_pick_18 : decode cX6_pick 18 = .ok (.aload_n 0, 1) := by decide +kernel
theorem dX6_pick_19 : decode cX6_pick 19 = .ok (.getfield 22, 3) := by decide +kernel
theorem dX6_pick_22 : decode cX6_pick 22 = .ok (.if_icmp .ge 92, 3) := by decide +kernel
theorem dX6_pick_25 : decode cX6_pick 25 = .ok (.lload_n 3, 1) := by decide +kernel
theorem dX6_pick_26 : decode cX6_pick 26 = .ok (.aload_n 0, 1) := by decide +kernel
theorem dX6_pick_27 : decode cX6_pick 27 = .ok (.getfield 9, 3) := by decide +kernel
theorem dX6_pick_30 : decode cX6_pick 30 = .ok (.iload 5, 2) := by decide +kernel
theorem dX6_pick_32 : decode cX6_pick 32 = .ok (.laload, 1) := by decide +kernel
theorem dX6_pick_33 : decode cX6_pick 33 = .ok (.land, 1) := by decide +kernel
theorem dX6_pick_34 : decode cX6_pick 34 = .ok (.lstore 6, 2) := by decide +kernel
theorem dX6_pick_36 : decode cX6_pick 36 = .ok (.iload_n 1, 1) := by decide +kernel
theorem dX6_pick_37 : decode cX6_pick 37 = .ok (.iconst 1, 1) := by decide +kernel
theorem dX6_pick_38 : decode cX6_pick 38 = .ok (.if_icmp .ne 22, 3) := by decide +kernel
theorem dX6_pick_41 : decode cX6_pick 41 = .ok (.aload_n 0, 1) := by decide +kernel
theorem dX6_pick_42 : decode cX6_pick 42 = .ok (.lload 6, 2) := by decide +kernel
theorem dX6_pick_44 : decode cX6_pick 44 = .ok (.invokevirtual 52, 3) := by decide +kernel
theorem dX6_pick_47 : decode cX6_pick 47 = .ok (.ifCond .eq 61, 3) := by decide +kernel
theorem dX6_pick_50 : decode cX6_pick 50 = .ok (.iconst 1, 1) := by decide +kernel
theorem dX6_pick_51 : decode cX6_pick 51 = .ok (.aload_n 0, 1) := by decide +kernel
theorem dX6_pick_52 : decode cX6_pick 52 = .ok (.getfield 15, 3) := by decide +kernel
theorem dX6_pick_55 : decode cX6_pick 55 = .ok (.iload 5, 2) := by decide +kernel
theorem dX6_pick_57 : decode cX6_pick 57 = .ok (.iaload, 1) := by decide +kernel
theorem dX6_pick_58 : decode cX6_pick 58 = .ok (.ishl, 1) := by decide +kernel
theorem dX6_pick_59 : decode cX6_pick 59 = .ok (.ireturn, 1) := by decide +kernel
theorem dX6_pick_60 : decode cX6_pick 60 = .ok (.aload_n 0, 1) := by decide +kernel
theorem dX6_pick_61 : decode cX6_pick 61 = .ok (.lload 6, 2) := by decide +kernel
theorem dX6_pick_63 : decode cX6_pick 63 = .ok (.aload_n 0, 1) := by decide +kernel
theorem dX6_pick_64 : decode cX6_pick 64 = .ok (.getfield 19, 3) := by decide +kernel
theorem dX6_pick_67 : decode cX6_pick 67 = .ok (.iload 5, 2) := by decide +kernel
theorem dX6_pick_69 : decode cX6_pick 69 = .ok (.laload, 1) := by decide +kernel
theorem dX6_pick_70 : decode cX6_pick 70 = .ok (.land, 1) := by decide +kernel
theorem dX6_pick_71 : decode cX6_pick 71 = .ok (.invokevirtual 52, 3) := by decide +kernel
theorem dX6_pick_74 : decode cX6_pick 74 = .ok (.ifCond .eq 34, 3) := by decide +kernel
theorem dX6_pick_77 : decode cX6_pick 77 = .ok (.aload_n 0, 1) := by decide +kernel
theorem dX6_pick_78 : decode cX6_pick 78 = .ok (.iload_n 1, 1) := by decide +kernel
theorem dX6_pick_79 : decode cX6_pick 79 = .ok (.iconst 1, 1) := by decide +kernel
theorem dX6_pick_80 : decode cX6_pick 80 = .ok (.isub, 1) := by decide +kernel
theorem dX6_pick_81 : decode cX6_pick 81 = .ok (.iload 5, 2) := by decide +kernel
theorem dX6_pick_83 : decode cX6_pick 83 = .ok (.lload 6, 2) := by decide +kernel
theorem dX6_pick_85 : decode cX6_pick 85 = .ok (.invokevirtual 58, 3) := by decide +kernel
theorem dX6_pick_88 : decode cX6_pick 88 = .ok (.istore 8, 2) := by decide +kernel
theorem dX6_pick_90 : decode cX6_pick 90 = .ok (.iload 8, 2) := by decide +kernel
theorem dX6_pick_92 : decode cX6_pick 92 = .ok (.ifCond .eq 16, 3) := by decide +kernel
theorem dX6_pick_95 : decode cX6_pick 95 = .ok (.iload 8, 2) := by decide +kernel
theorem dX6_pick_97 : decode cX6_pick 97 = .ok (.iconst 1, 1) := by decide +kernel
theorem dX6_pick_98 : decode cX6_pick 98 = .ok (.aload_n 0, 1) := by decide +kernel
theorem dX6_pick_99 : decode cX6_pick 99 = .ok (.getfield 15, 3) := by decide +kernel
theorem dX6_pick_102 : decode cX6_pick 102 = .ok (.iload 5, 2) := by decide +kernel
theorem dX6_pick_104 : decode cX6_pick 104 = .ok (.iaload, 1) := by decide +kernel
theorem dX6_pick_105 : decode cX6_pick 105 = .ok (.ishl, 1) := by decide +kernel
theorem dX6_pick_106 : decode cX6_pick 106 = .ok (.ior, 1) := by decide +kernel
theorem dX6_pick_107 : decode cX6_pick 107 = .ok (.ireturn, 1) := by decide +kernel
theorem dX6_pick_108 : decode cX6_pick 108 = .ok (.iinc 5 1, 3) := by decide +kernel
theorem dX6_pick_111 : decode cX6_pick 111 = .ok (.goto (-106), 3) := by decide +kernel
theorem dX6_pick_114 : decode cX6_pick 114 = .ok (.iconst 0, 1) := by decide +kernel
theorem dX6_pick_115 : decode cX6_pick 115 = .ok (.ireturn, 1) := by decide +kernel
theorem dX6_takeFacts_0 : decode cX6_takeFacts 0 = .ok (.aload_n 0, 1) := by decide +kernel
theorem dX6_takeFacts_1 : decode cX6_takeFacts 1 = .ok (.iconst 0, 1) := by decide +kernel
theorem dX6_takeFacts_2 : decode cX6_takeFacts 2 = .ok (.putfield 22, 3) := by decide +kernel
theorem dX6_takeFacts_5 : decode cX6_takeFacts 5 = .ok (.iconst 0, 1) := by decide +kernel
theorem dX6_takeFacts_6 : decode cX6_takeFacts 6 = .ok (.istore_n 3, 1) := by decide +kernel
theorem dX6_takeFacts_7 : decode cX6_takeFacts 7 = .ok (.iload_n 3, 1) := by decide +kernel
theorem dX6_takeFacts_8 : decode cX6_takeFacts 8 = .ok (.aload_n 1, 1) := by decide +kernel
theorem dX6_takeFacts_9 : decode cX6_takeFacts 9 = .ok (.getfield 38, 3) := by decide +kernel
theorem dX6_takeFacts_12 : decode cX6_takeFacts 12 = .ok (.if_icmp .ge 27, 3) := by decide +kernel
theorem dX6_takeFacts_15 : decode cX6_takeFacts 15 = .ok (.iload_n 2, 1) := by decide +kernel
theorem dX6_takeFacts_16 : decode cX6_takeFacts 16 = .ok (.iload_n 3, 1) := by decide +kernel
theorem dX6_takeFacts_17 : decode cX6_takeFacts 17 = .ok (.ishr, 1) := by decide +kernel
theorem dX6_takeFacts_18 : decode cX6_takeFacts 18 = .ok (.iconst 1, 1) := by decide +kernel
theorem dX6_takeFacts_19 : decode cX6_takeFacts 19 = .ok (.iand, 1) := by decide +kernel
theorem dX6_takeFacts_20 : decode cX6_takeFacts 20 = .ok (.ifCond .ne 13, 3) := by decide +kernel
theorem dX6_takeFacts_23 : decode cX6_takeFacts 23 = .ok (.aload_n 0, 1) := by decide +kernel
theorem dX6_takeFacts_24 : decode cX6_takeFacts 24 = .ok (.iload_n 3, 1) := by decide +kernel
theorem dX6_takeFacts_25 : decode cX6_takeFacts 25 = .ok (.aload_n 1, 1) := by decide +kernel
theorem dX6_takeFacts_26 : decode cX6_takeFacts 26 = .ok (.iload_n 3, 1) := by decide +kernel
theorem dX6_takeFacts_27 : decode cX6_takeFacts 27 = .ok (.invokevirtual 41, 3) := by decide +kernel
theorem dX6_takeFacts_30 : decode cX6_takeFacts 30 = .ok (.invokevirtual 34, 3) := by decide +kernel
theorem dX6_takeFacts_33 : decode cX6_takeFacts 33 = .ok (.iinc 3 1, 3) := by decide +kernel
theorem dX6_takeFacts_36 : decode cX6_takeFacts 36 = .ok (.goto (-29), 3) := by decide +kernel
theorem dX6_takeFacts_39 : decode cX6_takeFacts 39 = .ok (.return_, 1) := by decide +kernel
theorem dX6_takeWords_0 : decode cX6_takeWords 0 = .ok (.aload_n 0, 1) := by decide +kernel
theorem dX6_takeWords_1 : decode cX6_takeWords 1 = .ok (.iconst 0, 1) := by decide +kernel
theorem dX6_takeWords_2 : decode cX6_takeWords 2 = .ok (.putfield 22, 3) := by decide +kernel
theorem dX6_takeWords_5 : decode cX6_takeWords 5 = .ok (.iconst 0, 1) := by decide +kernel
theorem dX6_takeWords_6 : decode cX6_takeWords 6 = .ok (.istore_n 3, 1) := by decide +kernel
theorem dX6_takeWords_7 : decode cX6_takeWords 7 = .ok (.iload_n 3, 1) := by decide +kernel
theorem dX6_takeWords_8 : decode cX6_takeWords 8 = .ok (.aload_n 1, 1) := by decide +kernel
theorem dX6_takeWords_9 : decode cX6_takeWords 9 = .ok (.getfield 26, 3) := by decide +kernel
theorem dX6_takeWords_12 : decode cX6_takeWords 12 = .ok (.if_icmp .ge 28, 3) := by decide +kernel
theorem dX6_takeWords_15 : decode cX6_takeWords 15 = .ok (.iload_n 2, 1) := by decide +kernel
theorem dX6_takeWords_16 : decode cX6_takeWords 16 = .ok (.iload_n 3, 1) := by decide +kernel
theorem dX6_takeWords_17 : decode cX6_takeWords 17 = .ok (.ishr, 1) := by decide +kernel
theorem dX6_takeWords_18 : decode cX6_takeWords 18 = .ok (.iconst 1, 1) := by decide +kernel
theorem dX6_takeWords_19 : decode cX6_takeWords 19 = .ok (.iand, 1) := by decide +kernel
theorem dX6_takeWords_20 : decode cX6_takeWords 20 = .ok (.ifCond .eq 14, 3) := by decide +kernel
theorem dX6_takeWords_23 : decode cX6_takeWords 23 = .ok (.aload_n 0, 1) := by decide +kernel
theorem dX6_takeWords_24 : decode cX6_takeWords 24 = .ok (.iload_n 3, 1) := by decide +kernel
theorem dX6_takeWords_25 : decode cX6_takeWords 25 = .ok (.aload_n 1, 1) := by decide +kernel
theorem dX6_takeWords_26 : decode cX6_takeWords 26 = .ok (.getfield 31, 3) := by decide +kernel
theorem dX6_takeWords_29 : decode cX6_takeWords 29 = .ok (.iload_n 3, 1) := by decide +kernel
theorem dX6_takeWords_30 : decode cX6_takeWords 30 = .ok (.laload, 1) := by decide +kernel
theorem dX6_takeWords_31 : decode cX6_takeWords 31 = .ok (.invokevirtual 34, 3) := by decide +kernel
theorem dX6_takeWords_34 : decode cX6_takeWords 34 = .ok (.iinc 3 1, 3) := by decide +kernel
theorem dX6_takeWords_37 : decode cX6_takeWords 37 = .ok (.goto (-30), 3) := by decide +kernel
theorem dX6_takeWords_40 : decode cX6_takeWords 40 = .ok (.return_, 1) := by decide +kernel
theorem dX7_begin_0 : decode cX7_begin 0 = .ok (.aload_n 0, 1) := by decide +kernel
theorem dX7_begin_1 : decode cX7_begin 1 = .ok (.aload_n 1, 1) := by decide +kernel
theorem dX7_begin_2 : decode cX7_begin 2 = .ok (.getfield 25, 3) := by decide +kernel
theorem dX7_begin_5 : decode cX7_begin 5 = .ok (.putfield 31, 3) := by decide +kernel
theorem dX7_begin_8 : decode cX7_begin 8 = .ok (.aload_n 0, 1) := by decide +kernel
theorem dX7_begin_9 : decode cX7_begin 9 = .ok (.iconst 0, 1) := by decide +kernel
theorem dX7_begin_10 : decode cX7_begin 10 = .ok (.putfield 34, 3) := by decide +kernel
theorem dX7_begin_13 : decode cX7_begin 13 = .ok (.aload_n 0, 1) := by decide +kernel
theorem dX7_begin_14 : decode cX7_begin 14 = .ok (.iconst 0, 1) := by decide +kernel
theorem dX7_begin_15 : decode cX7_begin 15 = .ok (.putfield 37, 3) := by decide +kernel
theorem dX7_begin_18 : decode cX7_begin 18 = .ok (.aload_n 0, 1) := by decide +kernel
theorem dX7_begin_19 : decode cX7_begin 19 = .ok (.aload_n 1, 1) := by decide +kernel
theorem dX7_begin_20 : decode cX7_begin 20 = .ok (.getfield 40, 3) := by decide +kernel
theorem dX7_begin_23 : decode cX7_begin 23 = .ok (.putfield 43, 3) := by decide +kernel
theorem dX7_begin_26 : decode cX7_begin 26 = .ok (.aload_n 0, 1) := by decide +kernel
theorem dX7_begin_27 : decode cX7_begin 27 = .ok (.iconst 0, 1) := by decide +kernel
theorem dX7_begin_28 : decode cX7_begin 28 = .ok (.putfield 46, 3) := by decide +kernel
theorem dX7_begin_31 : decode cX7_begin 31 = .ok (.aload_n 0, 1) := by decide +kernel
theorem dX7_begin_32 : decode cX7_begin 32 = .ok (.aload_n 1, 1) := by decide +kernel
theorem dX7_begin_33 : decode cX7_begin 33 = .ok (.getfield 49, 3) := by decide +kernel
theorem dX7_begin_36 : decode cX7_begin 36 = .ok (.putfield 53, 3) := by decide +kernel
theorem dX7_begin_39 : decode cX7_begin 39 = .ok (.iconst 0, 1) := by decide +kernel
theorem dX7_begin_40 : decode cX7_begin 40 = .ok (.istore_n 2, 1) := by decide +kernel
theorem dX7_begin_41 : decode cX7_begin 41 = .ok (.iload_n 2, 1) := by decide +kernel
theorem dX7_begin_42 : decode cX7_begin 42 = .ok (.aload_n 1, 1) := by decide +kernel
theorem dX7_begin_43 : decode cX7_begin 43 = .ok (.getfield 56, 3) := by decide +kernel
theorem dX7_begin_46 : decode cX7_begin 46 = .ok (.if_icmp .ge 34, 3) := by decide +kernel
theorem dX7_begin_49 : decode cX7_begin 49 = .ok (.aload_n 0, 1) := by decide +kernel
theorem dX7_begin_50 : decode cX7_begin 50 = .ok (.getfield 43, 3) := by decide +kernel
theorem dX7_begin_53 : decode cX7_begin 53 = .ok (.iload_n 2, 1) := by decide +kernel
theorem dX7_begin_54 : decode cX7_begin 54 = .ok (.ishr, 1) := by decide +kernel
theorem dX7_begin_55 : decode cX7_begin 55 = .ok (.iconst 1, 1) := by decide +kernel
theorem dX7_begin_56 : decode cX7_begin 56 = .ok (.iand, 1) := by decide +kernel
theorem dX7_begin_57 : decode cX7_begin 57 = .ok (.ifCond .eq 17, 3) := by decide +kernel
theorem dX7_begin_60 : decode cX7_begin 60 = .ok (.aload_n 0, 1) := by decide +kernel
theorem dX7_begin_61 : decode cX7_begin 61 = .ok (.dup, 1) := by decide +kernel
theorem dX7_begin_62 : decode cX7_begin 62 = .ok (.getfield 53, 3) := by decide +kernel
theorem dX7_begin_65 : decode cX7_begin 65 = .ok (.aload_n 1, 1) := by decide +kernel
theorem dX7_begin_66 : decode cX7_begin 66 = .ok (.iload_n 2, 1) := by decide +kernel
theorem dX7_begin_67 : decode cX7_begin 67 = .ok (.invokevirtual 59, 3) := by decide +kernel
theorem dX7_begin_70 : decode cX7_begin 70 = .ok (.land, 1) := by decide +kernel
theorem dX7_begin_71 : decode cX7_begin 71 = .ok (.putfield 53, 3) := by decide +kernel
theorem dX7_begin_74 : decode cX7_begin 74 = .ok (.iinc 2 1, 3) := by decide +kernel
theorem dX7_begin_77 : decode cX7_begin 77 = .ok (.goto (-36), 3) := by decide +kernel
theorem dX7_begin_80 : decode cX7_begin 80 = .ok (.aload_n 0, 1) := by decide +kernel
theorem dX7_begin_81 : decode cX7_begin 81 = .ok (.getfield 9, 3) := by decide +kernel
theorem dX7_begin_84 : decode cX7_begin 84 = .ok (.iconst 0, 1) := by decide +kernel
theorem dX7_begin_85 : decode cX7_begin 85 = .ok (.invokestatic 63, 3) := by decide +kernel
theorem dX7_begin_88 : decode cX7_begin 88 = .ok (.aload_n 0, 1) := by decide +kernel
theorem dX7_begin_89 : decode cX7_begin 89 = .ok (.getfield 15, 3) := by decide +kernel
theorem dX7_begin_92 : decode cX7_begin 92 = .ok (.bipush (-2), 2) := by decide +kernel
theorem dX7_begin_94 : decode cX7_begin 94 = .ok (.invokestatic 63, 3) := by decide +kernel
theorem dX7_begin_97 : decode cX7_begin 97 = .ok (.aload_n 0, 1) := by decide +kernel
theorem dX7_begin_98 : decode cX7_begin 98 = .ok (.getfield 18, 3) := by decide +kernel
theorem dX7_begin_101 : decode cX7_begin 101 = .ok (.iconst 0, 1) := by decide +kernel
theorem dX7_begin_102 : decode cX7_begin 102 = .ok (.invokestatic 63, 3) := by decide +kernel
theorem dX7_begin_105 : decode cX7_begin 105 = .ok (.return_, 1) := by decide +kernel
theorem dX7_copyFrom_0 : decode cX7_copyFrom 0 = .ok (.aload_n 0, 1) := by decide +kernel
theorem dX7_copyFrom_1 : decode cX7_copyFrom 1 = .ok (.aload_n 1, 1) := by decide +kernel
theorem dX7_copyFrom_2 : decode cX7_copyFrom 2 = .ok (.invokevirtual 69, 3) := by decide +kernel
theorem dX7_copyFrom_5 : decode cX7_copyFrom 5 = .ok (.aload_n 1, 1) := by decide +kernel
theorem dX7_copyFrom_6 : decode cX7_copyFrom 6 = .ok (.getfield 9, 3) := by decide +kernel
theorem dX7_copyFrom_9 : decode cX7_copyFrom 9 = .ok (.iconst 0, 1) := by decide +kernel
theorem dX7_copyFrom_10 : decode cX7_copyFrom 10 = .ok (.aload_n 0, 1) := by decide +kernel
theorem dX7_copyFrom_11 : decode cX7_copyFrom 11 = .ok (.getfield 9, 3) := by decide +kernel
theorem dX7_copyFrom_14 : decode cX7_copyFrom 14 = .ok (.iconst 0, 1) := by decide +kernel
theorem dX7_copyFrom_15 : decode cX7_copyFrom 15 = .ok (.bipush 8, 2) := by decide +kernel
theorem dX7_copyFrom_17 : decode cX7_copyFrom 17 = .ok (.invokestatic 73, 3) := by decide +kernel
theorem dX7_copyFrom_20 : decode cX7_copyFrom 20 = .ok (.aload_n 1, 1) := by decide +kernel
theorem dX7_copyFrom_21 : decode cX7_copyFrom 21 = .ok (.getfield 15, 3) := by decide +kernel
theorem dX7_copyFrom_24 : decode cX7_copyFrom 24 = .ok (.iconst 0, 1) := by decide +kernel
theorem dX7_copyFrom_25 : decode cX7_copyFrom 25 = .ok (.aload_n 0, 1) := by decide +kernel
theorem dX7_copyFrom_26 : decode cX7_copyFrom 26 = .ok (.getfield 15, 3) := by decide +kernel
theorem dX7_copyFrom_29 : decode cX7_copyFrom 29 = .ok (.iconst 0, 1) := by decide +kernel
theorem dX7_copyFrom_30 : decode cX7_copyFrom 30 = .ok (.bipush 8, 2) := by decide +kernel
theorem dX7_copyFrom_32 : decode cX7_copyFrom 32 = .ok (.invokestatic 73, 3) := by decide +kernel
theorem dX7_copyFrom_35 : decode cX7_copyFrom 35 = .ok (.aload_n 1, 1) := by decide +kernel
theorem dX7_copyFrom_36 : decode cX7_copyFrom 36 = .ok (.getfield 18, 3) := by decide +kernel
theorem dX7_copyFrom_39 : decode cX7_copyFrom 39 = .ok (.iconst 0, 1) := by decide +kernel
theorem dX7_copyFrom_40 : decode cX7_copyFrom 40 = .ok (.aload_n 0, 1) := by decide +kernel
theorem dX7_copyFrom_41 : decode cX7_copyFrom 41 = .ok (.getfield 18, 3) := by decide +kernel
theorem dX7_copyFrom_44 : decode cX7_copyFrom 44 = .ok (.iconst 0, 1) := by decide +kernel
theorem dX7_copyFrom_45 : decode cX7_copyFrom 45 = .ok (.bipush 6, 2) := by decide +kernel
theorem dX7_copyFrom_47 : decode cX7_copyFrom 47 = .ok (.invokestatic 73, 3) := by decide +kernel
theorem dX7_copyFrom_50 : decode cX7_copyFrom 50 = .ok (.return_, 1) := by decide +kernel
theorem dX7_copyMoment_0 : decode cX7_copyMoment 0 = .ok (.aload_n 0, 1) := by decide +kernel
theorem dX7_copyMoment_1 : decode cX7_copyMoment 1 = .ok (.aload_n 1, 1) := by decide +kernel
theorem dX7_copyMoment_2 : decode cX7_copyMoment 2 = .ok (.getfield 31, 3) := by decide +kernel
theorem dX7_copyMoment_5 : decode cX7_copyMoment 5 = .ok (.putfield 31, 3) := by decide +kernel
theorem dX7_copyMoment_8 : decode cX7_copyMoment 8 = .ok (.aload_n 0, 1) := by decide +kernel
theorem dX7_copyMoment_9 : decode cX7_copyMoment 9 = .ok (.aload_n 1, 1) := by decide +kernel
theorem dX7_copyMoment_10 : decode cX7_copyMoment 10 = .ok (.getfield 34, 3) := by decide +kernel
theorem dX7_copyMoment_13 : decode cX7_copyMoment 13 = .ok (.putfield 34, 3) := by decide +kernel
theorem dX7_copyMoment_16 : decode cX7_copyMoment 16 = .ok (.aload_n 0, 1) := by decide +kernel
theorem dX7_copyMoment_17 : decode cX7_copyMoment 17 = .ok (.aload_n 1, 1) := by decide +kernel
theorem dX7_copyMoment_18 : decode cX7_copyMoment 18 = .ok (.getfield 37, 3) := by decide +kernel
theorem dX7_copyMoment_21 : decode cX7_copyMoment 21 = .ok (.putfield 37, 3) := by decide +kernel
theorem dX7_copyMoment_24 : decode cX7_copyMoment 24 = .ok (.aload_n 0, 1) := by decide +kernel
theorem dX7_copyMoment_25 : decode cX7_copyMoment 25 = .ok (.aload_n 1, 1) := by decide +kernel
theorem dX7_copyMoment_26 : decode cX7_copyMoment 26 = .ok (.getfield 43, 3) := by decide +kernel
theorem dX7_copyMoment_29 : decode cX7_copyMoment 29 = .ok (.putfield 43, 3) := by decide +kernel
theorem dX7_copyMoment_32 : decode cX7_copyMoment 32 = .ok (.aload_n 0, 1) := by decide +kernel
theorem dX7_copyMoment_33 : decode cX7_copyMoment 33 = .ok (.aload_n 1, 1) := by decide +kernel
theorem dX7_copyMoment_34 : decode cX7_copyMoment 34 = .ok (.getfield 46, 3) := by decide +kernel
theorem dX7_copyMoment_37 : decode cX7_copyMoment 37 = .ok (.putfield 46, 3) := by decide +kernel
theorem dX7_copyMoment_40 : decode cX7_copyMoment 40 = .ok (.aload_n 0, 1) := by decide +kernel
theorem dX7_copyMoment_41 : decode cX7_copyMoment 41 = .ok (.aload_n 1, 1) := by decide +kernel
theorem dX7_copyMoment_42 : decode cX7_copyMoment 42 = .ok (.getfield 53, 3) := by decide +kernel
theorem dX7_copyMoment_45 : decode cX7_copyMoment 45 = .ok (.putfield 53, 3) := by decide +kernel
theorem dX7_copyMoment_48 : decode cX7_copyMoment 48 = .ok (.return_, 1) := by decide +kernel
theorem dX7_examine_0 : decode cX7_examine 0 = .ok (.aload_n 1, 1) := by decide +kernel
theorem dX7_examine_1 : decode cX7_examine 1 = .ok (.getfield 96, 3) := by decide +kernel
theorem dX7_examine_4 : decode cX7_examine 4 = .ok (.iload_n 2, 1) := by decide +kernel
theorem dX7_examine_5 : decode cX7_examine 5 = .ok (.iaload, 1) := by decide +kernel
theorem dX7_examine_6 : decode cX7_examine 6 = .ok (.istore_n 3, 1) := by decide +kernel
theorem dX7_examine_7 : decode cX7_examine 7 = .ok (.iload_n 3, 1) := by decide +kernel
theorem dX7_examine_8 : decode cX7_examine 8 = .ok (.aload_n 0, 1) := by decide +kernel
theorem dX7_examine_9 : decode cX7_examine 9 = .ok (.getfield 34, 3) := by decide +kernel
theorem dX7_examine_12 : decode cX7_examine 12 = .ok (.iand, 1) := by decide +kernel
theorem dX7_examine_13 : decode cX7_examine 13 = .ok (.aload_n 0, 1) := by decide +kernel
theorem dX7_examine_14 : decode cX7_examine 14 = .ok (.getfield 37, 3) := by decide +kernel
theorem dX7_examine_17 : decode cX7_examine 17 = .ok (.iconst (-1), 1) := by decide +kernel
theorem dX7_examine_18 : decode cX7_examine 18 = .ok (.ixor, 1) := by decide +kernel
theorem dX7_examine_19 : decode cX7_examine 19 = .ok (.iand, 1) := by decide +kernel
theorem dX7_examine_20 : decode cX7_examine 20 = .ok (.istore 4, 2) := by decide +kernel
theorem dX7_examine_22 : decode cX7_examine 22 = .ok (.iload 4, 2) := by decide +kernel
theorem dX7_examine_24 : decode cX7_examine 24 = .ok (.aload_n 1, 1) := by decide +kernel
theorem dX7_examine_25 : decode cX7_examine 25 = .ok (.getfield 89, 3) := by decide +kernel
theorem dX7_examine_28 : decode cX7_examine 28 = .ok (.iconst (-1), 1) := by decide +kernel
theorem dX7_examine_29 : decode cX7_examine 29 = .ok (.ixor, 1) := by decide +kernel
theorem dX7_examine_30 : decode cX7_examine 30 = .ok (.iand, 1) := by decide +kernel
theorem dX7_examine_31 : decode cX7_examine 31 = .ok (.istore 5, 2) := by decide +kernel
theorem dX7_examine_33 : decode cX7_examine 33 = .ok (.iload 5, 2) := by decide +kernel
theorem dX7_examine_35 : decode cX7_examine 35 = .ok (.ifCond .eq 19, 3) := by decide +kernel
theorem dX7_examine_38 : decode cX7_examine 38 = .ok (.aload_n 0, 1) := by decide +kernel
theorem dX7_examine_39 : decode cX7_examine 39 = .ok (.getfield 53, 3) := by decide +kernel
theorem dX7_examine_42 : decode cX7_examine 42 = .ok (.aload_n 1, 1) := by decide +kernel
theorem dX7_examine_43 : decode cX7_examine 43 = .ok (.iload 4, 2) := by decide +kernel
theorem dX7_examine_45 : decode cX7_examine 45 = .ok (.invokevirtual 140, 3) := by decide +kernel
theorem dX7_examine_48 : decode cX7_examine 48 = .ok (.land, 1) := by decide +kernel
theorem dX7_examine_49 : decode cX7_examine 49 = .ok (.lconst 0, 1) := by decide +kernel
theorem dX7_examine_50 : decode cX7_examine 50 = .ok (.lcmp, 1) := by decide +kernel
theorem dX7_examine_51 : decode cX7_examine 51 = .ok (.ifCond .eq 5, 3) := by decide +kernel
theorem dX7_examine_54 : decode cX7_examine 54 = .ok (.iconst 0, 1) := by decide +kernel
theorem dX7_examine_55 : decode cX7_examine 55 = .ok (.ireturn, 1) := by decide +kernel
theorem dX7_examine_56 : decode cX7_examine 56 = .ok (.iconst 0, 1) := by decide +kernel
theorem dX7_examine_57 : decode cX7_examine 57 = .ok (.istore 6, 2) := by decide +kernel
theorem dX7_examine_59 : decode cX7_examine 59 = .ok (.iload 6, 2) := by decide +kernel
theorem dX7_examine_61 : decode cX7_examine 61 = .ok (.aload_n 1, 1) := by decide +kernel
theorem dX7_examine_62 : decode cX7_examine 62 = .ok (.getfield 147, 3) := by decide +kernel
theorem dX7_examine_65 : decode cX7_examine 65 = .ok (.if_icmp .ge 70, 3) := by decide +kernel
theorem dX7_examine_68 : decode cX7_examine 68 = .ok (.iload 5, 2) := by decide +kernel
theorem dX7_examine_70 : decode cX7_examine 70 = .ok (.iload 6, 2) := by decide +kernel
theorem dX7_examine_72 : decode cX7_examine 72 = .ok (.ishr, 1) := by decide +kernel
theorem dX7_examine_73 : decode cX7_examine 73 = .ok (.iconst 1, 1) := by decide +kernel
theorem dX7_examine_74 : decode cX7_examine 74 = .ok (.iand, 1) := by decide +kernel
theorem dX7_examine_75 : decode cX7_examine 75 = .ok (.ifCond .eq 54, 3) := by decide +kernel
theorem dX7_examine_78 : decode cX7_examine 78 = .ok (.aload_n 1, 1) := by decide +kernel
theorem dX7_examine_79 : decode cX7_examine 79 = .ok (.getfield 150, 3) := by decide +kernel
theorem dX7_examine_82 : decode cX7_examine 82 = .ok (.aload_n 0, 1) := by decide +kernel
theorem dX7_examine_83 : decode cX7_examine 83 = .ok (.iload_n 3, 1) := by decide +kernel
theorem dX7_examine_84 : decode cX7_examine 84 = .ok (.invokevirtual 99, 3) := by decide +kernel
theorem dX7_examine_87 : decode cX7_examine 87 = .ok (.istore 7, 2) := by decide +kernel
theorem dX7_examine_89 : decode cX7_examine 89 = .ok (.aload_n 0, 1) := by decide +kernel
theorem dX7_examine_90 : decode cX7_examine 90 = .ok (.dup, 1) := by decide +kernel
theorem dX7_examine_91 : decode cX7_examine 91 = .ok (.getfield 37, 3) := by decide +kernel
theorem dX7_examine_94 : decode cX7_examine 94 = .ok (.iconst 1, 1) := by decide +kernel
theorem dX7_examine_95 : decode cX7_examine 95 = .ok (.iload 6, 2) := by decide +kernel
theorem dX7_examine_97 : decode cX7_examine 97 = .ok (.ishl, 1) := by decide +kernel
theorem dX7_examine_98 : decode cX7_examine 98 = .ok (.ior, 1) := by decide +kernel
theorem dX7_examine_99 : decode cX7_examine 99 = .ok (.putfield 37, 3) := by decide +kernel
theorem dX7_examine_102 : decode cX7_examine 102 = .ok (.aload_n 0, 1) := by decide +kernel
theorem dX7_examine_103 : decode cX7_examine 103 = .ok (.getfield 18, 3) := by decide +kernel
theorem dX7_examine_106 : decode cX7_examine 106 = .ok (.iload_n 2, 1) := by decide +kernel
theorem dX7_examine_107 : decode cX7_examine 107 = .ok (.dup2, 1) := by decide +kernel
theorem dX7_examine_108 : decode cX7_examine 108 = .ok (.iaload, 1) := by decide +kernel
theorem dX7_examine_109 : decode cX7_examine 109 = .ok (.iload 7, 2) := by decide +kernel
theorem dX7_examine_111 : decode cX7_examine 111 = .ok (.isub, 1) := by decide +kernel
theorem dX7_examine_112 : decode cX7_examine 112 = .ok (.iastore, 1) := by decide +kernel
theorem dX7_examine_113 : decode cX7_examine 113 = .ok (.aload_n 0, 1) := by decide +kernel
theorem dX7_examine_114 : decode cX7_examine 114 = .ok (.aload_n 0, 1) := by decide +kernel
theorem dX7_examine_115 : decode cX7_examine 115 = .ok (.getfield 31, 3) := by decide +kernel
theorem dX7_examine_118 : decode cX7_examine 118 = .ok (.iload 7, 2) := by decide +kernel
theorem dX7_examine_120 : decode cX7_examine 120 = .ok (.isub, 1) := by decide +kernel
theorem dX7_examine_121 : decode cX7_examine 121 = .ok (.ldc 153, 2) := by decide +kernel
theorem dX7_examine_123 : decode cX7_examine 123 = .ok (.invokestatic 154, 3) := by decide +kernel
theorem dX7_examine_126 : decode cX7_examine 126 = .ok (.putfield 31, 3) := by decide +kernel
theorem dX7_examine_129 : decode cX7_examine 129 = .ok (.iinc 6 1, 3) := by decide +kernel
theorem dX7_examine_132 : decode cX7_examine 132 = .ok (.goto (-73), 3) := by decide +kernel
theorem dX7_examine_135 : decode cX7_examine 135 = .ok (.iload 5, 2) := by decide +kernel
theorem dX7_examine_137 : decode cX7_examine 137 = .ok (.invokestatic 157, 3) := by decide +kernel
theorem dX7_examine_140 : decode cX7_examine 140 = .ok (.ireturn, 1) := by decide +kernel
theorem dX7_goForward_0 : decode cX7_goForward 0 = .ok (.aload_n 0, 1) := by decide +kernel
theorem dX7_goForward_1 : decode cX7_goForward 1 = .ok (.getfield 31, 3) := by decide +kernel
theorem dX7_goForward_4 : decode cX7_goForward 4 = .ok (.istore_n 3, 1) := by decide +kernel
theorem dX7_goForward_5 : decode cX7_goForward 5 = .ok (.iload_n 3, 1) := by decide +kernel
theorem dX7_goForward_6 : decode cX7_goForward 6 = .ok (.iload_n 2, 1) := by decide +kernel
theorem dX7_goForward_7 : decode cX7_goForward 7 = .ok (.iadd, 1) := by decide +kernel
theorem dX7_goForward_8 : decode cX7_goForward 8 = .ok (.ldc 112, 2) := by decide +kernel
theorem dX7_goForward_10 : decode cX7_goForward 10 = .ok (.invokestatic 113, 3) := by decide +kernel
theorem dX7_goForward_13 : decode cX7_goForward 13 = .ok (.istore 4, 2) := by decide +kernel
theorem dX7_goForward_15 : decode cX7_goForward 15 = .ok (.iconst 0, 1) := by decide +kernel
theorem dX7_goForward_16 : decode cX7_goForward 16 = .ok (.istore 5, 2) := by decide +kernel
theorem dX7_goForward_18 : decode cX7_goForward 18 = .ok (.iload 5, 2) := by decide +kernel
theorem dX7_goForward_20 : decode cX7_goForward 20 = .ok (.aload_n 1, 1) := by decide +kernel
theorem dX7_goForward_21 : decode cX7_goForward 21 = .ok (.getfield 119, 3) := by decide +kernel
theorem dX7_goForward_24 : decode cX7_goForward 24 = .ok (.if_icmp .ge 39, 3) := by decide +kernel
theorem dX7_goForward_27 : decode cX7_goForward 27 = .ok (.aload_n 1, 1) := by decide +kernel
theorem dX7_goForward_28 : decode cX7_goForward 28 = .ok (.getfield 122, 3) := by decide +kernel
theorem dX7_goForward_31 : decode cX7_goForward 31 = .ok (.iload 5, 2) := by decide +kernel
theorem dX7_goForward_33 : decode cX7_goForward 33 = .ok (.iaload, 1) := by decide +kernel
theorem dX7_goForward_34 : decode cX7_goForward 34 = .ok (.iload_n 3, 1) := by decide +kernel
theorem dX7_goForward_35 : decode cX7_goForward 35 = .ok (.if_icmp .le 22, 3) := by decide +kernel
theorem dX7_goForward_38 : decode cX7_goForward 38 = .ok (.aload_n 1, 1) := by decide +kernel
theorem dX7_goForward_39 : decode cX7_goForward 39 = .ok (.getfield 122, 3) := by decide +kernel
theorem dX7_goForward_42 : decode cX7_goForward 42 = .ok (.iload 5, 2) := by decide +kernel
theorem dX7_goForward_44 : decode cX7_goForward 44 = .ok (.iaload, 1) := by decide +kernel
theorem dX7_goForward_45 : decode cX7_goForward 45 = .ok (.iload 4, 2) := by decide +kernel
theorem dX7_goForward_47 : decode cX7_goForward 47 = .ok (.if_icmp .gt 10, 3) := by decide +kernel
theorem dX7_goForward_50 : decode cX7_goForward 50 = .ok (.aload_n 0, 1) := by decide +kernel
theorem dX7_goForward_51 : decode cX7_goForward 51 = .ok (.aload_n 1, 1) := by decide +kernel
theorem dX7_goForward_52 : decode cX7_goForward 52 = .ok (.iload 5, 2) := by decide +kernel
theorem dX7_goForward_54 : decode cX7_goForward 54 = .ok (.invokevirtual 125, 3) := by decide +kernel
theorem dX7_goForward_57 : decode cX7_goForward 57 = .ok (.iinc 5 1, 3) := by decide +kernel
theorem dX7_goForward_60 : decode cX7_goForward 60 = .ok (.goto (-42), 3) := by decide +kernel
theorem dX7_goForward_63 : decode cX7_goForward 63 = .ok (.aload_n 0, 1) := by decide +kernel
theorem dX7_goForward_64 : decode cX7_goForward 64 = .ok (.dup, 1) := by decide +kernel
theorem dX7_goForward_65 : decode cX7_goForward 65 = .ok (.getfield 128, 3) := by decide +kernel
theorem dX7_goForward_68 : decode cX7_goForward 68 = .ok (.aload_n 0, 1) := by decide +kernel
theorem dX7_goForward_69 : decode cX7_goForward 69 = .ok (.getfield 131, 3) := by decide +kernel
theorem dX7_goForward_72 : decode cX7_goForward 72 = .ok (.iload_n 3, 1) := by decide +kernel
theorem dX7_goForward_73 : decode cX7_goForward 73 = .ok (.if_icmp .le 16, 3) := by decide +kernel
theorem dX7_goForward_76 : decode cX7_goForward 76 = .ok (.aload_n 0, 1) := by decide +kernel
theorem dX7_goForward_77 : decode cX7_goForward 77 = .ok (.getfield 131, 3) := by decide +kernel
theorem dX7_goForward_80 : decode cX7_goForward 80 = .ok (.iload 4, 2) := by decide +kernel
theorem dX7_goForward_82 : decode cX7_goForward 82 = .ok (.if_icmp .gt 7, 3) := by decide +kernel
theorem dX7_goForward_85 : decode cX7_goForward 85 = .ok (.iconst 1, 1) := by decide +kernel
theorem dX7_goForward_86 : decode cX7_goForward 86 = .ok (.goto 4, 3) := by decide +kernel
theorem dX7_goForward_89 : decode cX7_goForward 89 = .ok (.iconst 0, 1) := by decide +kernel
theorem dX7_goForward_90 : decode cX7_goForward 90 = .ok (.ior, 1) := by decide +kernel
theorem dX7_goForward_91 : decode cX7_goForward 91 = .ok (.putfield 128, 3) := by decide +kernel
theorem dX7_goForward_94 : decode cX7_goForward 94 = .ok (.aload_n 0, 1) := by decide +kernel
theorem dX7_goForward_95 : decode cX7_goForward 95 = .ok (.iload 4, 2) := by decide +kernel
theorem dX7_goForward_97 : decode cX7_goForward 97 = .ok (.putfield 31, 3) := by decide +kernel
theorem dX7_goForward_100 : decode cX7_goForward 100 = .ok (.return_, 1) := by decide +kernel
theorem dX7_hear_0 : decode cX7_hear 0 = .ok (.aload_n 0, 1) := by decide +kernel
theorem dX7_hear_1 : decode cX7_hear 1 = .ok (.dup, 1) := by decide +kernel
theorem dX7_hear_2 : decode cX7_hear 2 = .ok (.getfield 46, 3) := by decide +kernel
theorem dX7_hear_5 : decode cX7_hear 5 = .ok (.iconst 1, 1) := by decide +kernel
theorem dX7_hear_6 : decode cX7_hear 6 = .ok (.iadd, 1) := by decide +kernel
theorem dX7_hear_7 : decode cX7_hear 7 = .ok (.putfield 46, 3) := by decide +kernel
theorem dX7_hear_10 : decode cX7_hear 10 = .ok (.aload_n 0, 1) := by decide +kernel
theorem dX7_hear_11 : decode cX7_hear 11 = .ok (.dup, 1) := by decide +kernel
theorem dX7_hear_12 : decode cX7_hear 12 = .ok (.getfield 134, 3) := by decide +kernel
theorem dX7_hear_15 : decode cX7_hear 15 = .ok (.iconst 1, 1) := by decide +kernel
theorem dX7_hear_16 : decode cX7_hear 16 = .ok (.iload_n 2, 1) := by decide +kernel
theorem dX7_hear_17 : decode cX7_hear 17 = .ok (.ishl, 1) := by decide +kernel
theorem dX7_hear_18 : decode cX7_hear 18 = .ok (.ior, 1) := by decide +kernel
theorem dX7_hear_19 : decode cX7_hear 19 = .ok (.putfield 134, 3) := by decide +kernel
theorem dX7_hear_22 : decode cX7_hear 22 = .ok (.aload_n 0, 1) := by decide +kernel
theorem dX7_hear_23 : decode cX7_hear 23 = .ok (.getfield 21, 3) := by decide +kernel
theorem dX7_hear_26 : decode cX7_hear 26 = .ok (.ifCond .eq 25, 3) := by decide +kernel
theorem dX7_hear_29 : decode cX7_hear 29 = .ok (.aload_n 0, 1) := by decide +kernel
theorem dX7_hear_30 : decode cX7_hear 30 = .ok (.getfield 9, 3) := by decide +kernel
theorem dX7_hear_33 : decode cX7_hear 33 = .ok (.iload_n 2, 1) := by decide +kernel
theorem dX7_hear_34 : decode cX7_hear 34 = .ok (.dup2, 1) := by decide +kernel
theorem dX7_hear_35 : decode cX7_hear 35 = .ok (.iaload, 1) := by decide +kernel
theorem dX7_hear_36 : decode cX7_hear 36 = .ok (.iconst 1, 1) := by decide +kernel
theorem dX7_hear_37 : decode cX7_hear 37 = .ok (.iadd, 1) := by decide +kernel
theorem dX7_hear_38 : decode cX7_hear 38 = .ok (.iastore, 1) := by decide +kernel
theorem dX7_hear_39 : decode cX7_hear 39 = .ok (.aload_n 0, 1) := by decide +kernel
theorem dX7_hear_40 : decode cX7_hear 40 = .ok (.getfield 15, 3) := by decide +kernel
theorem dX7_hear_43 : decode cX7_hear 43 = .ok (.iload_n 2, 1) := by decide +kernel
theorem dX7_hear_44 : decode cX7_hear 44 = .ok (.aload_n 0, 1) := by decide +kernel
theorem dX7_hear_45 : decode cX7_hear 45 = .ok (.aload_n 1, 1) := by decide +kernel
theorem dX7_hear_46 : decode cX7_hear 46 = .ok (.iload_n 2, 1) := by decide +kernel
theorem dX7_hear_47 : decode cX7_hear 47 = .ok (.invokevirtual 137, 3) := by decide +kernel
theorem dX7_hear_50 : decode cX7_hear 50 = .ok (.iastore, 1) := by decide +kernel
theorem dX7_hear_51 : decode cX7_hear 51 = .ok (.return_, 1) := by decide +kernel
theorem dX7_reveal_0 : decode cX7_reveal 0 = .ok (.aload_n 0, 1) := by decide +kernel
theorem dX7_reveal_1 : decode cX7_reveal 1 = .ok (.aload_n 1, 1) := by decide +kernel
theorem dX7_reveal_2 : decode cX7_reveal 2 = .ok (.iconst 1, 1) := by decide +kernel
theorem dX7_reveal_3 : decode cX7_reveal 3 = .ok (.invokevirtual 79, 3) := by decide +kernel
theorem dX7_reveal_6 : decode cX7_reveal 6 = .ok (.aload_n 0, 1) := by decide +kernel
theorem dX7_reveal_7 : decode cX7_reveal 7 = .ok (.dup, 1) := by decide +kernel
theorem dX7_reveal_8 : decode cX7_reveal 8 = .ok (.getfield 43, 3) := by decide +kernel
theorem dX7_reveal_11 : decode cX7_reveal 11 = .ok (.iconst 1, 1) := by decide +kernel
theorem dX7_reveal_12 : decode cX7_reveal 12 = .ok (.iload_n 2, 1) := by decide +kernel
theorem dX7_reveal_13 : decode cX7_reveal 13 = .ok (.ishl, 1) := by decide +kernel
theorem dX7_reveal_14 : decode cX7_reveal 14 = .ok (.ior, 1) := by decide +kernel
theorem dX7_reveal_15 : decode cX7_reveal 15 = .ok (.putfield 43, 3) := by decide +kernel
theorem dX7_reveal_18 : decode cX7_reveal 18 = .ok (.aload_n 0, 1) := by decide +kernel
theorem dX7_reveal_19 : decode cX7_reveal 19 = .ok (.dup, 1) := by decide +kernel
theorem dX7_reveal_20 : decode cX7_reveal 20 = .ok (.getfield 53, 3) := by decide +kernel
theorem dX7_reveal_23 : decode cX7_reveal 23 = .ok (.aload_n 1, 1) := by decide +kernel
theorem dX7_reveal_24 : decode cX7_reveal 24 = .ok (.iload_n 2, 1) := by decide +kernel
theorem dX7_reveal_25 : decode cX7_reveal 25 = .ok (.invokevirtual 59, 3) := by decide +kernel
theorem dX7_reveal_28 : decode cX7_reveal 28 = .ok (.land, 1) := by decide +kernel
theorem dX7_reveal_29 : decode cX7_reveal 29 = .ok (.putfield 53, 3) := by decide +kernel
theorem dX7_reveal_32 : decode cX7_reveal 32 = .ok (.iconst 0, 1) := by decide +kernel
theorem dX7_reveal_33 : decode cX7_reveal 33 = .ok (.istore_n 3, 1) := by decide +kernel
theorem dX7_reveal_34 : decode cX7_reveal 34 = .ok (.iconst 0, 1) := by decide +kernel
theorem dX7_reveal_35 : decode cX7_reveal 35 = .ok (.istore 4, 2) := by decide +kernel
theorem dX7_reveal_37 : decode cX7_reveal 37 = .ok (.iload 4, 2) := by decide +kernel
theorem dX7_reveal_39 : decode cX7_reveal 39 = .ok (.aload_n 1, 1) := by decide +kernel
theorem dX7_reveal_40 : decode cX7_reveal 40 = .ok (.getfield 109, 3) := by decide +kernel
theorem dX7_reveal_43 : decode cX7_reveal 43 = .ok (.if_icmp .ge 19, 3) := by decide +kernel
theorem dX7_reveal_46 : decode cX7_reveal 46 = .ok (.iload_n 3, 1) := by decide +kernel
theorem dX7_reveal_47 : decode cX7_reveal 47 = .ok (.aload_n 0, 1) := by decide +kernel
theorem dX7_reveal_48 : decode cX7_reveal 48 = .ok (.aload_n 1, 1) := by decide +kernel
theorem dX7_reveal_49 : decode cX7_reveal 49 = .ok (.iload 4, 2) := by decide +kernel
theorem dX7_reveal_51 : decode cX7_reveal 51 = .ok (.invokevirtual 105, 3) := by decide +kernel
theorem dX7_reveal_54 : decode cX7_reveal 54 = .ok (.iadd, 1) := by decide +kernel
theorem dX7_reveal_55 : decode cX7_reveal 55 = .ok (.istore_n 3, 1) := by decide +kernel
theorem dX7_reveal_56 : decode cX7_reveal 56 = .ok (.iinc 4 1, 3) := by decide +kernel
theorem dX7_reveal_59 : decode cX7_reveal 59 = .ok (.goto (-22), 3) := by decide +kernel
theorem dX7_reveal_62 : decode cX7_reveal 62 = .ok (.iload_n 3, 1) := by decide +kernel
theorem dX7_reveal_63 : decode cX7_reveal 63 = .ok (.ireturn, 1) := by decide +kernel
theorem dX7_utter_0 : decode cX7_utter 0 = .ok (.aload_n 0, 1) := by decide +kernel
theorem dX7_utter_1 : decode cX7_utter 1 = .ok (.aload_n 1, 1) := by decide +kernel
theorem dX7_utter_2 : decode cX7_utter 2 = .ok (.iconst 1, 1) := by decide +kernel
theorem dX7_utter_3 : decode cX7_utter 3 = .ok (.invokevirtual 79, 3) := by decide +kernel
theorem dX7_utter_6 : decode cX7_utter 6 = .ok (.iconst 1, 1) := by decide +kernel
theorem dX7_utter_7 : decode cX7_utter 7 = .ok (.iload_n 2, 1) := by decide +kernel
theorem dX7_utter_8 : decode cX7_utter 8 = .ok (.ishl, 1) := by decide +kernel
theorem dX7_utter_9 : decode cX7_utter 9 = .ok (.istore_n 3, 1) := by decide +kernel
theorem dX7_utter_10 : decode cX7_utter 10 = .ok (.aload_n 1, 1) := by decide +kernel
theorem dX7_utter_11 : decode cX7_utter 11 = .ok (.getfield 83, 3) := by decide +kernel
theorem dX7_utter_14 : decode cX7_utter 14 = .ok (.iload_n 2, 1) := by decide +kernel
theorem dX7_utter_15 : decode cX7_utter 15 = .ok (.iaload, 1) := by decide +kernel
theorem dX7_utter_16 : decode cX7_utter 16 = .ok (.istore 4, 2) := by decide +kernel
theorem dX7_utter_18 : decode cX7_utter 18 = .ok (.aload_n 0, 1) := by decide +kernel
theorem dX7_utter_19 : decode cX7_utter 19 = .ok (.getfield 34, 3) := by decide +kernel
theorem dX7_utter_22 : decode cX7_utter 22 = .ok (.iload_n 3, 1) := by decide +kernel
theorem dX7_utter_23 : decode cX7_utter 23 = .ok (.iand, 1) := by decide +kernel
theorem dX7_utter_24 : decode cX7_utter 24 = .ok (.ifCond .ne 7, 3) := by decide +kernel
theorem dX7_utter_27 : decode cX7_utter 27 = .ok (.iconst 1, 1) := by decide +kernel
theorem dX7_utter_28 : decode cX7_utter 28 = .ok (.goto 4, 3) := by decide +kernel
theorem dX7_utter_31 : decode cX7_utter 31 = .ok (.iconst 0, 1) := by decide +kernel
theorem dX7_utter_32 : decode cX7_utter 32 = .ok (.istore 5, 2) := by decide +kernel
theorem dX7_utter_34 : decode cX7_utter 34 = .ok (.aload_n 0, 1) := by decide +kernel
theorem dX7_utter_35 : decode cX7_utter 35 = .ok (.dup, 1) := by decide +kernel
theorem dX7_utter_36 : decode cX7_utter 36 = .ok (.getfield 34, 3) := by decide +kernel
theorem dX7_utter_39 : decode cX7_utter 39 = .ok (.iload_n 3, 1) := by decide +kernel
theorem dX7_utter_40 : decode cX7_utter 40 = .ok (.ior, 1) := by decide +kernel
theorem dX7_utter_41 : decode cX7_utter 41 = .ok (.putfield 34, 3) := by decide +kernel
theorem dX7_utter_44 : decode cX7_utter 44 = .ok (.iload 5, 2) := by decide +kernel
theorem dX7_utter_46 : decode cX7_utter 46 = .ok (.ifCond .eq 21, 3) := by decide +kernel
theorem dX7_utter_49 : decode cX7_utter 49 = .ok (.aload_n 1, 1) := by decide +kernel
theorem dX7_utter_50 : decode cX7_utter 50 = .ok (.getfield 86, 3) := by decide +kernel
theorem dX7_utter_53 : decode cX7_utter 53 = .ok (.aload_n 1, 1) := by decide +kernel
theorem dX7_utter_54 : decode cX7_utter 54 = .ok (.getfield 89, 3) := by decide +kernel
theorem dX7_utter_57 : decode cX7_utter 57 = .ok (.iand, 1) := by decide +kernel
theorem dX7_utter_58 : decode cX7_utter 58 = .ok (.iload_n 3, 1) := by decide +kernel
theorem dX7_utter_59 : decode cX7_utter 59 = .ok (.iand, 1) := by decide +kernel
theorem dX7_utter_60 : decode cX7_utter 60 = .ok (.ifCond .eq 7, 3) := by decide +kernel
theorem dX7_utter_63 : decode cX7_utter 63 = .ok (.iconst 1, 1) := by decide +kernel
theorem dX7_utter_64 : decode cX7_utter 64 = .ok (.goto 4, 3) := by decide +kernel
theorem dX7_utter_67 : decode cX7_utter 67 = .ok (.iconst 0, 1) := by decide +kernel
theorem dX7_utter_68 : decode cX7_utter 68 = .ok (.istore 6, 2) := by decide +kernel
theorem dX7_utter_70 : decode cX7_utter 70 = .ok (.iload 6, 2) := by decide +kernel
theorem dX7_utter_72 : decode cX7_utter 72 = .ok (.ifCond .eq 39, 3) := by decide +kernel
theorem dX7_utter_75 : decode cX7_utter 75 = .ok (.aload_n 1, 1) := by decide +kernel
theorem dX7_utter_76 : decode cX7_utter 76 = .ok (.getfield 92, 3) := by decide +kernel
theorem dX7_utter_79 : decode cX7_utter 79 = .ok (.aload_n 0, 1) := by decide +kernel
theorem dX7_utter_80 : decode cX7_utter 80 = .ok (.aload_n 1, 1) := by decide +kernel
theorem dX7_utter_81 : decode cX7_utter 81 = .ok (.getfield 96, 3) := by decide +kernel
theorem dX7_utter_84 : decode cX7_utter 84 = .ok (.iload 4, 2) := by decide +kernel
theorem dX7_utter_86 : decode cX7_utter 86 = .ok (.iaload, 1) := by decide +kernel
theorem dX7_utter_87 : decode cX7_utter 87 = .ok (.invokevirtual 99, 3) := by decide +kernel
theorem dX7_utter_90 : decode cX7_utter 90 = .ok (.istore 7, 2) := by decide +kernel
theorem dX7_utter_92 : decode cX7_utter 92 = .ok (.aload_n 0, 1) := by decide +kernel
theorem dX7_utter_93 : decode cX7_utter 93 = .ok (.getfield 18, 3) := by decide +kernel
theorem dX7_utter_96 : decode cX7_utter 96 = .ok (.iload 4, 2) := by decide +kernel
theorem dX7_utter_98 : decode cX7_utter 98 = .ok (.dup2, 1) := by decide +kernel
theorem dX7_utter_99 : decode cX7_utter 99 = .ok (.iaload, 1) := by decide +kernel
theorem dX7_utter_100 : decode cX7_utter 100 = .ok (.iload 7, 2) := by decide +kernel
theorem dX7_utter_102 : decode cX7_utter 102 = .ok (.iadd, 1) := by decide +kernel
theorem dX7_utter_103 : decode cX7_utter 103 = .ok (.iastore, 1) := by decide +kernel
theorem dX7_utter_104 : decode cX7_utter 104 = .ok (.aload_n 0, 1) := by decide +kernel
theorem dX7_utter_105 : decode cX7_utter 105 = .ok (.aload_n 1, 1) := by decide +kernel
theorem dX7_utter_106 : decode cX7_utter 106 = .ok (.iload 7, 2) := by decide +kernel
theorem dX7_utter_108 : decode cX7_utter 108 = .ok (.invokevirtual 79, 3) := by decide +kernel
theorem dX7_utter_111 : decode cX7_utter 111 = .ok (.aload_n 0, 1) := by decide +kernel
theorem dX7_utter_112 : decode cX7_utter 112 = .ok (.aload_n 1, 1) := by decide +kernel
theorem dX7_utter_113 : decode cX7_utter 113 = .ok (.iload 4, 2) := by decide +kernel
theorem dX7_utter_115 : decode cX7_utter 115 = .ok (.invokevirtual 105, 3) := by decide +kernel
theorem dX7_utter_118 : decode cX7_utter 118 = .ok (.ifCond .le 5, 3) := by decide +kernel
theorem dX7_utter_121 : decode cX7_utter 121 = .ok (.iconst 1, 1) := by decide +kernel
theorem dX7_utter_122 : decode cX7_utter 122 = .ok (.ireturn, 1) := by decide +kernel
theorem dX7_utter_123 : decode cX7_utter 123 = .ok (.iload 6, 2) := by decide +kernel
theorem dX7_utter_125 : decode cX7_utter 125 = .ok (.ifCond .eq 7, 3) := by decide +kernel
theorem dX7_utter_128 : decode cX7_utter 128 = .ok (.iconst 2, 1) := by decide +kernel
theorem dX7_utter_129 : decode cX7_utter 129 = .ok (.goto 4, 3) := by decide +kernel
theorem dX7_utter_132 : decode cX7_utter 132 = .ok (.iconst 0, 1) := by decide +kernel
theorem dX7_utter_133 : decode cX7_utter 133 = .ok (.ireturn, 1) := by decide +kernel
theorem dX7_valueOf_0 : decode cX7_valueOf 0 = .ok (.iload_n 1, 1) := by decide +kernel
theorem dX7_valueOf_1 : decode cX7_valueOf 1 = .ok (.tableswitch 67 114 117 #[31, 41, 51, 62], 31) := by decide +kernel
theorem dX7_valueOf_32 : decode cX7_valueOf 32 = .ok (.aload_n 0, 1) := by decide +kernel
theorem dX7_valueOf_33 : decode cX7_valueOf 33 = .ok (.getfield 37, 3) := by decide +kernel
theorem dX7_valueOf_36 : decode cX7_valueOf 36 = .ok (.iload_n 2, 1) := by decide +kernel
theorem dX7_valueOf_37 : decode cX7_valueOf 37 = .ok (.iand, 1) := by decide +kernel
theorem dX7_valueOf_38 : decode cX7_valueOf 38 = .ok (.invokestatic 157, 3) := by decide +kernel
