theorem dX7_valueOf_41 : decode cX7_valueOf 41 = .ok (.ireturn, 1) := by decide +kernel
theorem dX7_valueOf_42 : decode cX7_valueOf 42 = .ok (.aload_n 0, 1) := by decide +kernel
theorem dX7_valueOf_43 : decode cX7_valueOf 43 = .ok (.getfield 34, 3) := by decide +kernel
theorem dX7_valueOf_46 : decode cX7_valueOf 46 = .ok (.iload_n 2, 1) := by decide +kernel
theorem dX7_valueOf_47 : decode cX7_valueOf 47 = .ok (.iand, 1) := by decide +kernel
theorem dX7_valueOf_48 : decode cX7_valueOf 48 = .ok (.invokestatic 157, 3) := by decide +kernel
theorem dX7_valueOf_51 : decode cX7_valueOf 51 = .ok (.ireturn, 1) := by decide +kernel
theorem dX7_valueOf_52 : decode cX7_valueOf 52 = .ok (.aload_n 0, 1) := by decide +kernel
theorem dX7_valueOf_53 : decode cX7_valueOf 53 = .ok (.getfield 31, 3) := by decide +kernel
theorem dX7_valueOf_56 : decode cX7_valueOf 56 = .ok (.sipush 1440, 3) := by decide +kernel
theorem dX7_valueOf_59 : decode cX7_valueOf 59 = .ok (.invokestatic 163, 3) := by decide +kernel
theorem dX7_valueOf_62 : decode cX7_valueOf 62 = .ok (.ireturn, 1) := by decide +kernel
theorem dX7_valueOf_63 : decode cX7_valueOf 63 = .ok (.aload_n 0, 1) := by decide +kernel
theorem dX7_valueOf_64 : decode cX7_valueOf 64 = .ok (.getfield 46, 3) := by decide +kernel
theorem dX7_valueOf_67 : decode cX7_valueOf 67 = .ok (.ireturn, 1) := by decide +kernel
theorem dX7_valueOf_68 : decode cX7_valueOf 68 = .ok (.aload_n 0, 1) := by decide +kernel
theorem dX7_valueOf_69 : decode cX7_valueOf 69 = .ok (.getfield 43, 3) := by decide +kernel
theorem dX7_valueOf_72 : decode cX7_valueOf 72 = .ok (.invokestatic 157, 3) := by decide +kernel
theorem dX7_valueOf_75 : decode cX7_valueOf 75 = .ok (.ireturn, 1) := by decide +kernel
theorem dX7_verdictOf_0 : decode cX7_verdictOf 0 = .ok (.aload_n 0, 1) := by decide +kernel
theorem dX7_verdictOf_1 : decode cX7_verdictOf 1 = .ok (.getfield 53, 3) := by decide +kernel
theorem dX7_verdictOf_4 : decode cX7_verdictOf 4 = .ok (.aload_n 1, 1) := by decide +kernel
theorem dX7_verdictOf_5 : decode cX7_verdictOf 5 = .ok (.aload_n 0, 1) := by decide +kernel
theorem dX7_verdictOf_6 : decode cX7_verdictOf 6 = .ok (.getfield 34, 3) := by decide +kernel
theorem dX7_verdictOf_9 : decode cX7_verdictOf 9 = .ok (.aload_n 0, 1) := by decide +kernel
theorem dX7_verdictOf_10 : decode cX7_verdictOf 10 = .ok (.getfield 37, 3) := by decide +kernel
theorem dX7_verdictOf_13 : decode cX7_verdictOf 13 = .ok (.iconst (-1), 1) := by decide +kernel
theorem dX7_verdictOf_14 : decode cX7_verdictOf 14 = .ok (.ixor, 1) := by decide +kernel
theorem dX7_verdictOf_15 : decode cX7_verdictOf 15 = .ok (.iand, 1) := by decide +kernel
theorem dX7_verdictOf_16 : decode cX7_verdictOf 16 = .ok (.invokevirtual 140, 3) := by decide +kernel
theorem dX7_verdictOf_19 : decode cX7_verdictOf 19 = .ok (.land, 1) := by decide +kernel
theorem dX7_verdictOf_20 : decode cX7_verdictOf 20 = .ok (.lstore_n 3, 1) := by decide +kernel
theorem dX7_verdictOf_21 : decode cX7_verdictOf 21 = .ok (.lload_n 3, 1) := by decide +kernel
theorem dX7_verdictOf_22 : decode cX7_verdictOf 22 = .ok (.lconst 0, 1) := by decide +kernel
theorem dX7_verdictOf_23 : decode cX7_verdictOf 23 = .ok (.lcmp, 1) := by decide +kernel
theorem dX7_verdictOf_24 : decode cX7_verdictOf 24 = .ok (.ifCond .ne 5, 3) := by decide +kernel
theorem dX7_verdictOf_27 : decode cX7_verdictOf 27 = .ok (.iconst 3, 1) := by decide +kernel
theorem dX7_verdictOf_28 : decode cX7_verdictOf 28 = .ok (.ireturn, 1) := by decide +kernel
theorem dX7_verdictOf_29 : decode cX7_verdictOf 29 = .ok (.lload_n 3, 1) := by decide +kernel
theorem dX7_verdictOf_30 : decode cX7_verdictOf 30 = .ok (.aload_n 1, 1) := by decide +kernel
theorem dX7_verdictOf_31 : decode cX7_verdictOf 31 = .ok (.getfield 143, 3) := by decide +kernel
theorem dX7_verdictOf_34 : decode cX7_verdictOf 34 = .ok (.iload_n 2, 1) := by decide +kernel
theorem dX7_verdictOf_35 : decode cX7_verdictOf 35 = .ok (.laload, 1) := by decide +kernel
theorem dX7_verdictOf_36 : decode cX7_verdictOf 36 = .ok (.land, 1) := by decide +kernel
theorem dX7_verdictOf_37 : decode cX7_verdictOf 37 = .ok (.lstore 5, 2) := by decide +kernel
theorem dX7_verdictOf_39 : decode cX7_verdictOf 39 = .ok (.lload 5, 2) := by decide +kernel
theorem dX7_verdictOf_41 : decode cX7_verdictOf 41 = .ok (.lload_n 3, 1) := by decide +kernel
theorem dX7_verdictOf_42 : decode cX7_verdictOf 42 = .ok (.lcmp, 1) := by decide +kernel
theorem dX7_verdictOf_43 : decode cX7_verdictOf 43 = .ok (.ifCond .ne 5, 3) := by decide +kernel
theorem dX7_verdictOf_46 : decode cX7_verdictOf 46 = .ok (.iconst 1, 1) := by decide +kernel
theorem dX7_verdictOf_47 : decode cX7_verdictOf 47 = .ok (.ireturn, 1) := by decide +kernel
theorem dX7_verdictOf_48 : decode cX7_verdictOf 48 = .ok (.lload 5, 2) := by decide +kernel
theorem dX7_verdictOf_50 : decode cX7_verdictOf 50 = .ok (.lconst 0, 1) := by decide +kernel
theorem dX7_verdictOf_51 : decode cX7_verdictOf 51 = .ok (.lcmp, 1) := by decide +kernel
theorem dX7_verdictOf_52 : decode cX7_verdictOf 52 = .ok (.ifCond .ne 7, 3) := by decide +kernel
theorem dX7_verdictOf_55 : decode cX7_verdictOf 55 = .ok (.iconst 0, 1) := by decide +kernel
theorem dX7_verdictOf_56 : decode cX7_verdictOf 56 = .ok (.goto 4, 3) := by decide +kernel
theorem dX7_verdictOf_59 : decode cX7_verdictOf 59 = .ok (.iconst 2, 1) := by decide +kernel
theorem dX7_verdictOf_60 : decode cX7_verdictOf 60 = .ok (.ireturn, 1) := by decide +kernel
theorem dX8_append_0 : decode cX8_append 0 = .ok (.bipush 24, 2) := by decide +kernel
theorem dX8_append_2 : decode cX8_append 2 = .ok (.istore_n 2, 1) := by decide +kernel
theorem dX8_append_3 : decode cX8_append 3 = .ok (.iload_n 2, 1) := by decide +kernel
theorem dX8_append_4 : decode cX8_append 4 = .ok (.ifCond .lt 42, 3) := by decide +kernel
theorem dX8_append_7 : decode cX8_append 7 = .ok (.aload_n 0, 1) := by decide +kernel
theorem dX8_append_8 : decode cX8_append 8 = .ok (.getfield 15, 3) := by decide +kernel
theorem dX8_append_11 : decode cX8_append 11 = .ok (.sipush 2000, 3) := by decide +kernel
theorem dX8_append_14 : decode cX8_append 14 = .ok (.if_icmp .ge 32, 3) := by decide +kernel
theorem dX8_append_17 : decode cX8_append 17 = .ok (.aload_n 0, 1) := by decide +kernel
theorem dX8_append_18 : decode cX8_append 18 = .ok (.getfield 9, 3) := by decide +kernel
theorem dX8_append_21 : decode cX8_append 21 = .ok (.aload_n 0, 1) := by decide +kernel
theorem dX8_append_22 : decode cX8_append 22 = .ok (.getfield 15, 3) := by decide +kernel
theorem dX8_append_25 : decode cX8_append 25 = .ok (.iload_n 1, 1) := by decide +kernel
theorem dX8_append_26 : decode cX8_append 26 = .ok (.iload_n 2, 1) := by decide +kernel
theorem dX8_append_27 : decode cX8_append 27 = .ok (.ishr, 1) := by decide +kernel
theorem dX8_append_28 : decode cX8_append 28 = .ok (.i2b, 1) := by decide +kernel
theorem dX8_append_29 : decode cX8_append 29 = .ok (.bastore, 1) := by decide +kernel
theorem dX8_append_30 : decode cX8_append 30 = .ok (.aload_n 0, 1) := by decide +kernel
theorem dX8_append_31 : decode cX8_append 31 = .ok (.dup, 1) := by decide +kernel
theorem dX8_append_32 : decode cX8_append 32 = .ok (.getfield 15, 3) := by decide +kernel
theorem dX8_append_35 : decode cX8_append 35 = .ok (.iconst 1, 1) := by decide +kernel
theorem dX8_append_36 : decode cX8_append 36 = .ok (.iadd, 1) := by decide +kernel
theorem dX8_append_37 : decode cX8_append 37 = .ok (.putfield 15, 3) := by decide +kernel
theorem dX8_append_40 : decode cX8_append 40 = .ok (.iinc 2 (-8), 3) := by decide +kernel
theorem dX8_append_43 : decode cX8_append 43 = .ok (.goto (-40), 3) := by decide +kernel
theorem dX8_append_46 : decode cX8_append 46 = .ok (.return_, 1) := by decide +kernel
theorem dX8_at_0 : decode cX8_at 0 = .ok (.iload_n 1, 1) := by decide +kernel
theorem dX8_at_1 : decode cX8_at 1 = .ok (.ifCond .lt 24, 3) := by decide +kernel
theorem dX8_at_4 : decode cX8_at 4 = .ok (.iload_n 1, 1) := by decide +kernel
theorem dX8_at_5 : decode cX8_at 5 = .ok (.aload_n 0, 1) := by decide +kernel
theorem dX8_at_6 : decode cX8_at 6 = .ok (.getfield 15, 3) := by decide +kernel
theorem dX8_at_9 : decode cX8_at 9 = .ok (.if_icmp .ge 16, 3) := by decide +kernel
theorem dX8_at_12 : decode cX8_at 12 = .ok (.aload_n 0, 1) := by decide +kernel
theorem dX8_at_13 : decode cX8_at 13 = .ok (.getfield 9, 3) := by decide +kernel
theorem dX8_at_16 : decode cX8_at 16 = .ok (.iload_n 1, 1) := by decide +kernel
theorem dX8_at_17 : decode cX8_at 17 = .ok (.baload, 1) := by decide +kernel
theorem dX8_at_18 : decode cX8_at 18 = .ok (.sipush 255, 3) := by decide +kernel
theorem dX8_at_21 : decode cX8_at 21 = .ok (.iand, 1) := by decide +kernel
theorem dX8_at_22 : decode cX8_at 22 = .ok (.goto 4, 3) := by decide +kernel
theorem dX8_at_25 : decode cX8_at 25 = .ok (.iconst (-1), 1) := by decide +kernel
theorem dX8_at_26 : decode cX8_at 26 = .ok (.ireturn, 1) := by decide +kernel
theorem dX8_copyFrom_0 : decode cX8_copyFrom 0 = .ok (.aload_n 1, 1) := by decide +kernel
theorem dX8_copyFrom_1 : decode cX8_copyFrom 1 = .ok (.getfield 9, 3) := by decide +kernel
theorem dX8_copyFrom_4 : decode cX8_copyFrom 4 = .ok (.iconst 0, 1) := by decide +kernel
theorem dX8_copyFrom_5 : decode cX8_copyFrom 5 = .ok (.aload_n 0, 1) := by decide +kernel
theorem dX8_copyFrom_6 : decode cX8_copyFrom 6 = .ok (.getfield 9, 3) := by decide +kernel
theorem dX8_copyFrom_9 : decode cX8_copyFrom 9 = .ok (.iconst 0, 1) := by decide +kernel
theorem dX8_copyFrom_10 : decode cX8_copyFrom 10 = .ok (.aload_n 1, 1) := by decide +kernel
theorem dX8_copyFrom_11 : decode cX8_copyFrom 11 = .ok (.getfield 15, 3) := by decide +kernel
theorem dX8_copyFrom_14 : decode cX8_copyFrom 14 = .ok (.invokestatic 19, 3) := by decide +kernel
theorem dX8_copyFrom_17 : decode cX8_copyFrom 17 = .ok (.aload_n 0, 1) := by decide +kernel
theorem dX8_copyFrom_18 : decode cX8_copyFrom 18 = .ok (.aload_n 1, 1) := by decide +kernel
theorem dX8_copyFrom_19 : decode cX8_copyFrom 19 = .ok (.getfield 15, 3) := by decide +kernel
theorem dX8_copyFrom_22 : decode cX8_copyFrom 22 = .ok (.putfield 15, 3) := by decide +kernel
theorem dX8_copyFrom_25 : decode cX8_copyFrom 25 = .ok (.return_, 1) := by decide +kernel
theorem dX9_add_0 : decode cX9_add 0 = .ok (.aload_n 0, 1) := by decide +kernel
theorem dX9_add_1 : decode cX9_add 1 = .ok (.getfield 41, 3) := by decide +kernel
theorem dX9_add_4 : decode cX9_add 4 = .ok (.sipush 400, 3) := by decide +kernel
theorem dX9_add_7 : decode cX9_add 7 = .ok (.if_icmp .gt 43, 3) := by decide +kernel
theorem dX9_add_10 : decode cX9_add 10 = .ok (.aload_n 0, 1) := by decide +kernel
theorem dX9_add_11 : decode cX9_add 11 = .ok (.getfield 9, 3) := by decide +kernel
theorem dX9_add_14 : decode cX9_add 14 = .ok (.aload_n 0, 1) := by decide +kernel
theorem dX9_add_15 : decode cX9_add 15 = .ok (.getfield 41, 3) := by decide +kernel
theorem dX9_add_18 : decode cX9_add 18 = .ok (.iload_n 1, 1) := by decide +kernel
theorem dX9_add_19 : decode cX9_add 19 = .ok (.iastore, 1) := by decide +kernel
theorem dX9_add_20 : decode cX9_add 20 = .ok (.aload_n 0, 1) := by decide +kernel
theorem dX9_add_21 : decode cX9_add 21 = .ok (.getfield 15, 3) := by decide +kernel
theorem dX9_add_24 : decode cX9_add 24 = .ok (.aload_n 0, 1) := by decide +kernel
theorem dX9_add_25 : decode cX9_add 25 = .ok (.getfield 41, 3) := by decide +kernel
theorem dX9_add_28 : decode cX9_add 28 = .ok (.iload_n 2, 1) := by decide +kernel
theorem dX9_add_29 : decode cX9_add 29 = .ok (.iastore, 1) := by decide +kernel
theorem dX9_add_30 : decode cX9_add 30 = .ok (.aload_n 0, 1) := by decide +kernel
theorem dX9_add_31 : decode cX9_add 31 = .ok (.getfield 18, 3) := by decide +kernel
theorem dX9_add_34 : decode cX9_add 34 = .ok (.aload_n 0, 1) := by decide +kernel
theorem dX9_add_35 : decode cX9_add 35 = .ok (.getfield 41, 3) := by decide +kernel
theorem dX9_add_38 : decode cX9_add 38 = .ok (.lload_n 3, 1) := by decide +kernel
theorem dX9_add_39 : decode cX9_add 39 = .ok (.lastore, 1) := by decide +kernel
theorem dX9_add_40 : decode cX9_add 40 = .ok (.aload_n 0, 1) := by decide +kernel
theorem dX9_add_41 : decode cX9_add 41 = .ok (.dup, 1) := by decide +kernel
theorem dX9_add_42 : decode cX9_add 42 = .ok (.getfield 41, 3) := by decide +kernel
theorem dX9_add_45 : decode cX9_add 45 = .ok (.iconst 1, 1) := by decide +kernel
theorem dX9_add_46 : decode cX9_add 46 = .ok (.iadd, 1) := by decide +kernel
theorem dX9_add_47 : decode cX9_add 47 = .ok (.putfield 41, 3) := by decide +kernel
theorem dX9_add_50 : decode cX9_add 50 = .ok (.return_, 1) := by decide +kernel
theorem dX9_cut_0 : decode cX9_cut 0 = .ok (.aload_n 0, 1) := by decide +kernel
theorem dX9_cut_1 : decode cX9_cut 1 = .ok (.iconst 0, 1) := by decide +kernel
theorem dX9_cut_2 : decode cX9_cut 2 = .ok (.putfield 41, 3) := by decide +kernel
theorem dX9_cut_5 : decode cX9_cut 5 = .ok (.iconst 0, 1) := by decide +kernel
theorem dX9_cut_6 : decode cX9_cut 6 = .ok (.istore_n 2, 1) := by decide +kernel
theorem dX9_cut_7 : decode cX9_cut 7 = .ok (.iconst 1, 1) := by decide +kernel
theorem dX9_cut_8 : decode cX9_cut 8 = .ok (.istore_n 3, 1) := by decide +kernel
theorem dX9_cut_9 : decode cX9_cut 9 = .ok (.iconst 0, 1) := by decide +kernel
theorem dX9_cut_10 : decode cX9_cut 10 = .ok (.istore 4, 2) := by decide +kernel
theorem dX9_cut_12 : decode cX9_cut 12 = .ok (.iload 4, 2) := by decide +kernel
theorem dX9_cut_14 : decode cX9_cut 14 = .ok (.sipush 400, 3) := by decide +kernel
theorem dX9_cut_17 : decode cX9_cut 17 = .ok (.if_icmp .gt 51, 3) := by decide +kernel
theorem dX9_cut_20 : decode cX9_cut 20 = .ok (.iload_n 3, 1) := by decide +kernel
theorem dX9_cut_21 : decode cX9_cut 21 = .ok (.ifCond .eq 47, 3) := by decide +kernel
theorem dX9_cut_24 : decode cX9_cut 24 = .ok (.aload_n 0, 1) := by decide +kernel
theorem dX9_cut_25 : decode cX9_cut 25 = .ok (.aload_n 1, 1) := by decide +kernel
theorem dX9_cut_26 : decode cX9_cut 26 = .ok (.aload_n 1, 1) := by decide +kernel
theorem dX9_cut_27 : decode cX9_cut 27 = .ok (.iload_n 2, 1) := by decide +kernel
theorem dX9_cut_28 : decode cX9_cut 28 = .ok (.invokestatic 45, 3) := by decide +kernel
theorem dX9_cut_31 : decode cX9_cut 31 = .ok (.invokevirtual 49, 3) := by decide +kernel
theorem dX9_cut_34 : decode cX9_cut 34 = .ok (.istore_n 2, 1) := by decide +kernel
theorem dX9_cut_35 : decode cX9_cut 35 = .ok (.aload_n 0, 1) := by decide +kernel
theorem dX9_cut_36 : decode cX9_cut 36 = .ok (.getfield 9, 3) := by decide +kernel
theorem dX9_cut_39 : decode cX9_cut 39 = .ok (.iload 4, 2) := by decide +kernel
theorem dX9_cut_41 : decode cX9_cut 41 = .ok (.iaload, 1) := by decide +kernel
theorem dX9_cut_42 : decode cX9_cut 42 = .ok (.ifCond .eq 18, 3) := by decide +kernel
theorem dX9_cut_45 : decode cX9_cut 45 = .ok (.aload_n 0, 1) := by decide +kernel
theorem dX9_cut_46 : decode cX9_cut 46 = .ok (.getfield 9, 3) := by decide +kernel
theorem dX9_cut_49 : decode cX9_cut 49 = .ok (.iload 4, 2) := by decide +kernel
theorem dX9_cut_51 : decode cX9_cut 51 = .ok (.iaload, 1) := by decide +kernel
theorem dX9_cut_52 : decode cX9_cut 52 = .ok (.iconst 1, 1) := by decide +kernel
theorem dX9_cut_53 : decode cX9_cut 53 = .ok (.if_icmp .eq 7, 3) := by decide +kernel
theorem dX9_cut_56 : decode cX9_cut 56 = .ok (.iconst 1, 1) := by decide +kernel
theorem dX9_cut_57 : decode cX9_cut 57 = .ok (.goto 4, 3) := by decide +kernel
theorem dX9_cut_60 : decode cX9_cut 60 = .ok (.iconst 0, 1) := by decide +kernel
theorem dX9_cut_61 : decode cX9_cut 61 = .ok (.istore_n 3, 1) := by decide +kernel
theorem dX9_cut_62 : decode cX9_cut 62 = .ok (.iinc 4 1, 3) := by decide +kernel
theorem dX9_cut_65 : decode cX9_cut 65 = .ok (.goto (-53), 3) := by decide +kernel
theorem dX9_cut_68 : decode cX9_cut 68 = .ok (.return_, 1) := by decide +kernel
theorem dX9_cutDigits_0 : decode cX9_cutDigits 0 = .ok (.lconst 0, 1) := by decide +kernel
theorem dX9_cutDigits_1 : decode cX9_cutDigits 1 = .ok (.lstore_n 3, 1) := by decide +kernel
theorem dX9_cutDigits_2 : decode cX9_cutDigits 2 = .ok (.iload_n 2, 1) := by decide +kernel
theorem dX9_cutDigits_3 : decode cX9_cutDigits 3 = .ok (.istore 5, 2) := by decide +kernel
theorem dX9_cutDigits_5 : decode cX9_cutDigits 5 = .ok (.iload_n 2, 1) := by decide +kernel
theorem dX9_cutDigits_6 : decode cX9_cutDigits 6 = .ok (.istore 6, 2) := by decide +kernel
theorem dX9_cutDigits_8 : decode cX9_cutDigits 8 = .ok (.iload 6, 2) := by decide +kernel
theorem dX9_cutDigits_10 : decode cX9_cutDigits 10 = .ok (.aload_n 1, 1) := by decide +kernel
theorem dX9_cutDigits_11 : decode cX9_cutDigits 11 = .ok (.getfield 52, 3) := by decide +kernel
theorem dX9_cutDigits_14 : decode cX9_cutDigits 14 = .ok (.if_icmp .ge 57, 3) := by decide +kernel
theorem dX9_cutDigits_17 : decode cX9_cutDigits 17 = .ok (.aload_n 1, 1) := by decide +kernel
theorem dX9_cutDigits_18 : decode cX9_cutDigits 18 = .ok (.iload 6, 2) := by decide +kernel
theorem dX9_cutDigits_20 : decode cX9_cutDigits 20 = .ok (.invokevirtual 56, 3) := by decide +kernel
theorem dX9_cutDigits_23 : decode cX9_cutDigits 23 = .ok (.invokestatic 70, 3) := by decide +kernel
theorem dX9_cutDigits_26 : decode cX9_cutDigits 26 = .ok (.ifCond .eq 45, 3) := by decide +kernel
theorem dX9_cutDigits_29 : decode cX9_cutDigits 29 = .ok (.iload 6, 2) := by decide +kernel
theorem dX9_cutDigits_31 : decode cX9_cutDigits 31 = .ok (.iload_n 2, 1) := by decide +kernel
theorem dX9_cutDigits_32 : decode cX9_cutDigits 32 = .ok (.isub, 1) := by decide +kernel
theorem dX9_cutDigits_33 : decode cX9_cutDigits 33 = .ok (.iconst 4, 1) := by decide +kernel
theorem dX9_cutDigits_34 : decode cX9_cutDigits 34 = .ok (.if_icmp .ge 23, 3) := by decide +kernel
theorem dX9_cutDigits_37 : decode cX9_cutDigits 37 = .ok (.lload_n 3, 1) := by decide +kernel
theorem dX9_cutDigits_38 : decode cX9_cutDigits 38 = .ok (.ldc2_w 89, 3) := by decide +kernel
theorem dX9_cutDigits_41 : decode cX9_cutDigits 41 = .ok (.lmul, 1) := by decide +kernel
theorem dX9_cutDigits_42 : decode cX9_cutDigits 42 = .ok (.aload_n 1, 1) := by decide +kernel
theorem dX9_cutDigits_43 : decode cX9_cutDigits 43 = .ok (.iload 6, 2) := by decide +kernel
theorem dX9_cutDigits_45 : decode cX9_cutDigits 45 = .ok (.invokevirtual 56, 3) := by decide +kernel
theorem dX9_cutDigits_48 : decode cX9_cutDigits 48 = .ok (.i2l, 1) := by decide +kernel
theorem dX9_cutDigits_49 : decode cX9_cutDigits 49 = .ok (.ladd, 1) := by decide +kernel
theorem dX9_cutDigits_50 : decode cX9_cutDigits 50 = .ok (.ldc2_w 91, 3) := by decide +kernel
theorem dX9_cutDigits_53 : decode cX9_cutDigits 53 = .ok (.lsub, 1) := by decide +kernel
theorem dX9_cutDigits_54 : decode cX9_cutDigits 54 = .ok (.goto 4, 3) := by decide +kernel
theorem dX9_cutDigits_57 : decode cX9_cutDigits 57 = .ok (.lload_n 3, 1) := by decide +kernel
theorem dX9_cutDigits_58 : decode cX9_cutDigits 58 = .ok (.lstore_n 3, 1) := by decide +kernel
theorem dX9_cutDigits_59 : decode cX9_cutDigits 59 = .ok (.iload 6, 2) := by decide +kernel
theorem dX9_cutDigits_61 : decode cX9_cutDigits 61 = .ok (.iconst 1, 1) := by decide +kernel
theorem dX9_cutDigits_62 : decode cX9_cutDigits 62 = .ok (.iadd, 1) := by decide +kernel
theorem dX9_cutDigits_63 : decode cX9_cutDigits 63 = .ok (.istore 5, 2) := by decide +kernel
theorem dX9_cutDigits_65 : decode cX9_cutDigits 65 = .ok (.iinc 6 1, 3) := by decide +kernel
theorem dX9_cutDigits_68 : decode cX9_cutDigits 68 = .ok (.goto (-60), 3) := by decide +kernel
theorem dX9_cutDigits_71 : decode cX9_cutDigits 71 = .ok (.aload_n 0, 1) := by decide +kernel
theorem dX9_cutDigits_72 : decode cX9_cutDigits 72 = .ok (.iload 5, 2) := by decide +kernel
theorem dX9_cutDigits_74 : decode cX9_cutDigits 74 = .ok (.iload_n 2, 1) := by decide +kernel
theorem dX9_cutDigits_75 : decode cX9_cutDigits 75 = .ok (.isub, 1) := by decide +kernel
theorem dX9_cutDigits_76 : decode cX9_cutDigits 76 = .ok (.iconst 4, 1) := by decide +kernel
theorem dX9_cutDigits_77 : decode cX9_cutDigits 77 = .ok (.if_icmp .le 7, 3) := by decide +kernel
theorem dX9_cutDigits_80 : decode cX9_cutDigits 80 = .ok (.iconst 1, 1) := by decide +kernel
theorem dX9_cutDigits_81 : decode cX9_cutDigits 81 = .ok (.goto 4, 3) := by decide +kernel
theorem dX9_cutDigits_84 : decode cX9_cutDigits 84 = .ok (.iconst 3, 1) := by decide +kernel
theorem dX9_cutDigits_85 : decode cX9_cutDigits 85 = .ok (.iload_n 2, 1) := by decide +kernel
theorem dX9_cutDigits_86 : decode cX9_cutDigits 86 = .ok (.lload_n 3, 1) := by decide +kernel
theorem dX9_cutDigits_87 : decode cX9_cutDigits 87 = .ok (.invokevirtual 76, 3) := by decide +kernel
theorem dX9_cutDigits_90 : decode cX9_cutDigits 90 = .ok (.iload 5, 2) := by decide +kernel
theorem dX9_cutDigits_92 : decode cX9_cutDigits 92 = .ok (.ireturn, 1) := by decide +kernel
theorem dX9_cutLetters_0 : decode cX9_cutLetters 0 = .ok (.lconst 0, 1) := by decide +kernel
theorem dX9_cutLetters_1 : decode cX9_cutLetters 1 = .ok (.lstore_n 3, 1) := by decide +kernel
theorem dX9_cutLetters_2 : decode cX9_cutLetters 2 = .ok (.iload_n 2, 1) := by decide +kernel
theorem dX9_cutLetters_3 : decode cX9_cutLetters 3 = .ok (.istore 5, 2) := by decide +kernel
theorem dX9_cutLetters_5 : decode cX9_cutLetters 5 = .ok (.iload_n 2, 1) := by decide +kernel
theorem dX9_cutLetters_6 : decode cX9_cutLetters 6 = .ok (.istore 6, 2) := by decide +kernel
theorem dX9_cutLetters_8 : decode cX9_cutLetters 8 = .ok (.iload 6, 2) := by decide +kernel
theorem dX9_cutLetters_10 : decode cX9_cutLetters 10 = .ok (.aload_n 1, 1) := by decide +kernel
theorem dX9_cutLetters_11 : decode cX9_cutLetters 11 = .ok (.getfield 52, 3) := by decide +kernel
theorem dX9_cutLetters_14 : decode cX9_cutLetters 14 = .ok (.if_icmp .ge 51, 3) := by decide +kernel
theorem dX9_cutLetters_17 : decode cX9_cutLetters 17 = .ok (.aload_n 1, 1) := by decide +kernel
theorem dX9_cutLetters_18 : decode cX9_cutLetters 18 = .ok (.iload 6, 2) := by decide +kernel
theorem dX9_cutLetters_20 : decode cX9_cutLetters 20 = .ok (.invokevirtual 56, 3) := by decide +kernel
theorem dX9_cutLetters_23 : decode cX9_cutLetters 23 = .ok (.invokestatic 64, 3) := by decide +kernel
theorem dX9_cutLetters_26 : decode cX9_cutLetters 26 = .ok (.ifCond .eq 39, 3) := by decide +kernel
theorem dX9_cutLetters_29 : decode cX9_cutLetters 29 = .ok (.iload 6, 2) := by decide +kernel
theorem dX9_cutLetters_31 : decode cX9_cutLetters 31 = .ok (.iload_n 2, 1) := by decide +kernel
theorem dX9_cutLetters_32 : decode cX9_cutLetters 32 = .ok (.isub, 1) := by decide +kernel
theorem dX9_cutLetters_33 : decode cX9_cutLetters 33 = .ok (.bipush 8, 2) := by decide +kernel
theorem dX9_cutLetters_35 : decode cX9_cutLetters 35 = .ok (.if_icmp .ge 16, 3) := by decide +kernel
theorem dX9_cutLetters_38 : decode cX9_cutLetters 38 = .ok (.lload_n 3, 1) := by decide +kernel
theorem dX9_cutLetters_39 : decode cX9_cutLetters 39 = .ok (.aload_n 1, 1) := by decide +kernel
theorem dX9_cutLetters_40 : decode cX9_cutLetters 40 = .ok (.iload 6, 2) := by decide +kernel
theorem dX9_cutLetters_42 : decode cX9_cutLetters 42 = .ok (.invokevirtual 56, 3) := by decide +kernel
theorem dX9_cutLetters_45 : decode cX9_cutLetters 45 = .ok (.invokestatic 37, 3) := by decide +kernel
theorem dX9_cutLetters_48 : decode cX9_cutLetters 48 = .ok (.goto 4, 3) := by decide +kernel
theorem dX9_cutLetters_51 : decode cX9_cutLetters 51 = .ok (.lload_n 3, 1) := by decide +kernel
theorem dX9_cutLetters_52 : decode cX9_cutLetters 52 = .ok (.lstore_n 3, 1) := by decide +kernel
theorem dX9_cutLetters_53 : decode cX9_cutLetters 53 = .ok (.iload 6, 2) := by decide +kernel
theorem dX9_cutLetters_55 : decode cX9_cutLetters 55 = .ok (.iconst 1, 1) := by decide +kernel
theorem dX9_cutLetters_56 : decode cX9_cutLetters 56 = .ok (.iadd, 1) := by decide +kernel
theorem dX9_cutLetters_57 : decode cX9_cutLetters 57 = .ok (.istore 5, 2) := by decide +kernel
theorem dX9_cutLetters_59 : decode cX9_cutLetters 59 = .ok (.iinc 6 1, 3) := by decide +kernel
theorem dX9_cutLetters_62 : decode cX9_cutLetters 62 = .ok (.goto (-54), 3) := by decide +kernel
theorem dX9_cutLetters_65 : decode cX9_cutLetters 65 = .ok (.aload_n 0, 1) := by decide +kernel
theorem dX9_cutLetters_66 : decode cX9_cutLetters 66 = .ok (.iload 5, 2) := by decide +kernel
theorem dX9_cutLetters_68 : decode cX9_cutLetters 68 = .ok (.iload_n 2, 1) := by decide +kernel
theorem dX9_cutLetters_69 : decode cX9_cutLetters 69 = .ok (.isub, 1) := by decide +kernel
theorem dX9_cutLetters_70 : decode cX9_cutLetters 70 = .ok (.bipush 8, 2) := by decide +kernel
theorem dX9_cutLetters_72 : decode cX9_cutLetters 72 = .ok (.if_icmp .le 7, 3) := by decide +kernel
theorem dX9_cutLetters_75 : decode cX9_cutLetters 75 = .ok (.iconst 1, 1) := by decide +kernel
theorem dX9_cutLetters_76 : decode cX9_cutLetters 76 = .ok (.goto 8, 3) := by decide +kernel
theorem dX9_cutLetters_79 : decode cX9_cutLetters 79 = .ok (.aload_n 0, 1) := by decide +kernel
theorem dX9_cutLetters_80 : decode cX9_cutLetters 80 = .ok (.lload_n 3, 1) := by decide +kernel
theorem dX9_cutLetters_81 : decode cX9_cutLetters 81 = .ok (.invokevirtual 85, 3) := by decide +kernel
theorem dX9_cutLetters_84 : decode cX9_cutLetters 84 = .ok (.iload_n 2, 1) := by decide +kernel
theorem dX9_cutLetters_85 : decode cX9_cutLetters 85 = .ok (.lload_n 3, 1) := by decide +kernel
theorem dX9_cutLetters_86 : decode cX9_cutLetters 86 = .ok (.invokevirtual 76, 3) := by decide +kernel
theorem dX9_cutLetters_89 : decode cX9_cutLetters 89 = .ok (.iload 5, 2) := by decide +kernel
theorem dX9_cutLetters_91 : decode cX9_cutLetters 91 = .ok (.ireturn, 1) := by decide +kernel
theorem dX9_cutOne_0 : decode cX9_cutOne 0 = .ok (.aload_n 1, 1) := by decide +kernel
theorem dX9_cutOne_1 : decode cX9_cutOne 1 = .ok (.iload_n 2, 1) := by decide +kernel
theorem dX9_cutOne_2 : decode cX9_cutOne 2 = .ok (.invokevirtual 56, 3) := by decide +kernel
theorem dX9_cutOne_5 : decode cX9_cutOne 5 = .ok (.istore_n 3, 1) := by decide +kernel
theorem dX9_cutOne_6 : decode cX9_cutOne 6 = .ok (.iload_n 3, 1) := by decide +kernel
theorem dX9_cutOne_7 : decode cX9_cutOne 7 = .ok (.invokestatic 64, 3) := by decide +kernel
theorem dX9_cutOne_10 : decode cX9_cutOne 10 = .ok (.ifCond .eq 10, 3) := by decide +kernel
theorem dX9_cutOne_13 : decode cX9_cutOne 13 = .ok (.aload_n 0, 1) := by decide +kernel
theorem dX9_cutOne_14 : decode cX9_cutOne 14 = .ok (.aload_n 1, 1) := by decide +kernel
theorem dX9_cutOne_15 : decode cX9_cutOne 15 = .ok (.iload_n 2, 1) := by decide +kernel
theorem dX9_cutOne_16 : decode cX9_cutOne 16 = .ok (.invokevirtual 67, 3) := by decide +kernel
theorem dX9_cutOne_19 : decode cX9_cutOne 19 = .ok (.ireturn, 1) := by decide +kernel
theorem dX9_cutOne_20 : decode cX9_cutOne 20 = .ok (.iload_n 3, 1) := by decide +kernel
theorem dX9_cutOne_21 : decode cX9_cutOne 21 = .ok (.invokestatic 70, 3) := by decide +kernel
theorem dX9_cutOne_24 : decode cX9_cutOne 24 = .ok (.ifCond .eq 10, 3) := by decide +kernel
theorem dX9_cutOne_27 : decode cX9_cutOne 27 = .ok (.aload_n 0, 1) := by decide +kernel
theorem dX9_cutOne_28 : decode cX9_cutOne 28 = .ok (.aload_n 1, 1) := by decide +kernel
theorem dX9_cutOne_29 : decode cX9_cutOne 29 = .ok (.iload_n 2, 1) := by decide +kernel
theorem dX9_cutOne_30 : decode cX9_cutOne 30 = .ok (.invokevirtual 73, 3) := by decide +kernel
theorem dX9_cutOne_33 : decode cX9_cutOne 33 = .ok (.ireturn, 1) := by decide +kernel
theorem dX9_cutOne_34 : decode cX9_cutOne 34 = .ok (.iload_n 3, 1) := by decide +kernel
theorem dX9_cutOne_35 : decode cX9_cutOne 35 = .ok (.iconst (-1), 1) := by decide +kernel
theorem dX9_cutOne_36 : decode cX9_cutOne 36 = .ok (.if_icmp .ne 13, 3) := by decide +kernel
theorem dX9_cutOne_39 : decode cX9_cutOne 39 = .ok (.aload_n 0, 1) := by decide +kernel
theorem dX9_cutOne_40 : decode cX9_cutOne 40 = .ok (.iconst 0, 1) := by decide +kernel
theorem dX9_cutOne_41 : decode cX9_cutOne 41 = .ok (.iload_n 2, 1) := by decide +kernel
theorem dX9_cutOne_42 : decode cX9_cutOne 42 = .ok (.lconst 0, 1) := by decide +kernel
theorem dX9_cutOne_43 : decode cX9_cutOne 43 = .ok (.invokevirtual 76, 3) := by decide +kernel
theorem dX9_cutOne_46 : decode cX9_cutOne 46 = .ok (.goto 24, 3) := by decide +kernel
theorem dX9_cutOne_49 : decode cX9_cutOne 49 = .ok (.aload_n 0, 1) := by decide +kernel
theorem dX9_cutOne_50 : decode cX9_cutOne 50 = .ok (.ldc 80, 2) := by decide +kernel
theorem dX9_cutOne_52 : decode cX9_cutOne 52 = .ok (.iload_n 3, 1) := by decide +kernel
theorem dX9_cutOne_53 : decode cX9_cutOne 53 = .ok (.i2c, 1) := by decide +kernel
theorem dX9_cutOne_54 : decode cX9_cutOne 54 = .ok (.invokevirtual 82, 3) := by decide +kernel
theorem dX9_cutOne_57 : decode cX9_cutOne 57 = .ok (.ifCond .lt 7, 3) := by decide +kernel
theorem dX9_cutOne_60 : decode cX9_cutOne 60 = .ok (.iload_n 3, 1) := by decide +kernel
theorem dX9_cutOne_61 : decode cX9_cutOne 61 = .ok (.goto 4, 3) := by decide +kernel
theorem dX9_cutOne_64 : decode cX9_cutOne 64 = .ok (.iconst 1, 1) := by decide +kernel
theorem dX9_cutOne_65 : decode cX9_cutOne 65 = .ok (.iload_n 2, 1) := by decide +kernel
theorem dX9_cutOne_66 : decode cX9_cutOne 66 = .ok (.lconst 0, 1) := by decide +kernel
theorem dX9_cutOne_67 : decode cX9_cutOne 67 = .ok (.invokevirtual 76, 3) := by decide +kernel
theorem dX9_cutOne_70 : decode cX9_cutOne 70 = .ok (.iload_n 2, 1) := by decide +kernel
theorem dX9_cutOne_71 : decode cX9_cutOne 71 = .ok (.iconst 1, 1) := by decide +kernel
theorem dX9_cutOne_72 : decode cX9_cutOne 72 = .ok (.iadd, 1) := by decide +kernel
theorem dX9_cutOne_73 : decode cX9_cutOne 73 = .ok (.ireturn, 1) := by decide +kernel
theorem dX9_isBlank_0 : decode cX9_isBlank 0 = .ok (.iload_n 0, 1) := by decide +kernel
theorem dX9_isBlank_1 : decode cX9_isBlank 1 = .ok (.bipush 32, 2) := by decide +kernel
theorem dX9_isBlank_3 : decode cX9_isBlank 3 = .ok (.if_icmp .eq 21, 3) := by decide +kernel
theorem dX9_isBlank_6 : decode cX9_isBlank 6 = .ok (.iload_n 0, 1) := by decide +kernel
theorem dX9_isBlank_7 : decode cX9_isBlank 7 = .ok (.bipush 9, 2) := by decide +kernel
theorem dX9_isBlank_9 : decode cX9_isBlank 9 = .ok (.if_icmp .eq 15, 3) := by decide +kernel
theorem dX9_isBlank_12 : decode cX9_isBlank 12 = .ok (.iload_n 0, 1) := by decide +kernel
theorem dX9_isBlank_13 : decode cX9_isBlank 13 = .ok (.bipush 10, 2) := by decide +kernel
theorem dX9_isBlank_15 : decode cX9_isBlank 15 = .ok (.if_icmp .eq 9, 3) := by decide +kernel
theorem dX9_isBlank_18 : decode cX9_isBlank 18 = .ok (.iload_n 0, 1) := by decide +kernel
theorem dX9_isBlank_19 : decode cX9_isBlank 19 = .ok (.bipush 13, 2) := by decide +kernel
theorem dX9_isBlank_21 : decode cX9_isBlank 21 = .ok (.if_icmp .ne 7, 3) := by decide +kernel
theorem dX9_isBlank_24 : decode cX9_isBlank 24 = .ok (.iconst 1, 1) := by decide +kernel
theorem dX9_isBlank_25 : decode cX9_isBlank 25 = .ok (.goto 4, 3) := by decide +kernel
theorem dX9_isBlank_28 : decode cX9_isBlank 28 = .ok (.iconst 0, 1) := by decide +kernel
theorem dX9_isBlank_29 : decode cX9_isBlank 29 = .ok (.ireturn, 1) := by decide +kernel
theorem dX9_isDigit_0 : decode cX9_isDigit 0 = .ok (.iload_n 0, 1) := by decide +kernel
theorem dX9_isDigit_1 : decode cX9_isDigit 1 = .ok (.bipush 48, 2) := by decide +kernel
theorem dX9_isDigit_3 : decode cX9_isDigit 3 = .ok (.if_icmp .lt 13, 3) := by decide +kernel
theorem dX9_isDigit_6 : decode cX9_isDigit 6 = .ok (.iload_n 0, 1) := by decide +kernel
theorem dX9_isDigit_7 : decode cX9_isDigit 7 = .ok (.bipush 57, 2) := by decide +kernel
theorem dX9_isDigit_9 : decode cX9_isDigit 9 = .ok (.if_icmp .gt 7, 3) := by decide +kernel
theorem dX9_isDigit_12 : decode cX9_isDigit 12 = .ok (.iconst 1, 1) := by decide +kernel
theorem dX9_isDigit_13 : decode cX9_isDigit 13 = .ok (.goto 4, 3) := by decide +kernel
theorem dX9_isDigit_16 : decode cX9_isDigit 16 = .ok (.iconst 0, 1) := by decide +kernel
theorem dX9_isDigit_17 : decode cX9_isDigit 17 = .ok (.ireturn, 1) := by decide +kernel
theorem dX9_isLetter_0 : decode cX9_isLetter 0 = .ok (.iload_n 0, 1) := by decide +kernel
theorem dX9_isLetter_1 : decode cX9_isLetter 1 = .ok (.bipush 97, 2) := by decide +kernel
theorem dX9_isLetter_3 : decode cX9_isLetter 3 = .ok (.if_icmp .lt 13, 3) := by decide +kernel
theorem dX9_isLetter_6 : decode cX9_isLetter 6 = .ok (.iload_n 0, 1) := by decide +kernel
theorem dX9_isLetter_7 : decode cX9_isLetter 7 = .ok (.bipush 122, 2) := by decide +kernel
theorem dX9_isLetter_9 : decode cX9_isLetter 9 = .ok (.if_icmp .gt 7, 3) := by decide +kernel
theorem dX9_isLetter_12 : decode cX9_isLetter 12 = .ok (.iconst 1, 1) := by decide +kernel
theorem dX9_isLetter_13 : decode cX9_isLetter 13 = .ok (.goto 4, 3) := by decide +kernel
theorem dX9_isLetter_16 : decode cX9_isLetter 16 = .ok (.iconst 0, 1) := by decide +kernel
theorem dX9_isLetter_17 : decode cX9_isLetter 17 = .ok (.ireturn, 1) := by decide +kernel
theorem dX9_kindOf_0 : decode cX9_kindOf 0 = .ok (.iconst 0, 1) := by decide +kernel
theorem dX9_kindOf_1 : decode cX9_kindOf 1 = .ok (.istore_n 3, 1) := by decide +kernel
theorem dX9_kindOf_2 : decode cX9_kindOf 2 = .ok (.iload_n 3, 1) := by decide +kernel
theorem dX9_kindOf_3 : decode cX9_kindOf 3 = .ok (.bipush 18, 2) := by decide +kernel
theorem dX9_kindOf_5 : decode cX9_kindOf 5 = .ok (.if_icmp .ge 25, 3) := by decide +kernel
theorem dX9_kindOf_8 : decode cX9_kindOf 8 = .ok (.aload_n 0, 1) := by decide +kernel
theorem dX9_kindOf_9 : decode cX9_kindOf 9 = .ok (.getfield 22, 3) := by decide +kernel
theorem dX9_kindOf_12 : decode cX9_kindOf 12 = .ok (.iload_n 3, 1) := by decide +kernel
theorem dX9_kindOf_13 : decode cX9_kindOf 13 = .ok (.laload, 1) := by decide +kernel
theorem dX9_kindOf_14 : decode cX9_kindOf 14 = .ok (.lload_n 1, 1) := by decide +kernel
theorem dX9_kindOf_15 : decode cX9_kindOf 15 = .ok (.lcmp, 1) := by decide +kernel
theorem dX9_kindOf_16 : decode cX9_kindOf 16 = .ok (.ifCond .ne 8, 3) := by decide +kernel
theorem dX9_kindOf_19 : decode cX9_kindOf 19 = .ok (.bipush 100, 2) := by decide +kernel
theorem dX9_kindOf_21 : decode cX9_kindOf 21 = .ok (.iload_n 3, 1) := by decide +kernel
theorem dX9_kindOf_22 : decode cX9_kindOf 22 = .ok (.iadd, 1) := by decide +kernel
theorem dX9_kindOf_23 : decode cX9_kindOf 23 = .ok (.ireturn, 1) := by decide +kernel
theorem dX9_kindOf_24 : decode cX9_kindOf 24 = .ok (.iinc 3 1, 3) := by decide +kernel
theorem dX9_kindOf_27 : decode cX9_kindOf 27 = .ok (.goto (-25), 3) := by decide +kernel
theorem dX9_kindOf_30 : decode cX9_kindOf 30 = .ok (.iconst 2, 1) := by decide +kernel
theorem dX9_kindOf_31 : decode cX9_kindOf 31 = .ok (.ireturn, 1) := by decide +kernel
theorem dX9_placeAt_0 : decode cX9_placeAt 0 = .ok (.iload_n 1, 1) := by decide +kernel
theorem dX9_placeAt_1 : decode cX9_placeAt 1 = .ok (.ifCond .lt 20, 3) := by decide +kernel
theorem dX9_placeAt_4 : decode cX9_placeAt 4 = .ok (.iload_n 1, 1) := by decide +kernel
theorem dX9_placeAt_5 : decode cX9_placeAt 5 = .ok (.aload_n 0, 1) := by decide +kernel
theorem dX9_placeAt_6 : decode cX9_placeAt 6 = .ok (.getfield 41, 3) := by decide +kernel
theorem dX9_placeAt_9 : decode cX9_placeAt 9 = .ok (.if_icmp .ge 12, 3) := by decide +kernel
theorem dX9_placeAt_12 : decode cX9_placeAt 12 = .ok (.aload_n 0, 1) := by decide +kernel
theorem dX9_placeAt_13 : decode cX9_placeAt 13 = .ok (.getfield 15, 3) := by decide +kernel
theorem dX9_placeAt_16 : decode cX9_placeAt 16 = .ok (.iload_n 1, 1) := by decide +kernel
theorem dX9_placeAt_17 : decode cX9_placeAt 17 = .ok (.iaload, 1) := by decide +kernel
theorem dX9_placeAt_18 : decode cX9_placeAt 18 = .ok (.goto 4, 3) := by decide +kernel
theorem dX9_placeAt_21 : decode cX9_placeAt 21 = .ok (.iconst 0, 1) := by decide +kernel
theorem dX9_placeAt_22 : decode cX9_placeAt 22 = .ok (.ireturn, 1) := by decide +kernel
theorem dX9_skipBlanks_0 : decode cX9_skipBlanks 0 = .ok (.iload_n 1, 1) := by decide +kernel
theorem dX9_skipBlanks_1 : decode cX9_skipBlanks 1 = .ok (.istore_n 2, 1) := by decide +kernel
theorem dX9_skipBlanks_2 : decode cX9_skipBlanks 2 = .ok (.iload_n 1, 1) := by decide +kernel
theorem dX9_skipBlanks_3 : decode cX9_skipBlanks 3 = .ok (.istore_n 3, 1) := by decide +kernel
theorem dX9_skipBlanks_4 : decode cX9_skipBlanks 4 = .ok (.iload_n 3, 1) := by decide +kernel
theorem dX9_skipBlanks_5 : decode cX9_skipBlanks 5 = .ok (.aload_n 0, 1) := by decide +kernel
theorem dX9_skipBlanks_6 : decode cX9_skipBlanks 6 = .ok (.getfield 52, 3) := by decide +kernel
theorem dX9_skipBlanks_9 : decode cX9_skipBlanks 9 = .ok (.if_icmp .ge 24, 3) := by decide +kernel
theorem dX9_skipBlanks_12 : decode cX9_skipBlanks 12 = .ok (.aload_n 0, 1) := by decide +kernel
theorem dX9_skipBlanks_13 : decode cX9_skipBlanks 13 = .ok (.iload_n 3, 1) := by decide +kernel
theorem dX9_skipBlanks_14 : decode cX9_skipBlanks 14 = .ok (.invokevirtual 56, 3) := by decide +kernel
theorem dX9_skipBlanks_17 : decode cX9_skipBlanks 17 = .ok (.invokestatic 60, 3) := by decide +kernel
theorem dX9_skipBlanks_20 : decode cX9_skipBlanks 20 = .ok (.ifCond .eq 13, 3) := by decide +kernel
theorem dX9_skipBlanks_23 : decode cX9_skipBlanks 23 = .ok (.iload_n 3, 1) := by decide +kernel
theorem dX9_skipBlanks_24 : decode cX9_skipBlanks 24 = .ok (.iconst 1, 1) := by decide +kernel
theorem dX9_skipBlanks_25 : decode cX9_skipBlanks 25 = .ok (.iadd, 1) := by decide +kernel
theorem dX9_skipBlanks_26 : decode cX9_skipBlanks 26 = .ok (.istore_n 2, 1) := by decide +kernel
theorem dX9_skipBlanks_27 : decode cX9_skipBlanks 27 = .ok (.iinc 3 1, 3) := by decide +kernel
theorem dX9_skipBlanks_30 : decode cX9_skipBlanks 30 = .ok (.goto (-26), 3) := by decide +kernel
theorem dX9_skipBlanks_33 : decode cX9_skipBlanks 33 = .ok (.iload_n 2, 1) := by decide +kernel
theorem dX9_skipBlanks_34 : decode cX9_skipBlanks 34 = .ok (.ireturn, 1) := by decide +kernel
theorem dX9_withLetter_0 : decode cX9_withLetter 0 = .ok (.lload_n 0, 1) := by decide +kernel
theorem dX9_withLetter_1 : decode cX9_withLetter 1 = .ok (.ldc2_w 93, 3) := by decide +kernel
theorem dX9_withLetter_4 : decode cX9_withLetter 4 = .ok (.lmul, 1) := by decide +kernel
theorem dX9_withLetter_5 : decode cX9_withLetter 5 = .ok (.iload_n 2, 1) := by decide +kernel
theorem dX9_withLetter_6 : decode cX9_withLetter 6 = .ok (.bipush 97, 2) := by decide +kernel
theorem dX9_withLetter_8 : decode cX9_withLetter 8 = .ok (.isub, 1) := by decide +kernel
theorem dX9_withLetter_9 : decode cX9_withLetter 9 = .ok (.iconst 1, 1) := by decide +kernel
theorem dX9_withLetter_10 : decode cX9_withLetter 10 = .ok (.iadd, 1) := by decide +kernel
theorem dX9_withLetter_11 : decode cX9_withLetter 11 = .ok (.i2l, 1) := by decide +kernel
theorem dX9_withLetter_12 : decode cX9_withLetter 12 = .ok (.ladd, 1) := by decide +kernel
theorem dX9_withLetter_13 : decode cX9_withLetter 13 = .ok (.lreturn, 1) := by decide +kernel
