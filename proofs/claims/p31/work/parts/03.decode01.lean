theorem dX11_count_158 : decode cX11_count 158 = .ok (.aload_n 0, 1) := by decide +kernel
theorem dX11_count_159 : decode cX11_count 159 = .ok (.invokevirtual 315, 3) := by decide +kernel
theorem dX11_count_162 : decode cX11_count 162 = .ok (.ireturn, 1) := by decide +kernel
theorem dX11_count_163 : decode cX11_count 163 = .ok (.iconst (-1), 1) := by decide +kernel
theorem dX11_count_164 : decode cX11_count 164 = .ok (.ireturn, 1) := by decide +kernel
theorem dX11_fact_0 : decode cX11_fact 0 = .ok (.iload_n 1, 1) := by decide +kernel
theorem dX11_fact_1 : decode cX11_fact 1 = .ok (.ifCond .lt 14, 3) := by decide +kernel
theorem dX11_fact_4 : decode cX11_fact 4 = .ok (.iload_n 1, 1) := by decide +kernel
theorem dX11_fact_5 : decode cX11_fact 5 = .ok (.aload_n 0, 1) := by decide +kernel
theorem dX11_fact_6 : decode cX11_fact 6 = .ok (.getfield 23, 3) := by decide +kernel
theorem dX11_fact_9 : decode cX11_fact 9 = .ok (.getfield 131, 3) := by decide +kernel
theorem dX11_fact_12 : decode cX11_fact 12 = .ok (.if_icmp .lt 5, 3) := by decide +kernel
theorem dX11_fact_15 : decode cX11_fact 15 = .ok (.iconst (-1), 1) := by decide +kernel
theorem dX11_fact_16 : decode cX11_fact 16 = .ok (.ireturn, 1) := by decide +kernel
theorem dX11_fact_17 : decode cX11_fact 17 = .ok (.iload_n 2, 1) := by decide +kernel
theorem dX11_fact_18 : decode cX11_fact 18 = .ok (.lookupswitch 50 #[(0, 26), (1, 38)], 26) := by decide +kernel
theorem dX11_fact_44 : decode cX11_fact 44 = .ok (.aload_n 0, 1) := by decide +kernel
theorem dX11_fact_45 : decode cX11_fact 45 = .ok (.getfield 23, 3) := by decide +kernel
theorem dX11_fact_48 : decode cX11_fact 48 = .ok (.getfield 134, 3) := by decide +kernel
theorem dX11_fact_51 : decode cX11_fact 51 = .ok (.iload_n 1, 1) := by decide +kernel
theorem dX11_fact_52 : decode cX11_fact 52 = .ok (.ishr, 1) := by decide +kernel
theorem dX11_fact_53 : decode cX11_fact 53 = .ok (.iconst 1, 1) := by decide +kernel
theorem dX11_fact_54 : decode cX11_fact 54 = .ok (.iand, 1) := by decide +kernel
theorem dX11_fact_55 : decode cX11_fact 55 = .ok (.ireturn, 1) := by decide +kernel
theorem dX11_fact_56 : decode cX11_fact 56 = .ok (.aload_n 0, 1) := by decide +kernel
theorem dX11_fact_57 : decode cX11_fact 57 = .ok (.getfield 47, 3) := by decide +kernel
theorem dX11_fact_60 : decode cX11_fact 60 = .ok (.getfield 137, 3) := by decide +kernel
theorem dX11_fact_63 : decode cX11_fact 63 = .ok (.iload_n 1, 1) := by decide +kernel
theorem dX11_fact_64 : decode cX11_fact 64 = .ok (.ishr, 1) := by decide +kernel
theorem dX11_fact_65 : decode cX11_fact 65 = .ok (.iconst 1, 1) := by decide +kernel
theorem dX11_fact_66 : decode cX11_fact 66 = .ok (.iand, 1) := by decide +kernel
theorem dX11_fact_67 : decode cX11_fact 67 = .ok (.ireturn, 1) := by decide +kernel
theorem dX11_fact_68 : decode cX11_fact 68 = .ok (.iconst (-1), 1) := by decide +kernel
theorem dX11_fact_69 : decode cX11_fact 69 = .ok (.ireturn, 1) := by decide +kernel
theorem dX11_feed_0 : decode cX11_feed 0 = .ok (.aload_n 0, 1) := by decide +kernel
theorem dX11_feed_1 : decode cX11_feed 1 = .ok (.getfield 16, 3) := by decide +kernel
theorem dX11_feed_4 : decode cX11_feed 4 = .ok (.getfield 105, 3) := by decide +kernel
theorem dX11_feed_7 : decode cX11_feed 7 = .ok (.sipush 1980, 3) := by decide +kernel
theorem dX11_feed_10 : decode cX11_feed 10 = .ok (.if_icmp .le 5, 3) := by decide +kernel
theorem dX11_feed_13 : decode cX11_feed 13 = .ok (.iconst (-1), 1) := by decide +kernel
theorem dX11_feed_14 : decode cX11_feed 14 = .ok (.ireturn, 1) := by decide +kernel
theorem dX11_feed_15 : decode cX11_feed 15 = .ok (.aload_n 0, 1) := by decide +kernel
theorem dX11_feed_16 : decode cX11_feed 16 = .ok (.getfield 16, 3) := by decide +kernel
theorem dX11_feed_19 : decode cX11_feed 19 = .ok (.iload_n 1, 1) := by decide +kernel
theorem dX11_feed_20 : decode cX11_feed 20 = .ok (.invokevirtual 108, 3) := by decide +kernel
theorem dX11_feed_23 : decode cX11_feed 23 = .ok (.aload_n 0, 1) := by decide +kernel
theorem dX11_feed_24 : decode cX11_feed 24 = .ok (.getfield 16, 3) := by decide +kernel
theorem dX11_feed_27 : decode cX11_feed 27 = .ok (.iload_n 2, 1) := by decide +kernel
theorem dX11_feed_28 : decode cX11_feed 28 = .ok (.invokevirtual 108, 3) := by decide +kernel
theorem dX11_feed_31 : decode cX11_feed 31 = .ok (.aload_n 0, 1) := by decide +kernel
theorem dX11_feed_32 : decode cX11_feed 32 = .ok (.getfield 16, 3) := by decide +kernel
theorem dX11_feed_35 : decode cX11_feed 35 = .ok (.iload_n 3, 1) := by decide +kernel
theorem dX11_feed_36 : decode cX11_feed 36 = .ok (.invokevirtual 108, 3) := by decide +kernel
theorem dX11_feed_39 : decode cX11_feed 39 = .ok (.aload_n 0, 1) := by decide +kernel
theorem dX11_feed_40 : decode cX11_feed 40 = .ok (.getfield 16, 3) := by decide +kernel
theorem dX11_feed_43 : decode cX11_feed 43 = .ok (.iload 4, 2) := by decide +kernel
theorem dX11_feed_45 : decode cX11_feed 45 = .ok (.invokevirtual 108, 3) := by decide +kernel
theorem dX11_feed_48 : decode cX11_feed 48 = .ok (.aload_n 0, 1) := by decide +kernel
theorem dX11_feed_49 : decode cX11_feed 49 = .ok (.getfield 16, 3) := by decide +kernel
theorem dX11_feed_52 : decode cX11_feed 52 = .ok (.iload 5, 2) := by decide +kernel
theorem dX11_feed_54 : decode cX11_feed 54 = .ok (.invokevirtual 108, 3) := by decide +kernel
theorem dX11_feed_57 : decode cX11_feed 57 = .ok (.aload_n 0, 1) := by decide +kernel
theorem dX11_feed_58 : decode cX11_feed 58 = .ok (.getfield 16, 3) := by decide +kernel
theorem dX11_feed_61 : decode cX11_feed 61 = .ok (.getfield 105, 3) := by decide +kernel
theorem dX11_feed_64 : decode cX11_feed 64 = .ok (.ireturn, 1) := by decide +kernel
theorem dX11_fits_0 : decode cX11_fits 0 = .ok (.iload_n 1, 1) := by decide +kernel
theorem dX11_fits_1 : decode cX11_fits 1 = .ok (.ifCond .lt 14, 3) := by decide +kernel
theorem dX11_fits_4 : decode cX11_fits 4 = .ok (.iload_n 1, 1) := by decide +kernel
theorem dX11_fits_5 : decode cX11_fits 5 = .ok (.aload_n 0, 1) := by decide +kernel
theorem dX11_fits_6 : decode cX11_fits 6 = .ok (.getfield 101, 3) := by decide +kernel
theorem dX11_fits_9 : decode cX11_fits 9 = .ok (.getfield 292, 3) := by decide +kernel
theorem dX11_fits_12 : decode cX11_fits 12 = .ok (.if_icmp .le 7, 3) := by decide +kernel
theorem dX11_fits_15 : decode cX11_fits 15 = .ok (.ldc2_w 272, 3) := by decide +kernel
theorem dX11_fits_18 : decode cX11_fits 18 = .ok (.lreturn, 1) := by decide +kernel
theorem dX11_fits_19 : decode cX11_fits 19 = .ok (.aload_n 0, 1) := by decide +kernel
theorem dX11_fits_20 : decode cX11_fits 20 = .ok (.getfield 101, 3) := by decide +kernel
theorem dX11_fits_23 : decode cX11_fits 23 = .ok (.aload_n 0, 1) := by decide +kernel
theorem dX11_fits_24 : decode cX11_fits 24 = .ok (.getfield 23, 3) := by decide +kernel
theorem dX11_fits_27 : decode cX11_fits 27 = .ok (.iload_n 1, 1) := by decide +kernel
theorem dX11_fits_28 : decode cX11_fits 28 = .ok (.invokevirtual 295, 3) := by decide +kernel
theorem dX11_fits_31 : decode cX11_fits 31 = .ok (.aload_n 0, 1) := by decide +kernel
theorem dX11_fits_32 : decode cX11_fits 32 = .ok (.getfield 101, 3) := by decide +kernel
theorem dX11_fits_35 : decode cX11_fits 35 = .ok (.getfield 297, 3) := by decide +kernel
theorem dX11_fits_38 : decode cX11_fits 38 = .ok (.iload_n 1, 1) := by decide +kernel
theorem dX11_fits_39 : decode cX11_fits 39 = .ok (.laload, 1) := by decide +kernel
theorem dX11_fits_40 : decode cX11_fits 40 = .ok (.lreturn, 1) := by decide +kernel
theorem dX11_forgetSearches_0 : decode cX11_forgetSearches 0 = .ok (.aload_n 0, 1) := by decide +kernel
theorem dX11_forgetSearches_1 : decode cX11_forgetSearches 1 = .ok (.getfield 94, 3) := by decide +kernel
theorem dX11_forgetSearches_4 : decode cX11_forgetSearches 4 = .ok (.iconst 0, 1) := by decide +kernel
theorem dX11_forgetSearches_5 : decode cX11_forgetSearches 5 = .ok (.putfield 324, 3) := by decide +kernel
theorem dX11_forgetSearches_8 : decode cX11_forgetSearches 8 = .ok (.aload_n 0, 1) := by decide +kernel
theorem dX11_forgetSearches_9 : decode cX11_forgetSearches 9 = .ok (.getfield 85, 3) := by decide +kernel
theorem dX11_forgetSearches_12 : decode cX11_forgetSearches 12 = .ok (.iconst 0, 1) := by decide +kernel
theorem dX11_forgetSearches_13 : decode cX11_forgetSearches 13 = .ok (.putfield 328, 3) := by decide +kernel
theorem dX11_forgetSearches_16 : decode cX11_forgetSearches 16 = .ok (.return_, 1) := by decide +kernel
theorem dX11_hearing_0 : decode cX11_hearing 0 = .ok (.aload_n 0, 1) := by decide +kernel
theorem dX11_hearing_1 : decode cX11_hearing 1 = .ok (.getfield 23, 3) := by decide +kernel
theorem dX11_hearing_4 : decode cX11_hearing 4 = .ok (.iload_n 1, 1) := by decide +kernel
theorem dX11_hearing_5 : decode cX11_hearing 5 = .ok (.invokevirtual 196, 3) := by decide +kernel
theorem dX11_hearing_8 : decode cX11_hearing 8 = .ok (.ifCond .ne 5, 3) := by decide +kernel
theorem dX11_hearing_11 : decode cX11_hearing 11 = .ok (.iconst (-1), 1) := by decide +kernel
theorem dX11_hearing_12 : decode cX11_hearing 12 = .ok (.ireturn, 1) := by decide +kernel
theorem dX11_hearing_13 : decode cX11_hearing 13 = .ok (.iload_n 2, 1) := by decide +kernel
theorem dX11_hearing_14 : decode cX11_hearing 14 = .ok (.tableswitch 73 0 3 #[30, 40, 50, 60], 30) := by decide +kernel
theorem dX11_hearing_44 : decode cX11_hearing 44 = .ok (.aload_n 0, 1) := by decide +kernel
theorem dX11_hearing_45 : decode cX11_hearing 45 = .ok (.getfield 23, 3) := by decide +kernel
theorem dX11_hearing_48 : decode cX11_hearing 48 = .ok (.getfield 199, 3) := by decide +kernel
theorem dX11_hearing_51 : decode cX11_hearing 51 = .ok (.iload_n 1, 1) := by decide +kernel
theorem dX11_hearing_52 : decode cX11_hearing 52 = .ok (.iaload, 1) := by decide +kernel
theorem dX11_hearing_53 : decode cX11_hearing 53 = .ok (.ireturn, 1) := by decide +kernel
theorem dX11_hearing_54 : decode cX11_hearing 54 = .ok (.aload_n 0, 1) := by decide +kernel
theorem dX11_hearing_55 : decode cX11_hearing 55 = .ok (.getfield 47, 3) := by decide +kernel
theorem dX11_hearing_58 : decode cX11_hearing 58 = .ok (.getfield 202, 3) := by decide +kernel
theorem dX11_hearing_61 : decode cX11_hearing 61 = .ok (.iload_n 1, 1) := by decide +kernel
theorem dX11_hearing_62 : decode cX11_hearing 62 = .ok (.iaload, 1) := by decide +kernel
theorem dX11_hearing_63 : decode cX11_hearing 63 = .ok (.ireturn, 1) := by decide +kernel
theorem dX11_hearing_64 : decode cX11_hearing 64 = .ok (.aload_n 0, 1) := by decide +kernel
theorem dX11_hearing_65 : decode cX11_hearing 65 = .ok (.getfield 47, 3) := by decide +kernel
theorem dX11_hearing_68 : decode cX11_hearing 68 = .ok (.getfield 205, 3) := by decide +kernel
theorem dX11_hearing_71 : decode cX11_hearing 71 = .ok (.iload_n 1, 1) := by decide +kernel
theorem dX11_hearing_72 : decode cX11_hearing 72 = .ok (.iaload, 1) := by decide +kernel
theorem dX11_hearing_73 : decode cX11_hearing 73 = .ok (.ireturn, 1) := by decide +kernel
theorem dX11_hearing_74 : decode cX11_hearing 74 = .ok (.aload_n 0, 1) := by decide +kernel
theorem dX11_hearing_75 : decode cX11_hearing 75 = .ok (.getfield 47, 3) := by decide +kernel
theorem dX11_hearing_78 : decode cX11_hearing 78 = .ok (.aload_n 0, 1) := by decide +kernel
theorem dX11_hearing_79 : decode cX11_hearing 79 = .ok (.getfield 23, 3) := by decide +kernel
theorem dX11_hearing_82 : decode cX11_hearing 82 = .ok (.iload_n 1, 1) := by decide +kernel
theorem dX11_hearing_83 : decode cX11_hearing 83 = .ok (.invokevirtual 208, 3) := by decide +kernel
theorem dX11_hearing_86 : decode cX11_hearing 86 = .ok (.ireturn, 1) := by decide +kernel
theorem dX11_hearing_87 : decode cX11_hearing 87 = .ok (.iconst (-1), 1) := by decide +kernel
theorem dX11_hearing_88 : decode cX11_hearing 88 = .ok (.ireturn, 1) := by decide +kernel
theorem dX11_heldSlots_0 : decode cX11_heldSlots 0 = .ok (.iconst 0, 1) := by decide +kernel
theorem dX11_heldSlots_1 : decode cX11_heldSlots 1 = .ok (.istore_n 1, 1) := by decide +kernel
theorem dX11_heldSlots_2 : decode cX11_heldSlots 2 = .ok (.iconst 0, 1) := by decide +kernel
theorem dX11_heldSlots_3 : decode cX11_heldSlots 3 = .ok (.istore_n 2, 1) := by decide +kernel
theorem dX11_heldSlots_4 : decode cX11_heldSlots 4 = .ok (.iload_n 2, 1) := by decide +kernel
theorem dX11_heldSlots_5 : decode cX11_heldSlots 5 = .ok (.iconst 3, 1) := by decide +kernel
theorem dX11_heldSlots_6 : decode cX11_heldSlots 6 = .ok (.if_icmp .ge 26, 3) := by decide +kernel
theorem dX11_heldSlots_9 : decode cX11_heldSlots 9 = .ok (.iload_n 1, 1) := by decide +kernel
theorem dX11_heldSlots_10 : decode cX11_heldSlots 10 = .ok (.aload_n 0, 1) := by decide +kernel
theorem dX11_heldSlots_11 : decode cX11_heldSlots 11 = .ok (.getfield 68, 3) := by decide +kernel
theorem dX11_heldSlots_14 : decode cX11_heldSlots 14 = .ok (.iload_n 2, 1) := by decide +kernel
theorem dX11_heldSlots_15 : decode cX11_heldSlots 15 = .ok (.baload, 1) := by decide +kernel
theorem dX11_heldSlots_16 : decode cX11_heldSlots 16 = .ok (.ifCond .eq 7, 3) := by decide +kernel
theorem dX11_heldSlots_19 : decode cX11_heldSlots 19 = .ok (.iconst 1, 1) := by decide +kernel
theorem dX11_heldSlots_20 : decode cX11_heldSlots 20 = .ok (.goto 4, 3) := by decide +kernel
theorem dX11_heldSlots_23 : decode cX11_heldSlots 23 = .ok (.iconst 0, 1) := by decide +kernel
theorem dX11_heldSlots_24 : decode cX11_heldSlots 24 = .ok (.iadd, 1) := by decide +kernel
theorem dX11_heldSlots_25 : decode cX11_heldSlots 25 = .ok (.istore_n 1, 1) := by decide +kernel
theorem dX11_heldSlots_26 : decode cX11_heldSlots 26 = .ok (.iinc 2 1, 3) := by decide +kernel
theorem dX11_heldSlots_29 : decode cX11_heldSlots 29 = .ok (.goto (-25), 3) := by decide +kernel
theorem dX11_heldSlots_32 : decode cX11_heldSlots 32 = .ok (.iload_n 1, 1) := by decide +kernel
theorem dX11_heldSlots_33 : decode cX11_heldSlots 33 = .ok (.ireturn, 1) := by decide +kernel
theorem dX11_hold_0 : decode cX11_hold 0 = .ok (.iload_n 1, 1) := by decide +kernel
theorem dX11_hold_1 : decode cX11_hold 1 = .ok (.ifCond .lt 8, 3) := by decide +kernel
theorem dX11_hold_4 : decode cX11_hold 4 = .ok (.iload_n 1, 1) := by decide +kernel
theorem dX11_hold_5 : decode cX11_hold 5 = .ok (.iconst 3, 1) := by decide +kernel
theorem dX11_hold_6 : decode cX11_hold 6 = .ok (.if_icmp .lt 5, 3) := by decide +kernel
theorem dX11_hold_9 : decode cX11_hold 9 = .ok (.iconst 0, 1) := by decide +kernel
theorem dX11_hold_10 : decode cX11_hold 10 = .ok (.ireturn, 1) := by decide +kernel
theorem dX11_hold_11 : decode cX11_hold 11 = .ok (.aload_n 0, 1) := by decide +kernel
theorem dX11_hold_12 : decode cX11_hold 12 = .ok (.getfield 61, 3) := by decide +kernel
theorem dX11_hold_15 : decode cX11_hold 15 = .ok (.iload_n 1, 1) := by decide +kernel
theorem dX11_hold_16 : decode cX11_hold 16 = .ok (.aaload, 1) := by decide +kernel
theorem dX11_hold_17 : decode cX11_hold 17 = .ok (.aload_n 0, 1) := by decide +kernel
theorem dX11_hold_18 : decode cX11_hold 18 = .ok (.getfield 47, 3) := by decide +kernel
theorem dX11_hold_21 : decode cX11_hold 21 = .ok (.invokevirtual 228, 3) := by decide +kernel
theorem dX11_hold_24 : decode cX11_hold 24 = .ok (.aload_n 0, 1) := by decide +kernel
theorem dX11_hold_25 : decode cX11_hold 25 = .ok (.getfield 64, 3) := by decide +kernel
theorem dX11_hold_28 : decode cX11_hold 28 = .ok (.iload_n 1, 1) := by decide +kernel
theorem dX11_hold_29 : decode cX11_hold 29 = .ok (.aaload, 1) := by decide +kernel
theorem dX11_hold_30 : decode cX11_hold 30 = .ok (.aload_n 0, 1) := by decide +kernel
theorem dX11_hold_31 : decode cX11_hold 31 = .ok (.getfield 16, 3) := by decide +kernel
theorem dX11_hold_34 : decode cX11_hold 34 = .ok (.invokevirtual 306, 3) := by decide +kernel
theorem dX11_hold_37 : decode cX11_hold 37 = .ok (.aload_n 0, 1) := by decide +kernel
theorem dX11_hold_38 : decode cX11_hold 38 = .ok (.getfield 68, 3) := by decide +kernel
theorem dX11_hold_41 : decode cX11_hold 41 = .ok (.iload_n 1, 1) := by decide +kernel
theorem dX11_hold_42 : decode cX11_hold 42 = .ok (.iconst 1, 1) := by decide +kernel
theorem dX11_hold_43 : decode cX11_hold 43 = .ok (.bastore, 1) := by decide +kernel
theorem dX11_hold_44 : decode cX11_hold 44 = .ok (.iconst 1, 1) := by decide +kernel
theorem dX11_hold_45 : decode cX11_hold 45 = .ok (.ireturn, 1) := by decide +kernel
theorem dX11_keepForUndo_0 : decode cX11_keepForUndo 0 = .ok (.aload_n 0, 1) := by decide +kernel
theorem dX11_keepForUndo_1 : decode cX11_keepForUndo 1 = .ok (.getfield 57, 3) := by decide +kernel
theorem dX11_keepForUndo_4 : decode cX11_keepForUndo 4 = .ok (.aload_n 0, 1) := by decide +kernel
theorem dX11_keepForUndo_5 : decode cX11_keepForUndo 5 = .ok (.getfield 225, 3) := by decide +kernel
theorem dX11_keepForUndo_8 : decode cX11_keepForUndo 8 = .ok (.aaload, 1) := by decide +kernel
theorem dX11_keepForUndo_9 : decode cX11_keepForUndo 9 = .ok (.aload_n 0, 1) := by decide +kernel
theorem dX11_keepForUndo_10 : decode cX11_keepForUndo 10 = .ok (.getfield 47, 3) := by decide +kernel
theorem dX11_keepForUndo_13 : decode cX11_keepForUndo 13 = .ok (.invokevirtual 228, 3) := by decide +kernel
theorem dX11_keepForUndo_16 : decode cX11_keepForUndo 16 = .ok (.aload_n 0, 1) := by decide +kernel
theorem dX11_keepForUndo_17 : decode cX11_keepForUndo 17 = .ok (.aload_n 0, 1) := by decide +kernel
theorem dX11_keepForUndo_18 : decode cX11_keepForUndo 18 = .ok (.getfield 225, 3) := by decide +kernel
theorem dX11_keepForUndo_21 : decode cX11_keepForUndo 21 = .ok (.iconst 1, 1) := by decide +kernel
theorem dX11_keepForUndo_22 : decode cX11_keepForUndo 22 = .ok (.iadd, 1) := by decide +kernel
theorem dX11_keepForUndo_23 : decode cX11_keepForUndo 23 = .ok (.bipush 40, 2) := by decide +kernel
theorem dX11_keepForUndo_25 : decode cX11_keepForUndo 25 = .ok (.irem, 1) := by decide +kernel
theorem dX11_keepForUndo_26 : decode cX11_keepForUndo 26 = .ok (.putfield 225, 3) := by decide +kernel
theorem dX11_keepForUndo_29 : decode cX11_keepForUndo 29 = .ok (.aload_n 0, 1) := by decide +kernel
theorem dX11_keepForUndo_30 : decode cX11_keepForUndo 30 = .ok (.aload_n 0, 1) := by decide +kernel
theorem dX11_keepForUndo_31 : decode cX11_keepForUndo 31 = .ok (.getfield 119, 3) := by decide +kernel
theorem dX11_keepForUndo_34 : decode cX11_keepForUndo 34 = .ok (.iconst 1, 1) := by decide +kernel
theorem dX11_keepForUndo_35 : decode cX11_keepForUndo 35 = .ok (.iadd, 1) := by decide +kernel
theorem dX11_keepForUndo_36 : decode cX11_keepForUndo 36 = .ok (.bipush 40, 2) := by decide +kernel
theorem dX11_keepForUndo_38 : decode cX11_keepForUndo 38 = .ok (.invokestatic 318, 3) := by decide +kernel
theorem dX11_keepForUndo_41 : decode cX11_keepForUndo 41 = .ok (.putfield 119, 3) := by decide +kernel
theorem dX11_keepForUndo_44 : decode cX11_keepForUndo 44 = .ok (.aload_n 0, 1) := by decide +kernel
theorem dX11_keepForUndo_45 : decode cX11_keepForUndo 45 = .ok (.invokevirtual 125, 3) := by decide +kernel
theorem dX11_keepForUndo_48 : decode cX11_keepForUndo 48 = .ok (.return_, 1) := by decide +kernel
theorem dX11_liars_0 : decode cX11_liars 0 = .ok (.iload_n 1, 1) := by decide +kernel
theorem dX11_liars_1 : decode cX11_liars 1 = .ok (.ifCond .lt 14, 3) := by decide +kernel
theorem dX11_liars_4 : decode cX11_liars 4 = .ok (.iload_n 1, 1) := by decide +kernel
theorem dX11_liars_5 : decode cX11_liars 5 = .ok (.aload_n 0, 1) := by decide +kernel
theorem dX11_liars_6 : decode cX11_liars 6 = .ok (.getfield 101, 3) := by decide +kernel
theorem dX11_liars_9 : decode cX11_liars 9 = .ok (.getfield 292, 3) := by decide +kernel
theorem dX11_liars_12 : decode cX11_liars 12 = .ok (.if_icmp .le 5, 3) := by decide +kernel
theorem dX11_liars_15 : decode cX11_liars 15 = .ok (.iconst (-1), 1) := by decide +kernel
theorem dX11_liars_16 : decode cX11_liars 16 = .ok (.ireturn, 1) := by decide +kernel
theorem dX11_liars_17 : decode cX11_liars 17 = .ok (.aload_n 0, 1) := by decide +kernel
theorem dX11_liars_18 : decode cX11_liars 18 = .ok (.getfield 101, 3) := by decide +kernel
theorem dX11_liars_21 : decode cX11_liars 21 = .ok (.aload_n 0, 1) := by decide +kernel
theorem dX11_liars_22 : decode cX11_liars 22 = .ok (.getfield 23, 3) := by decide +kernel
theorem dX11_liars_25 : decode cX11_liars 25 = .ok (.iload_n 1, 1) := by decide +kernel
theorem dX11_liars_26 : decode cX11_liars 26 = .ok (.invokevirtual 295, 3) := by decide +kernel
theorem dX11_liars_29 : decode cX11_liars 29 = .ok (.aload_n 0, 1) := by decide +kernel
theorem dX11_liars_30 : decode cX11_liars 30 = .ok (.getfield 101, 3) := by decide +kernel
theorem dX11_liars_33 : decode cX11_liars 33 = .ok (.getfield 303, 3) := by decide +kernel
theorem dX11_liars_36 : decode cX11_liars 36 = .ok (.iload_n 1, 1) := by decide +kernel
theorem dX11_liars_37 : decode cX11_liars 37 = .ok (.iaload, 1) := by decide +kernel
theorem dX11_liars_38 : decode cX11_liars 38 = .ok (.ireturn, 1) := by decide +kernel
theorem dX11_look_0 : decode cX11_look 0 = .ok (.iload_n 1, 1) := by decide +kernel
theorem dX11_look_1 : decode cX11_look 1 = .ok (.ifCond .lt 14, 3) := by decide +kernel
theorem dX11_look_4 : decode cX11_look 4 = .ok (.iload_n 1, 1) := by decide +kernel
theorem dX11_look_5 : decode cX11_look 5 = .ok (.aload_n 0, 1) := by decide +kernel
theorem dX11_look_6 : decode cX11_look 6 = .ok (.getfield 23, 3) := by decide +kernel
theorem dX11_look_9 : decode cX11_look 9 = .ok (.getfield 131, 3) := by decide +kernel
theorem dX11_look_12 : decode cX11_look 12 = .ok (.if_icmp .lt 5, 3) := by decide +kernel
theorem dX11_look_15 : decode cX11_look 15 = .ok (.iconst (-1), 1) := by decide +kernel
theorem dX11_look_16 : decode cX11_look 16 = .ok (.ireturn, 1) := by decide +kernel
theorem dX11_look_17 : decode cX11_look 17 = .ok (.aload_n 0, 1) := by decide +kernel
theorem dX11_look_18 : decode cX11_look 18 = .ok (.getfield 47, 3) := by decide +kernel
theorem dX11_look_21 : decode cX11_look 21 = .ok (.getfield 137, 3) := by decide +kernel
theorem dX11_look_24 : decode cX11_look 24 = .ok (.iload_n 1, 1) := by decide +kernel
theorem dX11_look_25 : decode cX11_look 25 = .ok (.ishr, 1) := by decide +kernel
theorem dX11_look_26 : decode cX11_look 26 = .ok (.iconst 1, 1) := by decide +kernel
theorem dX11_look_27 : decode cX11_look 27 = .ok (.iand, 1) := by decide +kernel
theorem dX11_look_28 : decode cX11_look 28 = .ok (.ifCond .eq 6, 3) := by decide +kernel
theorem dX11_look_31 : decode cX11_look 31 = .ok (.bipush (-2), 2) := by decide +kernel
theorem dX11_look_33 : decode cX11_look 33 = .ok (.ireturn, 1) := by decide +kernel
theorem dX11_look_34 : decode cX11_look 34 = .ok (.aload_n 0, 1) := by decide +kernel
theorem dX11_look_35 : decode cX11_look 35 = .ok (.invokevirtual 212, 3) := by decide +kernel
theorem dX11_look_38 : decode cX11_look 38 = .ok (.aload_n 0, 1) := by decide +kernel
theorem dX11_look_39 : decode cX11_look 39 = .ok (.getfield 47, 3) := by decide +kernel
theorem dX11_look_42 : decode cX11_look 42 = .ok (.aload_n 0, 1) := by decide +kernel
theorem dX11_look_43 : decode cX11_look 43 = .ok (.getfield 23, 3) := by decide +kernel
theorem dX11_look_46 : decode cX11_look 46 = .ok (.iload_n 1, 1) := by decide +kernel
theorem dX11_look_47 : decode cX11_look 47 = .ok (.invokevirtual 218, 3) := by decide +kernel
theorem dX11_look_50 : decode cX11_look 50 = .ok (.ireturn, 1) := by decide +kernel
theorem dX11_looks_0 : decode cX11_looks 0 = .ok (.aload_n 0, 1) := by decide +kernel
theorem dX11_looks_1 : decode cX11_looks 1 = .ok (.getfield 23, 3) := by decide +kernel
theorem dX11_looks_4 : decode cX11_looks 4 = .ok (.iload_n 1, 1) := by decide +kernel
theorem dX11_looks_5 : decode cX11_looks 5 = .ok (.invokevirtual 140, 3) := by decide +kernel
theorem dX11_looks_8 : decode cX11_looks 8 = .ok (.ifCond .ne 5, 3) := by decide +kernel
theorem dX11_looks_11 : decode cX11_looks 11 = .ok (.iconst (-1), 1) := by decide +kernel
theorem dX11_looks_12 : decode cX11_looks 12 = .ok (.ireturn, 1) := by decide +kernel
theorem dX11_looks_13 : decode cX11_looks 13 = .ok (.aload_n 0, 1) := by decide +kernel
theorem dX11_looks_14 : decode cX11_looks 14 = .ok (.getfield 78, 3) := by decide +kernel
theorem dX11_looks_17 : decode cX11_looks 17 = .ok (.aload_n 0, 1) := by decide +kernel
theorem dX11_looks_18 : decode cX11_looks 18 = .ok (.getfield 23, 3) := by decide +kernel
theorem dX11_looks_21 : decode cX11_looks 21 = .ok (.aload_n 0, 1) := by decide +kernel
theorem dX11_looks_22 : decode cX11_looks 22 = .ok (.getfield 47, 3) := by decide +kernel
theorem dX11_looks_25 : decode cX11_looks 25 = .ok (.getfield 137, 3) := by decide +kernel
theorem dX11_looks_28 : decode cX11_looks 28 = .ok (.invokevirtual 281, 3) := by decide +kernel
theorem dX11_looks_31 : decode cX11_looks 31 = .ok (.aload_n 0, 1) := by decide +kernel
theorem dX11_looks_32 : decode cX11_looks 32 = .ok (.getfield 78, 3) := by decide +kernel
theorem dX11_looks_35 : decode cX11_looks 35 = .ok (.aload_n 0, 1) := by decide +kernel
theorem dX11_looks_36 : decode cX11_looks 36 = .ok (.getfield 47, 3) := by decide +kernel
theorem dX11_looks_39 : decode cX11_looks 39 = .ok (.getfield 185, 3) := by decide +kernel
theorem dX11_looks_42 : decode cX11_looks 42 = .ok (.aload_n 0, 1) := by decide +kernel
theorem dX11_looks_43 : decode cX11_looks 43 = .ok (.getfield 23, 3) := by decide +kernel
theorem dX11_looks_46 : decode cX11_looks 46 = .ok (.getfield 160, 3) := by decide +kernel
theorem dX11_looks_49 : decode cX11_looks 49 = .ok (.iload_n 1, 1) := by decide +kernel
theorem dX11_looks_50 : decode cX11_looks 50 = .ok (.laload, 1) := by decide +kernel
theorem dX11_looks_51 : decode cX11_looks 51 = .ok (.land, 1) := by decide +kernel
theorem dX11_looks_52 : decode cX11_looks 52 = .ok (.ldc2_w 272, 3) := by decide +kernel
theorem dX11_looks_55 : decode cX11_looks 55 = .ok (.ldc2_w 272, 3) := by decide +kernel
theorem dX11_looks_58 : decode cX11_looks 58 = .ok (.invokevirtual 274, 3) := by decide +kernel
theorem dX11_looks_61 : decode cX11_looks 61 = .ok (.ireturn, 1) := by decide +kernel
theorem dX11_never_0 : decode cX11_never 0 = .ok (.aload_n 0, 1) := by decide +kernel
theorem dX11_never_1 : decode cX11_never 1 = .ok (.iload_n 1, 1) := by decide +kernel
theorem dX11_never_2 : decode cX11_never 2 = .ok (.invokevirtual 250, 3) := by decide +kernel
theorem dX11_never_5 : decode cX11_never 5 = .ok (.ifCond .ne 5, 3) := by decide +kernel
theorem dX11_never_8 : decode cX11_never 8 = .ok (.iconst (-1), 1) := by decide +kernel
theorem dX11_never_9 : decode cX11_never 9 = .ok (.ireturn, 1) := by decide +kernel
theorem dX11_never_10 : decode cX11_never 10 = .ok (.aload_n 0, 1) := by decide +kernel
theorem dX11_never_11 : decode cX11_never 11 = .ok (.getfield 85, 3) := by decide +kernel
theorem dX11_never_14 : decode cX11_never 14 = .ok (.aload_n 0, 1) := by decide +kernel
theorem dX11_never_15 : decode cX11_never 15 = .ok (.getfield 23, 3) := by decide +kernel
theorem dX11_never_18 : decode cX11_never 18 = .ok (.aload_n 0, 1) := by decide +kernel
theorem dX11_never_19 : decode cX11_never 19 = .ok (.getfield 47, 3) := by decide +kernel
theorem dX11_never_22 : decode cX11_never 22 = .ok (.iload_n 1, 1) := by decide +kernel
theorem dX11_never_23 : decode cX11_never 23 = .ok (.iload_n 2, 1) := by decide +kernel
theorem dX11_never_24 : decode cX11_never 24 = .ok (.invokevirtual 262, 3) := by decide +kernel
theorem dX11_never_27 : decode cX11_never 27 = .ok (.ifCond .eq 7, 3) := by decide +kernel
theorem dX11_never_30 : decode cX11_never 30 = .ok (.iconst 1, 1) := by decide +kernel
theorem dX11_never_31 : decode cX11_never 31 = .ok (.goto 4, 3) := by decide +kernel
theorem dX11_never_34 : decode cX11_never 34 = .ok (.iconst 0, 1) := by decide +kernel
theorem dX11_never_35 : decode cX11_never 35 = .ok (.ireturn, 1) := by decide +kernel
theorem dX11_order_0 : decode cX11_order 0 = .ok (.aload_n 0, 1) := by decide +kernel
theorem dX11_order_1 : decode cX11_order 1 = .ok (.iload_n 1, 1) := by decide +kernel
theorem dX11_order_2 : decode cX11_order 2 = .ok (.invokevirtual 250, 3) := by decide +kernel
theorem dX11_order_5 : decode cX11_order 5 = .ok (.ifCond .ne 6, 3) := by decide +kernel
theorem dX11_order_8 : decode cX11_order 8 = .ok (.ldc 192, 2) := by decide +kernel
theorem dX11_order_10 : decode cX11_order 10 = .ok (.ireturn, 1) := by decide +kernel
theorem dX11_order_11 : decode cX11_order 11 = .ok (.aload_n 0, 1) := by decide +kernel
theorem dX11_order_12 : decode cX11_order 12 = .ok (.getfield 85, 3) := by decide +kernel
theorem dX11_order_15 : decode cX11_order 15 = .ok (.aload_n 0, 1) := by decide +kernel
theorem dX11_order_16 : decode cX11_order 16 = .ok (.getfield 23, 3) := by decide +kernel
theorem dX11_order_19 : decode cX11_order 19 = .ok (.aload_n 0, 1) := by decide +kernel
theorem dX11_order_20 : decode cX11_order 20 = .ok (.getfield 47, 3) := by decide +kernel
theorem dX11_order_23 : decode cX11_order 23 = .ok (.iload_n 1, 1) := by decide +kernel
theorem dX11_order_24 : decode cX11_order 24 = .ok (.iload_n 2, 1) := by decide +kernel
theorem dX11_order_25 : decode cX11_order 25 = .ok (.invokevirtual 253, 3) := by decide +kernel
theorem dX11_order_28 : decode cX11_order 28 = .ok (.aload_n 0, 1) := by decide +kernel
theorem dX11_order_29 : decode cX11_order 29 = .ok (.getfield 85, 3) := by decide +kernel
theorem dX11_order_32 : decode cX11_order 32 = .ok (.getfield 256, 3) := by decide +kernel
theorem dX11_order_35 : decode cX11_order 35 = .ok (.ireturn, 1) := by decide +kernel
theorem dX11_orderAt_0 : decode cX11_orderAt 0 = .ok (.aload_n 0, 1) := by decide +kernel
theorem dX11_orderAt_1 : decode cX11_orderAt 1 = .ok (.iload_n 1, 1) := by decide +kernel
theorem dX11_orderAt_2 : decode cX11_orderAt 2 = .ok (.invokevirtual 250, 3) := by decide +kernel
theorem dX11_orderAt_5 : decode cX11_orderAt 5 = .ok (.ifCond .eq 15, 3) := by decide +kernel
theorem dX11_orderAt_8 : decode cX11_orderAt 8 = .ok (.iload_n 3, 1) := by decide +kernel
theorem dX11_orderAt_9 : decode cX11_orderAt 9 = .ok (.ifCond .lt 11, 3) := by decide +kernel
theorem dX11_orderAt_12 : decode cX11_orderAt 12 = .ok (.iload_n 3, 1) := by decide +kernel
theorem dX11_orderAt_13 : decode cX11_orderAt 13 = .ok (.iload_n 1, 1) := by decide +kernel
theorem dX11_orderAt_14 : decode cX11_orderAt 14 = .ok (.invokestatic 180, 3) := by decide +kernel
theorem dX11_orderAt_17 : decode cX11_orderAt 17 = .ok (.if_icmp .lt 5, 3) := by decide +kernel
theorem dX11_orderAt_20 : decode cX11_orderAt 20 = .ok (.iconst (-1), 1) := by decide +kernel
theorem dX11_orderAt_21 : decode cX11_orderAt 21 = .ok (.ireturn, 1) := by decide +kernel
theorem dX11_orderAt_22 : decode cX11_orderAt 22 = .ok (.aload_n 0, 1) := by decide +kernel
theorem dX11_orderAt_23 : decode cX11_orderAt 23 = .ok (.getfield 85, 3) := by decide +kernel
theorem dX11_orderAt_26 : decode cX11_orderAt 26 = .ok (.aload_n 0, 1) := by decide +kernel
theorem dX11_orderAt_27 : decode cX11_orderAt 27 = .ok (.getfield 23, 3) := by decide +kernel
theorem dX11_orderAt_30 : decode cX11_orderAt 30 = .ok (.aload_n 0, 1) := by decide +kernel
theorem dX11_orderAt_31 : decode cX11_orderAt 31 = .ok (.getfield 47, 3) := by decide +kernel
theorem dX11_orderAt_34 : decode cX11_orderAt 34 = .ok (.iload_n 1, 1) := by decide +kernel
theorem dX11_orderAt_35 : decode cX11_orderAt 35 = .ok (.iload_n 2, 1) := by decide +kernel
theorem dX11_orderAt_36 : decode cX11_orderAt 36 = .ok (.invokevirtual 253, 3) := by decide +kernel
theorem dX11_orderAt_39 : decode cX11_orderAt 39 = .ok (.aload_n 0, 1) := by decide +kernel
theorem dX11_orderAt_40 : decode cX11_orderAt 40 = .ok (.getfield 85, 3) := by decide +kernel
theorem dX11_orderAt_43 : decode cX11_orderAt 43 = .ok (.getfield 259, 3) := by decide +kernel
theorem dX11_orderAt_46 : decode cX11_orderAt 46 = .ok (.iload_n 3, 1) := by decide +kernel
theorem dX11_orderAt_47 : decode cX11_orderAt 47 = .ok (.iaload, 1) := by decide +kernel
theorem dX11_orderAt_48 : decode cX11_orderAt 48 = .ok (.ireturn, 1) := by decide +kernel
theorem dX11_pause_0 : decode cX11_pause 0 = .ok (.iload_n 1, 1) := by decide +kernel
theorem dX11_pause_1 : decode cX11_pause 1 = .ok (.ifCond .lt 10, 3) := by decide +kernel
theorem dX11_pause_4 : decode cX11_pause 4 = .ok (.iload_n 1, 1) := by decide +kernel
theorem dX11_pause_5 : decode cX11_pause 5 = .ok (.sipush 3000, 3) := by decide +kernel
theorem dX11_pause_8 : decode cX11_pause 8 = .ok (.if_icmp .le 6, 3) := by decide +kernel
theorem dX11_pause_11 : decode cX11_pause 11 = .ok (.ldc 192, 2) := by decide +kernel
theorem dX11_pause_13 : decode cX11_pause 13 = .ok (.ireturn, 1) := by decide +kernel
theorem dX11_pause_14 : decode cX11_pause 14 = .ok (.iload_n 1, 1) := by decide +kernel
theorem dX11_pause_15 : decode cX11_pause 15 = .ok (.ifCond .le 19, 3) := by decide +kernel
theorem dX11_pause_18 : decode cX11_pause 18 = .ok (.aload_n 0, 1) := by decide +kernel
theorem dX11_pause_19 : decode cX11_pause 19 = .ok (.invokevirtual 212, 3) := by decide +kernel
theorem dX11_pause_22 : decode cX11_pause 22 = .ok (.aload_n 0, 1) := by decide +kernel
theorem dX11_pause_23 : decode cX11_pause 23 = .ok (.getfield 47, 3) := by decide +kernel
theorem dX11_pause_26 : decode cX11_pause 26 = .ok (.aload_n 0, 1) := by decide +kernel
theorem dX11_pause_27 : decode cX11_pause 27 = .ok (.getfield 23, 3) := by decide +kernel
theorem dX11_pause_30 : decode cX11_pause 30 = .ok (.iload_n 1, 1) := by decide +kernel
theorem dX11_pause_31 : decode cX11_pause 31 = .ok (.invokevirtual 221, 3) := by decide +kernel
theorem dX11_pause_34 : decode cX11_pause 34 = .ok (.aload_n 0, 1) := by decide +kernel
theorem dX11_pause_35 : decode cX11_pause 35 = .ok (.getfield 47, 3) := by decide +kernel
theorem dX11_pause_38 : decode cX11_pause 38 = .ok (.getfield 128, 3) := by decide +kernel
theorem dX11_pause_41 : decode cX11_pause 41 = .ok (.ireturn, 1) := by decide +kernel
theorem dX11_place_0 : decode cX11_place 0 = .ok (.aload_n 0, 1) := by decide +kernel
theorem dX11_place_1 : decode cX11_place 1 = .ok (.getfield 9, 3) := by decide +kernel
theorem dX11_place_4 : decode cX11_place 4 = .ok (.ireturn, 1) := by decide +kernel
theorem dX11_read_0 : decode cX11_read 0 = .ok (.aload_n 0, 1) := by decide +kernel
theorem dX11_read_1 : decode cX11_read 1 = .ok (.getfield 35, 3) := by decide +kernel
theorem dX11_read_4 : decode cX11_read 4 = .ok (.aload_n 0, 1) := by decide +kernel
theorem dX11_read_5 : decode cX11_read 5 = .ok (.getfield 16, 3) := by decide +kernel
theorem dX11_read_8 : decode cX11_read 8 = .ok (.aload_n 0, 1) := by decide +kernel
theorem dX11_read_9 : decode cX11_read 9 = .ok (.getfield 27, 3) := by decide +kernel
theorem dX11_read_12 : decode cX11_read 12 = .ok (.invokevirtual 112, 3) := by decide +kernel
theorem dX11_read_15 : decode cX11_read 15 = .ok (.istore_n 1, 1) := by decide +kernel
theorem dX11_read_16 : decode cX11_read 16 = .ok (.aload_n 0, 1) := by decide +kernel
theorem dX11_read_17 : decode cX11_read 17 = .ok (.getfield 16, 3) := by decide +kernel
theorem dX11_read_20 : decode cX11_read 20 = .ok (.iconst 0, 1) := by decide +kernel
theorem dX11_read_21 : decode cX11_read 21 = .ok (.putfield 105, 3) := by decide +kernel
theorem dX11_read_24 : decode cX11_read 24 = .ok (.aload_n 0, 1) := by decide +kernel
theorem dX11_read_25 : decode cX11_read 25 = .ok (.aload_n 0, 1) := by decide +kernel
theorem dX11_read_26 : decode cX11_read 26 = .ok (.getfield 35, 3) := by decide +kernel
theorem dX11_read_29 : decode cX11_read 29 = .ok (.invokevirtual 116, 3) := by decide +kernel
theorem dX11_read_32 : decode cX11_read 32 = .ok (.putfield 9, 3) := by decide +kernel
theorem dX11_read_35 : decode cX11_read 35 = .ok (.iload_n 1, 1) := by decide +kernel
theorem dX11_read_36 : decode cX11_read 36 = .ok (.ifCond .eq 5, 3) := by decide +kernel
theorem dX11_read_39 : decode cX11_read 39 = .ok (.iload_n 1, 1) := by decide +kernel
theorem dX11_read_40 : decode cX11_read 40 = .ok (.ireturn, 1) := by decide +kernel
theorem dX11_read_41 : decode cX11_read 41 = .ok (.aload_n 0, 1) := by decide +kernel
theorem dX11_read_42 : decode cX11_read 42 = .ok (.getfield 23, 3) := by decide +kernel
theorem dX11_read_45 : decode cX11_read 45 = .ok (.astore_n 2, 1) := by decide +kernel
theorem dX11_read_46 : decode cX11_read 46 = .ok (.aload_n 0, 1) := by decide +kernel
theorem dX11_read_47 : decode cX11_read 47 = .ok (.aload_n 0, 1) := by decide +kernel
theorem dX11_read_48 : decode cX11_read 48 = .ok (.getfield 27, 3) := by decide +kernel
theorem dX11_read_51 : decode cX11_read 51 = .ok (.putfield 23, 3) := by decide +kernel
theorem dX11_read_54 : decode cX11_read 54 = .ok (.aload_n 0, 1) := by decide +kernel
theorem dX11_read_55 : decode cX11_read 55 = .ok (.aload_n 2, 1) := by decide +kernel
theorem dX11_read_56 : decode cX11_read 56 = .ok (.putfield 27, 3) := by decide +kernel
theorem dX11_read_59 : decode cX11_read 59 = .ok (.aload_n 0, 1) := by decide +kernel
theorem dX11_read_60 : decode cX11_read 60 = .ok (.getfield 47, 3) := by decide +kernel
theorem dX11_read_63 : decode cX11_read 63 = .ok (.aload_n 0, 1) := by decide +kernel
theorem dX11_read_64 : decode cX11_read 64 = .ok (.getfield 23, 3) := by decide +kernel
theorem dX11_read_67 : decode cX11_read 67 = .ok (.invokevirtual 51, 3) := by decide +kernel
theorem dX11_read_70 : decode cX11_read 70 = .ok (.aload_n 0, 1) := by decide +kernel
theorem dX11_read_71 : decode cX11_read 71 = .ok (.iconst 0, 1) := by decide +kernel
theorem dX11_read_72 : decode cX11_read 72 = .ok (.putfield 119, 3) := by decide +kernel
theorem dX11_read_75 : decode cX11_read 75 = .ok (.aload_n 0, 1) := by decide +kernel
theorem dX11_read_76 : decode cX11_read 76 = .ok (.getfield 101, 3) := by decide +kernel
theorem dX11_read_79 : decode cX11_read 79 = .ok (.invokevirtual 122, 3) := by decide +kernel
theorem dX11_read_82 : decode cX11_read 82 = .ok (.iconst 0, 1) := by decide +kernel
theorem dX11_read_83 : decode cX11_read 83 = .ok (.istore_n 3, 1) := by decide +kernel
theorem dX11_read_84 : decode cX11_read 84 = .ok (.iload_n 3, 1) := by decide +kernel
theorem dX11_read_85 : decode cX11_read 85 = .ok (.iconst 3, 1) := by decide +kernel
theorem dX11_read_86 : decode cX11_read 86 = .ok (.if_icmp .ge 16, 3) := by decide +kernel
theorem dX11_read_89 : decode cX11_read 89 = .ok (.aload_n 0, 1) := by decide +kernel
theorem dX11_read_90 : decode cX11_read 90 = .ok (.getfield 68, 3) := by decide +kernel
theorem dX11_read_93 : decode cX11_read 93 = .ok (.iload_n 3, 1) := by decide +kernel
theorem dX11_read_94 : decode cX11_read 94 = .ok (.iconst 0, 1) := by decide +kernel
theorem dX11_read_95 : decode cX11_read 95 = .ok (.bastore, 1) := by decide +kernel
theorem dX11_read_96 : decode cX11_read 96 = .ok (.iinc 3 1, 3) := by decide +kernel
theorem dX11_read_99 : decode cX11_read 99 = .ok (.goto (-15), 3) := by decide +kernel
theorem dX11_read_102 : decode cX11_read 102 = .ok (.aload_n 0, 1) := by decide +kernel
theorem dX11_read_103 : decode cX11_read 103 = .ok (.invokevirtual 125, 3) := by decide +kernel
theorem dX11_read_106 : decode cX11_read 106 = .ok (.iconst 0, 1) := by decide +kernel
theorem dX11_read_107 : decode cX11_read 107 = .ok (.ireturn, 1) := by decide +kernel
theorem dX11_restore_0 : decode cX11_restore 0 = .ok (.iload_n 1, 1) := by decide +kernel
theorem dX11_restore_1 : decode cX11_restore 1 = .ok (.ifCond .lt 17, 3) := by decide +kernel
theorem dX11_restore_4 : decode cX11_restore 4 = .ok (.iload_n 1, 1) := by decide +kernel
theorem dX11_restore_5 : decode cX11_restore 5 = .ok (.iconst 3, 1) := by decide +kernel
theorem dX11_restore_6 : decode cX11_restore 6 = .ok (.if_icmp .ge 12, 3) := by decide +kernel
theorem dX11_restore_9 : decode cX11_restore 9 = .ok (.aload_n 0, 1) := by decide +kernel
theorem dX11_restore_10 : decode cX11_restore 10 = .ok (.getfield 68, 3) := by decide +kernel
theorem dX11_restore_13 : decode cX11_restore 13 = .ok (.iload_n 1, 1) := by decide +kernel
theorem dX11_restore_14 : decode cX11_restore 14 = .ok (.baload, 1) := by decide +kernel
theorem dX11_restore_15 : decode cX11_restore 15 = .ok (.ifCond .ne 5, 3) := by decide +kernel
theorem dX11_restore_18 : decode cX11_restore 18 = .ok (.iconst 0, 1) := by decide +kernel
theorem dX11_restore_19 : decode cX11_restore 19 = .ok (.ireturn, 1) := by decide +kernel
theorem dX11_restore_20 : decode cX11_restore 20 = .ok (.aload_n 0, 1) := by decide +kernel
theorem dX11_restore_21 : decode cX11_restore 21 = .ok (.getfield 47, 3) := by decide +kernel
theorem dX11_restore_24 : decode cX11_restore 24 = .ok (.aload_n 0, 1) := by decide +kernel
theorem dX11_restore_25 : decode cX11_restore 25 = .ok (.getfield 61, 3) := by decide +kernel
theorem dX11_restore_28 : decode cX11_restore 28 = .ok (.iload_n 1, 1) := by decide +kernel
theorem dX11_restore_29 : decode cX11_restore 29 = .ok (.aaload, 1) := by decide +kernel
theorem dX11_restore_30 : decode cX11_restore 30 = .ok (.invokevirtual 228, 3) := by decide +kernel
theorem dX11_restore_33 : decode cX11_restore 33 = .ok (.aload_n 0, 1) := by decide +kernel
theorem dX11_restore_34 : decode cX11_restore 34 = .ok (.getfield 16, 3) := by decide +kernel
theorem dX11_restore_37 : decode cX11_restore 37 = .ok (.aload_n 0, 1) := by decide +kernel
theorem dX11_restore_38 : decode cX11_restore 38 = .ok (.getfield 64, 3) := by decide +kernel
theorem dX11_restore_41 : decode cX11_restore 41 = .ok (.iload_n 1, 1) := by decide +kernel
theorem dX11_restore_42 : decode cX11_restore 42 = .ok (.aaload, 1) := by decide +kernel
theorem dX11_restore_43 : decode cX11_restore 43 = .ok (.invokevirtual 306, 3) := by decide +kernel
theorem dX11_restore_46 : decode cX11_restore 46 = .ok (.aload_n 0, 1) := by decide +kernel
theorem dX11_restore_47 : decode cX11_restore 47 = .ok (.iconst 0, 1) := by decide +kernel
theorem dX11_restore_48 : decode cX11_restore 48 = .ok (.putfield 119, 3) := by decide +kernel
theorem dX11_restore_51 : decode cX11_restore 51 = .ok (.aload_n 0, 1) := by decide +kernel
theorem dX11_restore_52 : decode cX11_restore 52 = .ok (.invokevirtual 125, 3) := by decide +kernel
theorem dX11_restore_55 : decode cX11_restore 55 = .ok (.iconst 1, 1) := by decide +kernel
theorem dX11_restore_56 : decode cX11_restore 56 = .ok (.ireturn, 1) := by decide +kernel
theorem dX11_say_0 : decode cX11_say 0 = .ok (.aload_n 0, 1) := by decide +kernel
theorem dX11_say_1 : decode cX11_say 1 = .ok (.getfield 23, 3) := by decide +kernel
theorem dX11_say_4 : decode cX11_say 4 = .ok (.iload_n 1, 1) := by decide +kernel
theorem dX11_say_5 : decode cX11_say 5 = .ok (.invokevirtual 140, 3) := by decide +kernel
theorem dX11_say_8 : decode cX11_say 8 = .ok (.ifCond .ne 5, 3) := by decide +kernel
theorem dX11_say_11 : decode cX11_say 11 = .ok (.iconst (-1), 1) := by decide +kernel
theorem dX11_say_12 : decode cX11_say 12 = .ok (.ireturn, 1) := by decide +kernel
theorem dX11_say_13 : decode cX11_say 13 = .ok (.aload_n 0, 1) := by decide +kernel
theorem dX11_say_14 : decode cX11_say 14 = .ok (.invokevirtual 212, 3) := by decide +kernel
theorem dX11_say_17 : decode cX11_say 17 = .ok (.aload_n 0, 1) := by decide +kernel
theorem dX11_say_18 : decode cX11_say 18 = .ok (.getfield 47, 3) := by decide +kernel
theorem dX11_say_21 : decode cX11_say 21 = .ok (.aload_n 0, 1) := by decide +kernel
theorem dX11_say_22 : decode cX11_say 22 = .ok (.getfield 23, 3) := by decide +kernel
theorem dX11_say_25 : decode cX11_say 25 = .ok (.iload_n 1, 1) := by decide +kernel
theorem dX11_say_26 : decode cX11_say 26 = .ok (.invokevirtual 215, 3) := by decide +kernel
theorem dX11_say_29 : decode cX11_say 29 = .ok (.ireturn, 1) := by decide +kernel
theorem dX11_settled_0 : decode cX11_settled 0 = .ok (.aload_n 0, 1) := by decide +kernel
theorem dX11_settled_1 : decode cX11_settled 1 = .ok (.getfield 23, 3) := by decide +kernel
theorem dX11_settled_4 : decode cX11_settled 4 = .ok (.iload_n 1, 1) := by decide +kernel
theorem dX11_settled_5 : decode cX11_settled 5 = .ok (.invokevirtual 196, 3) := by decide +kernel
theorem dX11_settled_8 : decode cX11_settled 8 = .ok (.ifCond .ne 5, 3) := by decide +kernel
theorem dX11_settled_11 : decode cX11_settled 11 = .ok (.iconst (-1), 1) := by decide +kernel
theorem dX11_settled_12 : decode cX11_settled 12 = .ok (.ireturn, 1) := by decide +kernel
theorem dX11_settled_13 : decode cX11_settled 13 = .ok (.aload_n 0, 1) := by decide +kernel
theorem dX11_settled_14 : decode cX11_settled 14 = .ok (.getfield 78, 3) := by decide +kernel
theorem dX11_settled_17 : decode cX11_settled 17 = .ok (.aload_n 0, 1) := by decide +kernel
theorem dX11_settled_18 : decode cX11_settled 18 = .ok (.getfield 23, 3) := by decide +kernel
theorem dX11_settled_21 : decode cX11_settled 21 = .ok (.aload_n 0, 1) := by decide +kernel
theorem dX11_settled_22 : decode cX11_settled 22 = .ok (.getfield 23, 3) := by decide +kernel
theorem dX11_settled_25 : decode cX11_settled 25 = .ok (.getfield 151, 3) := by decide +kernel
theorem dX11_settled_28 : decode cX11_settled 28 = .ok (.invokevirtual 269, 3) := by decide +kernel
theorem dX11_settled_31 : decode cX11_settled 31 = .ok (.aload_n 0, 1) := by decide +kernel
theorem dX11_settled_32 : decode cX11_settled 32 = .ok (.getfield 23, 3) := by decide +kernel
theorem dX11_settled_35 : decode cX11_settled 35 = .ok (.getfield 284, 3) := by decide +kernel
theorem dX11_settled_38 : decode cX11_settled 38 = .ok (.iload_n 1, 1) := by decide +kernel
theorem dX11_settled_39 : decode cX11_settled 39 = .ok (.laload, 1) := by decide +kernel
theorem dX11_settled_40 : decode cX11_settled 40 = .ok (.lstore_n 2, 1) := by decide +kernel
theorem dX11_settled_41 : decode cX11_settled 41 = .ok (.aload_n 0, 1) := by decide +kernel
theorem dX11_settled_42 : decode cX11_settled 42 = .ok (.getfield 78, 3) := by decide +kernel
theorem dX11_settled_45 : decode cX11_settled 45 = .ok (.aload_n 0, 1) := by decide +kernel
theorem dX11_settled_46 : decode cX11_settled 46 = .ok (.getfield 47, 3) := by decide +kernel
theorem dX11_settled_49 : decode cX11_settled 49 = .ok (.getfield 185, 3) := by decide +kernel
theorem dX11_settled_52 : decode cX11_settled 52 = .ok (.lload_n 2, 1) := by decide +kernel
theorem dX11_settled_53 : decode cX11_settled 53 = .ok (.lload_n 2, 1) := by decide +kernel
theorem dX11_settled_54 : decode cX11_settled 54 = .ok (.ldc2_w 272, 3) := by decide +kernel
theorem dX11_settled_57 : decode cX11_settled 57 = .ok (.lxor, 1) := by decide +kernel
theorem dX11_settled_58 : decode cX11_settled 58 = .ok (.invokevirtual 274, 3) := by decide +kernel
theorem dX11_settled_61 : decode cX11_settled 61 = .ok (.ireturn, 1) := by decide +kernel
theorem dX11_share_0 : decode cX11_share 0 = .ok (.iload_n 1, 1) := by decide +kernel
theorem dX11_share_1 : decode cX11_share 1 = .ok (.ifCond .lt 14, 3) := by decide +kernel
theorem dX11_share_4 : decode cX11_share 4 = .ok (.iload_n 1, 1) := by decide +kernel
theorem dX11_share_5 : decode cX11_share 5 = .ok (.aload_n 0, 1) := by decide +kernel
theorem dX11_share_6 : decode cX11_share 6 = .ok (.getfield 23, 3) := by decide +kernel
theorem dX11_share_9 : decode cX11_share 9 = .ok (.getfield 174, 3) := by decide +kernel
theorem dX11_share_12 : decode cX11_share 12 = .ok (.if_icmp .lt 6, 3) := by decide +kernel
theorem dX11_share_15 : decode cX11_share 15 = .ok (.ldc 192, 2) := by decide +kernel
theorem dX11_share_17 : decode cX11_share 17 = .ok (.ireturn, 1) := by decide +kernel
theorem dX11_share_18 : decode cX11_share 18 = .ok (.aload_n 0, 1) := by decide +kernel
theorem dX11_share_19 : decode cX11_share 19 = .ok (.getfield 47, 3) := by decide +kernel
theorem dX11_share_22 : decode cX11_share 22 = .ok (.getfield 193, 3) := by decide +kernel
theorem dX11_share_25 : decode cX11_share 25 = .ok (.iload_n 1, 1) := by decide +kernel
theorem dX11_share_26 : decode cX11_share 26 = .ok (.iaload, 1) := by decide +kernel
theorem dX11_share_27 : decode cX11_share 27 = .ok (.ireturn, 1) := by decide +kernel
theorem dX11_smallest_0 : decode cX11_smallest 0 = .ok (.aload_n 0, 1) := by decide +kernel
theorem dX11_smallest_1 : decode cX11_smallest 1 = .ok (.getfield 78, 3) := by decide +kernel
theorem dX11_smallest_4 : decode cX11_smallest 4 = .ok (.aload_n 0, 1) := by decide +kernel
theorem dX11_smallest_5 : decode cX11_smallest 5 = .ok (.getfield 23, 3) := by decide +kernel
theorem dX11_smallest_8 : decode cX11_smallest 8 = .ok (.iconst 1, 1) := by decide +kernel
theorem dX11_smallest_9 : decode cX11_smallest 9 = .ok (.aload_n 0, 1) := by decide +kernel
theorem dX11_smallest_10 : decode cX11_smallest 10 = .ok (.getfield 23, 3) := by decide +kernel
theorem dX11_smallest_13 : decode cX11_smallest 13 = .ok (.getfield 266, 3) := by decide +kernel
theorem dX11_smallest_16 : decode cX11_smallest 16 = .ok (.ishl, 1) := by decide +kernel
theorem dX11_smallest_17 : decode cX11_smallest 17 = .ok (.iconst 1, 1) := by decide +kernel
theorem dX11_smallest_18 : decode cX11_smallest 18 = .ok (.isub, 1) := by decide +kernel
theorem dX11_smallest_19 : decode cX11_smallest 19 = .ok (.invokevirtual 269, 3) := by decide +kernel
theorem dX11_smallest_22 : decode cX11_smallest 22 = .ok (.aload_n 0, 1) := by decide +kernel
theorem dX11_smallest_23 : decode cX11_smallest 23 = .ok (.getfield 78, 3) := by decide +kernel
theorem dX11_smallest_26 : decode cX11_smallest 26 = .ok (.aload_n 0, 1) := by decide +kernel
theorem dX11_smallest_27 : decode cX11_smallest 27 = .ok (.getfield 47, 3) := by decide +kernel
theorem dX11_smallest_30 : decode cX11_smallest 30 = .ok (.getfield 185, 3) := by decide +kernel
theorem dX11_smallest_33 : decode cX11_smallest 33 = .ok (.ldc2_w 272, 3) := by decide +kernel
theorem dX11_smallest_36 : decode cX11_smallest 36 = .ok (.ldc2_w 272, 3) := by decide +kernel
theorem dX11_smallest_39 : decode cX11_smallest 39 = .ok (.invokevirtual 274, 3) := by decide +kernel
theorem dX11_smallest_42 : decode cX11_smallest 42 = .ok (.ireturn, 1) := by decide +kernel
theorem dX11_states_0 : decode cX11_states 0 = .ok (.aload_n 0, 1) := by decide +kernel
theorem dX11_states_1 : decode cX11_states 1 = .ok (.getfield 23, 3) := by decide +kernel
theorem dX11_states_4 : decode cX11_states 4 = .ok (.iload_n 1, 1) := by decide +kernel
theorem dX11_states_5 : decode cX11_states 5 = .ok (.invokevirtual 278, 3) := by decide +kernel
theorem dX11_states_8 : decode cX11_states 8 = .ok (.ifCond .ne 5, 3) := by decide +kernel
theorem dX11_states_11 : decode cX11_states 11 = .ok (.iconst (-1), 1) := by decide +kernel
theorem dX11_states_12 : decode cX11_states 12 = .ok (.ireturn, 1) := by decide +kernel
theorem dX11_states_13 : decode cX11_states 13 = .ok (.aload_n 0, 1) := by decide +kernel
theorem dX11_states_14 : decode cX11_states 14 = .ok (.getfield 47, 3) := by decide +kernel
theorem dX11_states_17 : decode cX11_states 17 = .ok (.getfield 185, 3) := by decide +kernel
theorem dX11_states_20 : decode cX11_states 20 = .ok (.aload_n 0, 1) := by decide +kernel
theorem dX11_states_21 : decode cX11_states 21 = .ok (.getfield 23, 3) := by decide +kernel
theorem dX11_states_24 : decode cX11_states 24 = .ok (.iload_n 1, 1) := by decide +kernel
theorem dX11_states_25 : decode cX11_states 25 = .ok (.invokevirtual 188, 3) := by decide +kernel
theorem dX11_states_28 : decode cX11_states 28 = .ok (.land, 1) := by decide +kernel
theorem dX11_states_29 : decode cX11_states 29 = .ok (.invokestatic 168, 3) := by decide +kernel
theorem dX11_states_32 : decode cX11_states 32 = .ok (.ireturn, 1) := by decide +kernel
theorem dX11_surely_0 : decode cX11_surely 0 = .ok (.iload_n 1, 1) := by decide +kernel
theorem dX11_surely_1 : decode cX11_surely 1 = .ok (.ifCond .lt 14, 3) := by decide +kernel
theorem dX11_surely_4 : decode cX11_surely 4 = .ok (.iload_n 1, 1) := by decide +kernel
theorem dX11_surely_5 : decode cX11_surely 5 = .ok (.aload_n 0, 1) := by decide +kernel
theorem dX11_surely_6 : decode cX11_surely 6 = .ok (.getfield 101, 3) := by decide +kernel
theorem dX11_surely_9 : decode cX11_surely 9 = .ok (.getfield 292, 3) := by decide +kernel
theorem dX11_surely_12 : decode cX11_surely 12 = .ok (.if_icmp .le 5, 3) := by decide +kernel
theorem dX11_surely_15 : decode cX11_surely 15 = .ok (.iconst (-1), 1) := by decide +kernel
theorem dX11_surely_16 : decode cX11_surely 16 = .ok (.ireturn, 1) := by decide +kernel
theorem dX11_surely_17 : decode cX11_surely 17 = .ok (.aload_n 0, 1) := by decide +kernel
theorem dX11_surely_18 : decode cX11_surely 18 = .ok (.getfield 101, 3) := by decide +kernel
theorem dX11_surely_21 : decode cX11_surely 21 = .ok (.aload_n 0, 1) := by decide +kernel
theorem dX11_surely_22 : decode cX11_surely 22 = .ok (.getfield 23, 3) := by decide +kernel
theorem dX11_surely_25 : decode cX11_surely 25 = .ok (.iload_n 1, 1) := by decide +kernel
theorem dX11_surely_26 : decode cX11_surely 26 = .ok (.invokevirtual 295, 3) := by decide +kernel
theorem dX11_surely_29 : decode cX11_surely 29 = .ok (.aload_n 0, 1) := by decide +kernel
theorem dX11_surely_30 : decode cX11_surely 30 = .ok (.getfield 101, 3) := by decide +kernel
theorem dX11_surely_33 : decode cX11_surely 33 = .ok (.getfield 300, 3) := by decide +kernel
theorem dX11_surely_36 : decode cX11_surely 36 = .ok (.iload_n 1, 1) := by decide +kernel
theorem dX11_surely_37 : decode cX11_surely 37 = .ok (.iaload, 1) := by decide +kernel
theorem dX11_surely_38 : decode cX11_surely 38 = .ok (.ireturn, 1) := by decide +kernel
theorem dX11_undo_0 : decode cX11_undo 0 = .ok (.aload_n 0, 1) := by decide +kernel
theorem dX11_undo_1 : decode cX11_undo 1 = .ok (.getfield 119, 3) := by decide +kernel
theorem dX11_undo_4 : decode cX11_undo 4 = .ok (.ifCond .gt 5, 3) := by decide +kernel
theorem dX11_undo_7 : decode cX11_undo 7 = .ok (.iconst 0, 1) := by decide +kernel
theorem dX11_undo_8 : decode cX11_undo 8 = .ok (.ireturn, 1) := by decide +kernel
theorem dX11_undo_9 : decode cX11_undo 9 = .ok (.aload_n 0, 1) := by decide +kernel
theorem dX11_undo_10 : decode cX11_undo 10 = .ok (.dup, 1) := by decide +kernel
theorem dX11_undo_11 : decode cX11_undo 11 = .ok (.getfield 119, 3) := by decide +kernel
theorem dX11_undo_14 : decode cX11_undo 14 = .ok (.iconst 1, 1) := by decide +kernel
theorem dX11_undo_15 : decode cX11_undo 15 = .ok (.isub, 1) := by decide +kernel
theorem dX11_undo_16 : decode cX11_undo 16 = .ok (.putfield 119, 3) := by decide +kernel
theorem dX11_undo_19 : decode cX11_undo 19 = .ok (.aload_n 0, 1) := by decide +kernel
theorem dX11_undo_20 : decode cX11_undo 20 = .ok (.aload_n 0, 1) := by decide +kernel
theorem dX11_undo_21 : decode cX11_undo 21 = .ok (.getfield 225, 3) := by decide +kernel
theorem dX11_undo_24 : decode cX11_undo 24 = .ok (.bipush 40, 2) := by decide +kernel
theorem dX11_undo_26 : decode cX11_undo 26 = .ok (.iadd, 1) := by decide +kernel
theorem dX11_undo_27 : decode cX11_undo 27 = .ok (.iconst 1, 1) := by decide +kernel
theorem dX11_undo_28 : decode cX11_undo 28 = .ok (.isub, 1) := by decide +kernel
theorem dX11_undo_29 : decode cX11_undo 29 = .ok (.bipush 40, 2) := by decide +kernel
theorem dX11_undo_31 : decode cX11_undo 31 = .ok (.irem, 1) := by decide +kernel
theorem dX11_undo_32 : decode cX11_undo 32 = .ok (.putfield 225, 3) := by decide +kernel
theorem dX11_undo_35 : decode cX11_undo 35 = .ok (.aload_n 0, 1) := by decide +kernel
theorem dX11_undo_36 : decode cX11_undo 36 = .ok (.getfield 47, 3) := by decide +kernel
theorem dX11_undo_39 : decode cX11_undo 39 = .ok (.aload_n 0, 1) := by decide +kernel
theorem dX11_undo_40 : decode cX11_undo 40 = .ok (.getfield 57, 3) := by decide +kernel
theorem dX11_undo_43 : decode cX11_undo 43 = .ok (.aload_n 0, 1) := by decide +kernel
theorem dX11_undo_44 : decode cX11_undo 44 = .ok (.getfield 225, 3) := by decide +kernel
theorem dX11_undo_47 : decode cX11_undo 47 = .ok (.aaload, 1) := by decide +kernel
theorem dX11_undo_48 : decode cX11_undo 48 = .ok (.invokevirtual 228, 3) := by decide +kernel
theorem dX11_undo_51 : decode cX11_undo 51 = .ok (.aload_n 0, 1) := by decide +kernel
theorem dX11_undo_52 : decode cX11_undo 52 = .ok (.invokevirtual 125, 3) := by decide +kernel
theorem dX11_undo_55 : decode cX11_undo 55 = .ok (.iconst 1, 1) := by decide +kernel
theorem dX11_undo_56 : decode cX11_undo 56 = .ok (.ireturn, 1) := by decide +kernel
theorem dX11_witness_0 : decode cX11_witness 0 = .ok (.iload_n 1, 1) := by decide +kernel
theorem dX11_witness_1 : decode cX11_witness 1 = .ok (.ifCond .lt 14, 3) := by decide +kernel
theorem dX11_witness_4 : decode cX11_witness 4 = .ok (.iload_n 1, 1) := by decide +kernel
theorem dX11_witness_5 : decode cX11_witness 5 = .ok (.aload_n 0, 1) := by decide +kernel
theorem dX11_witness_6 : decode cX11_witness 6 = .ok (.getfield 23, 3) := by decide +kernel
theorem dX11_witness_9 : decode cX11_witness 9 = .ok (.getfield 174, 3) := by decide +kernel
theorem dX11_witness_12 : decode cX11_witness 12 = .ok (.if_icmp .lt 5, 3) := by decide +kernel
theorem dX11_witness_15 : decode cX11_witness 15 = .ok (.iconst (-1), 1) := by decide +kernel
theorem dX11_witness_16 : decode cX11_witness 16 = .ok (.ireturn, 1) := by decide +kernel
theorem dX11_witness_17 : decode cX11_witness 17 = .ok (.aload_n 0, 1) := by decide +kernel
theorem dX11_witness_18 : decode cX11_witness 18 = .ok (.getfield 23, 3) := by decide +kernel
theorem dX11_witness_21 : decode cX11_witness 21 = .ok (.getfield 177, 3) := by decide +kernel
theorem dX11_witness_24 : decode cX11_witness 24 = .ok (.iload_n 1, 1) := by decide +kernel
theorem dX11_witness_25 : decode cX11_witness 25 = .ok (.iaload, 1) := by decide +kernel
theorem dX11_witness_26 : decode cX11_witness 26 = .ok (.istore_n 3, 1) := by decide +kernel
theorem dX11_witness_27 : decode cX11_witness 27 = .ok (.iload_n 2, 1) := by decide +kernel
theorem dX11_witness_28 : decode cX11_witness 28 = .ok (.tableswitch 108 0 3 #[32, 45, 58, 63], 32) := by decide +kernel
theorem dX11_witness_60 : decode cX11_witness 60 = .ok (.iload_n 3, 1) := by decide +kernel
theorem dX11_witness_61 : decode cX11_witness 61 = .ok (.aload_n 0, 1) := by decide +kernel
theorem dX11_witness_62 : decode cX11_witness 62 = .ok (.getfield 47, 3) := by decide +kernel
theorem dX11_witness_65 : decode cX11_witness 65 = .ok (.getfield 154, 3) := by decide +kernel
theorem dX11_witness_68 : decode cX11_witness 68 = .ok (.iand, 1) := by decide +kernel
theorem dX11_witness_69 : decode cX11_witness 69 = .ok (.invokestatic 180, 3) := by decide +kernel
theorem dX11_witness_72 : decode cX11_witness 72 = .ok (.ireturn, 1) := by decide +kernel
theorem dX11_witness_73 : decode cX11_witness 73 = .ok (.iload_n 3, 1) := by decide +kernel
theorem dX11_witness_74 : decode cX11_witness 74 = .ok (.aload_n 0, 1) := by decide +kernel
theorem dX11_witness_75 : decode cX11_witness 75 = .ok (.getfield 47, 3) := by decide +kernel
theorem dX11_witness_78 : decode cX11_witness 78 = .ok (.getfield 157, 3) := by decide +kernel
theorem dX11_witness_81 : decode cX11_witness 81 = .ok (.iand, 1) := by decide +kernel
theorem dX11_witness_82 : decode cX11_witness 82 = .ok (.invokestatic 180, 3) := by decide +kernel
theorem dX11_witness_85 : decode cX11_witness 85 = .ok (.ireturn, 1) := by decide +kernel
theorem dX11_witness_86 : decode cX11_witness 86 = .ok (.iload_n 3, 1) := by decide +kernel
theorem dX11_witness_87 : decode cX11_witness 87 = .ok (.invokestatic 180, 3) := by decide +kernel
theorem dX11_witness_90 : decode cX11_witness 90 = .ok (.ireturn, 1) := by decide +kernel
theorem dX11_witness_91 : decode cX11_witness 91 = .ok (.aload_n 0, 1) := by decide +kernel
theorem dX11_witness_92 : decode cX11_witness 92 = .ok (.getfield 47, 3) := by decide +kernel
theorem dX11_witness_95 : decode cX11_witness 95 = .ok (.getfield 185, 3) := by decide +kernel
theorem dX11_witness_98 : decode cX11_witness 98 = .ok (.aload_n 0, 1) := by decide +kernel
theorem dX11_witness_99 : decode cX11_witness 99 = .ok (.getfield 23, 3) := by decide +kernel
theorem dX11_witness_102 : decode cX11_witness 102 = .ok (.iload_n 3, 1) := by decide +kernel
theorem dX11_witness_103 : decode cX11_witness 103 = .ok (.aload_n 0, 1) := by decide +kernel
theorem dX11_witness_104 : decode cX11_witness 104 = .ok (.getfield 47, 3) := by decide +kernel
theorem dX11_witness_107 : decode cX11_witness 107 = .ok (.getfield 154, 3) := by decide +kernel
theorem dX11_witness_110 : decode cX11_witness 110 = .ok (.iand, 1) := by decide +kernel
theorem dX11_witness_111 : decode cX11_witness 111 = .ok (.aload_n 0, 1) := by decide +kernel
theorem dX11_witness_112 : decode cX11_witness 112 = .ok (.getfield 47, 3) := by decide +kernel
theorem dX11_witness_115 : decode cX11_witness 115 = .ok (.getfield 157, 3) := by decide +kernel
theorem dX11_witness_118 : decode cX11_witness 118 = .ok (.iconst (-1), 1) := by decide +kernel
theorem dX11_witness_119 : decode cX11_witness 119 = .ok (.ixor, 1) := by decide +kernel
theorem dX11_witness_120 : decode cX11_witness 120 = .ok (.iand, 1) := by decide +kernel
theorem dX11_witness_121 : decode cX11_witness 121 = .ok (.invokevirtual 188, 3) := by decide +kernel
theorem dX11_witness_124 : decode cX11_witness 124 = .ok (.land, 1) := by decide +kernel
theorem dX11_witness_125 : decode cX11_witness 125 = .ok (.lconst 0, 1) := by decide +kernel
theorem dX11_witness_126 : decode cX11_witness 126 = .ok (.lcmp, 1) := by decide +kernel
theorem dX11_witness_127 : decode cX11_witness 127 = .ok (.ifCond .eq 7, 3) := by decide +kernel
theorem dX11_witness_130 : decode cX11_witness 130 = .ok (.iconst 1, 1) := by decide +kernel
theorem dX11_witness_131 : decode cX11_witness 131 = .ok (.goto 4, 3) := by decide +kernel
theorem dX11_witness_134 : decode cX11_witness 134 = .ok (.iconst 0, 1) := by decide +kernel
theorem dX11_witness_135 : decode cX11_witness 135 = .ok (.ireturn, 1) := by decide +kernel
theorem dX11_witness_136 : decode cX11_witness 136 = .ok (.iconst (-1), 1) := by decide +kernel
theorem dX11_witness_137 : decode cX11_witness 137 = .ok (.ireturn, 1) := by decide +kernel
theorem dX11_word_0 : decode cX11_word 0 = .ok (.aload_n 0, 1) := by decide +kernel
theorem dX11_word_1 : decode cX11_word 1 = .ok (.getfield 23, 3) := by decide +kernel
theorem dX11_word_4 : decode cX11_word 4 = .ok (.iload_n 1, 1) := by decide +kernel
theorem dX11_word_5 : decode cX11_word 5 = .ok (.invokevirtual 140, 3) := by decide +kernel
theorem dX11_word_8 : decode cX11_word 8 = .ok (.ifCond .ne 5, 3) := by decide +kernel
theorem dX11_word_11 : decode cX11_word 11 = .ok (.iconst (-1), 1) := by decide +kernel
theorem dX11_word_12 : decode cX11_word 12 = .ok (.ireturn, 1) := by decide +kernel
theorem dX11_word_13 : decode cX11_word 13 = .ok (.iload_n 2, 1) := by decide +kernel
theorem dX11_word_14 : decode cX11_word 14 = .ok (.tableswitch 117 0 5 #[38, 48, 60, 72, 84, 96], 38) := by decide +kernel
theorem dX11_word_52 : decode cX11_word 52 = .ok (.aload_n 0, 1) := by decide +kernel
theorem dX11_word_53 : decode cX11_word 53 = .ok (.getfield 23, 3) := by decide +kernel
theorem dX11_word_56 : decode cX11_word 56 = .ok (.getfield 144, 3) := by decide +kernel
theorem dX11_word_59 : decode cX11_word 59 = .ok (.iload_n 1, 1) := by decide +kernel
theorem dX11_word_60 : decode cX11_word 60 = .ok (.iaload, 1) := by decide +kernel
theorem dX11_word_61 : decode cX11_word 61 = .ok (.ireturn, 1) := by decide +kernel
theorem dX11_word_62 : decode cX11_word 62 = .ok (.aload_n 0, 1) := by decide +kernel
theorem dX11_word_63 : decode cX11_word 63 = .ok (.getfield 23, 3) := by decide +kernel
theorem dX11_word_66 : decode cX11_word 66 = .ok (.getfield 148, 3) := by decide +kernel
theorem dX11_word_69 : decode cX11_word 69 = .ok (.iload_n 1, 1) := by decide +kernel
theorem dX11_word_70 : decode cX11_word 70 = .ok (.ishr, 1) := by decide +kernel
theorem dX11_word_71 : decode cX11_word 71 = .ok (.iconst 1, 1) := by decide +kernel
theorem dX11_word_72 : decode cX11_word 72 = .ok (.iand, 1) := by decide +kernel
theorem dX11_word_73 : decode cX11_word 73 = .ok (.ireturn, 1) := by decide +kernel
theorem dX11_word_74 : decode cX11_word 74 = .ok (.aload_n 0, 1) := by decide +kernel
theorem dX11_word_75 : decode cX11_word 75 = .ok (.getfield 23, 3) := by decide +kernel
theorem dX11_word_78 : decode cX11_word 78 = .ok (.getfield 151, 3) := by decide +kernel
theorem dX11_word_81 : decode cX11_word 81 = .ok (.iload_n 1, 1) := by decide +kernel
theorem dX11_word_82 : decode cX11_word 82 = .ok (.ishr, 1) := by decide +kernel
theorem dX11_word_83 : decode cX11_word 83 = .ok (.iconst 1, 1) := by decide +kernel
theorem dX11_word_84 : decode cX11_word 84 = .ok (.iand, 1) := by decide +kernel
theorem dX11_word_85 : decode cX11_word 85 = .ok (.ireturn, 1) := by decide +kernel
theorem dX11_word_86 : decode cX11_word 86 = .ok (.aload_n 0, 1) := by decide +kernel
theorem dX11_word_87 : decode cX11_word 87 = .ok (.getfield 47, 3) := by decide +kernel
theorem dX11_word_90 : decode cX11_word 90 = .ok (.getfield 154, 3) := by decide +kernel
theorem dX11_word_93 : decode cX11_word 93 = .ok (.iload_n 1, 1) := by decide +kernel
theorem dX11_word_94 : decode cX11_word 94 = .ok (.ishr, 1) := by decide +kernel
theorem dX11_word_95 : decode cX11_word 95 = .ok (.iconst 1, 1) := by decide +kernel
theorem dX11_word_96 : decode cX11_word 96 = .ok (.iand, 1) := by decide +kernel
theorem dX11_word_97 : decode cX11_word 97 = .ok (.ireturn, 1) := by decide +kernel
theorem dX11_word_98 : decode cX11_word 98 = .ok (.aload_n 0, 1) := by decide +kernel
theorem dX11_word_99 : decode cX11_word 99 = .ok (.getfield 47, 3) := by decide +kernel
theorem dX11_word_102 : decode cX11_word 102 = .ok (.getfield 157, 3) := by decide +kernel
theorem dX11_word_105 : decode cX11_word 105 = .ok (.iload_n 1, 1) := by decide +kernel
theorem dX11_word_106 : decode cX11_word 106 = .ok (.ishr, 1) := by decide +kernel
theorem dX11_word_107 : decode cX11_word 107 = .ok (.iconst 1, 1) := by decide +kernel
theorem dX11_word_108 : decode cX11_word 108 = .ok (.iand, 1) := by decide +kernel
theorem dX11_word_109 : decode cX11_word 109 = .ok (.ireturn, 1) := by decide +kernel
theorem dX11_word_110 : decode cX11_word 110 = .ok (.aload_n 0, 1) := by decide +kernel
theorem dX11_word_111 : decode cX11_word 111 = .ok (.getfield 23, 3) := by decide +kernel
theorem dX11_word_114 : decode cX11_word 114 = .ok (.getfield 160, 3) := by decide +kernel
theorem dX11_word_117 : decode cX11_word 117 = .ok (.iload_n 1, 1) := by decide +kernel
theorem dX11_word_118 : decode cX11_word 118 = .ok (.laload, 1) := by decide +kernel
theorem dX11_word_119 : decode cX11_word 119 = .ok (.aload_n 0, 1) := by decide +kernel
theorem dX11_word_120 : decode cX11_word 120 = .ok (.getfield 23, 3) := by decide +kernel
theorem dX11_word_123 : decode cX11_word 123 = .ok (.getfield 164, 3) := by decide +kernel
theorem dX11_word_126 : decode cX11_word 126 = .ok (.land, 1) := by decide +kernel
theorem dX11_word_127 : decode cX11_word 127 = .ok (.invokestatic 168, 3) := by decide +kernel
theorem dX11_word_130 : decode cX11_word 130 = .ok (.ireturn, 1) := by decide +kernel
theorem dX11_word_131 : decode cX11_word 131 = .ok (.iconst (-1), 1) := by decide +kernel
theorem dX11_word_132 : decode cX11_word 132 = .ok (.ireturn, 1) := by decide +kernel
theorem dX11_would_0 : decode cX11_would 0 = .ok (.aload_n 0, 1) := by decide +kernel
theorem dX11_would_1 : decode cX11_would 1 = .ok (.getfield 23, 3) := by decide +kernel
theorem dX11_would_4 : decode cX11_would 4 = .ok (.iload_n 1, 1) := by decide +kernel
theorem dX11_would_5 : decode cX11_would 5 = .ok (.invokevirtual 140, 3) := by decide +kernel
theorem dX11_would_8 : decode cX11_would 8 = .ok (.ifCond .ne 6, 3) := by decide +kernel
theorem dX11_would_11 : decode cX11_would 11 = .ok (.ldc 192, 2) := by decide +kernel
theorem dX11_would_13 : decode cX11_would 13 = .ok (.ireturn, 1) := by decide +kernel
theorem dX11_would_14 : decode cX11_would 14 = .ok (.aload_n 0, 1) := by decide +kernel
theorem dX11_would_15 : decode cX11_would 15 = .ok (.getfield 54, 3) := by decide +kernel
theorem dX11_would_18 : decode cX11_would 18 = .ok (.aload_n 0, 1) := by decide +kernel
theorem dX11_would_19 : decode cX11_would 19 = .ok (.getfield 47, 3) := by decide +kernel
theorem dX11_would_22 : decode cX11_would 22 = .ok (.invokevirtual 232, 3) := by decide +kernel
theorem dX11_would_25 : decode cX11_would 25 = .ok (.aload_n 0, 1) := by decide +kernel
theorem dX11_would_26 : decode cX11_would 26 = .ok (.getfield 54, 3) := by decide +kernel
theorem dX11_would_29 : decode cX11_would 29 = .ok (.aload_n 0, 1) := by decide +kernel
theorem dX11_would_30 : decode cX11_would 30 = .ok (.getfield 23, 3) := by decide +kernel
theorem dX11_would_33 : decode cX11_would 33 = .ok (.iload_n 1, 1) := by decide +kernel
theorem dX11_would_34 : decode cX11_would 34 = .ok (.invokevirtual 215, 3) := by decide +kernel
theorem dX11_would_37 : decode cX11_would 37 = .ok (.pop, 1) := by decide +kernel
theorem dX11_would_38 : decode cX11_would 38 = .ok (.aload_n 0, 1) := by decide +kernel
theorem dX11_would_39 : decode cX11_would 39 = .ok (.getfield 54, 3) := by decide +kernel
theorem dX11_would_42 : decode cX11_would 42 = .ok (.getfield 128, 3) := by decide +kernel
theorem dX11_would_45 : decode cX11_would 45 = .ok (.ireturn, 1) := by decide +kernel
theorem dX11_write_0 : decode cX11_write 0 = .ok (.iload_n 1, 1) := by decide +kernel
theorem dX11_write_1 : decode cX11_write 1 = .ok (.ldc_w 287, 3) := by decide +kernel
theorem dX11_write_4 : decode cX11_write 4 = .ok (.if_icmp .lt 10, 3) := by decide +kernel
theorem dX11_write_7 : decode cX11_write 7 = .ok (.iload_n 1, 1) := by decide +kernel
theorem dX11_write_8 : decode cX11_write 8 = .ok (.ldc_w 288, 3) := by decide +kernel
theorem dX11_write_11 : decode cX11_write 11 = .ok (.if_icmp .le 5, 3) := by decide +kernel
theorem dX11_write_14 : decode cX11_write 14 = .ok (.iconst (-1), 1) := by decide +kernel
theorem dX11_write_15 : decode cX11_write 15 = .ok (.ireturn, 1) := by decide +kernel
theorem dX11_write_16 : decode cX11_write 16 = .ok (.aload_n 0, 1) := by decide +kernel
theorem dX11_write_17 : decode cX11_write 17 = .ok (.getfield 101, 3) := by decide +kernel
theorem dX11_write_20 : decode cX11_write 20 = .ok (.iload_n 1, 1) := by decide +kernel
theorem dX11_write_21 : decode cX11_write 21 = .ok (.invokevirtual 289, 3) := by decide +kernel
theorem dX11_write_24 : decode cX11_write 24 = .ok (.ireturn, 1) := by decide +kernel
theorem dX1_add_0 : decode cX1_add 0 = .ok (.aload_n 0, 1) := by decide +kernel
theorem dX1_add_1 : decode cX1_add 1 = .ok (.getfield 42, 3) := by decide +kernel
theorem dX1_add_4 : decode cX1_add 4 = .ok (.iconst 5, 1) := by decide +kernel
theorem dX1_add_5 : decode cX1_add 5 = .ok (.if_icmp .lt 5, 3) := by decide +kernel
theorem dX1_add_8 : decode cX1_add 8 = .ok (.iconst (-1), 1) := by decide +kernel
theorem dX1_add_9 : decode cX1_add 9 = .ok (.ireturn, 1) := by decide +kernel
theorem dX1_add_10 : decode cX1_add 10 = .ok (.aload_n 0, 1) := by decide +kernel
theorem dX1_add_11 : decode cX1_add 11 = .ok (.getfield 20, 3) := by decide +kernel
theorem dX1_add_14 : decode cX1_add 14 = .ok (.aload_n 0, 1) := by decide +kernel
theorem dX1_add_15 : decode cX1_add 15 = .ok (.getfield 42, 3) := by decide +kernel
theorem dX1_add_18 : decode cX1_add 18 = .ok (.iload_n 1, 1) := by decide +kernel
theorem dX1_add_19 : decode cX1_add 19 = .ok (.iastore, 1) := by decide +kernel
theorem dX1_add_20 : decode cX1_add 20 = .ok (.aload_n 0, 1) := by decide +kernel
theorem dX1_add_21 : decode cX1_add 21 = .ok (.dup, 1) := by decide +kernel
theorem dX1_add_22 : decode cX1_add 22 = .ok (.getfield 42, 3) := by decide +kernel
theorem dX1_add_25 : decode cX1_add 25 = .ok (.iconst 1, 1) := by decide +kernel
theorem dX1_add_26 : decode cX1_add 26 = .ok (.iadd, 1) := by decide +kernel
theorem dX1_add_27 : decode cX1_add 27 = .ok (.putfield 42, 3) := by decide +kernel
theorem dX1_add_30 : decode cX1_add 30 = .ok (.aload_n 0, 1) := by decide +kernel
theorem dX1_add_31 : decode cX1_add 31 = .ok (.getfield 42, 3) := by decide +kernel
theorem dX1_add_34 : decode cX1_add 34 = .ok (.iconst 1, 1) := by decide +kernel
theorem dX1_add_35 : decode cX1_add 35 = .ok (.isub, 1) := by decide +kernel
theorem dX1_add_36 : decode cX1_add 36 = .ok (.ireturn, 1) := by decide +kernel
theorem dX1_clear_0 : decode cX1_clear 0 = .ok (.aload_n 0, 1) := by decide +kernel
theorem dX1_clear_1 : decode cX1_clear 1 = .ok (.iconst 0, 1) := by decide +kernel
theorem dX1_clear_2 : decode cX1_clear 2 = .ok (.putfield 42, 3) := by decide +kernel
theorem dX1_clear_5 : decode cX1_clear 5 = .ok (.iconst 0, 1) := by decide +kernel
theorem dX1_clear_6 : decode cX1_clear 6 = .ok (.istore_n 1, 1) := by decide +kernel
theorem dX1_clear_7 : decode cX1_clear 7 = .ok (.iload_n 1, 1) := by decide +kernel
theorem dX1_clear_8 : decode cX1_clear 8 = .ok (.iconst 5, 1) := by decide +kernel
theorem dX1_clear_9 : decode cX1_clear 9 = .ok (.if_icmp .gt 16, 3) := by decide +kernel
theorem dX1_clear_12 : decode cX1_clear 12 = .ok (.aload_n 0, 1) := by decide +kernel
theorem dX1_clear_13 : decode cX1_clear 13 = .ok (.getfield 24, 3) := by decide +kernel
theorem dX1_clear_16 : decode cX1_clear 16 = .ok (.iload_n 1, 1) := by decide +kernel
theorem dX1_clear_17 : decode cX1_clear 17 = .ok (.iconst 0, 1) := by decide +kernel
theorem dX1_clear_18 : decode cX1_clear 18 = .ok (.bastore, 1) := by decide +kernel
theorem dX1_clear_19 : decode cX1_clear 19 = .ok (.iinc 1 1, 3) := by decide +kernel
theorem dX1_clear_22 : decode cX1_clear 22 = .ok (.goto (-15), 3) := by decide +kernel
theorem dX1_clear_25 : decode cX1_clear 25 = .ok (.return_, 1) := by decide +kernel
theorem dX1_expand_0 : decode cX1_expand 0 = .ok (.aload_n 0, 1) := by decide +kernel
theorem dX1_expand_1 : decode cX1_expand 1 = .ok (.getfield 38, 3) := by decide +kernel
theorem dX1_expand_4 : decode cX1_expand 4 = .ok (.getfield 72, 3) := by decide +kernel
theorem dX1_expand_7 : decode cX1_expand 7 = .ok (.iload_n 2, 1) := by decide +kernel
theorem dX1_expand_8 : decode cX1_expand 8 = .ok (.iaload, 1) := by decide +kernel
theorem dX1_expand_9 : decode cX1_expand 9 = .ok (.ldc 74, 2) := by decide +kernel
theorem dX1_expand_11 : decode cX1_expand 11 = .ok (.iand, 1) := by decide +kernel
theorem dX1_expand_12 : decode cX1_expand 12 = .ok (.istore 6, 2) := by decide +kernel
theorem dX1_expand_14 : decode cX1_expand 14 = .ok (.iload 6, 2) := by decide +kernel
theorem dX1_expand_16 : decode cX1_expand 16 = .ok (.iload 6, 2) := by decide +kernel
theorem dX1_expand_18 : decode cX1_expand 18 = .ok (.ineg, 1) := by decide +kernel
theorem dX1_expand_19 : decode cX1_expand 19 = .ok (.iand, 1) := by decide +kernel
theorem dX1_expand_20 : decode cX1_expand 20 = .ok (.istore 7, 2) := by decide +kernel
theorem dX1_expand_22 : decode cX1_expand 22 = .ok (.aload_n 0, 1) := by decide +kernel
theorem dX1_expand_23 : decode cX1_expand 23 = .ok (.getfield 38, 3) := by decide +kernel
theorem dX1_expand_26 : decode cX1_expand 26 = .ok (.getfield 75, 3) := by decide +kernel
theorem dX1_expand_29 : decode cX1_expand 29 = .ok (.iload_n 2, 1) := by decide +kernel
theorem dX1_expand_30 : decode cX1_expand 30 = .ok (.laload, 1) := by decide +kernel
theorem dX1_expand_31 : decode cX1_expand 31 = .ok (.lstore 8, 2) := by decide +kernel
theorem dX1_expand_33 : decode cX1_expand 33 = .ok (.iconst 0, 1) := by decide +kernel
theorem dX1_expand_34 : decode cX1_expand 34 = .ok (.istore 10, 2) := by decide +kernel
theorem dX1_expand_36 : decode cX1_expand 36 = .ok (.iload 10, 2) := by decide +kernel
theorem dX1_expand_38 : decode cX1_expand 38 = .ok (.aload_n 1, 1) := by decide +kernel
theorem dX1_expand_39 : decode cX1_expand 39 = .ok (.getfield 46, 3) := by decide +kernel
theorem dX1_expand_42 : decode cX1_expand 42 = .ok (.if_icmp .ge 183, 3) := by decide +kernel
theorem dX1_expand_45 : decode cX1_expand 45 = .ok (.iload 6, 2) := by decide +kernel
theorem dX1_expand_47 : decode cX1_expand 47 = .ok (.iload 10, 2) := by decide +kernel
theorem dX1_expand_49 : decode cX1_expand 49 = .ok (.ishr, 1) := by decide +kernel
theorem dX1_expand_50 : decode cX1_expand 50 = .ok (.iconst 1, 1) := by decide +kernel
theorem dX1_expand_51 : decode cX1_expand 51 = .ok (.iand, 1) := by decide +kernel
theorem dX1_expand_52 : decode cX1_expand 52 = .ok (.ifCond .eq 7, 3) := by decide +kernel
theorem dX1_expand_55 : decode cX1_expand 55 = .ok (.iconst 1, 1) := by decide +kernel
theorem dX1_expand_56 : decode cX1_expand 56 = .ok (.goto 4, 3) := by decide +kernel
theorem dX1_expand_59 : decode cX1_expand 59 = .ok (.iconst 0, 1) := by decide +kernel
theorem dX1_expand_60 : decode cX1_expand 60 = .ok (.istore 11, 2) := by decide +kernel
theorem dX1_expand_62 : decode cX1_expand 62 = .ok (.iload 11, 2) := by decide +kernel
theorem dX1_expand_64 : decode cX1_expand 64 = .ok (.ifCond .eq 15, 3) := by decide +kernel
theorem dX1_expand_67 : decode cX1_expand 67 = .ok (.iconst 1, 1) := by decide +kernel
theorem dX1_expand_68 : decode cX1_expand 68 = .ok (.iload 10, 2) := by decide +kernel
theorem dX1_expand_70 : decode cX1_expand 70 = .ok (.ishl, 1) := by decide +kernel
theorem dX1_expand_71 : decode cX1_expand 71 = .ok (.iload 7, 2) := by decide +kernel
theorem dX1_expand_73 : decode cX1_expand 73 = .ok (.if_icmp .eq 6, 3) := by decide +kernel
theorem dX1_expand_76 : decode cX1_expand 76 = .ok (.goto 143, 3) := by decide +kernel
theorem dX1_expand_79 : decode cX1_expand 79 = .ok (.aload_n 0, 1) := by decide +kernel
theorem dX1_expand_80 : decode cX1_expand 80 = .ok (.getfield 38, 3) := by decide +kernel
theorem dX1_expand_83 : decode cX1_expand 83 = .ok (.iload_n 2, 1) := by decide +kernel
theorem dX1_expand_84 : decode cX1_expand 84 = .ok (.aload_n 0, 1) := by decide +kernel
theorem dX1_expand_85 : decode cX1_expand 85 = .ok (.getfield 14, 3) := by decide +kernel
theorem dX1_expand_88 : decode cX1_expand 88 = .ok (.invokevirtual 76, 3) := by decide +kernel
theorem dX1_expand_91 : decode cX1_expand 91 = .ok (.aload_n 0, 1) := by decide +kernel
theorem dX1_expand_92 : decode cX1_expand 92 = .ok (.getfield 14, 3) := by decide +kernel
theorem dX1_expand_95 : decode cX1_expand 95 = .ok (.aload_n 1, 1) := by decide +kernel
theorem dX1_expand_96 : decode cX1_expand 96 = .ok (.iload 10, 2) := by decide +kernel
theorem dX1_expand_98 : decode cX1_expand 98 = .ok (.invokevirtual 80, 3) := by decide +kernel
theorem dX1_expand_101 : decode cX1_expand 101 = .ok (.pop, 1) := by decide +kernel
theorem dX1_expand_102 : decode cX1_expand 102 = .ok (.aload_n 0, 1) := by decide +kernel
theorem dX1_expand_103 : decode cX1_expand 103 = .ok (.getfield 14, 3) := by decide +kernel
theorem dX1_expand_106 : decode cX1_expand 106 = .ok (.getfield 84, 3) := by decide +kernel
theorem dX1_expand_109 : decode cX1_expand 109 = .ok (.aload_n 0, 1) := by decide +kernel
theorem dX1_expand_110 : decode cX1_expand 110 = .ok (.getfield 20, 3) := by decide +kernel
theorem dX1_expand_113 : decode cX1_expand 113 = .ok (.iload_n 3, 1) := by decide +kernel
theorem dX1_expand_114 : decode cX1_expand 114 = .ok (.iconst 1, 1) := by decide +kernel
theorem dX1_expand_115 : decode cX1_expand 115 = .ok (.isub, 1) := by decide +kernel
theorem dX1_expand_116 : decode cX1_expand 116 = .ok (.iaload, 1) := by decide +kernel
theorem dX1_expand_117 : decode cX1_expand 117 = .ok (.if_icmp .eq 6, 3) := by decide +kernel
theorem dX1_expand_120 : decode cX1_expand 120 = .ok (.goto 99, 3) := by decide +kernel
theorem dX1_expand_123 : decode cX1_expand 123 = .ok (.iload 11, 2) := by decide +kernel
theorem dX1_expand_125 : decode cX1_expand 125 = .ok (.ifCond .eq 15, 3) := by decide +kernel
theorem dX1_expand_128 : decode cX1_expand 128 = .ok (.lload 8, 2) := by decide +kernel
theorem dX1_expand_130 : decode cX1_expand 130 = .ok (.iload 6, 2) := by decide +kernel
theorem dX1_expand_132 : decode cX1_expand 132 = .ok (.invokestatic 87, 3) := by decide +kernel
theorem dX1_expand_135 : decode cX1_expand 135 = .ok (.i2l, 1) := by decide +kernel
theorem dX1_expand_136 : decode cX1_expand 136 = .ok (.lmul, 1) := by decide +kernel
theorem dX1_expand_137 : decode cX1_expand 137 = .ok (.goto 5, 3) := by decide +kernel
theorem dX1_expand_140 : decode cX1_expand 140 = .ok (.lload 8, 2) := by decide +kernel
theorem dX1_expand_142 : decode cX1_expand 142 = .ok (.lstore 12, 2) := by decide +kernel
theorem dX1_expand_144 : decode cX1_expand 144 = .ok (.iload_n 3, 1) := by decide +kernel
theorem dX1_expand_145 : decode cX1_expand 145 = .ok (.iload 4, 2) := by decide +kernel
theorem dX1_expand_147 : decode cX1_expand 147 = .ok (.if_icmp .ge 22, 3) := by decide +kernel
theorem dX1_expand_150 : decode cX1_expand 150 = .ok (.aload_n 0, 1) := by decide +kernel
theorem dX1_expand_151 : decode cX1_expand 151 = .ok (.getfield 38, 3) := by decide +kernel
