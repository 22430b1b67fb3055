theorem dJ0_coder_7d493_0 : decode cJ0_coder_7d493 0 = .ok (.getstatic 38, 3) := by decide +kernel
theorem dJ0_coder_7d493_3 : decode cJ0_coder_7d493 3 = .ok (.ifCond .eq 10, 3) := by decide +kernel
theorem dJ0_coder_7d493_6 : decode cJ0_coder_7d493 6 = .ok (.aload_n 0, 1) := by decide +kernel
theorem dJ0_coder_7d493_7 : decode cJ0_coder_7d493 7 = .ok (.getfield 15, 3) := by decide +kernel
theorem dJ0_coder_7d493_10 : decode cJ0_coder_7d493 10 = .ok (.goto 4, 3) := by decide +kernel
theorem dJ0_coder_7d493_13 : decode cJ0_coder_7d493 13 = .ok (.iconst 1, 1) := by decide +kernel
theorem dJ0_coder_7d493_14 : decode cJ0_coder_7d493 14 = .ok (.ireturn, 1) := by decide +kernel
theorem dJ0_indexOf_0f7a4_0 : decode cJ0_indexOf_0f7a4 0 = .ok (.aload_n 0, 1) := by decide +kernel
theorem dJ0_indexOf_0f7a4_1 : decode cJ0_indexOf_0f7a4 1 = .ok (.iload_n 1, 1) := by decide +kernel
theorem dJ0_indexOf_0f7a4_2 : decode cJ0_indexOf_0f7a4 2 = .ok (.iconst 0, 1) := by decide +kernel
theorem dJ0_indexOf_0f7a4_3 : decode cJ0_indexOf_0f7a4 3 = .ok (.invokevirtual 633, 3) := by decide +kernel
theorem dJ0_indexOf_0f7a4_6 : decode cJ0_indexOf_0f7a4 6 = .ok (.ireturn, 1) := by decide +kernel
theorem dJ0_indexOf_7cf53_0 : decode cJ0_indexOf_7cf53 0 = .ok (.aload_n 0, 1) := by decide +kernel
theorem dJ0_indexOf_7cf53_1 : decode cJ0_indexOf_7cf53 1 = .ok (.invokevirtual 492, 3) := by decide +kernel
theorem dJ0_indexOf_7cf53_4 : decode cJ0_indexOf_7cf53 4 = .ok (.ifCond .eq 19, 3) := by decide +kernel
theorem dJ0_indexOf_7cf53_7 : decode cJ0_indexOf_7cf53 7 = .ok (.aload_n 0, 1) := by decide +kernel
theorem dJ0_indexOf_7cf53_8 : decode cJ0_indexOf_7cf53 8 = .ok (.getfield 9, 3) := by decide +kernel
theorem dJ0_indexOf_7cf53_11 : decode cJ0_indexOf_7cf53 11 = .ok (.iload_n 1, 1) := by decide +kernel
theorem dJ0_indexOf_7cf53_12 : decode cJ0_indexOf_7cf53 12 = .ok (.iload_n 2, 1) := by decide +kernel
theorem dJ0_indexOf_7cf53_13 : decode cJ0_indexOf_7cf53 13 = .ok (.aload_n 0, 1) := by decide +kernel
theorem dJ0_indexOf_7cf53_14 : decode cJ0_indexOf_7cf53 14 = .ok (.invokevirtual 505, 3) := by decide +kernel
theorem dJ0_indexOf_7cf53_17 : decode cJ0_indexOf_7cf53 17 = .ok (.invokestatic 637, 3) := by decide +kernel
theorem dJ0_indexOf_7cf53_20 : decode cJ0_indexOf_7cf53 20 = .ok (.goto 16, 3) := by decide +kernel
theorem dJ0_indexOf_7cf53_23 : decode cJ0_indexOf_7cf53 23 = .ok (.aload_n 0, 1) := by decide +kernel
theorem dJ0_indexOf_7cf53_24 : decode cJ0_indexOf_7cf53 24 = .ok (.getfield 9, 3) := by decide +kernel
theorem dJ0_indexOf_7cf53_27 : decode cJ0_indexOf_7cf53 27 = .ok (.iload_n 1, 1) := by decide +kernel
theorem dJ0_indexOf_7cf53_28 : decode cJ0_indexOf_7cf53 28 = .ok (.iload_n 2, 1) := by decide +kernel
theorem dJ0_indexOf_7cf53_29 : decode cJ0_indexOf_7cf53 29 = .ok (.aload_n 0, 1) := by decide +kernel
theorem dJ0_indexOf_7cf53_30 : decode cJ0_indexOf_7cf53 30 = .ok (.invokevirtual 505, 3) := by decide +kernel
theorem dJ0_indexOf_7cf53_33 : decode cJ0_indexOf_7cf53 33 = .ok (.invokestatic 640, 3) := by decide +kernel
theorem dJ0_indexOf_7cf53_36 : decode cJ0_indexOf_7cf53 36 = .ok (.ireturn, 1) := by decide +kernel
theorem dJ0_isLatin1_aae02_0 : decode cJ0_isLatin1_aae02 0 = .ok (.getstatic 38, 3) := by decide +kernel
theorem dJ0_isLatin1_aae02_3 : decode cJ0_isLatin1_aae02 3 = .ok (.ifCond .eq 14, 3) := by decide +kernel
theorem dJ0_isLatin1_aae02_6 : decode cJ0_isLatin1_aae02 6 = .ok (.aload_n 0, 1) := by decide +kernel
theorem dJ0_isLatin1_aae02_7 : decode cJ0_isLatin1_aae02 7 = .ok (.getfield 15, 3) := by decide +kernel
theorem dJ0_isLatin1_aae02_10 : decode cJ0_isLatin1_aae02 10 = .ok (.ifCond .ne 7, 3) := by decide +kernel
theorem dJ0_isLatin1_aae02_13 : decode cJ0_isLatin1_aae02 13 = .ok (.iconst 1, 1) := by decide +kernel
theorem dJ0_isLatin1_aae02_14 : decode cJ0_isLatin1_aae02 14 = .ok (.goto 4, 3) := by decide +kernel
theorem dJ0_isLatin1_aae02_17 : decode cJ0_isLatin1_aae02 17 = .ok (.iconst 0, 1) := by decide +kernel
theorem dJ0_isLatin1_aae02_18 : decode cJ0_isLatin1_aae02 18 = .ok (.ireturn, 1) := by decide +kernel
theorem dJ0_length_8abf5_0 : decode cJ0_length_8abf5 0 = .ok (.aload_n 0, 1) := by decide +kernel
theorem dJ0_length_8abf5_1 : decode cJ0_length_8abf5 1 = .ok (.getfield 9, 3) := by decide +kernel
theorem dJ0_length_8abf5_4 : decode cJ0_length_8abf5 4 = .ok (.arraylength, 1) := by decide +kernel
theorem dJ0_length_8abf5_5 : decode cJ0_length_8abf5 5 = .ok (.aload_n 0, 1) := by decide +kernel
theorem dJ0_length_8abf5_6 : decode cJ0_length_8abf5 6 = .ok (.invokevirtual 335, 3) := by decide +kernel
theorem dJ0_length_8abf5_9 : decode cJ0_length_8abf5 9 = .ok (.ishr, 1) := by decide +kernel
theorem dJ0_length_8abf5_10 : decode cJ0_length_8abf5 10 = .ok (.ireturn, 1) := by decide +kernel
theorem dJ1_canEncode_9a6ad_0 : decode cJ1_canEncode_9a6ad 0 = .ok (.iload_n 0, 1) := by decide +kernel
theorem dJ1_canEncode_9a6ad_1 : decode cJ1_canEncode_9a6ad 1 = .ok (.ifCond .lt 14, 3) := by decide +kernel
theorem dJ1_canEncode_9a6ad_4 : decode cJ1_canEncode_9a6ad 4 = .ok (.iload_n 0, 1) := by decide +kernel
theorem dJ1_canEncode_9a6ad_5 : decode cJ1_canEncode_9a6ad 5 = .ok (.sipush 255, 3) := by decide +kernel
theorem dJ1_canEncode_9a6ad_8 : decode cJ1_canEncode_9a6ad 8 = .ok (.if_icmp .gt 7, 3) := by decide +kernel
theorem dJ1_canEncode_9a6ad_11 : decode cJ1_canEncode_9a6ad 11 = .ok (.iconst 1, 1) := by decide +kernel
theorem dJ1_canEncode_9a6ad_12 : decode cJ1_canEncode_9a6ad 12 = .ok (.goto 4, 3) := by decide +kernel
theorem dJ1_canEncode_9a6ad_15 : decode cJ1_canEncode_9a6ad 15 = .ok (.iconst 0, 1) := by decide +kernel
theorem dJ1_canEncode_9a6ad_16 : decode cJ1_canEncode_9a6ad 16 = .ok (.ireturn, 1) := by decide +kernel
theorem dJ1_indexOfChar_4cfef_0 : decode cJ1_indexOfChar_4cfef 0 = .ok (.iload_n 1, 1) := by decide +kernel
theorem dJ1_indexOfChar_4cfef_1 : decode cJ1_indexOfChar_4cfef 1 = .ok (.i2b, 1) := by decide +kernel
theorem dJ1_indexOfChar_4cfef_2 : decode cJ1_indexOfChar_4cfef 2 = .ok (.istore 4, 2) := by decide +kernel
theorem dJ1_indexOfChar_4cfef_4 : decode cJ1_indexOfChar_4cfef 4 = .ok (.iload_n 2, 1) := by decide +kernel
theorem dJ1_indexOfChar_4cfef_5 : decode cJ1_indexOfChar_4cfef 5 = .ok (.istore 5, 2) := by decide +kernel
theorem dJ1_indexOfChar_4cfef_7 : decode cJ1_indexOfChar_4cfef 7 = .ok (.iload 5, 2) := by decide +kernel
theorem dJ1_indexOfChar_4cfef_9 : decode cJ1_indexOfChar_4cfef 9 = .ok (.iload_n 3, 1) := by decide +kernel
theorem dJ1_indexOfChar_4cfef_10 : decode cJ1_indexOfChar_4cfef 10 = .ok (.if_icmp .ge 21, 3) := by decide +kernel
theorem dJ1_indexOfChar_4cfef_13 : decode cJ1_indexOfChar_4cfef 13 = .ok (.aload_n 0, 1) := by decide +kernel
theorem dJ1_indexOfChar_4cfef_14 : decode cJ1_indexOfChar_4cfef 14 = .ok (.iload 5, 2) := by decide +kernel
theorem dJ1_indexOfChar_4cfef_16 : decode cJ1_indexOfChar_4cfef 16 = .ok (.baload, 1) := by decide +kernel
theorem dJ1_indexOfChar_4cfef_17 : decode cJ1_indexOfChar_4cfef 17 = .ok (.iload 4, 2) := by decide +kernel
theorem dJ1_indexOfChar_4cfef_19 : decode cJ1_indexOfChar_4cfef 19 = .ok (.if_icmp .ne 6, 3) := by decide +kernel
theorem dJ1_indexOfChar_4cfef_22 : decode cJ1_indexOfChar_4cfef 22 = .ok (.iload 5, 2) := by decide +kernel
theorem dJ1_indexOfChar_4cfef_24 : decode cJ1_indexOfChar_4cfef 24 = .ok (.ireturn, 1) := by decide +kernel
theorem dJ1_indexOfChar_4cfef_25 : decode cJ1_indexOfChar_4cfef 25 = .ok (.iinc 5 1, 3) := by decide +kernel
theorem dJ1_indexOfChar_4cfef_28 : decode cJ1_indexOfChar_4cfef 28 = .ok (.goto (-21), 3) := by decide +kernel
theorem dJ1_indexOfChar_4cfef_31 : decode cJ1_indexOfChar_4cfef 31 = .ok (.iconst (-1), 1) := by decide +kernel
theorem dJ1_indexOfChar_4cfef_32 : decode cJ1_indexOfChar_4cfef 32 = .ok (.ireturn, 1) := by decide +kernel
theorem dJ1_indexOf_4cfef_0 : decode cJ1_indexOf_4cfef 0 = .ok (.iload_n 1, 1) := by decide +kernel
theorem dJ1_indexOf_4cfef_1 : decode cJ1_indexOf_4cfef 1 = .ok (.invokestatic 88, 3) := by decide +kernel
theorem dJ1_indexOf_4cfef_4 : decode cJ1_indexOf_4cfef 4 = .ok (.ifCond .ne 5, 3) := by decide +kernel
theorem dJ1_indexOf_4cfef_7 : decode cJ1_indexOf_4cfef 7 = .ok (.iconst (-1), 1) := by decide +kernel
theorem dJ1_indexOf_4cfef_8 : decode cJ1_indexOf_4cfef 8 = .ok (.ireturn, 1) := by decide +kernel
theorem dJ1_indexOf_4cfef_9 : decode cJ1_indexOf_4cfef 9 = .ok (.iload_n 2, 1) := by decide +kernel
theorem dJ1_indexOf_4cfef_10 : decode cJ1_indexOf_4cfef 10 = .ok (.iconst 0, 1) := by decide +kernel
theorem dJ1_indexOf_4cfef_11 : decode cJ1_indexOf_4cfef 11 = .ok (.invokestatic 92, 3) := by decide +kernel
theorem dJ1_indexOf_4cfef_14 : decode cJ1_indexOf_4cfef 14 = .ok (.istore_n 2, 1) := by decide +kernel
theorem dJ1_indexOf_4cfef_15 : decode cJ1_indexOf_4cfef 15 = .ok (.iload_n 3, 1) := by decide +kernel
theorem dJ1_indexOf_4cfef_16 : decode cJ1_indexOf_4cfef 16 = .ok (.aload_n 0, 1) := by decide +kernel
theorem dJ1_indexOf_4cfef_17 : decode cJ1_indexOf_4cfef 17 = .ok (.arraylength, 1) := by decide +kernel
theorem dJ1_indexOf_4cfef_18 : decode cJ1_indexOf_4cfef 18 = .ok (.invokestatic 38, 3) := by decide +kernel
theorem dJ1_indexOf_4cfef_21 : decode cJ1_indexOf_4cfef 21 = .ok (.istore_n 3, 1) := by decide +kernel
theorem dJ1_indexOf_4cfef_22 : decode cJ1_indexOf_4cfef 22 = .ok (.iload_n 2, 1) := by decide +kernel
theorem dJ1_indexOf_4cfef_23 : decode cJ1_indexOf_4cfef 23 = .ok (.iload_n 3, 1) := by decide +kernel
theorem dJ1_indexOf_4cfef_24 : decode cJ1_indexOf_4cfef 24 = .ok (.if_icmp .lt 5, 3) := by decide +kernel
theorem dJ1_indexOf_4cfef_27 : decode cJ1_indexOf_4cfef 27 = .ok (.iconst (-1), 1) := by decide +kernel
theorem dJ1_indexOf_4cfef_28 : decode cJ1_indexOf_4cfef 28 = .ok (.ireturn, 1) := by decide +kernel
theorem dJ1_indexOf_4cfef_29 : decode cJ1_indexOf_4cfef 29 = .ok (.aload_n 0, 1) := by decide +kernel
theorem dJ1_indexOf_4cfef_30 : decode cJ1_indexOf_4cfef 30 = .ok (.iload_n 1, 1) := by decide +kernel
theorem dJ1_indexOf_4cfef_31 : decode cJ1_indexOf_4cfef 31 = .ok (.iload_n 2, 1) := by decide +kernel
theorem dJ1_indexOf_4cfef_32 : decode cJ1_indexOf_4cfef 32 = .ok (.iload_n 3, 1) := by decide +kernel
theorem dJ1_indexOf_4cfef_33 : decode cJ1_indexOf_4cfef 33 = .ok (.invokestatic 95, 3) := by decide +kernel
theorem dJ1_indexOf_4cfef_36 : decode cJ1_indexOf_4cfef 36 = .ok (.ireturn, 1) := by decide +kernel
theorem dJ6_bitCount_0f7a4_0 : decode cJ6_bitCount_0f7a4 0 = .ok (.iload_n 0, 1) := by decide +kernel
theorem dJ6_bitCount_0f7a4_1 : decode cJ6_bitCount_0f7a4 1 = .ok (.iload_n 0, 1) := by decide +kernel
theorem dJ6_bitCount_0f7a4_2 : decode cJ6_bitCount_0f7a4 2 = .ok (.iconst 1, 1) := by decide +kernel
theorem dJ6_bitCount_0f7a4_3 : decode cJ6_bitCount_0f7a4 3 = .ok (.iushr, 1) := by decide +kernel
theorem dJ6_bitCount_0f7a4_4 : decode cJ6_bitCount_0f7a4 4 = .ok (.ldc_w 265, 3) := by decide +kernel
theorem dJ6_bitCount_0f7a4_7 : decode cJ6_bitCount_0f7a4 7 = .ok (.iand, 1) := by decide +kernel
theorem dJ6_bitCount_0f7a4_8 : decode cJ6_bitCount_0f7a4 8 = .ok (.isub, 1) := by decide +kernel
theorem dJ6_bitCount_0f7a4_9 : decode cJ6_bitCount_0f7a4 9 = .ok (.istore_n 0, 1) := by decide +kernel
theorem dJ6_bitCount_0f7a4_10 : decode cJ6_bitCount_0f7a4 10 = .ok (.iload_n 0, 1) := by decide +kernel
theorem dJ6_bitCount_0f7a4_11 : decode cJ6_bitCount_0f7a4 11 = .ok (.ldc_w 266, 3) := by decide +kernel
theorem dJ6_bitCount_0f7a4_14 : decode cJ6_bitCount_0f7a4 14 = .ok (.iand, 1) := by decide +kernel
theorem dJ6_bitCount_0f7a4_15 : decode cJ6_bitCount_0f7a4 15 = .ok (.iload_n 0, 1) := by decide +kernel
theorem dJ6_bitCount_0f7a4_16 : decode cJ6_bitCount_0f7a4 16 = .ok (.iconst 2, 1) := by decide +kernel
theorem dJ6_bitCount_0f7a4_17 : decode cJ6_bitCount_0f7a4 17 = .ok (.iushr, 1) := by decide +kernel
theorem dJ6_bitCount_0f7a4_18 : decode cJ6_bitCount_0f7a4 18 = .ok (.ldc_w 266, 3) := by decide +kernel
theorem dJ6_bitCount_0f7a4_21 : decode cJ6_bitCount_0f7a4 21 = .ok (.iand, 1) := by decide +kernel
theorem dJ6_bitCount_0f7a4_22 : decode cJ6_bitCount_0f7a4 22 = .ok (.iadd, 1) := by decide +kernel
theorem dJ6_bitCount_0f7a4_23 : decode cJ6_bitCount_0f7a4 23 = .ok (.istore_n 0, 1) := by decide +kernel
theorem dJ6_bitCount_0f7a4_24 : decode cJ6_bitCount_0f7a4 24 = .ok (.iload_n 0, 1) := by decide +kernel
theorem dJ6_bitCount_0f7a4_25 : decode cJ6_bitCount_0f7a4 25 = .ok (.iload_n 0, 1) := by decide +kernel
theorem dJ6_bitCount_0f7a4_26 : decode cJ6_bitCount_0f7a4 26 = .ok (.iconst 4, 1) := by decide +kernel
theorem dJ6_bitCount_0f7a4_27 : decode cJ6_bitCount_0f7a4 27 = .ok (.iushr, 1) := by decide +kernel
theorem dJ6_bitCount_0f7a4_28 : decode cJ6_bitCount_0f7a4 28 = .ok (.iadd, 1) := by decide +kernel
theorem dJ6_bitCount_0f7a4_29 : decode cJ6_bitCount_0f7a4 29 = .ok (.ldc_w 267, 3) := by decide +kernel
theorem dJ6_bitCount_0f7a4_32 : decode cJ6_bitCount_0f7a4 32 = .ok (.iand, 1) := by decide +kernel
theorem dJ6_bitCount_0f7a4_33 : decode cJ6_bitCount_0f7a4 33 = .ok (.istore_n 0, 1) := by decide +kernel
theorem dJ6_bitCount_0f7a4_34 : decode cJ6_bitCount_0f7a4 34 = .ok (.iload_n 0, 1) := by decide +kernel
theorem dJ6_bitCount_0f7a4_35 : decode cJ6_bitCount_0f7a4 35 = .ok (.iload_n 0, 1) := by decide +kernel
theorem dJ6_bitCount_0f7a4_36 : decode cJ6_bitCount_0f7a4 36 = .ok (.bipush 8, 2) := by decide +kernel
theorem dJ6_bitCount_0f7a4_38 : decode cJ6_bitCount_0f7a4 38 = .ok (.iushr, 1) := by decide +kernel
theorem dJ6_bitCount_0f7a4_39 : decode cJ6_bitCount_0f7a4 39 = .ok (.iadd, 1) := by decide +kernel
theorem dJ6_bitCount_0f7a4_40 : decode cJ6_bitCount_0f7a4 40 = .ok (.istore_n 0, 1) := by decide +kernel
theorem dJ6_bitCount_0f7a4_41 : decode cJ6_bitCount_0f7a4 41 = .ok (.iload_n 0, 1) := by decide +kernel
theorem dJ6_bitCount_0f7a4_42 : decode cJ6_bitCount_0f7a4 42 = .ok (.iload_n 0, 1) := by decide +kernel
theorem dJ6_bitCount_0f7a4_43 : decode cJ6_bitCount_0f7a4 43 = .ok (.bipush 16, 2) := by decide +kernel
theorem dJ6_bitCount_0f7a4_45 : decode cJ6_bitCount_0f7a4 45 = .ok (.iushr, 1) := by decide +kernel
theorem dJ6_bitCount_0f7a4_46 : decode cJ6_bitCount_0f7a4 46 = .ok (.iadd, 1) := by decide +kernel
theorem dJ6_bitCount_0f7a4_47 : decode cJ6_bitCount_0f7a4 47 = .ok (.istore_n 0, 1) := by decide +kernel
theorem dJ6_bitCount_0f7a4_48 : decode cJ6_bitCount_0f7a4 48 = .ok (.iload_n 0, 1) := by decide +kernel
theorem dJ6_bitCount_0f7a4_49 : decode cJ6_bitCount_0f7a4 49 = .ok (.bipush 63, 2) := by decide +kernel
theorem dJ6_bitCount_0f7a4_51 : decode cJ6_bitCount_0f7a4 51 = .ok (.iand, 1) := by decide +kernel
theorem dJ6_bitCount_0f7a4_52 : decode cJ6_bitCount_0f7a4 52 = .ok (.ireturn, 1) := by decide +kernel
theorem dJ9_floorMod_7cf53_0 : decode cJ9_floorMod_7cf53 0 = .ok (.iload_n 0, 1) := by decide +kernel
theorem dJ9_floorMod_7cf53_1 : decode cJ9_floorMod_7cf53 1 = .ok (.iload_n 1, 1) := by decide +kernel
theorem dJ9_floorMod_7cf53_2 : decode cJ9_floorMod_7cf53 2 = .ok (.irem, 1) := by decide +kernel
theorem dJ9_floorMod_7cf53_3 : decode cJ9_floorMod_7cf53 3 = .ok (.istore_n 2, 1) := by decide +kernel
theorem dJ9_floorMod_7cf53_4 : decode cJ9_floorMod_7cf53 4 = .ok (.iload_n 0, 1) := by decide +kernel
theorem dJ9_floorMod_7cf53_5 : decode cJ9_floorMod_7cf53 5 = .ok (.iload_n 1, 1) := by decide +kernel
theorem dJ9_floorMod_7cf53_6 : decode cJ9_floorMod_7cf53 6 = .ok (.ixor, 1) := by decide +kernel
theorem dJ9_floorMod_7cf53_7 : decode cJ9_floorMod_7cf53 7 = .ok (.ifCond .ge 11, 3) := by decide +kernel
theorem dJ9_floorMod_7cf53_10 : decode cJ9_floorMod_7cf53 10 = .ok (.iload_n 2, 1) := by decide +kernel
theorem dJ9_floorMod_7cf53_11 : decode cJ9_floorMod_7cf53 11 = .ok (.ifCond .eq 7, 3) := by decide +kernel
theorem dJ9_floorMod_7cf53_14 : decode cJ9_floorMod_7cf53 14 = .ok (.iload_n 2, 1) := by decide +kernel
theorem dJ9_floorMod_7cf53_15 : decode cJ9_floorMod_7cf53 15 = .ok (.iload_n 1, 1) := by decide +kernel
theorem dJ9_floorMod_7cf53_16 : decode cJ9_floorMod_7cf53 16 = .ok (.iadd, 1) := by decide +kernel
theorem dJ9_floorMod_7cf53_17 : decode cJ9_floorMod_7cf53 17 = .ok (.ireturn, 1) := by decide +kernel
theorem dJ9_floorMod_7cf53_18 : decode cJ9_floorMod_7cf53 18 = .ok (.iload_n 2, 1) := by decide +kernel
theorem dJ9_floorMod_7cf53_19 : decode cJ9_floorMod_7cf53 19 = .ok (.ireturn, 1) := by decide +kernel
theorem dX10_addCase_0 : decode cX10_addCase 0 = .ok (.aload_n 0, 1) := by decide +kernel
theorem dX10_addCase_1 : decode cX10_addCase 1 = .ok (.getfield 69, 3) := by decide +kernel
theorem dX10_addCase_4 : decode cX10_addCase 4 = .ok (.bipush 8, 2) := by decide +kernel
theorem dX10_addCase_6 : decode cX10_addCase 6 = .ok (.if_icmp .ge 44, 3) := by decide +kernel
theorem dX10_addCase_9 : decode cX10_addCase 9 = .ok (.aload_n 0, 1) := by decide +kernel
theorem dX10_addCase_10 : decode cX10_addCase 10 = .ok (.getfield 28, 3) := by decide +kernel
theorem dX10_addCase_13 : decode cX10_addCase 13 = .ok (.aload_n 0, 1) := by decide +kernel
theorem dX10_addCase_14 : decode cX10_addCase 14 = .ok (.getfield 69, 3) := by decide +kernel
theorem dX10_addCase_17 : decode cX10_addCase 17 = .ok (.lload_n 1, 1) := by decide +kernel
theorem dX10_addCase_18 : decode cX10_addCase 18 = .ok (.lastore, 1) := by decide +kernel
theorem dX10_addCase_19 : decode cX10_addCase 19 = .ok (.aload_n 0, 1) := by decide +kernel
theorem dX10_addCase_20 : decode cX10_addCase 20 = .ok (.getfield 31, 3) := by decide +kernel
theorem dX10_addCase_23 : decode cX10_addCase 23 = .ok (.aload_n 0, 1) := by decide +kernel
theorem dX10_addCase_24 : decode cX10_addCase 24 = .ok (.getfield 69, 3) := by decide +kernel
theorem dX10_addCase_27 : decode cX10_addCase 27 = .ok (.iload_n 3, 1) := by decide +kernel
theorem dX10_addCase_28 : decode cX10_addCase 28 = .ok (.iastore, 1) := by decide +kernel
theorem dX10_addCase_29 : decode cX10_addCase 29 = .ok (.aload_n 0, 1) := by decide +kernel
theorem dX10_addCase_30 : decode cX10_addCase 30 = .ok (.getfield 34, 3) := by decide +kernel
theorem dX10_addCase_33 : decode cX10_addCase 33 = .ok (.aload_n 0, 1) := by decide +kernel
theorem dX10_addCase_34 : decode cX10_addCase 34 = .ok (.getfield 69, 3) := by decide +kernel
theorem dX10_addCase_37 : decode cX10_addCase 37 = .ok (.lload 4, 2) := by decide +kernel
theorem dX10_addCase_39 : decode cX10_addCase 39 = .ok (.lastore, 1) := by decide +kernel
theorem dX10_addCase_40 : decode cX10_addCase 40 = .ok (.aload_n 0, 1) := by decide +kernel
theorem dX10_addCase_41 : decode cX10_addCase 41 = .ok (.dup, 1) := by decide +kernel
theorem dX10_addCase_42 : decode cX10_addCase 42 = .ok (.getfield 69, 3) := by decide +kernel
theorem dX10_addCase_45 : decode cX10_addCase 45 = .ok (.iconst 1, 1) := by decide +kernel
theorem dX10_addCase_46 : decode cX10_addCase 46 = .ok (.iadd, 1) := by decide +kernel
theorem dX10_addCase_47 : decode cX10_addCase 47 = .ok (.putfield 69, 3) := by decide +kernel
theorem dX10_addCase_50 : decode cX10_addCase 50 = .ok (.return_, 1) := by decide +kernel
theorem dX10_addFact_0 : decode cX10_addFact 0 = .ok (.aload_n 0, 1) := by decide +kernel
theorem dX10_addFact_1 : decode cX10_addFact 1 = .ok (.getfield 47, 3) := by decide +kernel
theorem dX10_addFact_4 : decode cX10_addFact 4 = .ok (.bipush 6, 2) := by decide +kernel
theorem dX10_addFact_6 : decode cX10_addFact 6 = .ok (.if_icmp .ge 70, 3) := by decide +kernel
theorem dX10_addFact_9 : decode cX10_addFact 9 = .ok (.aload_n 0, 1) := by decide +kernel
theorem dX10_addFact_10 : decode cX10_addFact 10 = .ok (.getfield 9, 3) := by decide +kernel
theorem dX10_addFact_13 : decode cX10_addFact 13 = .ok (.aload_n 0, 1) := by decide +kernel
theorem dX10_addFact_14 : decode cX10_addFact 14 = .ok (.getfield 47, 3) := by decide +kernel
theorem dX10_addFact_17 : decode cX10_addFact 17 = .ok (.lload_n 1, 1) := by decide +kernel
theorem dX10_addFact_18 : decode cX10_addFact 18 = .ok (.lastore, 1) := by decide +kernel
theorem dX10_addFact_19 : decode cX10_addFact 19 = .ok (.aload_n 0, 1) := by decide +kernel
theorem dX10_addFact_20 : decode cX10_addFact 20 = .ok (.dup, 1) := by decide +kernel
theorem dX10_addFact_21 : decode cX10_addFact 21 = .ok (.getfield 51, 3) := by decide +kernel
theorem dX10_addFact_24 : decode cX10_addFact 24 = .ok (.iload_n 3, 1) := by decide +kernel
theorem dX10_addFact_25 : decode cX10_addFact 25 = .ok (.ifCond .eq 12, 3) := by decide +kernel
theorem dX10_addFact_28 : decode cX10_addFact 28 = .ok (.iconst 1, 1) := by decide +kernel
theorem dX10_addFact_29 : decode cX10_addFact 29 = .ok (.aload_n 0, 1) := by decide +kernel
theorem dX10_addFact_30 : decode cX10_addFact 30 = .ok (.getfield 47, 3) := by decide +kernel
theorem dX10_addFact_33 : decode cX10_addFact 33 = .ok (.ishl, 1) := by decide +kernel
theorem dX10_addFact_34 : decode cX10_addFact 34 = .ok (.goto 4, 3) := by decide +kernel
theorem dX10_addFact_37 : decode cX10_addFact 37 = .ok (.iconst 0, 1) := by decide +kernel
theorem dX10_addFact_38 : decode cX10_addFact 38 = .ok (.ior, 1) := by decide +kernel
theorem dX10_addFact_39 : decode cX10_addFact 39 = .ok (.putfield 51, 3) := by decide +kernel
theorem dX10_addFact_42 : decode cX10_addFact 42 = .ok (.aload_n 0, 1) := by decide +kernel
theorem dX10_addFact_43 : decode cX10_addFact 43 = .ok (.dup, 1) := by decide +kernel
theorem dX10_addFact_44 : decode cX10_addFact 44 = .ok (.getfield 54, 3) := by decide +kernel
theorem dX10_addFact_47 : decode cX10_addFact 47 = .ok (.iload 4, 2) := by decide +kernel
theorem dX10_addFact_49 : decode cX10_addFact 49 = .ok (.ifCond .eq 12, 3) := by decide +kernel
theorem dX10_addFact_52 : decode cX10_addFact 52 = .ok (.iconst 1, 1) := by decide +kernel
theorem dX10_addFact_53 : decode cX10_addFact 53 = .ok (.aload_n 0, 1) := by decide +kernel
theorem dX10_addFact_54 : decode cX10_addFact 54 = .ok (.getfield 47, 3) := by decide +kernel
theorem dX10_addFact_57 : decode cX10_addFact 57 = .ok (.ishl, 1) := by decide +kernel
theorem dX10_addFact_58 : decode cX10_addFact 58 = .ok (.goto 4, 3) := by decide +kernel
theorem dX10_addFact_61 : decode cX10_addFact 61 = .ok (.iconst 0, 1) := by decide +kernel
theorem dX10_addFact_62 : decode cX10_addFact 62 = .ok (.ior, 1) := by decide +kernel
theorem dX10_addFact_63 : decode cX10_addFact 63 = .ok (.putfield 54, 3) := by decide +kernel
theorem dX10_addFact_66 : decode cX10_addFact 66 = .ok (.aload_n 0, 1) := by decide +kernel
theorem dX10_addFact_67 : decode cX10_addFact 67 = .ok (.dup, 1) := by decide +kernel
theorem dX10_addFact_68 : decode cX10_addFact 68 = .ok (.getfield 47, 3) := by decide +kernel
theorem dX10_addFact_71 : decode cX10_addFact 71 = .ok (.iconst 1, 1) := by decide +kernel
theorem dX10_addFact_72 : decode cX10_addFact 72 = .ok (.iadd, 1) := by decide +kernel
theorem dX10_addFact_73 : decode cX10_addFact 73 = .ok (.putfield 47, 3) := by decide +kernel
theorem dX10_addFact_76 : decode cX10_addFact 76 = .ok (.return_, 1) := by decide +kernel
theorem dX10_addWitness_0 : decode cX10_addWitness 0 = .ok (.aload_n 0, 1) := by decide +kernel
theorem dX10_addWitness_1 : decode cX10_addWitness 1 = .ok (.getfield 57, 3) := by decide +kernel
theorem dX10_addWitness_4 : decode cX10_addWitness 4 = .ok (.bipush 6, 2) := by decide +kernel
theorem dX10_addWitness_6 : decode cX10_addWitness 6 = .ok (.if_icmp .ge 33, 3) := by decide +kernel
theorem dX10_addWitness_9 : decode cX10_addWitness 9 = .ok (.aload_n 0, 1) := by decide +kernel
theorem dX10_addWitness_10 : decode cX10_addWitness 10 = .ok (.getfield 15, 3) := by decide +kernel
theorem dX10_addWitness_13 : decode cX10_addWitness 13 = .ok (.aload_n 0, 1) := by decide +kernel
theorem dX10_addWitness_14 : decode cX10_addWitness 14 = .ok (.getfield 57, 3) := by decide +kernel
theorem dX10_addWitness_17 : decode cX10_addWitness 17 = .ok (.lload_n 1, 1) := by decide +kernel
theorem dX10_addWitness_18 : decode cX10_addWitness 18 = .ok (.lastore, 1) := by decide +kernel
theorem dX10_addWitness_19 : decode cX10_addWitness 19 = .ok (.aload_n 0, 1) := by decide +kernel
theorem dX10_addWitness_20 : decode cX10_addWitness 20 = .ok (.getfield 18, 3) := by decide +kernel
theorem dX10_addWitness_23 : decode cX10_addWitness 23 = .ok (.aload_n 0, 1) := by decide +kernel
theorem dX10_addWitness_24 : decode cX10_addWitness 24 = .ok (.getfield 57, 3) := by decide +kernel
theorem dX10_addWitness_27 : decode cX10_addWitness 27 = .ok (.iconst 0, 1) := by decide +kernel
theorem dX10_addWitness_28 : decode cX10_addWitness 28 = .ok (.iastore, 1) := by decide +kernel
theorem dX10_addWitness_29 : decode cX10_addWitness 29 = .ok (.aload_n 0, 1) := by decide +kernel
theorem dX10_addWitness_30 : decode cX10_addWitness 30 = .ok (.dup, 1) := by decide +kernel
theorem dX10_addWitness_31 : decode cX10_addWitness 31 = .ok (.getfield 57, 3) := by decide +kernel
theorem dX10_addWitness_34 : decode cX10_addWitness 34 = .ok (.iconst 1, 1) := by decide +kernel
theorem dX10_addWitness_35 : decode cX10_addWitness 35 = .ok (.iadd, 1) := by decide +kernel
theorem dX10_addWitness_36 : decode cX10_addWitness 36 = .ok (.putfield 57, 3) := by decide +kernel
theorem dX10_addWitness_39 : decode cX10_addWitness 39 = .ok (.return_, 1) := by decide +kernel
theorem dX10_addWord_0 : decode cX10_addWord 0 = .ok (.aload_n 0, 1) := by decide +kernel
theorem dX10_addWord_1 : decode cX10_addWord 1 = .ok (.getfield 60, 3) := by decide +kernel
theorem dX10_addWord_4 : decode cX10_addWord 4 = .ok (.bipush 16, 2) := by decide +kernel
theorem dX10_addWord_6 : decode cX10_addWord 6 = .ok (.if_icmp .ge 71, 3) := by decide +kernel
theorem dX10_addWord_9 : decode cX10_addWord 9 = .ok (.iload_n 1, 1) := by decide +kernel
theorem dX10_addWord_10 : decode cX10_addWord 10 = .ok (.ifCond .lt 67, 3) := by decide +kernel
theorem dX10_addWord_13 : decode cX10_addWord 13 = .ok (.iload_n 1, 1) := by decide +kernel
theorem dX10_addWord_14 : decode cX10_addWord 14 = .ok (.bipush 6, 2) := by decide +kernel
theorem dX10_addWord_16 : decode cX10_addWord 16 = .ok (.if_icmp .ge 61, 3) := by decide +kernel
theorem dX10_addWord_19 : decode cX10_addWord 19 = .ok (.aload_n 0, 1) := by decide +kernel
theorem dX10_addWord_20 : decode cX10_addWord 20 = .ok (.getfield 22, 3) := by decide +kernel
theorem dX10_addWord_23 : decode cX10_addWord 23 = .ok (.aload_n 0, 1) := by decide +kernel
theorem dX10_addWord_24 : decode cX10_addWord 24 = .ok (.getfield 60, 3) := by decide +kernel
theorem dX10_addWord_27 : decode cX10_addWord 27 = .ok (.iload_n 1, 1) := by decide +kernel
theorem dX10_addWord_28 : decode cX10_addWord 28 = .ok (.iastore, 1) := by decide +kernel
theorem dX10_addWord_29 : decode cX10_addWord 29 = .ok (.aload_n 0, 1) := by decide +kernel
theorem dX10_addWord_30 : decode cX10_addWord 30 = .ok (.getfield 18, 3) := by decide +kernel
theorem dX10_addWord_33 : decode cX10_addWord 33 = .ok (.iload_n 1, 1) := by decide +kernel
theorem dX10_addWord_34 : decode cX10_addWord 34 = .ok (.dup2, 1) := by decide +kernel
theorem dX10_addWord_35 : decode cX10_addWord 35 = .ok (.iaload, 1) := by decide +kernel
theorem dX10_addWord_36 : decode cX10_addWord 36 = .ok (.iconst 1, 1) := by decide +kernel
theorem dX10_addWord_37 : decode cX10_addWord 37 = .ok (.aload_n 0, 1) := by decide +kernel
theorem dX10_addWord_38 : decode cX10_addWord 38 = .ok (.getfield 60, 3) := by decide +kernel
theorem dX10_addWord_41 : decode cX10_addWord 41 = .ok (.ishl, 1) := by decide +kernel
theorem dX10_addWord_42 : decode cX10_addWord 42 = .ok (.ior, 1) := by decide +kernel
theorem dX10_addWord_43 : decode cX10_addWord 43 = .ok (.iastore, 1) := by decide +kernel
theorem dX10_addWord_44 : decode cX10_addWord 44 = .ok (.aload_n 0, 1) := by decide +kernel
theorem dX10_addWord_45 : decode cX10_addWord 45 = .ok (.dup, 1) := by decide +kernel
theorem dX10_addWord_46 : decode cX10_addWord 46 = .ok (.getfield 63, 3) := by decide +kernel
theorem dX10_addWord_49 : decode cX10_addWord 49 = .ok (.iload_n 2, 1) := by decide +kernel
theorem dX10_addWord_50 : decode cX10_addWord 50 = .ok (.ifCond .eq 12, 3) := by decide +kernel
theorem dX10_addWord_53 : decode cX10_addWord 53 = .ok (.iconst 1, 1) := by decide +kernel
theorem dX10_addWord_54 : decode cX10_addWord 54 = .ok (.aload_n 0, 1) := by decide +kernel
theorem dX10_addWord_55 : decode cX10_addWord 55 = .ok (.getfield 60, 3) := by decide +kernel
theorem dX10_addWord_58 : decode cX10_addWord 58 = .ok (.ishl, 1) := by decide +kernel
theorem dX10_addWord_59 : decode cX10_addWord 59 = .ok (.goto 4, 3) := by decide +kernel
theorem dX10_addWord_62 : decode cX10_addWord 62 = .ok (.iconst 0, 1) := by decide +kernel
theorem dX10_addWord_63 : decode cX10_addWord 63 = .ok (.ior, 1) := by decide +kernel
theorem dX10_addWord_64 : decode cX10_addWord 64 = .ok (.putfield 63, 3) := by decide +kernel
theorem dX10_addWord_67 : decode cX10_addWord 67 = .ok (.aload_n 0, 1) := by decide +kernel
theorem dX10_addWord_68 : decode cX10_addWord 68 = .ok (.getfield 25, 3) := by decide +kernel
theorem dX10_addWord_71 : decode cX10_addWord 71 = .ok (.aload_n 0, 1) := by decide +kernel
theorem dX10_addWord_72 : decode cX10_addWord 72 = .ok (.getfield 60, 3) := by decide +kernel
theorem dX10_addWord_75 : decode cX10_addWord 75 = .ok (.lload_n 3, 1) := by decide +kernel
theorem dX10_addWord_76 : decode cX10_addWord 76 = .ok (.lastore, 1) := by decide +kernel
theorem dX10_addWord_77 : decode cX10_addWord 77 = .ok (.aload_n 0, 1) := by decide +kernel
theorem dX10_addWord_78 : decode cX10_addWord 78 = .ok (.aload_n 0, 1) := by decide +kernel
theorem dX10_addWord_79 : decode cX10_addWord 79 = .ok (.getfield 60, 3) := by decide +kernel
theorem dX10_addWord_82 : decode cX10_addWord 82 = .ok (.iconst 1, 1) := by decide +kernel
theorem dX10_addWord_83 : decode cX10_addWord 83 = .ok (.iadd, 1) := by decide +kernel
theorem dX10_addWord_84 : decode cX10_addWord 84 = .ok (.bipush 16, 2) := by decide +kernel
theorem dX10_addWord_86 : decode cX10_addWord 86 = .ok (.invokestatic 95, 3) := by decide +kernel
theorem dX10_addWord_89 : decode cX10_addWord 89 = .ok (.putfield 60, 3) := by decide +kernel
theorem dX10_addWord_92 : decode cX10_addWord 92 = .ok (.return_, 1) := by decide +kernel
theorem dX10_asItIs_0 : decode cX10_asItIs 0 = .ok (.iload_n 1, 1) := by decide +kernel
theorem dX10_asItIs_1 : decode cX10_asItIs 1 = .ok (.ifCond .lt 9, 3) := by decide +kernel
theorem dX10_asItIs_4 : decode cX10_asItIs 4 = .ok (.iload_n 1, 1) := by decide +kernel
theorem dX10_asItIs_5 : decode cX10_asItIs 5 = .ok (.bipush 6, 2) := by decide +kernel
theorem dX10_asItIs_7 : decode cX10_asItIs 7 = .ok (.if_icmp .lt 8, 3) := by decide +kernel
theorem dX10_asItIs_10 : decode cX10_asItIs 10 = .ok (.aload_n 0, 1) := by decide +kernel
theorem dX10_asItIs_11 : decode cX10_asItIs 11 = .ok (.getfield 80, 3) := by decide +kernel
theorem dX10_asItIs_14 : decode cX10_asItIs 14 = .ok (.lreturn, 1) := by decide +kernel
theorem dX10_asItIs_15 : decode cX10_asItIs 15 = .ok (.aload_n 0, 1) := by decide +kernel
theorem dX10_asItIs_16 : decode cX10_asItIs 16 = .ok (.getfield 51, 3) := by decide +kernel
theorem dX10_asItIs_19 : decode cX10_asItIs 19 = .ok (.iload_n 1, 1) := by decide +kernel
theorem dX10_asItIs_20 : decode cX10_asItIs 20 = .ok (.ishr, 1) := by decide +kernel
theorem dX10_asItIs_21 : decode cX10_asItIs 21 = .ok (.iconst 1, 1) := by decide +kernel
theorem dX10_asItIs_22 : decode cX10_asItIs 22 = .ok (.iand, 1) := by decide +kernel
theorem dX10_asItIs_23 : decode cX10_asItIs 23 = .ok (.ifCond .eq 11, 3) := by decide +kernel
theorem dX10_asItIs_26 : decode cX10_asItIs 26 = .ok (.getstatic 112, 3) := by decide +kernel
theorem dX10_asItIs_29 : decode cX10_asItIs 29 = .ok (.iload_n 1, 1) := by decide +kernel
theorem dX10_asItIs_30 : decode cX10_asItIs 30 = .ok (.laload, 1) := by decide +kernel
theorem dX10_asItIs_31 : decode cX10_asItIs 31 = .ok (.goto 12, 3) := by decide +kernel
theorem dX10_asItIs_34 : decode cX10_asItIs 34 = .ok (.getstatic 112, 3) := by decide +kernel
theorem dX10_asItIs_37 : decode cX10_asItIs 37 = .ok (.iload_n 1, 1) := by decide +kernel
theorem dX10_asItIs_38 : decode cX10_asItIs 38 = .ok (.laload, 1) := by decide +kernel
theorem dX10_asItIs_39 : decode cX10_asItIs 39 = .ok (.ldc2_w 78, 3) := by decide +kernel
theorem dX10_asItIs_42 : decode cX10_asItIs 42 = .ok (.lxor, 1) := by decide +kernel
theorem dX10_asItIs_43 : decode cX10_asItIs 43 = .ok (.lreturn, 1) := by decide +kernel
theorem dX10_clear_0 : decode cX10_clear 0 = .ok (.aload_n 0, 1) := by decide +kernel
theorem dX10_clear_1 : decode cX10_clear 1 = .ok (.iconst 0, 1) := by decide +kernel
theorem dX10_clear_2 : decode cX10_clear 2 = .ok (.putfield 47, 3) := by decide +kernel
theorem dX10_clear_5 : decode cX10_clear 5 = .ok (.aload_n 0, 1) := by decide +kernel
theorem dX10_clear_6 : decode cX10_clear 6 = .ok (.iconst 0, 1) := by decide +kernel
theorem dX10_clear_7 : decode cX10_clear 7 = .ok (.putfield 51, 3) := by decide +kernel
theorem dX10_clear_10 : decode cX10_clear 10 = .ok (.aload_n 0, 1) := by decide +kernel
theorem dX10_clear_11 : decode cX10_clear 11 = .ok (.iconst 0, 1) := by decide +kernel
theorem dX10_clear_12 : decode cX10_clear 12 = .ok (.putfield 54, 3) := by decide +kernel
theorem dX10_clear_15 : decode cX10_clear 15 = .ok (.aload_n 0, 1) := by decide +kernel
theorem dX10_clear_16 : decode cX10_clear 16 = .ok (.iconst 0, 1) := by decide +kernel
theorem dX10_clear_17 : decode cX10_clear 17 = .ok (.putfield 57, 3) := by decide +kernel
theorem dX10_clear_20 : decode cX10_clear 20 = .ok (.aload_n 0, 1) := by decide +kernel
theorem dX10_clear_21 : decode cX10_clear 21 = .ok (.iconst 0, 1) := by decide +kernel
theorem dX10_clear_22 : decode cX10_clear 22 = .ok (.putfield 60, 3) := by decide +kernel
theorem dX10_clear_25 : decode cX10_clear 25 = .ok (.aload_n 0, 1) := by decide +kernel
theorem dX10_clear_26 : decode cX10_clear 26 = .ok (.iconst 0, 1) := by decide +kernel
theorem dX10_clear_27 : decode cX10_clear 27 = .ok (.putfield 63, 3) := by decide +kernel
theorem dX10_clear_30 : decode cX10_clear 30 = .ok (.aload_n 0, 1) := by decide +kernel
theorem dX10_clear_31 : decode cX10_clear 31 = .ok (.iconst 0, 1) := by decide +kernel
theorem dX10_clear_32 : decode cX10_clear 32 = .ok (.putfield 66, 3) := by decide +kernel
theorem dX10_clear_35 : decode cX10_clear 35 = .ok (.aload_n 0, 1) := by decide +kernel
theorem dX10_clear_36 : decode cX10_clear 36 = .ok (.iconst 0, 1) := by decide +kernel
theorem dX10_clear_37 : decode cX10_clear 37 = .ok (.putfield 69, 3) := by decide +kernel
theorem dX10_clear_40 : decode cX10_clear 40 = .ok (.aload_n 0, 1) := by decide +kernel
theorem dX10_clear_41 : decode cX10_clear 41 = .ok (.iconst 0, 1) := by decide +kernel
theorem dX10_clear_42 : decode cX10_clear 42 = .ok (.putfield 72, 3) := by decide +kernel
theorem dX10_clear_45 : decode cX10_clear 45 = .ok (.aload_n 0, 1) := by decide +kernel
theorem dX10_clear_46 : decode cX10_clear 46 = .ok (.getfield 40, 3) := by decide +kernel
theorem dX10_clear_49 : decode cX10_clear 49 = .ok (.invokevirtual 75, 3) := by decide +kernel
theorem dX10_clear_52 : decode cX10_clear 52 = .ok (.aload_n 0, 1) := by decide +kernel
theorem dX10_clear_53 : decode cX10_clear 53 = .ok (.getfield 44, 3) := by decide +kernel
theorem dX10_clear_56 : decode cX10_clear 56 = .ok (.invokevirtual 75, 3) := by decide +kernel
theorem dX10_clear_59 : decode cX10_clear 59 = .ok (.return_, 1) := by decide +kernel
theorem dX10_factNamed_0 : decode cX10_factNamed 0 = .ok (.aload_n 0, 1) := by decide +kernel
theorem dX10_factNamed_1 : decode cX10_factNamed 1 = .ok (.getfield 9, 3) := by decide +kernel
theorem dX10_factNamed_4 : decode cX10_factNamed 4 = .ok (.aload_n 0, 1) := by decide +kernel
theorem dX10_factNamed_5 : decode cX10_factNamed 5 = .ok (.getfield 47, 3) := by decide +kernel
theorem dX10_factNamed_8 : decode cX10_factNamed 8 = .ok (.lload_n 1, 1) := by decide +kernel
theorem dX10_factNamed_9 : decode cX10_factNamed 9 = .ok (.invokestatic 101, 3) := by decide +kernel
theorem dX10_factNamed_12 : decode cX10_factNamed 12 = .ok (.ireturn, 1) := by decide +kernel
theorem dX10_finish_0 : decode cX10_finish 0 = .ok (.aload_n 0, 1) := by decide +kernel
theorem dX10_finish_1 : decode cX10_finish 1 = .ok (.aload_n 0, 1) := by decide +kernel
theorem dX10_finish_2 : decode cX10_finish 2 = .ok (.getfield 47, 3) := by decide +kernel
theorem dX10_finish_5 : decode cX10_finish 5 = .ok (.bipush 6, 2) := by decide +kernel
theorem dX10_finish_7 : decode cX10_finish 7 = .ok (.if_icmp .ge 16, 3) := by decide +kernel
theorem dX10_finish_10 : decode cX10_finish 10 = .ok (.lconst 1, 1) := by decide +kernel
theorem dX10_finish_11 : decode cX10_finish 11 = .ok (.iconst 1, 1) := by decide +kernel
theorem dX10_finish_12 : decode cX10_finish 12 = .ok (.aload_n 0, 1) := by decide +kernel
theorem dX10_finish_13 : decode cX10_finish 13 = .ok (.getfield 47, 3) := by decide +kernel
theorem dX10_finish_16 : decode cX10_finish 16 = .ok (.ishl, 1) := by decide +kernel
theorem dX10_finish_17 : decode cX10_finish 17 = .ok (.lshl, 1) := by decide +kernel
theorem dX10_finish_18 : decode cX10_finish 18 = .ok (.lconst 1, 1) := by decide +kernel
theorem dX10_finish_19 : decode cX10_finish 19 = .ok (.lsub, 1) := by decide +kernel
theorem dX10_finish_20 : decode cX10_finish 20 = .ok (.goto 6, 3) := by decide +kernel
theorem dX10_finish_23 : decode cX10_finish 23 = .ok (.ldc2_w 78, 3) := by decide +kernel
theorem dX10_finish_26 : decode cX10_finish 26 = .ok (.putfield 80, 3) := by decide +kernel
theorem dX10_finish_29 : decode cX10_finish 29 = .ok (.iconst 0, 1) := by decide +kernel
theorem dX10_finish_30 : decode cX10_finish 30 = .ok (.istore_n 1, 1) := by decide +kernel
theorem dX10_finish_31 : decode cX10_finish 31 = .ok (.iload_n 1, 1) := by decide +kernel
theorem dX10_finish_32 : decode cX10_finish 32 = .ok (.aload_n 0, 1) := by decide +kernel
theorem dX10_finish_33 : decode cX10_finish 33 = .ok (.getfield 60, 3) := by decide +kernel
theorem dX10_finish_36 : decode cX10_finish 36 = .ok (.if_icmp .ge 34, 3) := by decide +kernel
theorem dX10_finish_39 : decode cX10_finish 39 = .ok (.aload_n 0, 1) := by decide +kernel
theorem dX10_finish_40 : decode cX10_finish 40 = .ok (.dup, 1) := by decide +kernel
theorem dX10_finish_41 : decode cX10_finish 41 = .ok (.getfield 66, 3) := by decide +kernel
theorem dX10_finish_44 : decode cX10_finish 44 = .ok (.aload_n 0, 1) := by decide +kernel
theorem dX10_finish_45 : decode cX10_finish 45 = .ok (.getfield 25, 3) := by decide +kernel
theorem dX10_finish_48 : decode cX10_finish 48 = .ok (.iload_n 1, 1) := by decide +kernel
theorem dX10_finish_49 : decode cX10_finish 49 = .ok (.laload, 1) := by decide +kernel
theorem dX10_finish_50 : decode cX10_finish 50 = .ok (.aload_n 0, 1) := by decide +kernel
theorem dX10_finish_51 : decode cX10_finish 51 = .ok (.getfield 51, 3) := by decide +kernel
theorem dX10_finish_54 : decode cX10_finish 54 = .ok (.lushr, 1) := by decide +kernel
theorem dX10_finish_55 : decode cX10_finish 55 = .ok (.lconst 1, 1) := by decide +kernel
theorem dX10_finish_56 : decode cX10_finish 56 = .ok (.land, 1) := by decide +kernel
theorem dX10_finish_57 : decode cX10_finish 57 = .ok (.l2i, 1) := by decide +kernel
theorem dX10_finish_58 : decode cX10_finish 58 = .ok (.iload_n 1, 1) := by decide +kernel
theorem dX10_finish_59 : decode cX10_finish 59 = .ok (.ishl, 1) := by decide +kernel
theorem dX10_finish_60 : decode cX10_finish 60 = .ok (.ior, 1) := by decide +kernel
theorem dX10_finish_61 : decode cX10_finish 61 = .ok (.putfield 66, 3) := by decide +kernel
theorem dX10_finish_64 : decode cX10_finish 64 = .ok (.iinc 1 1, 3) := by decide +kernel
theorem dX10_finish_67 : decode cX10_finish 67 = .ok (.goto (-36), 3) := by decide +kernel
theorem dX10_finish_70 : decode cX10_finish 70 = .ok (.aload_n 0, 1) := by decide +kernel
theorem dX10_finish_71 : decode cX10_finish 71 = .ok (.getfield 40, 3) := by decide +kernel
theorem dX10_finish_74 : decode cX10_finish 74 = .ok (.invokestatic 84, 3) := by decide +kernel
theorem dX10_finish_77 : decode cX10_finish 77 = .ok (.aload_n 0, 1) := by decide +kernel
theorem dX10_finish_78 : decode cX10_finish 78 = .ok (.getfield 44, 3) := by decide +kernel
theorem dX10_finish_81 : decode cX10_finish 81 = .ok (.invokestatic 84, 3) := by decide +kernel
theorem dX10_finish_84 : decode cX10_finish 84 = .ok (.return_, 1) := by decide +kernel
theorem dX10_hasCase_0 : decode cX10_hasCase 0 = .ok (.iload_n 1, 1) := by decide +kernel
theorem dX10_hasCase_1 : decode cX10_hasCase 1 = .ok (.ifCond .lt 15, 3) := by decide +kernel
theorem dX10_hasCase_4 : decode cX10_hasCase 4 = .ok (.iload_n 1, 1) := by decide +kernel
theorem dX10_hasCase_5 : decode cX10_hasCase 5 = .ok (.aload_n 0, 1) := by decide +kernel
theorem dX10_hasCase_6 : decode cX10_hasCase 6 = .ok (.getfield 69, 3) := by decide +kernel
theorem dX10_hasCase_9 : decode cX10_hasCase 9 = .ok (.if_icmp .ge 7, 3) := by decide +kernel
theorem dX10_hasCase_12 : decode cX10_hasCase 12 = .ok (.iconst 1, 1) := by decide +kernel
theorem dX10_hasCase_13 : decode cX10_hasCase 13 = .ok (.goto 4, 3) := by decide +kernel
theorem dX10_hasCase_16 : decode cX10_hasCase 16 = .ok (.iconst 0, 1) := by decide +kernel
theorem dX10_hasCase_17 : decode cX10_hasCase 17 = .ok (.ireturn, 1) := by decide +kernel
theorem dX10_hasSet_0 : decode cX10_hasSet 0 = .ok (.iload_n 1, 1) := by decide +kernel
theorem dX10_hasSet_1 : decode cX10_hasSet 1 = .ok (.ifCond .lt 16, 3) := by decide +kernel
theorem dX10_hasSet_4 : decode cX10_hasSet 4 = .ok (.iload_n 1, 1) := by decide +kernel
theorem dX10_hasSet_5 : decode cX10_hasSet 5 = .ok (.aload_n 0, 1) := by decide +kernel
theorem dX10_hasSet_6 : decode cX10_hasSet 6 = .ok (.getfield 60, 3) := by decide +kernel
theorem dX10_hasSet_9 : decode cX10_hasSet 9 = .ok (.ishr, 1) := by decide +kernel
theorem dX10_hasSet_10 : decode cX10_hasSet 10 = .ok (.ifCond .ne 7, 3) := by decide +kernel
theorem dX10_hasSet_13 : decode cX10_hasSet 13 = .ok (.iconst 1, 1) := by decide +kernel
theorem dX10_hasSet_14 : decode cX10_hasSet 14 = .ok (.goto 4, 3) := by decide +kernel
theorem dX10_hasSet_17 : decode cX10_hasSet 17 = .ok (.iconst 0, 1) := by decide +kernel
theorem dX10_hasSet_18 : decode cX10_hasSet 18 = .ok (.ireturn, 1) := by decide +kernel
theorem dX10_hasWord_0 : decode cX10_hasWord 0 = .ok (.iload_n 1, 1) := by decide +kernel
theorem dX10_hasWord_1 : decode cX10_hasWord 1 = .ok (.ifCond .lt 15, 3) := by decide +kernel
theorem dX10_hasWord_4 : decode cX10_hasWord 4 = .ok (.iload_n 1, 1) := by decide +kernel
theorem dX10_hasWord_5 : decode cX10_hasWord 5 = .ok (.aload_n 0, 1) := by decide +kernel
theorem dX10_hasWord_6 : decode cX10_hasWord 6 = .ok (.getfield 60, 3) := by decide +kernel
theorem dX10_hasWord_9 : decode cX10_hasWord 9 = .ok (.if_icmp .ge 7, 3) := by decide +kernel
theorem dX10_hasWord_12 : decode cX10_hasWord 12 = .ok (.iconst 1, 1) := by decide +kernel
theorem dX10_hasWord_13 : decode cX10_hasWord 13 = .ok (.goto 4, 3) := by decide +kernel
theorem dX10_hasWord_16 : decode cX10_hasWord 16 = .ok (.iconst 0, 1) := by decide +kernel
theorem dX10_hasWord_17 : decode cX10_hasWord 17 = .ok (.ireturn, 1) := by decide +kernel
theorem dX10_indexOf_0 : decode cX10_indexOf 0 = .ok (.iconst 0, 1) := by decide +kernel
theorem dX10_indexOf_1 : decode cX10_indexOf 1 = .ok (.istore 4, 2) := by decide +kernel
theorem dX10_indexOf_3 : decode cX10_indexOf 3 = .ok (.iload 4, 2) := by decide +kernel
theorem dX10_indexOf_5 : decode cX10_indexOf 5 = .ok (.iload_n 1, 1) := by decide +kernel
theorem dX10_indexOf_6 : decode cX10_indexOf 6 = .ok (.if_icmp .ge 28, 3) := by decide +kernel
theorem dX10_indexOf_9 : decode cX10_indexOf 9 = .ok (.iload 4, 2) := by decide +kernel
theorem dX10_indexOf_11 : decode cX10_indexOf 11 = .ok (.aload_n 0, 1) := by decide +kernel
theorem dX10_indexOf_12 : decode cX10_indexOf 12 = .ok (.arraylength, 1) := by decide +kernel
theorem dX10_indexOf_13 : decode cX10_indexOf 13 = .ok (.if_icmp .ge 21, 3) := by decide +kernel
theorem dX10_indexOf_16 : decode cX10_indexOf 16 = .ok (.aload_n 0, 1) := by decide +kernel
theorem dX10_indexOf_17 : decode cX10_indexOf 17 = .ok (.iload 4, 2) := by decide +kernel
theorem dX10_indexOf_19 : decode cX10_indexOf 19 = .ok (.laload, 1) := by decide +kernel
theorem dX10_indexOf_20 : decode cX10_indexOf 20 = .ok (.lload_n 2, 1) := by decide +kernel
theorem dX10_indexOf_21 : decode cX10_indexOf 21 = .ok (.lcmp, 1) := by decide +kernel
theorem dX10_indexOf_22 : decode cX10_indexOf 22 = .ok (.ifCond .ne 6, 3) := by decide +kernel
theorem dX10_indexOf_25 : decode cX10_indexOf 25 = .ok (.iload 4, 2) := by decide +kernel
theorem dX10_indexOf_27 : decode cX10_indexOf 27 = .ok (.ireturn, 1) := by decide +kernel
theorem dX10_indexOf_28 : decode cX10_indexOf 28 = .ok (.iinc 4 1, 3) := by decide +kernel
theorem dX10_indexOf_31 : decode cX10_indexOf 31 = .ok (.goto (-28), 3) := by decide +kernel
theorem dX10_indexOf_34 : decode cX10_indexOf 34 = .ok (.iconst (-1), 1) := by decide +kernel
theorem dX10_indexOf_35 : decode cX10_indexOf 35 = .ok (.ireturn, 1) := by decide +kernel
theorem dX10_isTold_0 : decode cX10_isTold 0 = .ok (.aload_n 0, 1) := by decide +kernel
theorem dX10_isTold_1 : decode cX10_isTold 1 = .ok (.lload_n 1, 1) := by decide +kernel
theorem dX10_isTold_2 : decode cX10_isTold 2 = .ok (.invokevirtual 105, 3) := by decide +kernel
theorem dX10_isTold_5 : decode cX10_isTold 5 = .ok (.ifCond .ge 26, 3) := by decide +kernel
theorem dX10_isTold_8 : decode cX10_isTold 8 = .ok (.aload_n 0, 1) := by decide +kernel
theorem dX10_isTold_9 : decode cX10_isTold 9 = .ok (.lload_n 1, 1) := by decide +kernel
theorem dX10_isTold_10 : decode cX10_isTold 10 = .ok (.invokevirtual 109, 3) := by decide +kernel
theorem dX10_isTold_13 : decode cX10_isTold 13 = .ok (.ifCond .ge 18, 3) := by decide +kernel
theorem dX10_isTold_16 : decode cX10_isTold 16 = .ok (.aload_n 0, 1) := by decide +kernel
theorem dX10_isTold_17 : decode cX10_isTold 17 = .ok (.getfield 28, 3) := by decide +kernel
theorem dX10_isTold_20 : decode cX10_isTold 20 = .ok (.aload_n 0, 1) := by decide +kernel
theorem dX10_isTold_21 : decode cX10_isTold 21 = .ok (.getfield 69, 3) := by decide +kernel
theorem dX10_isTold_24 : decode cX10_isTold 24 = .ok (.lload_n 1, 1) := by decide +kernel
theorem dX10_isTold_25 : decode cX10_isTold 25 = .ok (.invokestatic 101, 3) := by decide +kernel
theorem dX10_isTold_28 : decode cX10_isTold 28 = .ok (.ifCond .lt 7, 3) := by decide +kernel
theorem dX10_isTold_31 : decode cX10_isTold 31 = .ok (.iconst 1, 1) := by decide +kernel
theorem dX10_isTold_32 : decode cX10_isTold 32 = .ok (.goto 4, 3) := by decide +kernel
theorem dX10_isTold_35 : decode cX10_isTold 35 = .ok (.iconst 0, 1) := by decide +kernel
theorem dX10_isTold_36 : decode cX10_isTold 36 = .ok (.ireturn, 1) := by decide +kernel
theorem dX10_liarsBy_0 : decode cX10_liarsBy 0 = .ok (.iconst 0, 1) := by decide +kernel
theorem dX10_liarsBy_1 : decode cX10_liarsBy 1 = .ok (.istore_n 2, 1) := by decide +kernel
theorem dX10_liarsBy_2 : decode cX10_liarsBy 2 = .ok (.iconst 0, 1) := by decide +kernel
theorem dX10_liarsBy_3 : decode cX10_liarsBy 3 = .ok (.istore_n 3, 1) := by decide +kernel
theorem dX10_liarsBy_4 : decode cX10_liarsBy 4 = .ok (.iload_n 3, 1) := by decide +kernel
theorem dX10_liarsBy_5 : decode cX10_liarsBy 5 = .ok (.aload_n 0, 1) := by decide +kernel
theorem dX10_liarsBy_6 : decode cX10_liarsBy 6 = .ok (.getfield 57, 3) := by decide +kernel
theorem dX10_liarsBy_9 : decode cX10_liarsBy 9 = .ok (.if_icmp .ge 30, 3) := by decide +kernel
theorem dX10_liarsBy_12 : decode cX10_liarsBy 12 = .ok (.iload_n 2, 1) := by decide +kernel
theorem dX10_liarsBy_13 : decode cX10_liarsBy 13 = .ok (.aload_n 0, 1) := by decide +kernel
theorem dX10_liarsBy_14 : decode cX10_liarsBy 14 = .ok (.getfield 18, 3) := by decide +kernel
theorem dX10_liarsBy_17 : decode cX10_liarsBy 17 = .ok (.iload_n 3, 1) := by decide +kernel
theorem dX10_liarsBy_18 : decode cX10_liarsBy 18 = .ok (.iaload, 1) := by decide +kernel
theorem dX10_liarsBy_19 : decode cX10_liarsBy 19 = .ok (.iload_n 1, 1) := by decide +kernel
theorem dX10_liarsBy_20 : decode cX10_liarsBy 20 = .ok (.iand, 1) := by decide +kernel
theorem dX10_liarsBy_21 : decode cX10_liarsBy 21 = .ok (.ifCond .eq 9, 3) := by decide +kernel
theorem dX10_liarsBy_24 : decode cX10_liarsBy 24 = .ok (.iconst 1, 1) := by decide +kernel
theorem dX10_liarsBy_25 : decode cX10_liarsBy 25 = .ok (.iload_n 3, 1) := by decide +kernel
theorem dX10_liarsBy_26 : decode cX10_liarsBy 26 = .ok (.ishl, 1) := by decide +kernel
theorem dX10_liarsBy_27 : decode cX10_liarsBy 27 = .ok (.goto 4, 3) := by decide +kernel
theorem dX10_liarsBy_30 : decode cX10_liarsBy 30 = .ok (.iconst 0, 1) := by decide +kernel
theorem dX10_liarsBy_31 : decode cX10_liarsBy 31 = .ok (.ior, 1) := by decide +kernel
theorem dX10_liarsBy_32 : decode cX10_liarsBy 32 = .ok (.istore_n 2, 1) := by decide +kernel
theorem dX10_liarsBy_33 : decode cX10_liarsBy 33 = .ok (.iinc 3 1, 3) := by decide +kernel
theorem dX10_liarsBy_36 : decode cX10_liarsBy 36 = .ok (.goto (-32), 3) := by decide +kernel
theorem dX10_liarsBy_39 : decode cX10_liarsBy 39 = .ok (.iload_n 2, 1) := by decide +kernel
theorem dX10_liarsBy_40 : decode cX10_liarsBy 40 = .ok (.ireturn, 1) := by decide +kernel
theorem dX10_tellOnce_0 : decode cX10_tellOnce 0 = .ok (.aload_n 0, 1) := by decide +kernel
theorem dX10_tellOnce_1 : decode cX10_tellOnce 1 = .ok (.getfield 88, 3) := by decide +kernel
theorem dX10_tellOnce_4 : decode cX10_tellOnce 4 = .ok (.ifCond .ne 8, 3) := by decide +kernel
theorem dX10_tellOnce_7 : decode cX10_tellOnce 7 = .ok (.aload_n 0, 1) := by decide +kernel
theorem dX10_tellOnce_8 : decode cX10_tellOnce 8 = .ok (.iconst 1, 1) := by decide +kernel
theorem dX10_tellOnce_9 : decode cX10_tellOnce 9 = .ok (.invokevirtual 91, 3) := by decide +kernel
theorem dX10_tellOnce_12 : decode cX10_tellOnce 12 = .ok (.return_, 1) := by decide +kernel
theorem dX10_together_0 : decode cX10_together 0 = .ok (.ldc2_w 78, 3) := by decide +kernel
theorem dX10_together_3 : decode cX10_together 3 = .ok (.lstore_n 2, 1) := by decide +kernel
theorem dX10_together_4 : decode cX10_together 4 = .ok (.iconst 0, 1) := by decide +kernel
theorem dX10_together_5 : decode cX10_together 5 = .ok (.istore 4, 2) := by decide +kernel
theorem dX10_together_7 : decode cX10_together 7 = .ok (.iload 4, 2) := by decide +kernel
theorem dX10_together_9 : decode cX10_together 9 = .ok (.aload_n 0, 1) := by decide +kernel
theorem dX10_together_10 : decode cX10_together 10 = .ok (.getfield 60, 3) := by decide +kernel
theorem dX10_together_13 : decode cX10_together 13 = .ok (.if_icmp .ge 28, 3) := by decide +kernel
theorem dX10_together_16 : decode cX10_together 16 = .ok (.iload_n 1, 1) := by decide +kernel
theorem dX10_together_17 : decode cX10_together 17 = .ok (.iload 4, 2) := by decide +kernel
theorem dX10_together_19 : decode cX10_together 19 = .ok (.ishr, 1) := by decide +kernel
theorem dX10_together_20 : decode cX10_together 20 = .ok (.iconst 1, 1) := by decide +kernel
theorem dX10_together_21 : decode cX10_together 21 = .ok (.iand, 1) := by decide +kernel
theorem dX10_together_22 : decode cX10_together 22 = .ok (.ifCond .eq 13, 3) := by decide +kernel
theorem dX10_together_25 : decode cX10_together 25 = .ok (.lload_n 2, 1) := by decide +kernel
theorem dX10_together_26 : decode cX10_together 26 = .ok (.aload_n 0, 1) := by decide +kernel
theorem dX10_together_27 : decode cX10_together 27 = .ok (.getfield 25, 3) := by decide +kernel
theorem dX10_together_30 : decode cX10_together 30 = .ok (.iload 4, 2) := by decide +kernel
theorem dX10_together_32 : decode cX10_together 32 = .ok (.laload, 1) := by decide +kernel
theorem dX10_together_33 : decode cX10_together 33 = .ok (.land, 1) := by decide +kernel
theorem dX10_together_34 : decode cX10_together 34 = .ok (.lstore_n 2, 1) := by decide +kernel
theorem dX10_together_35 : decode cX10_together 35 = .ok (.iinc 4 1, 3) := by decide +kernel
theorem dX10_together_38 : decode cX10_together 38 = .ok (.goto (-31), 3) := by decide +kernel
theorem dX10_together_41 : decode cX10_together 41 = .ok (.lload_n 2, 1) := by decide +kernel
theorem dX10_together_42 : decode cX10_together 42 = .ok (.lreturn, 1) := by decide +kernel
theorem dX10_witnessNamed_0 : decode cX10_witnessNamed 0 = .ok (.aload_n 0, 1) := by decide +kernel
theorem dX10_witnessNamed_1 : decode cX10_witnessNamed 1 = .ok (.getfield 15, 3) := by decide +kernel
theorem dX10_witnessNamed_4 : decode cX10_witnessNamed 4 = .ok (.aload_n 0, 1) := by decide +kernel
theorem dX10_witnessNamed_5 : decode cX10_witnessNamed 5 = .ok (.getfield 57, 3) := by decide +kernel
theorem dX10_witnessNamed_8 : decode cX10_witnessNamed 8 = .ok (.lload_n 1, 1) := by decide +kernel
theorem dX10_witnessNamed_9 : decode cX10_witnessNamed 9 = .ok (.invokestatic 101, 3) := by decide +kernel
theorem dX10_witnessNamed_12 : decode cX10_witnessNamed 12 = .ok (.ireturn, 1) := by decide +kernel
theorem dX2_add_0 : decode cX2_add 0 = .ok (.aload_n 0, 1) := by decide +kernel
theorem dX2_add_1 : decode cX2_add 1 = .ok (.getfield 18, 3) := by decide +kernel
theorem dX2_add_4 : decode cX2_add 4 = .ok (.sipush 400, 3) := by decide +kernel
theorem dX2_add_7 : decode cX2_add 7 = .ok (.if_icmp .ge 23, 3) := by decide +kernel
theorem dX2_add_10 : decode cX2_add 10 = .ok (.aload_n 0, 1) := by decide +kernel
theorem dX2_add_11 : decode cX2_add 11 = .ok (.getfield 9, 3) := by decide +kernel
theorem dX2_add_14 : decode cX2_add 14 = .ok (.aload_n 0, 1) := by decide +kernel
theorem dX2_add_15 : decode cX2_add 15 = .ok (.getfield 18, 3) := by decide +kernel
theorem dX2_add_18 : decode cX2_add 18 = .ok (.iload_n 1, 1) := by decide +kernel
theorem dX2_add_19 : decode cX2_add 19 = .ok (.iastore, 1) := by decide +kernel
theorem dX2_add_20 : decode cX2_add 20 = .ok (.aload_n 0, 1) := by decide +kernel
theorem dX2_add_21 : decode cX2_add 21 = .ok (.dup, 1) := by decide +kernel
theorem dX2_add_22 : decode cX2_add 22 = .ok (.getfield 18, 3) := by decide +kernel
theorem dX2_add_25 : decode cX2_add 25 = .ok (.iconst 1, 1) := by decide +kernel
theorem dX2_add_26 : decode cX2_add 26 = .ok (.iadd, 1) := by decide +kernel
theorem dX2_add_27 : decode cX2_add 27 = .ok (.putfield 18, 3) := by decide +kernel
theorem dX2_add_30 : decode cX2_add 30 = .ok (.return_, 1) := by decide +kernel
theorem dX2_clear_0 : decode cX2_clear 0 = .ok (.aload_n 0, 1) := by decide +kernel
theorem dX2_clear_1 : decode cX2_clear 1 = .ok (.iconst 0, 1) := by decide +kernel
theorem dX2_clear_2 : decode cX2_clear 2 = .ok (.putfield 18, 3) := by decide +kernel
theorem dX2_clear_5 : decode cX2_clear 5 = .ok (.return_, 1) := by decide +kernel
theorem dX2_minutes_0 : decode cX2_minutes 0 = .ok (.aload_n 0, 1) := by decide +kernel
theorem dX2_minutes_1 : decode cX2_minutes 1 = .ok (.iconst 0, 1) := by decide +kernel
theorem dX2_minutes_2 : decode cX2_minutes 2 = .ok (.putfield 22, 3) := by decide +kernel
theorem dX2_minutes_5 : decode cX2_minutes 5 = .ok (.aload_n 0, 1) := by decide +kernel
theorem dX2_minutes_6 : decode cX2_minutes 6 = .ok (.iconst 0, 1) := by decide +kernel
theorem dX2_minutes_7 : decode cX2_minutes 7 = .ok (.putfield 25, 3) := by decide +kernel
theorem dX2_minutes_10 : decode cX2_minutes 10 = .ok (.iconst 0, 1) := by decide +kernel
theorem dX2_minutes_11 : decode cX2_minutes 11 = .ok (.istore_n 3, 1) := by decide +kernel
theorem dX2_minutes_12 : decode cX2_minutes 12 = .ok (.iload_n 3, 1) := by decide +kernel
theorem dX2_minutes_13 : decode cX2_minutes 13 = .ok (.aload_n 0, 1) := by decide +kernel
theorem dX2_minutes_14 : decode cX2_minutes 14 = .ok (.getfield 18, 3) := by decide +kernel
theorem dX2_minutes_17 : decode cX2_minutes 17 = .ok (.if_icmp .ge 60, 3) := by decide +kernel
theorem dX2_minutes_20 : decode cX2_minutes 20 = .ok (.aload_n 0, 1) := by decide +kernel
theorem dX2_minutes_21 : decode cX2_minutes 21 = .ok (.getfield 9, 3) := by decide +kernel
theorem dX2_minutes_24 : decode cX2_minutes 24 = .ok (.iload_n 3, 1) := by decide +kernel
theorem dX2_minutes_25 : decode cX2_minutes 25 = .ok (.iaload, 1) := by decide +kernel
theorem dX2_minutes_26 : decode cX2_minutes 26 = .ok (.istore 4, 2) := by decide +kernel
theorem dX2_minutes_28 : decode cX2_minutes 28 = .ok (.iload 4, 2) := by decide +kernel
theorem dX2_minutes_30 : decode cX2_minutes 30 = .ok (.ifCond .lt 12, 3) := by decide +kernel
theorem dX2_minutes_33 : decode cX2_minutes 33 = .ok (.aload_n 0, 1) := by decide +kernel
theorem dX2_minutes_34 : decode cX2_minutes 34 = .ok (.iload 4, 2) := by decide +kernel
theorem dX2_minutes_36 : decode cX2_minutes 36 = .ok (.invokevirtual 29, 3) := by decide +kernel
theorem dX2_minutes_39 : decode cX2_minutes 39 = .ok (.goto 32, 3) := by decide +kernel
theorem dX2_minutes_42 : decode cX2_minutes 42 = .ok (.iload 4, 2) := by decide +kernel
theorem dX2_minutes_44 : decode cX2_minutes 44 = .ok (.bipush (-100), 2) := by decide +kernel
theorem dX2_minutes_46 : decode cX2_minutes 46 = .ok (.if_icmp .le 13, 3) := by decide +kernel
theorem dX2_minutes_49 : decode cX2_minutes 49 = .ok (.aload_n 0, 1) := by decide +kernel
theorem dX2_minutes_50 : decode cX2_minutes 50 = .ok (.iload 4, 2) := by decide +kernel
theorem dX2_minutes_52 : decode cX2_minutes 52 = .ok (.ineg, 1) := by decide +kernel
theorem dX2_minutes_53 : decode cX2_minutes 53 = .ok (.invokevirtual 33, 3) := by decide +kernel
theorem dX2_minutes_56 : decode cX2_minutes 56 = .ok (.goto 15, 3) := by decide +kernel
theorem dX2_minutes_59 : decode cX2_minutes 59 = .ok (.aload_n 0, 1) := by decide +kernel
theorem dX2_minutes_60 : decode cX2_minutes 60 = .ok (.aload_n 1, 1) := by decide +kernel
theorem dX2_minutes_61 : decode cX2_minutes 61 = .ok (.iload 4, 2) := by decide +kernel
theorem dX2_minutes_63 : decode cX2_minutes 63 = .ok (.ineg, 1) := by decide +kernel
theorem dX2_minutes_64 : decode cX2_minutes 64 = .ok (.iload_n 2, 1) := by decide +kernel
theorem dX2_minutes_65 : decode cX2_minutes 65 = .ok (.invokevirtual 36, 3) := by decide +kernel
theorem dX2_minutes_68 : decode cX2_minutes 68 = .ok (.invokevirtual 29, 3) := by decide +kernel
theorem dX2_minutes_71 : decode cX2_minutes 71 = .ok (.iinc 3 1, 3) := by decide +kernel
theorem dX2_minutes_74 : decode cX2_minutes 74 = .ok (.goto (-62), 3) := by decide +kernel
theorem dX2_minutes_77 : decode cX2_minutes 77 = .ok (.aload_n 0, 1) := by decide +kernel
theorem dX2_minutes_78 : decode cX2_minutes 78 = .ok (.getfield 25, 3) := by decide +kernel
theorem dX2_minutes_81 : decode cX2_minutes 81 = .ok (.ifCond .ne 11, 3) := by decide +kernel
theorem dX2_minutes_84 : decode cX2_minutes 84 = .ok (.aload_n 0, 1) := by decide +kernel
theorem dX2_minutes_85 : decode cX2_minutes 85 = .ok (.getfield 22, 3) := by decide +kernel
theorem dX2_minutes_88 : decode cX2_minutes 88 = .ok (.iconst 1, 1) := by decide +kernel
theorem dX2_minutes_89 : decode cX2_minutes 89 = .ok (.if_icmp .ge 5, 3) := by decide +kernel
theorem dX2_minutes_92 : decode cX2_minutes 92 = .ok (.iconst 0, 1) := by decide +kernel
theorem dX2_minutes_93 : decode cX2_minutes 93 = .ok (.ireturn, 1) := by decide +kernel
theorem dX2_minutes_94 : decode cX2_minutes 94 = .ok (.iconst 0, 1) := by decide +kernel
theorem dX2_minutes_95 : decode cX2_minutes 95 = .ok (.bipush 120, 2) := by decide +kernel
theorem dX2_minutes_97 : decode cX2_minutes 97 = .ok (.aload_n 0, 1) := by decide +kernel
theorem dX2_minutes_98 : decode cX2_minutes 98 = .ok (.getfield 15, 3) := by decide +kernel
theorem dX2_minutes_101 : decode cX2_minutes 101 = .ok (.iconst 0, 1) := by decide +kernel
theorem dX2_minutes_102 : decode cX2_minutes 102 = .ok (.iaload, 1) := by decide +kernel
theorem dX2_minutes_103 : decode cX2_minutes 103 = .ok (.invokestatic 42, 3) := by decide +kernel
theorem dX2_minutes_106 : decode cX2_minutes 106 = .ok (.invokestatic 47, 3) := by decide +kernel
theorem dX2_minutes_109 : decode cX2_minutes 109 = .ok (.ireturn, 1) := by decide +kernel
theorem dX2_operate_0 : decode cX2_operate 0 = .ok (.aload_n 0, 1) := by decide +kernel
theorem dX2_operate_1 : decode cX2_operate 1 = .ok (.getfield 22, 3) := by decide +kernel
theorem dX2_operate_4 : decode cX2_operate 4 = .ok (.iconst 2, 1) := by decide +kernel
theorem dX2_operate_5 : decode cX2_operate 5 = .ok (.if_icmp .lt 12, 3) := by decide +kernel
theorem dX2_operate_8 : decode cX2_operate 8 = .ok (.aload_n 0, 1) := by decide +kernel
theorem dX2_operate_9 : decode cX2_operate 9 = .ok (.getfield 22, 3) := by decide +kernel
theorem dX2_operate_12 : decode cX2_operate 12 = .ok (.bipush 32, 2) := by decide +kernel
theorem dX2_operate_14 : decode cX2_operate 14 = .ok (.if_icmp .le 4, 3) := by decide +kernel
theorem dX2_operate_17 : decode cX2_operate 17 = .ok (.return_, 1) := by decide +kernel
theorem dX2_operate_18 : decode cX2_operate 18 = .ok (.aload_n 0, 1) := by decide +kernel
theorem dX2_operate_19 : decode cX2_operate 19 = .ok (.dup, 1) := by decide +kernel
theorem dX2_operate_20 : decode cX2_operate 20 = .ok (.getfield 22, 3) := by decide +kernel
theorem dX2_operate_23 : decode cX2_operate 23 = .ok (.iconst 1, 1) := by decide +kernel
theorem dX2_operate_24 : decode cX2_operate 24 = .ok (.isub, 1) := by decide +kernel
theorem dX2_operate_25 : decode cX2_operate 25 = .ok (.putfield 22, 3) := by decide +kernel
theorem dX2_operate_28 : decode cX2_operate 28 = .ok (.aload_n 0, 1) := by decide +kernel
theorem dX2_operate_29 : decode cX2_operate 29 = .ok (.getfield 15, 3) := by decide +kernel
theorem dX2_operate_32 : decode cX2_operate 32 = .ok (.aload_n 0, 1) := by decide +kernel
theorem dX2_operate_33 : decode cX2_operate 33 = .ok (.getfield 22, 3) := by decide +kernel
theorem dX2_operate_36 : decode cX2_operate 36 = .ok (.iaload, 1) := by decide +kernel
theorem dX2_operate_37 : decode cX2_operate 37 = .ok (.istore_n 2, 1) := by decide +kernel
theorem dX2_operate_38 : decode cX2_operate 38 = .ok (.aload_n 0, 1) := by decide +kernel
theorem dX2_operate_39 : decode cX2_operate 39 = .ok (.getfield 15, 3) := by decide +kernel
theorem dX2_operate_42 : decode cX2_operate 42 = .ok (.aload_n 0, 1) := by decide +kernel
theorem dX2_operate_43 : decode cX2_operate 43 = .ok (.getfield 22, 3) := by decide +kernel
theorem dX2_operate_46 : decode cX2_operate 46 = .ok (.iconst 1, 1) := by decide +kernel
theorem dX2_operate_47 : decode cX2_operate 47 = .ok (.isub, 1) := by decide +kernel
theorem dX2_operate_48 : decode cX2_operate 48 = .ok (.iaload, 1) := by decide +kernel
theorem dX2_operate_49 : decode cX2_operate 49 = .ok (.istore_n 3, 1) := by decide +kernel
theorem dX2_operate_50 : decode cX2_operate 50 = .ok (.iconst 0, 1) := by decide +kernel
theorem dX2_operate_51 : decode cX2_operate 51 = .ok (.istore 4, 2) := by decide +kernel
theorem dX2_operate_53 : decode cX2_operate 53 = .ok (.iload_n 1, 1) := by decide +kernel
theorem dX2_operate_54 : decode cX2_operate 54 = .ok (.tableswitch 54 42 45 #[46, 30, 54, 38], 30) := by decide +kernel
theorem dX2_operate_84 : decode cX2_operate 84 = .ok (.iload_n 3, 1) := by decide +kernel
theorem dX2_operate_85 : decode cX2_operate 85 = .ok (.iload_n 2, 1) := by decide +kernel
theorem dX2_operate_86 : decode cX2_operate 86 = .ok (.iadd, 1) := by decide +kernel
theorem dX2_operate_87 : decode cX2_operate 87 = .ok (.istore 4, 2) := by decide +kernel
theorem dX2_operate_89 : decode cX2_operate 89 = .ok (.goto 36, 3) := by decide +kernel
theorem dX2_operate_92 : decode cX2_operate 92 = .ok (.iload_n 3, 1) := by decide +kernel
theorem dX2_operate_93 : decode cX2_operate 93 = .ok (.iload_n 2, 1) := by decide +kernel
theorem dX2_operate_94 : decode cX2_operate 94 = .ok (.isub, 1) := by decide +kernel
theorem dX2_operate_95 : decode cX2_operate 95 = .ok (.istore 4, 2) := by decide +kernel
theorem dX2_operate_97 : decode cX2_operate 97 = .ok (.goto 28, 3) := by decide +kernel
theorem dX2_operate_100 : decode cX2_operate 100 = .ok (.iload_n 3, 1) := by decide +kernel
theorem dX2_operate_101 : decode cX2_operate 101 = .ok (.iload_n 2, 1) := by decide +kernel
theorem dX2_operate_102 : decode cX2_operate 102 = .ok (.imul, 1) := by decide +kernel
theorem dX2_operate_103 : decode cX2_operate 103 = .ok (.istore 4, 2) := by decide +kernel
theorem dX2_operate_105 : decode cX2_operate 105 = .ok (.goto 20, 3) := by decide +kernel
theorem dX2_operate_108 : decode cX2_operate 108 = .ok (.iload_n 2, 1) := by decide +kernel
theorem dX2_operate_109 : decode cX2_operate 109 = .ok (.ifCond .ne 11, 3) := by decide +kernel
theorem dX2_operate_112 : decode cX2_operate 112 = .ok (.aload_n 0, 1) := by decide +kernel
theorem dX2_operate_113 : decode cX2_operate 113 = .ok (.iconst 1, 1) := by decide +kernel
theorem dX2_operate_114 : decode cX2_operate 114 = .ok (.putfield 25, 3) := by decide +kernel
theorem dX2_operate_117 : decode cX2_operate 117 = .ok (.goto 8, 3) := by decide +kernel
theorem dX2_operate_120 : decode cX2_operate 120 = .ok (.iload_n 3, 1) := by decide +kernel
theorem dX2_operate_121 : decode cX2_operate 121 = .ok (.iload_n 2, 1) := by decide +kernel
theorem dX2_operate_122 : decode cX2_operate 122 = .ok (.idiv, 1) := by decide +kernel
theorem dX2_operate_123 : decode cX2_operate 123 = .ok (.istore 4, 2) := by decide +kernel
theorem dX2_operate_125 : decode cX2_operate 125 = .ok (.aload_n 0, 1) := by decide +kernel
theorem dX2_operate_126 : decode cX2_operate 126 = .ok (.getfield 15, 3) := by decide +kernel
theorem dX2_operate_129 : decode cX2_operate 129 = .ok (.aload_n 0, 1) := by decide +kernel
theorem dX2_operate_130 : decode cX2_operate 130 = .ok (.getfield 22, 3) := by decide +kernel
theorem dX2_operate_133 : decode cX2_operate 133 = .ok (.iconst 1, 1) := by decide +kernel
theorem dX2_operate_134 : decode cX2_operate 134 = .ok (.isub, 1) := by decide +kernel
theorem dX2_operate_135 : decode cX2_operate 135 = .ok (.iload 4, 2) := by decide +kernel
theorem dX2_operate_137 : decode cX2_operate 137 = .ok (.iastore, 1) := by decide +kernel
theorem dX2_operate_138 : decode cX2_operate 138 = .ok (.return_, 1) := by decide +kernel
theorem dX2_push_0 : decode cX2_push 0 = .ok (.aload_n 0, 1) := by decide +kernel
theorem dX2_push_1 : decode cX2_push 1 = .ok (.getfield 22, 3) := by decide +kernel
theorem dX2_push_4 : decode cX2_push 4 = .ok (.ifCond .lt 32, 3) := by decide +kernel
theorem dX2_push_7 : decode cX2_push 7 = .ok (.aload_n 0, 1) := by decide +kernel
theorem dX2_push_8 : decode cX2_push 8 = .ok (.getfield 22, 3) := by decide +kernel
theorem dX2_push_11 : decode cX2_push 11 = .ok (.bipush 32, 2) := by decide +kernel
theorem dX2_push_13 : decode cX2_push 13 = .ok (.if_icmp .ge 23, 3) := by decide +kernel
theorem dX2_push_16 : decode cX2_push 16 = .ok (.aload_n 0, 1) := by decide +kernel
theorem dX2_push_17 : decode cX2_push 17 = .ok (.getfield 15, 3) := by decide +kernel
theorem dX2_push_20 : decode cX2_push 20 = .ok (.aload_n 0, 1) := by decide +kernel
theorem dX2_push_21 : decode cX2_push 21 = .ok (.getfield 22, 3) := by decide +kernel
theorem dX2_push_24 : decode cX2_push 24 = .ok (.iload_n 1, 1) := by decide +kernel
theorem dX2_push_25 : decode cX2_push 25 = .ok (.iastore, 1) := by decide +kernel
theorem dX2_push_26 : decode cX2_push 26 = .ok (.aload_n 0, 1) := by decide +kernel
theorem dX2_push_27 : decode cX2_push 27 = .ok (.dup, 1) := by decide +kernel
theorem dX2_push_28 : decode cX2_push 28 = .ok (.getfield 22, 3) := by decide +kernel
theorem dX2_push_31 : decode cX2_push 31 = .ok (.iconst 1, 1) := by decide +kernel
theorem dX2_push_32 : decode cX2_push 32 = .ok (.iadd, 1) := by decide +kernel
theorem dX2_push_33 : decode cX2_push 33 = .ok (.putfield 22, 3) := by decide +kernel
theorem dX2_push_36 : decode cX2_push 36 = .ok (.return_, 1) := by decide +kernel
theorem dX7_valueOf_0 : decode cX7_valueOf 0 = .ok (.iload_n 1, 1) := by decide +kernel
theorem dX7_valueOf_1 : decode cX7_valueOf 1 = .ok (.tableswitch 67 114 117 #[31, 41, 51, 62], 31) := by decide +kernel
theorem dX7_valueOf_32 : decode cX7_valueOf 32 = .ok (.aload_n 0, 1) := by decide +kernel
theorem dX7_valueOf_33 : decode cX7_valueOf 33 = .ok (.getfield 37, 3) := by decide +kernel
theorem dX7_valueOf_36 : decode cX7_valueOf 36 = .ok (.iload_n 2, 1) := by decide +kernel
theorem dX7_valueOf_37 : decode cX7_valueOf 37 = .ok (.iand, 1) := by decide +kernel
theorem dX7_valueOf_38 : decode cX7_valueOf 38 = .ok (.invokestatic 157, 3) := by decide +kernel
theorem dX7_valueOf_41 : decode cX7_valueOf 41 = .ok (.ireturn, 1) := by decide +kernel
theorem dX7_valueOf_42 : decode cX7_valueOf 42 = .ok (.aload_n 0, 1) := by decide +kernel
theorem dX7_valueOf_43 : decode cX7_valueOf 43 = .ok (.getfield 34, 3) := by decide +kernel
theorem dX7_valueOf_46 : decode cX7_valueOf 46 = .ok (.iload_n 2, 1) := by decide +kernel
theorem dX7_valueOf_47 : decode cX7_valueOf 47 = .ok (.iand, 1) := by decide +kernel
theorem dX7_valueOf_48 : decode cX7_valueOf 48 = .ok (.invokestatic 157, 3) := by decide +kernel
theorem dX7_valueOf_51 : decode cX7_valueOf 51 = .ok (.ireturn, 1) := by decide +kernel
theorem dX7_valueOf_52 : decode cX7_valueOf 52 = .ok (.aload_n 0, 1) := by decide +kernel
theorem dX7_valueOf_53 : decode cX7_valueOf 53 = .ok (.getfield 31, 3) := by decide +kernel
theorem dX7_valueOf_56 : decode cX7_valueOf 56 = .ok (.sipush 1440, 3) := by decide +kernel
theorem dX7_valueOf_59 : decode cX7_valueOf 59 = .ok (.invokestatic 163, 3) := by decide +kernel
theorem dX7_valueOf_62 : decode cX7_valueOf 62 = .ok (.ireturn, 1) := by decide +kernel
theorem dX7_valueOf_63 : decode cX7_valueOf 63 = .ok (.aload_n 0, 1) := by decide +kernel
theorem dX7_valueOf_64 : decode cX7_valueOf 64 = .ok (.getfield 46, 3) := by decide +kernel
theorem dX7_valueOf_67 : decode cX7_valueOf 67 = .ok (.ireturn, 1) := by decide +kernel
theorem dX7_valueOf_68 : decode cX7_valueOf 68 = .ok (.aload_n 0, 1) := by decide +kernel
theorem dX7_valueOf_69 : decode cX7_valueOf 69 = .ok (.getfield 43, 3) := by decide +kernel
theorem dX7_valueOf_72 : decode cX7_valueOf 72 = .ok (.invokestatic 157, 3) := by decide +kernel
theorem dX7_valueOf_75 : decode cX7_valueOf 75 = .ok (.ireturn, 1) := by decide +kernel
theorem dX8_append_0 : decode cX8_append 0 = .ok (.bipush 24, 2) := by decide +kernel
theorem dX8_append_2 : decode cX8_append 2 = .ok (.istore_n 2, 1) := by decide +kernel
theorem dX8_append_3 : decode cX8_append 3 = .ok (.iload_n 2, 1) := by decide +kernel
theorem dX8_append_4 : decode cX8_append 4 = .ok (.ifCond .lt 42, 3) := by decide +kernel
theorem dX8_append_7 : decode cX8_append 7 = .ok (.aload_n 0, 1) := by decide +kernel
theorem dX8_append_8 : decode cX8_append 8 = .ok (.getfield 15, 3) := by decide +kernel
theorem dX8_append_11 : decode cX8_append 11 = .ok (.sipush 2000, 3) := by decide +kernel
theorem dX8_append_14 : decode cX8_append 14 = .ok (.if_icmp .ge 32, 3) := by decide +kernel
theorem dX8_append_17 : decode cX8_append 17 = .ok (.aload_n 0, 1) := by decide +kernel
theorem dX8_append_18 : decode cX8_append 18 = .ok (.getfield 9, 3) := by decide +kernel
theorem dX8_append_21 : decode cX8_append 21 = .ok (.aload_n 0, 1) := by decide +kernel
theorem dX8_append_22 : decode cX8_append 22 = .ok (.getfield 15, 3) := by decide +kernel
theorem dX8_append_25 : decode cX8_append 25 = .ok (.iload_n 1, 1) := by decide +kernel
theorem dX8_append_26 : decode cX8_append 26 = .ok (.iload_n 2, 1) := by decide +kernel
theorem dX8_append_27 : decode cX8_append 27 = .ok (.ishr, 1) := by decide +kernel
theorem dX8_append_28 : decode cX8_append 28 = .ok (.i2b, 1) := by decide +kernel
theorem dX8_append_29 : decode cX8_append 29 = .ok (.bastore, 1) := by decide +kernel
theorem dX8_append_30 : decode cX8_append 30 = .ok (.aload_n 0, 1) := by decide +kernel
theorem dX8_append_31 : decode cX8_append 31 = .ok (.dup, 1) := by decide +kernel
theorem dX8_append_32 : decode cX8_append 32 = .ok (.getfield 15, 3) := by decide +kernel
theorem dX8_append_35 : decode cX8_append 35 = .ok (.iconst 1, 1) := by decide +kernel
theorem dX8_append_36 : decode cX8_append 36 = .ok (.iadd, 1) := by decide +kernel
theorem dX8_append_37 : decode cX8_append 37 = .ok (.putfield 15, 3) := by decide +kernel
theorem dX8_append_40 : decode cX8_append 40 = .ok (.iinc 2 (-8), 3) := by decide +kernel
theorem dX8_append_43 : decode cX8_append 43 = .ok (.goto (-40), 3) := by decide +kernel
theorem dX8_append_46 : decode cX8_append 46 = .ok (.return_, 1) := by decide +kernel
theorem dX8_at_0 : decode cX8_at 0 = .ok (.iload_n 1, 1) := by decide +kernel
theorem dX8_at_1 : decode cX8_at 1 = .ok (.ifCond .lt 24, 3) := by decide +kernel
theorem dX8_at_4 : decode cX8_at 4 = .ok (.iload_n 1, 1) := by decide +kernel
theorem dX8_at_5 : decode cX8_at 5 = .ok (.aload_n 0, 1) := by decide +kernel
theorem dX8_at_6 : decode cX8_at 6 = .ok (.getfield 15, 3) := by decide +kernel
theorem dX8_at_9 : decode cX8_at 9 = .ok (.if_icmp .ge 16, 3) := by decide +kernel
theorem dX8_at_12 : decode cX8_at 12 = .ok (.aload_n 0, 1) := by decide +kernel
theorem dX8_at_13 : decode cX8_at 13 = .ok (.getfield 9, 3) := by decide +kernel
theorem dX8_at_16 : decode cX8_at 16 = .ok (.iload_n 1, 1) := by decide +kernel
theorem dX8_at_17 : decode cX8_at 17 = .ok (.baload, 1) := by decide +kernel
theorem dX8_at_18 : decode cX8_at 18 = .ok (.sipush 255, 3) := by decide +kernel
theorem dX8_at_21 : decode cX8_at 21 = .ok (.iand, 1) := by decide +kernel
theorem dX8_at_22 : decode cX8_at 22 = .ok (.goto 4, 3) := by decide +kernel
theorem dX8_at_25 : decode cX8_at 25 = .ok (.iconst (-1), 1) := by decide +kernel
theorem dX8_at_26 : decode cX8_at 26 = .ok (.ireturn, 1) := by decide +kernel
theorem dX8_copyFrom_0 : decode cX8_copyFrom 0 = .ok (.aload_n 1, 1) := by decide +kernel
theorem dX8_copyFrom_1 : decode cX8_copyFrom 1 = .ok (.getfield 9, 3) := by decide +kernel
theorem dX8_copyFrom_4 : decode cX8_copyFrom 4 = .ok (.iconst 0, 1) := by decide +kernel
theorem dX8_copyFrom_5 : decode cX8_copyFrom 5 = .ok (.aload_n 0, 1) := by decide +kernel
theorem dX8_copyFrom_6 : decode cX8_copyFrom 6 = .ok (.getfield 9, 3) := by decide +kernel
theorem dX8_copyFrom_9 : decode cX8_copyFrom 9 = .ok (.iconst 0, 1) := by decide +kernel
theorem dX8_copyFrom_10 : decode cX8_copyFrom 10 = .ok (.aload_n 1, 1) := by decide +kernel
theorem dX8_copyFrom_11 : decode cX8_copyFrom 11 = .ok (.getfield 15, 3) := by decide +kernel
theorem dX8_copyFrom_14 : decode cX8_copyFrom 14 = .ok (.invokestatic 19, 3) := by decide +kernel
theorem dX8_copyFrom_17 : decode cX8_copyFrom 17 = .ok (.aload_n 0, 1) := by decide +kernel
theorem dX8_copyFrom_18 : decode cX8_copyFrom 18 = .ok (.aload_n 1, 1) := by decide +kernel
theorem dX8_copyFrom_19 : decode cX8_copyFrom 19 = .ok (.getfield 15, 3) := by decide +kernel
theorem dX8_copyFrom_22 : decode cX8_copyFrom 22 = .ok (.putfield 15, 3) := by decide +kernel
theorem dX8_copyFrom_25 : decode cX8_copyFrom 25 = .ok (.return_, 1) := by decide +kernel
theorem dX9_add_0 : decode cX9_add 0 = .ok (.aload_n 0, 1) := by decide +kernel
theorem dX9_add_1 : decode cX9_add 1 = .ok (.getfield 41, 3) := by decide +kernel
theorem dX9_add_4 : decode cX9_add 4 = .ok (.sipush 400, 3) := by decide +kernel
theorem dX9_add_7 : decode cX9_add 7 = .ok (.if_icmp .gt 43, 3) := by decide +kernel
theorem dX9_add_10 : decode cX9_add 10 = .ok (.aload_n 0, 1) := by decide +kernel
theorem dX9_add_11 : decode cX9_add 11 = .ok (.getfield 9, 3) := by decide +kernel
theorem dX9_add_14 : decode cX9_add 14 = .ok (.aload_n 0, 1) := by decide +kernel
theorem dX9_add_15 : decode cX9_add 15 = .ok (.getfield 41, 3) := by decide +kernel
theorem dX9_add_18 : decode cX9_add 18 = .ok (.iload_n 1, 1) := by decide +kernel
theorem dX9_add_19 : decode cX9_add 19 = .ok (.iastore, 1) := by decide +kernel
theorem dX9_add_20 : decode cX9_add 20 = .ok (.aload_n 0, 1) := by decide +kernel
theorem dX9_add_21 : decode cX9_add 21 = .ok (.getfield 15, 3) := by decide +kernel
theorem dX9_add_24 : decode cX9_add 24 = .ok (.aload_n 0, 1) := by decide +kernel
theorem dX9_add_25 : decode cX9_add 25 = .ok (.getfield 41, 3) := by decide +kernel
theorem dX9_add_28 : decode cX9_add 28 = .ok (.iload_n 2, 1) := by decide +kernel
theorem dX9_add_29 : decode cX9_add 29 = .ok (.iastore, 1) := by decide +kernel
theorem dX9_add_30 : decode cX9_add 30 = .ok (.aload_n 0, 1) := by decide +kernel
theorem dX9_add_31 : decode cX9_add 31 = .ok (.getfield 18, 3) := by decide +kernel
theorem dX9_add_34 : decode cX9_add 34 = .ok (.aload_n 0, 1) := by decide +kernel
theorem dX9_add_35 : decode cX9_add 35 = .ok (.getfield 41, 3) := by decide +kernel
theorem dX9_add_38 : decode cX9_add 38 = .ok (.lload_n 3, 1) := by decide +kernel
theorem dX9_add_39 : decode cX9_add 39 = .ok (.lastore, 1) := by decide +kernel
theorem dX9_add_40 : decode cX9_add 40 = .ok (.aload_n 0, 1) := by decide +kernel
theorem dX9_add_41 : decode cX9_add 41 = .ok (.dup, 1) := by decide +kernel
theorem dX9_add_42 : decode cX9_add 42 = .ok (.getfield 41, 3) := by decide +kernel
theorem dX9_add_45 : decode cX9_add 45 = .ok (.iconst 1, 1) := by decide +kernel
theorem dX9_add_46 : decode cX9_add 46 = .ok (.iadd, 1) := by decide +kernel
theorem dX9_add_47 : decode cX9_add 47 = .ok (.putfield 41, 3) := by decide +kernel
theorem dX9_add_50 : decode cX9_add 50 = .ok (.return_, 1) := by decide +kernel
theorem dX9_cut_0 : decode cX9_cut 0 = .ok (.aload_n 0, 1) := by decide +kernel
theorem dX9_cut_1 : decode cX9_cut 1 = .ok (.iconst 0, 1) := by decide +kernel
theorem dX9_cut_2 : decode cX9_cut 2 = .ok (.putfield 41, 3) := by decide +kernel
theorem dX9_cut_5 : decode cX9_cut 5 = .ok (.iconst 0, 1) := by decide +kernel
theorem dX9_cut_6 : decode cX9_cut 6 = .ok (.istore_n 2, 1) := by decide +kernel
theorem dX9_cut_7 : decode cX9_cut 7 = .ok (.iconst 1, 1) := by decide +kernel
theorem dX9_cut_8 : decode cX9_cut 8 = .ok (.istore_n 3, 1) := by decide +kernel
theorem dX9_cut_9 : decode cX9_cut 9 = .ok (.iconst 0, 1) := by decide +kernel
theorem dX9_cut_10 : decode cX9_cut 10 = .ok (.istore 4, 2) := by decide +kernel
theorem dX9_cut_12 : decode cX9_cut 12 = .ok (.iload 4, 2) := by decide +kernel
theorem dX9_cut_14 : decode cX9_cut 14 = .ok (.sipush 400, 3) := by decide +kernel
theorem dX9_cut_17 : decode cX9_cut 17 = .ok (.if_icmp .gt 51, 3) := by decide +kernel
theorem dX9_cut_20 : decode cX9_cut 20 = .ok (.iload_n 3, 1) := by decide +kernel
theorem dX9_cut_21 : decode cX9_cut 21 = .ok (.ifCond .eq 47, 3) := by decide +kernel
theorem dX9_cut_24 : decode cX9_cut 24 = .ok (.aload_n 0, 1) := by decide +kernel
theorem dX9_cut_25 : decode cX9_cut 25 = .ok (.aload_n 1, 1) := by decide +kernel
theorem dX9_cut_26 : decode cX9_cut 26 = .ok (.aload_n 1, 1) := by decide +kernel
theorem dX9_cut_27 : decode cX9_cut 27 = .ok (.iload_n 2, 1) := by decide +kernel
theorem dX9_cut_28 : decode cX9_cut 28 = .ok (.invokestatic 45, 3) := by decide +kernel
theorem dX9_cut_31 : decode cX9_cut 31 = .ok (.invokevirtual 49, 3) := by decide +kernel
theorem dX9_cut_34 : decode cX9_cut 34 = .ok (.istore_n 2, 1) := by decide +kernel
theorem dX9_cut_35 : decode cX9_cut 35 = .ok (.aload_n 0, 1) := by decide +kernel
theorem dX9_cut_36 : decode cX9_cut 36 = .ok (.getfield 9, 3) := by decide +kernel
theorem dX9_cut_39 : decode cX9_cut 39 = .ok (.iload 4, 2) := by decide +kernel
theorem dX9_cut_41 : decode cX9_cut 41 = .ok (.iaload, 1) := by decide +kernel
theorem dX9_cut_42 : decode cX9_cut 42 = .ok (.ifCond .eq 18, 3) := by decide +kernel
theorem dX9_cut_45 : decode cX9_cut 45 = .ok (.aload_n 0, 1) := by decide +kernel
theorem dX9_cut_46 : decode cX9_cut 46 = .ok (.getfield 9, 3) := by decide +kernel
theorem dX9_cut_49 : decode cX9_cut 49 = .ok (.iload 4, 2) := by decide +kernel
theorem dX9_cut_51 : decode cX9_cut 51 = .ok (.iaload, 1) := by decide +kernel
theorem dX9_cut_52 : decode cX9_cut 52 = .ok (.iconst 1, 1) := by decide +kernel
theorem dX9_cut_53 : decode cX9_cut 53 = .ok (.if_icmp .eq 7, 3) := by decide +kernel
theorem dX9_cut_56 : decode cX9_cut 56 = .ok (.iconst 1, 1) := by decide +kernel
theorem dX9_cut_57 : decode cX9_cut 57 = .ok (.goto 4, 3) := by decide +kernel
theorem dX9_cut_60 : decode cX9_cut 60 = .ok (.iconst 0, 1) := by decide +kernel
theorem dX9_cut_61 : decode cX9_cut 61 = .ok (.istore_n 3, 1) := by decide +kernel
theorem dX9_cut_62 : decode cX9_cut 62 = .ok (.iinc 4 1, 3) := by decide +kernel
theorem dX9_cut_65 : decode cX9_cut 65 = .ok (.goto (-53), 3) := by decide +kernel
theorem dX9_cut_68 : decode cX9_cut 68 = .ok (.return_, 1) := by decide +kernel
theorem dX9_cutDigits_0 : decode cX9_cutDigits 0 = .ok (.lconst 0, 1) := by decide +kernel
theorem dX9_cutDigits_1 : decode cX9_cutDigits 1 = .ok (.lstore_n 3, 1) := by decide +kernel
theorem dX9_cutDigits_2 : decode cX9_cutDigits 2 = .ok (.iload_n 2, 1) := by decide +kernel
theorem dX9_cutDigits_3 : decode cX9_cutDigits 3 = .ok (.istore 5, 2) := by decide +kernel
theorem dX9_cutDigits_5 : decode cX9_cutDigits 5 = .ok (.iload_n 2, 1) := by decide +kernel
theorem dX9_cutDigits_6 : decode cX9_cutDigits 6 = .ok (.istore 6, 2) := by decide +kernel
theorem dX9_cutDigits_8 : decode cX9_cutDigits 8 = .ok (.iload 6, 2) := by decide +kernel
theorem dX9_cutDigits_10 : decode cX9_cutDigits 10 = .ok (.aload_n 1, 1) := by decide +kernel
theorem dX9_cutDigits_11 : decode cX9_cutDigits 11 = .ok (.getfield 52, 3) := by decide +kernel
theorem dX9_cutDigits_14 : decode cX9_cutDigits 14 = .ok (.if_icmp .ge 57, 3) := by decide +kernel
theorem dX9_cutDigits_17 : decode cX9_cutDigits 17 = .ok (.aload_n 1, 1) := by decide +kernel
theorem dX9_cutDigits_18 : decode cX9_cutDigits 18 = .ok (.iload 6, 2) := by decide +kernel
theorem dX9_cutDigits_20 : decode cX9_cutDigits 20 = .ok (.invokevirtual 56, 3) := by decide +kernel
theorem dX9_cutDigits_23 : decode cX9_cutDigits 23 = .ok (.invokestatic 70, 3) := by decide +kernel
theorem dX9_cutDigits_26 : decode cX9_cutDigits 26 = .ok (.ifCond .eq 45, 3) := by decide +kernel
theorem dX9_cutDigits_29 : decode cX9_cutDigits 29 = .ok (.iload 6, 2) := by decide +kernel
theorem dX9_cutDigits_31 : decode cX9_cutDigits 31 = .ok (.iload_n 2, 1) := by decide +kernel
theorem dX9_cutDigits_32 : decode cX9_cutDigits 32 = .ok (.isub, 1) := by decide +kernel
theorem dX9_cutDigits_33 : decode cX9_cutDigits 33 = .ok (.iconst 4, 1) := by decide +kernel
theorem dX9_cutDigits_34 : decode cX9_cutDigits 34 = .ok (.if_icmp .ge 23, 3) := by decide +kernel
theorem dX9_cutDigits_37 : decode cX9_cutDigits 37 = .ok (.lload_n 3, 1) := by decide +kernel
theorem dX9_cutDigits_38 : decode cX9_cutDigits 38 = .ok (.ldc2_w 89, 3) := by decide +kernel
theorem dX9_cutDigits_41 : decode cX9_cutDigits 41 = .ok (.lmul, 1) := by decide +kernel
theorem dX9_cutDigits_42 : decode cX9_cutDigits 42 = .ok (.aload_n 1, 1) := by decide +kernel
theorem dX9_cutDigits_43 : decode cX9_cutDigits 43 = .ok (.iload 6, 2) := by decide +kernel
theorem dX9_cutDigits_45 : decode cX9_cutDigits 45 = .ok (.invokevirtual 56, 3) := by decide +kernel
theorem dX9_cutDigits_48 : decode cX9_cutDigits 48 = .ok (.i2l, 1) := by decide +kernel
