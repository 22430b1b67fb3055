theorem dJ0_coder_7d493_0 : decode cJ0_coder_7d493 0 = .ok (.getstatic 38, 3) := by decide +kernel
theorem dJ0_coder_7d493_3 : decode cJ0_coder_7d493 3 = .ok (.ifCond .eq 10, 3) := by decide +kernel
theorem dJ0_coder_7d493_6 : decode cJ0_coder_7d493 6 = .ok (.aload_n 0, 1) := by decide +kernel
theorem dJ0_coder_7d493_7 : decode cJ0_coder_7d493 7 = .ok (.getfield 15, 3) := by decide +kernel
theorem dJ0_coder_7d493_10 : decode cJ0_coder_7d493 10 = .ok (.goto 4, 3) := by decide +kernel
theorem dJ0_coder_7d493_13 : decode cJ0_coder_7d493 13 = .ok (.iconst 1, 1) := by decide +kernel
theorem dJ0_coder_7d493_14 : decode cJ0_coder_7d493 14 = .ok (.ireturn, 1) := by decide +kernel
theorem dJ0_indexOf_0f7a4_0 : decode cJ0_indexOf_0f7a4 0 = .ok (.aload_n 0, 1) := by decide +kernel
theorem dJ0_indexOf_0f7a4_1 : decode cJ0_indexOf_0f7a4 1 = .ok (.iload_n 1, 1) := by decide +kernel
theorem dJ0_indexOf_0f7a4_2 : decode cJ0_indexOf_0f7a4 2 = .ok (.iconst 0, 1) := by decide +kernel
theorem dJ0_indexOf_0f7a4_3 : decode cJ0_indexOf_0f7a4 3 = .ok (.invokevirtual 633, 3) := by decide +kernel
theorem dJ0_indexOf_0f7a4_6 : decode cJ0_indexOf_0f7a4 6 = .ok (.ireturn, 1) := by decide +kernel
theorem dJ0_indexOf_7cf53_0 : decode cJ0_indexOf_7cf53 0 = .ok (.aload_n 0, 1) := by decide +kernel
theorem dJ0_indexOf_7cf53_1 : decode cJ0_indexOf_7cf53 1 = .ok (.invokevirtual 492, 3) := by decide +kernel
theorem dJ0_indexOf_7cf53_4 : decode cJ0_indexOf_7cf53 4 = .ok (.ifCond .eq 19, 3) := by decide +kernel
theorem dJ0_indexOf_7cf53_7 : decode cJ0_indexOf_7cf53 7 = .ok (.aload_n 0, 1) := by decide +kernel
theorem dJ0_indexOf_7cf53_8 : decode cJ0_indexOf_7cf53 8 = .ok (.getfield 9, 3) := by decide +kernel
theorem dJ0_indexOf_7cf53_11 : decode cJ0_indexOf_7cf53 11 = .ok (.iload_n 1, 1) := by decide +kernel
theorem dJ0_indexOf_7cf53_12 : decode cJ0_indexOf_7cf53 12 = .ok (.iload_n 2, 1) := by decide +kernel
theorem dJ0_indexOf_7cf53_13 : decode cJ0_indexOf_7cf53 13 = .ok (.aload_n 0, 1) := by decide +kernel
theorem dJ0_indexOf_7cf53_14 : decode cJ0_indexOf_7cf53 14 = .ok (.invokevirtual 505, 3) := by decide +kernel
theorem dJ0_indexOf_7cf53_17 : decode cJ0_indexOf_7cf53 17 = .ok (.invokestatic 637, 3) := by decide +kernel
theorem dJ0_indexOf_7cf53_20 : decode cJ0_indexOf_7cf53 20 = .ok (.goto 16, 3) := by decide +kernel
theorem dJ0_indexOf_7cf53_23 : decode cJ0_indexOf_7cf53 23 = .ok (.aload_n 0, 1) := by decide +kernel
theorem dJ0_indexOf_7cf53_24 : decode cJ0_indexOf_7cf53 24 = .ok (.getfield 9, 3) := by decide +kernel
theorem dJ0_indexOf_7cf53_27 : decode cJ0_indexOf_7cf53 27 = .ok (.iload_n 1, 1) := by decide +kernel
theorem dJ0_indexOf_7cf53_28 : decode cJ0_indexOf_7cf53 28 = .ok (.iload_n 2, 1) := by decide +kernel
theorem dJ0_indexOf_7cf53_29 : decode cJ0_indexOf_7cf53 29 = .ok (.aload_n 0, 1) := by decide +kernel
theorem dJ0_indexOf_7cf53_30 : decode cJ0_indexOf_7cf53 30 = .ok (.invokevirtual 505, 3) := by decide +kernel
theorem dJ0_indexOf_7cf53_33 : decode cJ0_indexOf_7cf53 33 = .ok (.invokestatic 640, 3) := by decide +kernel
theorem dJ0_indexOf_7cf53_36 : decode cJ0_indexOf_7cf53 36 = .ok (.ireturn, 1) := by decide +kernel
theorem dJ0_isLatin1_aae02_0 : decode cJ0_isLatin1_aae02 0 = .ok (.getstatic 38, 3) := by decide +kernel
theorem dJ0_isLatin1_aae02_3 : decode cJ0_isLatin1_aae02 3 = .ok (.ifCond .eq 14, 3) := by decide +kernel
theorem dJ0_isLatin1_aae02_6 : decode cJ0_isLatin1_aae02 6 = .ok (.aload_n 0, 1) := by decide +kernel
theorem dJ0_isLatin1_aae02_7 : decode cJ0_isLatin1_aae02 7 = .ok (.getfield 15, 3) := by decide +kernel
theorem dJ0_isLatin1_aae02_10 : decode cJ0_isLatin1_aae02 10 = .ok (.ifCond .ne 7, 3) := by decide +kernel
theorem dJ0_isLatin1_aae02_13 : decode cJ0_isLatin1_aae02 13 = .ok (.iconst 1, 1) := by decide +kernel
theorem dJ0_isLatin1_aae02_14 : decode cJ0_isLatin1_aae02 14 = .ok (.goto 4, 3) := by decide +kernel
theorem dJ0_isLatin1_aae02_17 : decode cJ0_isLatin1_aae02 17 = .ok (.iconst 0, 1) := by decide +kernel
theorem dJ0_isLatin1_aae02_18 : decode cJ0_isLatin1_aae02 18 = .ok (.ireturn, 1) := by decide +kernel
theorem dJ0_length_8abf5_0 : decode cJ0_length_8abf5 0 = .ok (.aload_n 0, 1) := by decide +kernel
theorem dJ0_length_8abf5_1 : decode cJ0_length_8abf5 1 = .ok (.getfield 9, 3) := by decide +kernel
theorem dJ0_length_8abf5_4 : decode cJ0_length_8abf5 4 = .ok (.arraylength, 1) := by decide +kernel
theorem dJ0_length_8abf5_5 : decode cJ0_length_8abf5 5 = .ok (.aload_n 0, 1) := by decide +kernel
theorem dJ0_length_8abf5_6 : decode cJ0_length_8abf5 6 = .ok (.invokevirtual 335, 3) := by decide +kernel
theorem dJ0_length_8abf5_9 : decode cJ0_length_8abf5 9 = .ok (.ishr, 1) := by decide +kernel
theorem dJ0_length_8abf5_10 : decode cJ0_length_8abf5 10 = .ok (.ireturn, 1) := by decide +kernel
theorem dJ13_bitCount_95d88_0 : decode cJ13_bitCount_95d88 0 = .ok (.lload_n 0, 1) := by decide +kernel
theorem dJ13_bitCount_95d88_1 : decode cJ13_bitCount_95d88 1 = .ok (.lload_n 0, 1) := by decide +kernel
theorem dJ13_bitCount_95d88_2 : decode cJ13_bitCount_95d88 2 = .ok (.iconst 1, 1) := by decide +kernel
theorem dJ13_bitCount_95d88_3 : decode cJ13_bitCount_95d88 3 = .ok (.lushr, 1) := by decide +kernel
theorem dJ13_bitCount_95d88_4 : decode cJ13_bitCount_95d88 4 = .ok (.ldc2_w 314, 3) := by decide +kernel
theorem dJ13_bitCount_95d88_7 : decode cJ13_bitCount_95d88 7 = .ok (.land, 1) := by decide +kernel
theorem dJ13_bitCount_95d88_8 : decode cJ13_bitCount_95d88 8 = .ok (.lsub, 1) := by decide +kernel
theorem dJ13_bitCount_95d88_9 : decode cJ13_bitCount_95d88 9 = .ok (.lstore_n 0, 1) := by decide +kernel
theorem dJ13_bitCount_95d88_10 : decode cJ13_bitCount_95d88 10 = .ok (.lload_n 0, 1) := by decide +kernel
theorem dJ13_bitCount_95d88_11 : decode cJ13_bitCount_95d88 11 = .ok (.ldc2_w 316, 3) := by decide +kernel
theorem dJ13_bitCount_95d88_14 : decode cJ13_bitCount_95d88 14 = .ok (.land, 1) := by decide +kernel
theorem dJ13_bitCount_95d88_15 : decode cJ13_bitCount_95d88 15 = .ok (.lload_n 0, 1) := by decide +kernel
theorem dJ13_bitCount_95d88_16 : decode cJ13_bitCount_95d88 16 = .ok (.iconst 2, 1) := by decide +kernel
theorem dJ13_bitCount_95d88_17 : decode cJ13_bitCount_95d88 17 = .ok (.lushr, 1) := by decide +kernel
theorem dJ13_bitCount_95d88_18 : decode cJ13_bitCount_95d88 18 = .ok (.ldc2_w 316, 3) := by decide +kernel
theorem dJ13_bitCount_95d88_21 : decode cJ13_bitCount_95d88 21 = .ok (.land, 1) := by decide +kernel
theorem dJ13_bitCount_95d88_22 : decode cJ13_bitCount_95d88 22 = .ok (.ladd, 1) := by decide +kernel
theorem dJ13_bitCount_95d88_23 : decode cJ13_bitCount_95d88 23 = .ok (.lstore_n 0, 1) := by decide +kernel
theorem dJ13_bitCount_95d88_24 : decode cJ13_bitCount_95d88 24 = .ok (.lload_n 0, 1) := by decide +kernel
theorem dJ13_bitCount_95d88_25 : decode cJ13_bitCount_95d88 25 = .ok (.lload_n 0, 1) := by decide +kernel
theorem dJ13_bitCount_95d88_26 : decode cJ13_bitCount_95d88 26 = .ok (.iconst 4, 1) := by decide +kernel
theorem dJ13_bitCount_95d88_27 : decode cJ13_bitCount_95d88 27 = .ok (.lushr, 1) := by decide +kernel
theorem dJ13_bitCount_95d88_28 : decode cJ13_bitCount_95d88 28 = .ok (.ladd, 1) := by decide +kernel
theorem dJ13_bitCount_95d88_29 : decode cJ13_bitCount_95d88 29 = .ok (.ldc2_w 318, 3) := by decide +kernel
theorem dJ13_bitCount_95d88_32 : decode cJ13_bitCount_95d88 32 = .ok (.land, 1) := by decide +kernel
theorem dJ13_bitCount_95d88_33 : decode cJ13_bitCount_95d88 33 = .ok (.lstore_n 0, 1) := by decide +kernel
theorem dJ13_bitCount_95d88_34 : decode cJ13_bitCount_95d88 34 = .ok (.lload_n 0, 1) := by decide +kernel
theorem dJ13_bitCount_95d88_35 : decode cJ13_bitCount_95d88 35 = .ok (.lload_n 0, 1) := by decide +kernel
theorem dJ13_bitCount_95d88_36 : decode cJ13_bitCount_95d88 36 = .ok (.bipush 8, 2) := by decide +kernel
theorem dJ13_bitCount_95d88_38 : decode cJ13_bitCount_95d88 38 = .ok (.lushr, 1) := by decide +kernel
theorem dJ13_bitCount_95d88_39 : decode cJ13_bitCount_95d88 39 = .ok (.ladd, 1) := by decide +kernel
theorem dJ13_bitCount_95d88_40 : decode cJ13_bitCount_95d88 40 = .ok (.lstore_n 0, 1) := by decide +kernel
theorem dJ13_bitCount_95d88_41 : decode cJ13_bitCount_95d88 41 = .ok (.lload_n 0, 1) := by decide +kernel
theorem dJ13_bitCount_95d88_42 : decode cJ13_bitCount_95d88 42 = .ok (.lload_n 0, 1) := by decide +kernel
theorem dJ13_bitCount_95d88_43 : decode cJ13_bitCount_95d88 43 = .ok (.bipush 16, 2) := by decide +kernel
theorem dJ13_bitCount_95d88_45 : decode cJ13_bitCount_95d88 45 = .ok (.lushr, 1) := by decide +kernel
theorem dJ13_bitCount_95d88_46 : decode cJ13_bitCount_95d88 46 = .ok (.ladd, 1) := by decide +kernel
theorem dJ13_bitCount_95d88_47 : decode cJ13_bitCount_95d88 47 = .ok (.lstore_n 0, 1) := by decide +kernel
theorem dJ13_bitCount_95d88_48 : decode cJ13_bitCount_95d88 48 = .ok (.lload_n 0, 1) := by decide +kernel
theorem dJ13_bitCount_95d88_49 : decode cJ13_bitCount_95d88 49 = .ok (.lload_n 0, 1) := by decide +kernel
theorem dJ13_bitCount_95d88_50 : decode cJ13_bitCount_95d88 50 = .ok (.bipush 32, 2) := by decide +kernel
theorem dJ13_bitCount_95d88_52 : decode cJ13_bitCount_95d88 52 = .ok (.lushr, 1) := by decide +kernel
theorem dJ13_bitCount_95d88_53 : decode cJ13_bitCount_95d88 53 = .ok (.ladd, 1) := by decide +kernel
theorem dJ13_bitCount_95d88_54 : decode cJ13_bitCount_95d88 54 = .ok (.lstore_n 0, 1) := by decide +kernel
theorem dJ13_bitCount_95d88_55 : decode cJ13_bitCount_95d88 55 = .ok (.lload_n 0, 1) := by decide +kernel
theorem dJ13_bitCount_95d88_56 : decode cJ13_bitCount_95d88 56 = .ok (.l2i, 1) := by decide +kernel
theorem dJ13_bitCount_95d88_57 : decode cJ13_bitCount_95d88 57 = .ok (.bipush 127, 2) := by decide +kernel
theorem dJ13_bitCount_95d88_59 : decode cJ13_bitCount_95d88 59 = .ok (.iand, 1) := by decide +kernel
theorem dJ13_bitCount_95d88_60 : decode cJ13_bitCount_95d88 60 = .ok (.ireturn, 1) := by decide +kernel
theorem dJ1_canEncode_9a6ad_0 : decode cJ1_canEncode_9a6ad 0 = .ok (.iload_n 0, 1) := by decide +kernel
theorem dJ1_canEncode_9a6ad_1 : decode cJ1_canEncode_9a6ad 1 = .ok (.ifCond .lt 14, 3) := by decide +kernel
theorem dJ1_canEncode_9a6ad_4 : decode cJ1_canEncode_9a6ad 4 = .ok (.iload_n 0, 1) := by decide +kernel
theorem dJ1_canEncode_9a6ad_5 : decode cJ1_canEncode_9a6ad 5 = .ok (.sipush 255, 3) := by decide +kernel
theorem dJ1_canEncode_9a6ad_8 : decode cJ1_canEncode_9a6ad 8 = .ok (.if_icmp .gt 7, 3) := by decide +kernel
theorem dJ1_canEncode_9a6ad_11 : decode cJ1_canEncode_9a6ad 11 = .ok (.iconst 1, 1) := by decide +kernel
theorem dJ1_canEncode_9a6ad_12 : decode cJ1_canEncode_9a6ad 12 = .ok (.goto 4, 3) := by decide +kernel
theorem dJ1_canEncode_9a6ad_15 : decode cJ1_canEncode_9a6ad 15 = .ok (.iconst 0, 1) := by decide +kernel
theorem dJ1_canEncode_9a6ad_16 : decode cJ1_canEncode_9a6ad 16 = .ok (.ireturn, 1) := by decide +kernel
theorem dJ1_indexOfChar_4cfef_0 : decode cJ1_indexOfChar_4cfef 0 = .ok (.iload_n 1, 1) := by decide +kernel
theorem dJ1_indexOfChar_4cfef_1 : decode cJ1_indexOfChar_4cfef 1 = .ok (.i2b, 1) := by decide +kernel
theorem dJ1_indexOfChar_4cfef_2 : decode cJ1_indexOfChar_4cfef 2 = .ok (.istore 4, 2) := by decide +kernel
theorem dJ1_indexOfChar_4cfef_4 : decode cJ1_indexOfChar_4cfef 4 = .ok (.iload_n 2, 1) := by decide +kernel
theorem dJ1_indexOfChar_4cfef_5 : decode cJ1_indexOfChar_4cfef 5 = .ok (.istore 5, 2) := by decide +kernel
theorem dJ1_indexOfChar_4cfef_7 : decode cJ1_indexOfChar_4cfef 7 = .ok (.iload 5, 2) := by decide +kernel
theorem dJ1_indexOfChar_4cfef_9 : decode cJ1_indexOfChar_4cfef 9 = .ok (.iload_n 3, 1) := by decide +kernel
theorem dJ1_indexOfChar_4cfef_10 : decode cJ1_indexOfChar_4cfef 10 = .ok (.if_icmp .ge 21, 3) := by decide +kernel
theorem dJ1_indexOfChar_4cfef_13 : decode cJ1_indexOfChar_4cfef 13 = .ok (.aload_n 0, 1) := by decide +kernel
theorem dJ1_indexOfChar_4cfef_14 : decode cJ1_indexOfChar_4cfef 14 = .ok (.iload 5, 2) := by decide +kernel
theorem dJ1_indexOfChar_4cfef_16 : decode cJ1_indexOfChar_4cfef 16 = .ok (.baload, 1) := by decide +kernel
theorem dJ1_indexOfChar_4cfef_17 : decode cJ1_indexOfChar_4cfef 17 = .ok (.iload 4, 2) := by decide +kernel
theorem dJ1_indexOfChar_4cfef_19 : decode cJ1_indexOfChar_4cfef 19 = .ok (.if_icmp .ne 6, 3) := by decide +kernel
theorem dJ1_indexOfChar_4cfef_22 : decode cJ1_indexOfChar_4cfef 22 = .ok (.iload 5, 2) := by decide +kernel
theorem dJ1_indexOfChar_4cfef_24 : decode cJ1_indexOfChar_4cfef 24 = .ok (.ireturn, 1) := by decide +kernel
theorem dJ1_indexOfChar_4cfef_25 : decode cJ1_indexOfChar_4cfef 25 = .ok (.iinc 5 1, 3) := by decide +kernel
theorem dJ1_indexOfChar_4cfef_28 : decode cJ1_indexOfChar_4cfef 28 = .ok (.goto (-21), 3) := by decide +kernel
theorem dJ1_indexOfChar_4cfef_31 : decode cJ1_indexOfChar_4cfef 31 = .ok (.iconst (-1), 1) := by decide +kernel
theorem dJ1_indexOfChar_4cfef_32 : decode cJ1_indexOfChar_4cfef 32 = .ok (.ireturn, 1) := by decide +kernel
theorem dJ1_indexOf_4cfef_0 : decode cJ1_indexOf_4cfef 0 = .ok (.iload_n 1, 1) := by decide +kernel
theorem dJ1_indexOf_4cfef_1 : decode cJ1_indexOf_4cfef 1 = .ok (.invokestatic 88, 3) := by decide +kernel
theorem dJ1_indexOf_4cfef_4 : decode cJ1_indexOf_4cfef 4 = .ok (.ifCond .ne 5, 3) := by decide +kernel
theorem dJ1_indexOf_4cfef_7 : decode cJ1_indexOf_4cfef 7 = .ok (.iconst (-1), 1) := by decide +kernel
theorem dJ1_indexOf_4cfef_8 : decode cJ1_indexOf_4cfef 8 = .ok (.ireturn, 1) := by decide +kernel
theorem dJ1_indexOf_4cfef_9 : decode cJ1_indexOf_4cfef 9 = .ok (.iload_n 2, 1) := by decide +kernel
theorem dJ1_indexOf_4cfef_10 : decode cJ1_indexOf_4cfef 10 = .ok (.iconst 0, 1) := by decide +kernel
theorem dJ1_indexOf_4cfef_11 : decode cJ1_indexOf_4cfef 11 = .ok (.invokestatic 92, 3) := by decide +kernel
theorem dJ1_indexOf_4cfef_14 : decode cJ1_indexOf_4cfef 14 = .ok (.istore_n 2, 1) := by decide +kernel
theorem dJ1_indexOf_4cfef_15 : decode cJ1_indexOf_4cfef 15 = .ok (.iload_n 3, 1) := by decide +kernel
theorem dJ1_indexOf_4cfef_16 : decode cJ1_indexOf_4cfef 16 = .ok (.aload_n 0, 1) := by decide +kernel
theorem dJ1_indexOf_4cfef_17 : decode cJ1_indexOf_4cfef 17 = .ok (.arraylength, 1) := by decide +kernel
theorem dJ1_indexOf_4cfef_18 : decode cJ1_indexOf_4cfef 18 = .ok (.invokestatic 38, 3) := by decide +kernel
theorem dJ1_indexOf_4cfef_21 : decode cJ1_indexOf_4cfef 21 = .ok (.istore_n 3, 1) := by decide +kernel
theorem dJ1_indexOf_4cfef_22 : decode cJ1_indexOf_4cfef 22 = .ok (.iload_n 2, 1) := by decide +kernel
theorem dJ1_indexOf_4cfef_23 : decode cJ1_indexOf_4cfef 23 = .ok (.iload_n 3, 1) := by decide +kernel
theorem dJ1_indexOf_4cfef_24 : decode cJ1_indexOf_4cfef 24 = .ok (.if_icmp .lt 5, 3) := by decide +kernel
theorem dJ1_indexOf_4cfef_27 : decode cJ1_indexOf_4cfef 27 = .ok (.iconst (-1), 1) := by decide +kernel
theorem dJ1_indexOf_4cfef_28 : decode cJ1_indexOf_4cfef 28 = .ok (.ireturn, 1) := by decide +kernel
theorem dJ1_indexOf_4cfef_29 : decode cJ1_indexOf_4cfef 29 = .ok (.aload_n 0, 1) := by decide +kernel
theorem dJ1_indexOf_4cfef_30 : decode cJ1_indexOf_4cfef 30 = .ok (.iload_n 1, 1) := by decide +kernel
theorem dJ1_indexOf_4cfef_31 : decode cJ1_indexOf_4cfef 31 = .ok (.iload_n 2, 1) := by decide +kernel
theorem dJ1_indexOf_4cfef_32 : decode cJ1_indexOf_4cfef 32 = .ok (.iload_n 3, 1) := by decide +kernel
theorem dJ1_indexOf_4cfef_33 : decode cJ1_indexOf_4cfef 33 = .ok (.invokestatic 95, 3) := by decide +kernel
theorem dJ1_indexOf_4cfef_36 : decode cJ1_indexOf_4cfef 36 = .ok (.ireturn, 1) := by decide +kernel
theorem dJ6_bitCount_0f7a4_0 : decode cJ6_bitCount_0f7a4 0 = .ok (.iload_n 0, 1) := by decide +kernel
theorem dJ6_bitCount_0f7a4_1 : decode cJ6_bitCount_0f7a4 1 = .ok (.iload_n 0, 1) := by decide +kernel
theorem dJ6_bitCount_0f7a4_2 : decode cJ6_bitCount_0f7a4 2 = .ok (.iconst 1, 1) := by decide +kernel
theorem dJ6_bitCount_0f7a4_3 : decode cJ6_bitCount_0f7a4 3 = .ok (.iushr, 1) := by decide +kernel
theorem dJ6_bitCount_0f7a4_4 : decode cJ6_bitCount_0f7a4 4 = .ok (.ldc_w 265, 3) := by decide +kernel
theorem dJ6_bitCount_0f7a4_7 : decode cJ6_bitCount_0f7a4 7 = .ok (.iand, 1) := by decide +kernel
theorem dJ6_bitCount_0f7a4_8 : decode cJ6_bitCount_0f7a4 8 = .ok (.isub, 1) := by decide +kernel
theorem dJ6_bitCount_0f7a4_9 : decode cJ6_bitCount_0f7a4 9 = .ok (.istore_n 0, 1) := by decide +kernel
theorem dJ6_bitCount_0f7a4_10 : decode cJ6_bitCount_0f7a4 10 = .ok (.iload_n 0, 1) := by decide +kernel
theorem dJ6_bitCount_0f7a4_11 : decode cJ6_bitCount_0f7a4 11 = .ok (.ldc_w 266, 3) := by decide +kernel
theorem dJ6_bitCount_0f7a4_14 : decode cJ6_bitCount_0f7a4 14 = .ok (.iand, 1) := by decide +kernel
theorem dJ6_bitCount_0f7a4_15 : decode cJ6_bitCount_0f7a4 15 = .ok (.iload_n 0, 1) := by decide +kernel
theorem dJ6_bitCount_0f7a4_16 : decode cJ6_bitCount_0f7a4 16 = .ok (.iconst 2, 1) := by decide +kernel
theorem dJ6_bitCount_0f7a4_17 : decode cJ6_bitCount_0f7a4 17 = .ok (.iushr, 1) := by decide +kernel
theorem dJ6_bitCount_0f7a4_18 : decode cJ6_bitCount_0f7a4 18 = .ok (.ldc_w 266, 3) := by decide +kernel
theorem dJ6_bitCount_0f7a4_21 : decode cJ6_bitCount_0f7a4 21 = .ok (.iand, 1) := by decide +kernel
theorem dJ6_bitCount_0f7a4_22 : decode cJ6_bitCount_0f7a4 22 = .ok (.iadd, 1) := by decide +kernel
theorem dJ6_bitCount_0f7a4_23 : decode cJ6_bitCount_0f7a4 23 = .ok (.istore_n 0, 1) := by decide +kernel
theorem dJ6_bitCount_0f7a4_24 : decode cJ6_bitCount_0f7a4 24 = .ok (.iload_n 0, 1) := by decide +kernel
theorem dJ6_bitCount_0f7a4_25 : decode cJ6_bitCount_0f7a4 25 = .ok (.iload_n 0, 1) := by decide +kernel
theorem dJ6_bitCount_0f7a4_26 : decode cJ6_bitCount_0f7a4 26 = .ok (.iconst 4, 1) := by decide +kernel
theorem dJ6_bitCount_0f7a4_27 : decode cJ6_bitCount_0f7a4 27 = .ok (.iushr, 1) := by decide +kernel
theorem dJ6_bitCount_0f7a4_28 : decode cJ6_bitCount_0f7a4 28 = .ok (.iadd, 1) := by decide +kernel
theorem dJ6_bitCount_0f7a4_29 : decode cJ6_bitCount_0f7a4 29 = .ok (.ldc_w 267, 3) := by decide +kernel
theorem dJ6_bitCount_0f7a4_32 : decode cJ6_bitCount_0f7a4 32 = .ok (.iand, 1) := by decide +kernel
theorem dJ6_bitCount_0f7a4_33 : decode cJ6_bitCount_0f7a4 33 = .ok (.istore_n 0, 1) := by decide +kernel
theorem dJ6_bitCount_0f7a4_34 : decode cJ6_bitCount_0f7a4 34 = .ok (.iload_n 0, 1) := by decide +kernel
theorem dJ6_bitCount_0f7a4_35 : decode cJ6_bitCount_0f7a4 35 = .ok (.iload_n 0, 1) := by decide +kernel
theorem dJ6_bitCount_0f7a4_36 : decode cJ6_bitCount_0f7a4 36 = .ok (.bipush 8, 2) := by decide +kernel
theorem dJ6_bitCount_0f7a4_38 : decode cJ6_bitCount_0f7a4 38 = .ok (.iushr, 1) := by decide +kernel
theorem dJ6_bitCount_0f7a4_39 : decode cJ6_bitCount_0f7a4 39 = .ok (.iadd, 1) := by decide +kernel
theorem dJ6_bitCount_0f7a4_40 : decode cJ6_bitCount_0f7a4 40 = .ok (.istore_n 0, 1) := by decide +kernel
theorem dJ6_bitCount_0f7a4_41 : decode cJ6_bitCount_0f7a4 41 = .ok (.iload_n 0, 1) := by decide +kernel
theorem dJ6_bitCount_0f7a4_42 : decode cJ6_bitCount_0f7a4 42 = .ok (.iload_n 0, 1) := by decide +kernel
theorem dJ6_bitCount_0f7a4_43 : decode cJ6_bitCount_0f7a4 43 = .ok (.bipush 16, 2) := by decide +kernel
theorem dJ6_bitCount_0f7a4_45 : decode cJ6_bitCount_0f7a4 45 = .ok (.iushr, 1) := by decide +kernel
theorem dJ6_bitCount_0f7a4_46 : decode cJ6_bitCount_0f7a4 46 = .ok (.iadd, 1) := by decide +kernel
theorem dJ6_bitCount_0f7a4_47 : decode cJ6_bitCount_0f7a4 47 = .ok (.istore_n 0, 1) := by decide +kernel
theorem dJ6_bitCount_0f7a4_48 : decode cJ6_bitCount_0f7a4 48 = .ok (.iload_n 0, 1) := by decide +kernel
theorem dJ6_bitCount_0f7a4_49 : decode cJ6_bitCount_0f7a4 49 = .ok (.bipush 63, 2) := by decide +kernel
theorem dJ6_bitCount_0f7a4_51 : decode cJ6_bitCount_0f7a4 51 = .ok (.iand, 1) := by decide +kernel
theorem dJ6_bitCount_0f7a4_52 : decode cJ6_bitCount_0f7a4 52 = .ok (.ireturn, 1) := by decide +kernel
theorem dJ7_fill_53178_0 : decode cJ7_fill_53178 0 = .ok (.iconst 0, 1) := by decide +kernel
theorem dJ7_fill_53178_1 : decode cJ7_fill_53178 1 = .ok (.istore_n 2, 1) := by decide +kernel
theorem dJ7_fill_53178_2 : decode cJ7_fill_53178 2 = .ok (.aload_n 0, 1) := by decide +kernel
theorem dJ7_fill_53178_3 : decode cJ7_fill_53178 3 = .ok (.arraylength, 1) := by decide +kernel
theorem dJ7_fill_53178_4 : decode cJ7_fill_53178 4 = .ok (.istore_n 3, 1) := by decide +kernel
theorem dJ7_fill_53178_5 : decode cJ7_fill_53178 5 = .ok (.iload_n 2, 1) := by decide +kernel
theorem dJ7_fill_53178_6 : decode cJ7_fill_53178 6 = .ok (.iload_n 3, 1) := by decide +kernel
theorem dJ7_fill_53178_7 : decode cJ7_fill_53178 7 = .ok (.if_icmp .ge 13, 3) := by decide +kernel
theorem dJ7_fill_53178_10 : decode cJ7_fill_53178 10 = .ok (.aload_n 0, 1) := by decide +kernel
theorem dJ7_fill_53178_11 : decode cJ7_fill_53178 11 = .ok (.iload_n 2, 1) := by decide +kernel
theorem dJ7_fill_53178_12 : decode cJ7_fill_53178 12 = .ok (.iload_n 1, 1) := by decide +kernel
theorem dJ7_fill_53178_13 : decode cJ7_fill_53178 13 = .ok (.iastore, 1) := by decide +kernel
theorem dJ7_fill_53178_14 : decode cJ7_fill_53178 14 = .ok (.iinc 2 1, 3) := by decide +kernel
theorem dJ7_fill_53178_17 : decode cJ7_fill_53178 17 = .ok (.goto (-12), 3) := by decide +kernel
theorem dJ7_fill_53178_20 : decode cJ7_fill_53178 20 = .ok (.return_, 1) := by decide +kernel
theorem dJ9_floorMod_7cf53_0 : decode cJ9_floorMod_7cf53 0 = .ok (.iload_n 0, 1) := by decide +kernel
theorem dJ9_floorMod_7cf53_1 : decode cJ9_floorMod_7cf53 1 = .ok (.iload_n 1, 1) := by decide +kernel
theorem dJ9_floorMod_7cf53_2 : decode cJ9_floorMod_7cf53 2 = .ok (.irem, 1) := by decide +kernel
theorem dJ9_floorMod_7cf53_3 : decode cJ9_floorMod_7cf53 3 = .ok (.istore_n 2, 1) := by decide +kernel
theorem dJ9_floorMod_7cf53_4 : decode cJ9_floorMod_7cf53 4 = .ok (.iload_n 0, 1) := by decide +kernel
theorem dJ9_floorMod_7cf53_5 : decode cJ9_floorMod_7cf53 5 = .ok (.iload_n 1, 1) := by decide +kernel
theorem dJ9_floorMod_7cf53_6 : decode cJ9_floorMod_7cf53 6 = .ok (.ixor, 1) := by decide +kernel
theorem dJ9_floorMod_7cf53_7 : decode cJ9_floorMod_7cf53 7 = .ok (.ifCond .ge 11, 3) := by decide +kernel
theorem dJ9_floorMod_7cf53_10 : decode cJ9_floorMod_7cf53 10 = .ok (.iload_n 2, 1) := by decide +kernel
theorem dJ9_floorMod_7cf53_11 : decode cJ9_floorMod_7cf53 11 = .ok (.ifCond .eq 7, 3) := by decide +kernel
theorem dJ9_floorMod_7cf53_14 : decode cJ9_floorMod_7cf53 14 = .ok (.iload_n 2, 1) := by decide +kernel
theorem dJ9_floorMod_7cf53_15 : decode cJ9_floorMod_7cf53 15 = .ok (.iload_n 1, 1) := by decide +kernel
theorem dJ9_floorMod_7cf53_16 : decode cJ9_floorMod_7cf53 16 = .ok (.iadd, 1) := by decide +kernel
theorem dJ9_floorMod_7cf53_17 : decode cJ9_floorMod_7cf53 17 = .ok (.ireturn, 1) := by decide +kernel
theorem dJ9_floorMod_7cf53_18 : decode cJ9_floorMod_7cf53 18 = .ok (.iload_n 2, 1) := by decide +kernel
theorem dJ9_floorMod_7cf53_19 : decode cJ9_floorMod_7cf53 19 = .ok (.ireturn, 1) := by decide +kernel
theorem dX0_find_0 : decode cX0_find 0 = .ok (.aload_n 0, 1) := by decide +kernel
theorem dX0_find_1 : decode cX0_find 1 = .ok (.getfield 28, 3) := by decide +kernel
theorem dX0_find_4 : decode cX0_find 4 = .ok (.ifCond .eq 21, 3) := by decide +kernel
theorem dX0_find_7 : decode cX0_find 7 = .ok (.aload_n 0, 1) := by decide +kernel
theorem dX0_find_8 : decode cX0_find 8 = .ok (.getfield 32, 3) := by decide +kernel
theorem dX0_find_11 : decode cX0_find 11 = .ok (.iload_n 3, 1) := by decide +kernel
theorem dX0_find_12 : decode cX0_find 12 = .ok (.if_icmp .ne 13, 3) := by decide +kernel
theorem dX0_find_15 : decode cX0_find 15 = .ok (.aload_n 0, 1) := by decide +kernel
theorem dX0_find_16 : decode cX0_find 16 = .ok (.getfield 36, 3) := by decide +kernel
theorem dX0_find_19 : decode cX0_find 19 = .ok (.iload 4, 2) := by decide +kernel
theorem dX0_find_21 : decode cX0_find 21 = .ok (.if_icmp .ne 4, 3) := by decide +kernel
theorem dX0_find_24 : decode cX0_find 24 = .ok (.return_, 1) := by decide +kernel
theorem dX0_find_25 : decode cX0_find 25 = .ok (.aload_n 0, 1) := by decide +kernel
theorem dX0_find_26 : decode cX0_find 26 = .ok (.iconst 1, 1) := by decide +kernel
theorem dX0_find_27 : decode cX0_find 27 = .ok (.putfield 28, 3) := by decide +kernel
theorem dX0_find_30 : decode cX0_find 30 = .ok (.aload_n 0, 1) := by decide +kernel
theorem dX0_find_31 : decode cX0_find 31 = .ok (.iload_n 3, 1) := by decide +kernel
theorem dX0_find_32 : decode cX0_find 32 = .ok (.putfield 32, 3) := by decide +kernel
theorem dX0_find_35 : decode cX0_find 35 = .ok (.aload_n 0, 1) := by decide +kernel
theorem dX0_find_36 : decode cX0_find 36 = .ok (.iload 4, 2) := by decide +kernel
theorem dX0_find_38 : decode cX0_find 38 = .ok (.putfield 36, 3) := by decide +kernel
theorem dX0_find_41 : decode cX0_find 41 = .ok (.aload_n 0, 1) := by decide +kernel
theorem dX0_find_42 : decode cX0_find 42 = .ok (.iconst 0, 1) := by decide +kernel
theorem dX0_find_43 : decode cX0_find 43 = .ok (.putfield 39, 3) := by decide +kernel
theorem dX0_find_46 : decode cX0_find 46 = .ok (.aload_n 0, 1) := by decide +kernel
theorem dX0_find_47 : decode cX0_find 47 = .ok (.iconst 0, 1) := by decide +kernel
theorem dX0_find_48 : decode cX0_find 48 = .ok (.putfield 42, 3) := by decide +kernel
theorem dX0_find_51 : decode cX0_find 51 = .ok (.aload_n 0, 1) := by decide +kernel
theorem dX0_find_52 : decode cX0_find 52 = .ok (.getfield 24, 3) := by decide +kernel
theorem dX0_find_55 : decode cX0_find 55 = .ok (.invokevirtual 45, 3) := by decide +kernel
theorem dX0_find_58 : decode cX0_find 58 = .ok (.aload_n 0, 1) := by decide +kernel
theorem dX0_find_59 : decode cX0_find 59 = .ok (.getfield 14, 3) := by decide +kernel
theorem dX0_find_62 : decode cX0_find 62 = .ok (.aload_n 2, 1) := by decide +kernel
theorem dX0_find_63 : decode cX0_find 63 = .ok (.invokevirtual 50, 3) := by decide +kernel
theorem dX0_find_66 : decode cX0_find 66 = .ok (.aload_n 0, 1) := by decide +kernel
theorem dX0_find_67 : decode cX0_find 67 = .ok (.getfield 24, 3) := by decide +kernel
theorem dX0_find_70 : decode cX0_find 70 = .ok (.aload_n 0, 1) := by decide +kernel
theorem dX0_find_71 : decode cX0_find 71 = .ok (.getfield 14, 3) := by decide +kernel
theorem dX0_find_74 : decode cX0_find 74 = .ok (.iconst 0, 1) := by decide +kernel
theorem dX0_find_75 : decode cX0_find 75 = .ok (.lconst 1, 1) := by decide +kernel
theorem dX0_find_76 : decode cX0_find 76 = .ok (.iconst 0, 1) := by decide +kernel
theorem dX0_find_77 : decode cX0_find 77 = .ok (.invokevirtual 54, 3) := by decide +kernel
theorem dX0_find_80 : decode cX0_find 80 = .ok (.iconst 0, 1) := by decide +kernel
theorem dX0_find_81 : decode cX0_find 81 = .ok (.istore 5, 2) := by decide +kernel
theorem dX0_find_83 : decode cX0_find 83 = .ok (.iconst 1, 1) := by decide +kernel
theorem dX0_find_84 : decode cX0_find 84 = .ok (.istore 6, 2) := by decide +kernel
theorem dX0_find_86 : decode cX0_find 86 = .ok (.iload 6, 2) := by decide +kernel
theorem dX0_find_88 : decode cX0_find 88 = .ok (.iconst 4, 1) := by decide +kernel
theorem dX0_find_89 : decode cX0_find 89 = .ok (.if_icmp .gt 91, 3) := by decide +kernel
theorem dX0_find_92 : decode cX0_find 92 = .ok (.aload_n 0, 1) := by decide +kernel
theorem dX0_find_93 : decode cX0_find 93 = .ok (.getfield 39, 3) := by decide +kernel
theorem dX0_find_96 : decode cX0_find 96 = .ok (.ifCond .ne 84, 3) := by decide +kernel
theorem dX0_find_99 : decode cX0_find 99 = .ok (.aload_n 0, 1) := by decide +kernel
theorem dX0_find_100 : decode cX0_find 100 = .ok (.getfield 24, 3) := by decide +kernel
theorem dX0_find_103 : decode cX0_find 103 = .ok (.getfield 58, 3) := by decide +kernel
theorem dX0_find_106 : decode cX0_find 106 = .ok (.istore 7, 2) := by decide +kernel
theorem dX0_find_108 : decode cX0_find 108 = .ok (.iload 5, 2) := by decide +kernel
theorem dX0_find_110 : decode cX0_find 110 = .ok (.istore 8, 2) := by decide +kernel
theorem dX0_find_112 : decode cX0_find 112 = .ok (.iload 8, 2) := by decide +kernel
theorem dX0_find_114 : decode cX0_find 114 = .ok (.iload 7, 2) := by decide +kernel
theorem dX0_find_116 : decode cX0_find 116 = .ok (.if_icmp .ge 54, 3) := by decide +kernel
theorem dX0_find_119 : decode cX0_find 119 = .ok (.aload_n 0, 1) := by decide +kernel
theorem dX0_find_120 : decode cX0_find 120 = .ok (.getfield 39, 3) := by decide +kernel
theorem dX0_find_123 : decode cX0_find 123 = .ok (.ifCond .ne 47, 3) := by decide +kernel
theorem dX0_find_126 : decode cX0_find 126 = .ok (.aload_n 1, 1) := by decide +kernel
theorem dX0_find_127 : decode cX0_find 127 = .ok (.getfield 61, 3) := by decide +kernel
theorem dX0_find_130 : decode cX0_find 130 = .ok (.iload_n 3, 1) := by decide +kernel
theorem dX0_find_131 : decode cX0_find 131 = .ok (.iaload, 1) := by decide +kernel
theorem dX0_find_132 : decode cX0_find 132 = .ok (.aload_n 0, 1) := by decide +kernel
theorem dX0_find_133 : decode cX0_find 133 = .ok (.getfield 24, 3) := by decide +kernel
theorem dX0_find_136 : decode cX0_find 136 = .ok (.getfield 66, 3) := by decide +kernel
theorem dX0_find_139 : decode cX0_find 139 = .ok (.iload 8, 2) := by decide +kernel
theorem dX0_find_141 : decode cX0_find 141 = .ok (.iaload, 1) := by decide +kernel
theorem dX0_find_142 : decode cX0_find 142 = .ok (.isub, 1) := by decide +kernel
theorem dX0_find_143 : decode cX0_find 143 = .ok (.iconst 4, 1) := by decide +kernel
theorem dX0_find_144 : decode cX0_find 144 = .ok (.iload 6, 2) := by decide +kernel
theorem dX0_find_146 : decode cX0_find 146 = .ok (.isub, 1) := by decide +kernel
theorem dX0_find_147 : decode cX0_find 147 = .ok (.iconst 1, 1) := by decide +kernel
theorem dX0_find_148 : decode cX0_find 148 = .ok (.iadd, 1) := by decide +kernel
theorem dX0_find_149 : decode cX0_find 149 = .ok (.invokestatic 69, 3) := by decide +kernel
theorem dX0_find_152 : decode cX0_find 152 = .ok (.ifCond .eq 12, 3) := by decide +kernel
theorem dX0_find_155 : decode cX0_find 155 = .ok (.aload_n 0, 1) := by decide +kernel
theorem dX0_find_156 : decode cX0_find 156 = .ok (.aload_n 1, 1) := by decide +kernel
theorem dX0_find_157 : decode cX0_find 157 = .ok (.iload 8, 2) := by decide +kernel
theorem dX0_find_159 : decode cX0_find 159 = .ok (.iload 6, 2) := by decide +kernel
theorem dX0_find_161 : decode cX0_find 161 = .ok (.invokevirtual 73, 3) := by decide +kernel
theorem dX0_find_164 : decode cX0_find 164 = .ok (.iinc 8 1, 3) := by decide +kernel
theorem dX0_find_167 : decode cX0_find 167 = .ok (.goto (-55), 3) := by decide +kernel
theorem dX0_find_170 : decode cX0_find 170 = .ok (.iload 7, 2) := by decide +kernel
theorem dX0_find_172 : decode cX0_find 172 = .ok (.istore 5, 2) := by decide +kernel
theorem dX0_find_174 : decode cX0_find 174 = .ok (.iinc 6 1, 3) := by decide +kernel
theorem dX0_find_177 : decode cX0_find 177 = .ok (.goto (-91), 3) := by decide +kernel
theorem dX0_find_180 : decode cX0_find 180 = .ok (.return_, 1) := by decide +kernel
theorem dX10_addCase_0 : decode cX10_addCase 0 = .ok (.aload_n 0, 1) := by decide +kernel
theorem dX10_addCase_1 : decode cX10_addCase 1 = .ok (.getfield 69, 3) := by decide +kernel
theorem dX10_addCase_4 : decode cX10_addCase 4 = .ok (.bipush 8, 2) := by decide +kernel
theorem dX10_addCase_6 : decode cX10_addCase 6 = .ok (.if_icmp .ge 44, 3) := by decide +kernel
theorem dX10_addCase_9 : decode cX10_addCase 9 = .ok (.aload_n 0, 1) := by decide +kernel
theorem dX10_addCase_10 : decode cX10_addCase 10 = .ok (.getfield 28, 3) := by decide +kernel
theorem dX10_addCase_13 : decode cX10_addCase 13 = .ok (.aload_n 0, 1) := by decide +kernel
theorem dX10_addCase_14 : decode cX10_addCase 14 = .ok (.getfield 69, 3) := by decide +kernel
theorem dX10_addCase_17 : decode cX10_addCase 17 = .ok (.lload_n 1, 1) := by decide +kernel
theorem dX10_addCase_18 : decode cX10_addCase 18 = .ok (.lastore, 1) := by decide +kernel
theorem dX10_addCase_19 : decode cX10_addCase 19 = .ok (.aload_n 0, 1) := by decide +kernel
theorem dX10_addCase_20 : decode cX10_addCase 20 = .ok (.getfield 31, 3) := by decide +kernel
theorem dX10_addCase_23 : decode cX10_addCase 23 = .ok (.aload_n 0, 1) := by decide +kernel
theorem dX10_addCase_24 : decode cX10_addCase 24 = .ok (.getfield 69, 3) := by decide +kernel
theorem dX10_addCase_27 : decode cX10_addCase 27 = .ok (.iload_n 3, 1) := by decide +kernel
theorem dX10_addCase_28 : decode cX10_addCase 28 = .ok (.iastore, 1) := by decide +kernel
theorem dX10_addCase_29 : decode cX10_addCase 29 = .ok (.aload_n 0, 1) := by decide +kernel
theorem dX10_addCase_30 : decode cX10_addCase 30 = .ok (.getfield 34, 3) := by decide +kernel
theorem dX10_addCase_33 : decode cX10_addCase 33 = .ok (.aload_n 0, 1) := by decide +kernel
theorem dX10_addCase_34 : decode cX10_addCase 34 = .ok (.getfield 69, 3) := by decide +kernel
theorem dX10_addCase_37 : decode cX10_addCase 37 = .ok (.lload 4, 2) := by decide +kernel
theorem dX10_addCase_39 : decode cX10_addCase 39 = .ok (.lastore, 1) := by decide +kernel
theorem dX10_addCase_40 : decode cX10_addCase 40 = .ok (.aload_n 0, 1) := by decide +kernel
theorem dX10_addCase_41 : decode cX10_addCase 41 = .ok (.dup, 1) := by decide +kernel
theorem dX10_addCase_42 : decode cX10_addCase 42 = .ok (.getfield 69, 3) := by decide +kernel
theorem dX10_addCase_45 : decode cX10_addCase 45 = .ok (.iconst 1, 1) := by decide +kernel
theorem dX10_addCase_46 : decode cX10_addCase 46 = .ok (.iadd, 1) := by decide +kernel
theorem dX10_addCase_47 : decode cX10_addCase 47 = .ok (.putfield 69, 3) := by decide +kernel
theorem dX10_addCase_50 : decode cX10_addCase 50 = .ok (.return_, 1) := by decide +kernel
theorem dX10_addFact_0 : decode cX10_addFact 0 = .ok (.aload_n 0, 1) := by decide +kernel
theorem dX10_addFact_1 : decode cX10_addFact 1 = .ok (.getfield 47, 3) := by decide +kernel
theorem dX10_addFact_4 : decode cX10_addFact 4 = .ok (.bipush 6, 2) := by decide +kernel
theorem dX10_addFact_6 : decode cX10_addFact 6 = .ok (.if_icmp .ge 70, 3) := by decide +kernel
theorem dX10_addFact_9 : decode cX10_addFact 9 = .ok (.aload_n 0, 1) := by decide +kernel
theorem dX10_addFact_10 : decode cX10_addFact 10 = .ok (.getfield 9, 3) := by decide +kernel
theorem dX10_addFact_13 : decode cX10_addFact 13 = .ok (.aload_n 0, 1) := by decide +kernel
theorem dX10_addFact_14 : decode cX10_addFact 14 = .ok (.getfield 47, 3) := by decide +kernel
theorem dX10_addFact_17 : decode cX10_addFact 17 = .ok (.lload_n 1, 1) := by decide +kernel
theorem dX10_addFact_18 : decode cX10_addFact 18 = .ok (.lastore, 1) := by decide +kernel
theorem dX10_addFact_19 : decode cX10_addFact 19 = .ok (.aload_n 0, 1) := by decide +kernel
theorem dX10_addFact_20 : decode cX10_addFact 20 = .ok (.dup, 1) := by decide +kernel
theorem dX10_addFact_21 : decode cX10_addFact 21 = .ok (.getfield 51, 3) := by decide +kernel
theorem dX10_addFact_24 : decode cX10_addFact 24 = .ok (.iload_n 3, 1) := by decide +kernel
theorem dX10_addFact_25 : decode cX10_addFact 25 = .ok (.ifCond .eq 12, 3) := by decide +kernel
theorem dX10_addFact_28 : decode cX10_addFact 28 = .ok (.iconst 1, 1) := by decide +kernel
theorem dX10_addFact_29 : decode cX10_addFact 29 = .ok (.aload_n 0, 1) := by decide +kernel
theorem dX10_addFact_30 : decode cX10_addFact 30 = .ok (.getfield 47, 3) := by decide +kernel
theorem dX10_addFact_33 : decode cX10_addFact 33 = .ok (.ishl, 1) := by decide +kernel
theorem dX10_addFact_34 : decode cX10_addFact 34 = .ok (.goto 4, 3) := by decide +kernel
theorem dX10_addFact_37 : decode cX10_addFact 37 = .ok (.iconst 0, 1) := by decide +kernel
theorem dX10_addFact_38 : decode cX10_addFact 38 = .ok (.ior, 1) := by decide +kernel
theorem dX10_addFact_39 : decode cX10_addFact 39 = .ok (.putfield 51, 3) := by decide +kernel
theorem dX10_addFact_42 : decode cX10_addFact 42 = .ok (.aload_n 0, 1) := by decide +kernel
theorem dX10_addFact_43 : decode cX10_addFact 43 = .ok (.dup, 1) := by decide +kernel
theorem dX10_addFact_44 : decode cX10_addFact 44 = .ok (.getfield 54, 3) := by decide +kernel
theorem dX10_addFact_47 : decode cX10_addFact 47 = .ok (.iload 4, 2) := by decide +kernel
theorem dX10_addFact_49 : decode cX10_addFact 49 = .ok (.ifCond .eq 12, 3) := by decide +kernel
theorem dX10_addFact_52 : decode cX10_addFact 52 = .ok (.iconst 1, 1) := by decide +kernel
theorem dX10_addFact_53 : decode cX10_addFact 53 = .ok (.aload_n 0, 1) := by decide +kernel
theorem dX10_addFact_54 : decode cX10_addFact 54 = .ok (.getfield 47, 3) := by decide +kernel
theorem dX10_addFact_57 : decode cX10_addFact 57 = .ok (.ishl, 1) := by decide +kernel
theorem dX10_addFact_58 : decode cX10_addFact 58 = .ok (.goto 4, 3) := by decide +kernel
theorem dX10_addFact_61 : decode cX10_addFact 61 = .ok (.iconst 0, 1) := by decide +kernel
theorem dX10_addFact_62 : decode cX10_addFact 62 = .ok (.ior, 1) := by decide +kernel
theorem dX10_addFact_63 : decode cX10_addFact 63 = .ok (.putfield 54, 3) := by decide +kernel
theorem dX10_addFact_66 : decode cX10_addFact 66 = .ok (.aload_n 0, 1) := by decide +kernel
theorem dX10_addFact_67 : decode cX10_addFact 67 = .ok (.dup, 1) := by decide +kernel
theorem dX10_addFact_68 : decode cX10_addFact 68 = .ok (.getfield 47, 3) := by decide +kernel
theorem dX10_addFact_71 : decode cX10_addFact 71 = .ok (.iconst 1, 1) := by decide +kernel
theorem dX10_addFact_72 : decode cX10_addFact 72 = .ok (.iadd, 1) := by decide +kernel
theorem dX10_addFact_73 : decode cX10_addFact 73 = .ok (.putfield 47, 3) := by decide +kernel
theorem dX10_addFact_76 : decode cX10_addFact 76 = .ok (.return_, 1) := by decide +kernel
theorem dX10_addWitness_0 : decode cX10_addWitness 0 = .ok (.aload_n 0, 1) := by decide +kernel
theorem dX10_addWitness_1 : decode cX10_addWitness 1 = .ok (.getfield 57, 3) := by decide +kernel
theorem dX10_addWitness_4 : decode cX10_addWitness 4 = .ok (.bipush 6, 2) := by decide +kernel
theorem dX10_addWitness_6 : decode cX10_addWitness 6 = .ok (.if_icmp .ge 33, 3) := by decide +kernel
theorem dX10_addWitness_9 : decode cX10_addWitness 9 = .ok (.aload_n 0, 1) := by decide +kernel
theorem dX10_addWitness_10 : decode cX10_addWitness 10 = .ok (.getfield 15, 3) := by decide +kernel
theorem dX10_addWitness_13 : decode cX10_addWitness 13 = .ok (.aload_n 0, 1) := by decide +kernel
theorem dX10_addWitness_14 : decode cX10_addWitness 14 = .ok (.getfield 57, 3) := by decide +kernel
theorem dX10_addWitness_17 : decode cX10_addWitness 17 = .ok (.lload_n 1, 1) := by decide +kernel
theorem dX10_addWitness_18 : decode cX10_addWitness 18 = .ok (.lastore, 1) := by decide +kernel
theorem dX10_addWitness_19 : decode cX10_addWitness 19 = .ok (.aload_n 0, 1) := by decide +kernel
theorem dX10_addWitness_20 : decode cX10_addWitness 20 = .ok (.getfield 18, 3) := by decide +kernel
theorem dX10_addWitness_23 : decode cX10_addWitness 23 = .ok (.aload_n 0, 1) := by decide +kernel
theorem dX10_addWitness_24 : decode cX10_addWitness 24 = .ok (.getfield 57, 3) := by decide +kernel
theorem dX10_addWitness_27 : decode cX10_addWitness 27 = .ok (.iconst 0, 1) := by decide +kernel
theorem dX10_addWitness_28 : decode cX10_addWitness 28 = .ok (.iastore, 1) := by decide +kernel
theorem dX10_addWitness_29 : decode cX10_addWitness 29 = .ok (.aload_n 0, 1) := by decide +kernel
theorem dX10_addWitness_30 : decode cX10_addWitness 30 = .ok (.dup, 1) := by decide +kernel
theorem dX10_addWitness_31 : decode cX10_addWitness 31 = .ok (.getfield 57, 3) := by decide +kernel
theorem dX10_addWitness_34 : decode cX10_addWitness 34 = .ok (.iconst 1, 1) := by decide +kernel
theorem dX10_addWitness_35 : decode cX10_addWitness 35 = .ok (.iadd, 1) := by decide +kernel
theorem dX10_addWitness_36 : decode cX10_addWitness 36 = .ok (.putfield 57, 3) := by decide +kernel
theorem dX10_addWitness_39 : decode cX10_addWitness 39 = .ok (.return_, 1) := by decide +kernel
theorem dX10_addWord_0 : decode cX10_addWord 0 = .ok (.aload_n 0, 1) := by decide +kernel
theorem dX10_addWord_1 : decode cX10_addWord 1 = .ok (.getfield 60, 3) := by decide +kernel
theorem dX10_addWord_4 : decode cX10_addWord 4 = .ok (.bipush 16, 2) := by decide +kernel
theorem dX10_addWord_6 : decode cX10_addWord 6 = .ok (.if_icmp .ge 71, 3) := by decide +kernel
theorem dX10_addWord_9 : decode cX10_addWord 9 = .ok (.iload_n 1, 1) := by decide +kernel
theorem dX10_addWord_10 : decode cX10_addWord 10 = .ok (.ifCond .lt 67, 3) := by decide +kernel
theorem dX10_addWord_13 : decode cX10_addWord 13 = .ok (.iload_n 1, 1) := by decide +kernel
theorem dX10_addWord_14 : decode cX10_addWord 14 = .ok (.bipush 6, 2) := by decide +kernel
theorem dX10_addWord_16 : decode cX10_addWord 16 = .ok (.if_icmp .ge 61, 3) := by decide +kernel
theorem dX10_addWord_19 : decode cX10_addWord 19 = .ok (.aload_n 0, 1) := by decide +kernel
theorem dX10_addWord_20 : decode cX10_addWord 20 = .ok (.getfield 22, 3) := by decide +kernel
theorem dX10_addWord_23 : decode cX10_addWord 23 = .ok (.aload_n 0, 1) := by decide +kernel
theorem dX10_addWord_24 : decode cX10_addWord 24 = .ok (.getfield 60, 3) := by decide +kernel
theorem dX10_addWord_27 : decode cX10_addWord 27 = .ok (.iload_n 1, 1) := by decide +kernel
theorem dX10_addWord_28 : decode cX10_addWord 28 = .ok (.iastore, 1) := by decide +kernel
theorem dX10_addWord_29 : decode cX10_addWord 29 = .ok (.aload_n 0, 1) := by decide +kernel
theorem dX10_addWord_30 : decode cX10_addWord 30 = .ok (.getfield 18, 3) := by decide +kernel
theorem dX10_addWord_33 : decode cX10_addWord 33 = .ok (.iload_n 1, 1) := by decide +kernel
theorem dX10_addWord_34 : decode cX10_addWord 34 = .ok (.dup2, 1) := by decide +kernel
theorem dX10_addWord_35 : decode cX10_addWord 35 = .ok (.iaload, 1) := by decide +kernel
theorem dX10_addWord_36 : decode cX10_addWord 36 = .ok (.iconst 1, 1) := by decide +kernel
theorem dX10_addWord_37 : decode cX10_addWord 37 = .ok (.aload_n 0, 1) := by decide +kernel
theorem dX10_addWord_38 : decode cX10_addWord 38 = .ok (.getfield 60, 3) := by decide +kernel
theorem dX10_addWord_41 : decode cX10_addWord 41 = .ok (.ishl, 1) := by decide +kernel
theorem dX10_addWord_42 : decode cX10_addWord 42 = .ok (.ior, 1) := by decide +kernel
theorem dX10_addWord_43 : decode cX10_addWord 43 = .ok (.iastore, 1) := by decide +kernel
theorem dX10_addWord_44 : decode cX10_addWord 44 = .ok (.aload_n 0, 1) := by decide +kernel
theorem dX10_addWord_45 : decode cX10_addWord 45 = .ok (.dup, 1) := by decide +kernel
theorem dX10_addWord_46 : decode cX10_addWord 46 = .ok (.getfield 63, 3) := by decide +kernel
theorem dX10_addWord_49 : decode cX10_addWord 49 = .ok (.iload_n 2, 1) := by decide +kernel
theorem dX10_addWord_50 : decode cX10_addWord 50 = .ok (.ifCond .eq 12, 3) := by decide +kernel
theorem dX10_addWord_53 : decode cX10_addWord 53 = .ok (.iconst 1, 1) := by decide +kernel
theorem dX10_addWord_54 : decode cX10_addWord 54 = .ok (.aload_n 0, 1) := by decide +kernel
theorem dX10_addWord_55 : decode cX10_addWord 55 = .ok (.getfield 60, 3) := by decide +kernel
theorem dX10_addWord_58 : decode cX10_addWord 58 = .ok (.ishl, 1) := by decide +kernel
theorem dX10_addWord_59 : decode cX10_addWord 59 = .ok (.goto 4, 3) := by decide +kernel
theorem dX10_addWord_62 : decode cX10_addWord 62 = .ok (.iconst 0, 1) := by decide +kernel
theorem dX10_addWord_63 : decode cX10_addWord 63 = .ok (.ior, 1) := by decide +kernel
theorem dX10_addWord_64 : decode cX10_addWord 64 = .ok (.putfield 63, 3) := by decide +kernel
theorem dX10_addWord_67 : decode cX10_addWord 67 = .ok (.aload_n 0, 1) := by decide +kernel
theorem dX10_addWord_68 : decode cX10_addWord 68 = .ok (.getfield 25, 3) := by decide +kernel
theorem dX10_addWord_71 : decode cX10_addWord 71 = .ok (.aload_n 0, 1) := by decide +kernel
theorem dX10_addWord_72 : decode cX10_addWord 72 = .ok (.getfield 60, 3) := by decide +kernel
theorem dX10_addWord_75 : decode cX10_addWord 75 = .ok (.lload_n 3, 1) := by decide +kernel
theorem dX10_addWord_76 : decode cX10_addWord 76 = .ok (.lastore, 1) := by decide +kernel
theorem dX10_addWord_77 : decode cX10_addWord 77 = .ok (.aload_n 0, 1) := by decide +kernel
theorem dX10_addWord_78 : decode cX10_addWord 78 = .ok (.aload_n 0, 1) := by decide +kernel
theorem dX10_addWord_79 : decode cX10_addWord 79 = .ok (.getfield 60, 3) := by decide +kernel
theorem dX10_addWord_82 : decode cX10_addWord 82 = .ok (.iconst 1, 1) := by decide +kernel
theorem dX10_addWord_83 : decode cX10_addWord 83 = .ok (.iadd, 1) := by decide +kernel
theorem dX10_addWord_84 : decode cX10_addWord 84 = .ok (.bipush 16, 2) := by decide +kernel
theorem dX10_addWord_86 : decode cX10_addWord 86 = .ok (.invokestatic 95, 3) := by decide +kernel
theorem dX10_addWord_89 : decode cX10_addWord 89 = .ok (.putfield 60, 3) := by decide +kernel
theorem dX10_addWord_92 : decode cX10_addWord 92 = .ok (.return_, 1) := by decide +kernel
theorem dX10_asItIs_0 : decode cX10_asItIs 0 = .ok (.iload_n 1, 1) := by decide +kernel
theorem dX10_asItIs_1 : decode cX10_asItIs 1 = .ok (.ifCond .lt 9, 3) := by decide +kernel
theorem dX10_asItIs_4 : decode cX10_asItIs 4 = .ok (.iload_n 1, 1) := by decide +kernel
theorem dX10_asItIs_5 : decode cX10_asItIs 5 = .ok (.bipush 6, 2) := by decide +kernel
theorem dX10_asItIs_7 : decode cX10_asItIs 7 = .ok (.if_icmp .lt 8, 3) := by decide +kernel
theorem dX10_asItIs_10 : decode cX10_asItIs 10 = .ok (.aload_n 0, 1) := by decide +kernel
theorem dX10_asItIs_11 : decode cX10_asItIs 11 = .ok (.getfield 80, 3) := by decide +kernel
theorem dX10_asItIs_14 : decode cX10_asItIs 14 = .ok (.lreturn, 1) := by decide +kernel
theorem dX10_asItIs_15 : decode cX10_asItIs 15 = .ok (.aload_n 0, 1) := by decide +kernel
theorem dX10_asItIs_16 : decode cX10_asItIs 16 = .ok (.getfield 51, 3) := by decide +kernel
theorem dX10_asItIs_19 : decode cX10_asItIs 19 = .ok (.iload_n 1, 1) := by decide +kernel
theorem dX10_asItIs_20 : decode cX10_asItIs 20 = .ok (.ishr, 1) := by decide +kernel
theorem dX10_asItIs_21 : decode cX10_asItIs 21 = .ok (.iconst 1, 1) := by decide +kernel
theorem dX10_asItIs_22 : decode cX10_asItIs 22 = .ok (.iand, 1) := by decide +kernel
theorem dX10_asItIs_23 : decode cX10_asItIs 23 = .ok (.ifCond .eq 11, 3) := by decide +kernel
theorem dX10_asItIs_26 : decode cX10_asItIs 26 = .ok (.getstatic 112, 3) := by decide +kernel
theorem dX10_asItIs_29 : decode cX10_asItIs 29 = .ok (.iload_n 1, 1) := by decide +kernel
theorem dX10_asItIs_30 : decode cX10_asItIs 30 = .ok (.laload, 1) := by decide +kernel
theorem dX10_asItIs_31 : decode cX10_asItIs 31 = .ok (.goto 12, 3) := by decide +kernel
theorem dX10_asItIs_34 : decode cX10_asItIs 34 = .ok (.getstatic 112, 3) := by decide +kernel
theorem dX10_asItIs_37 : decode cX10_asItIs 37 = .ok (.iload_n 1, 1) := by decide +kernel
theorem dX10_asItIs_38 : decode cX10_asItIs 38 = .ok (.laload, 1) := by decide +kernel
theorem dX10_asItIs_39 : decode cX10_asItIs 39 = .ok (.ldc2_w 78, 3) := by decide +kernel
theorem dX10_asItIs_42 : decode cX10_asItIs 42 = .ok (.lxor, 1) := by decide +kernel
theorem dX10_asItIs_43 : decode cX10_asItIs 43 = .ok (.lreturn, 1) := by decide +kernel
theorem dX10_clear_0 : decode cX10_clear 0 = .ok (.aload_n 0, 1) := by decide +kernel
theorem dX10_clear_1 : decode cX10_clear 1 = .ok (.iconst 0, 1) := by decide +kernel
theorem dX10_clear_2 : decode cX10_clear 2 = .ok (.putfield 47, 3) := by decide +kernel
theorem dX10_clear_5 : decode cX10_clear 5 = .ok (.aload_n 0, 1) := by decide +kernel
theorem dX10_clear_6 : decode cX10_clear 6 = .ok (.iconst 0, 1) := by decide +kernel
theorem dX10_clear_7 : decode cX10_clear 7 = .ok (.putfield 51, 3) := by decide +kernel
theorem dX10_clear_10 : decode cX10_clear 10 = .ok (.aload_n 0, 1) := by decide +kernel
theorem dX10_clear_11 : decode cX10_clear 11 = .ok (.iconst 0, 1) := by decide +kernel
theorem dX10_clear_12 : decode cX10_clear 12 = .ok (.putfield 54, 3) := by decide +kernel
theorem dX10_clear_15 : decode cX10_clear 15 = .ok (.aload_n 0, 1) := by decide +kernel
theorem dX10_clear_16 : decode cX10_clear 16 = .ok (.iconst 0, 1) := by decide +kernel
theorem dX10_clear_17 : decode cX10_clear 17 = .ok (.putfield 57, 3) := by decide +kernel
theorem dX10_clear_20 : decode cX10_clear 20 = .ok (.aload_n 0, 1) := by decide +kernel
theorem dX10_clear_21 : decode cX10_clear 21 = .ok (.iconst 0, 1) := by decide +kernel
theorem dX10_clear_22 : decode cX10_clear 22 = .ok (.putfield 60, 3) := by decide +kernel
theorem dX10_clear_25 : decode cX10_clear 25 = .ok (.aload_n 0, 1) := by decide +kernel
theorem dX10_clear_26 : decode cX10_clear 26 = .ok (.iconst 0, 1) := by decide +kernel
theorem dX10_clear_27 : decode cX10_clear 27 = .ok (.putfield 63, 3) := by decide +kernel
theorem dX10_clear_30 : decode cX10_clear 30 = .ok (.aload_n 0, 1) := by decide +kernel
theorem dX10_clear_31 : decode cX10_clear 31 = .ok (.iconst 0, 1) := by decide +kernel
theorem dX10_clear_32 : decode cX10_clear 32 = .ok (.putfield 66, 3) := by decide +kernel
theorem dX10_clear_35 : decode cX10_clear 35 = .ok (.aload_n 0, 1) := by decide +kernel
theorem dX10_clear_36 : decode cX10_clear 36 = .ok (.iconst 0, 1) := by decide +kernel
theorem dX10_clear_37 : decode cX10_clear 37 = .ok (.putfield 69, 3) := by decide +kernel
theorem dX10_clear_40 : decode cX10_clear 40 = .ok (.aload_n 0, 1) := by decide +kernel
theorem dX10_clear_41 : decode cX10_clear 41 = .ok (.iconst 0, 1) := by decide +kernel
theorem dX10_clear_42 : decode cX10_clear 42 = .ok (.putfield 72, 3) := by decide +kernel
theorem dX10_clear_45 : decode cX10_clear 45 = .ok (.aload_n 0, 1) := by decide +kernel
theorem dX10_clear_46 : decode cX10_clear 46 = .ok (.getfield 40, 3) := by decide +kernel
theorem dX10_clear_49 : decode cX10_clear 49 = .ok (.invokevirtual 75, 3) := by decide +kernel
theorem dX10_clear_52 : decode cX10_clear 52 = .ok (.aload_n 0, 1) := by decide +kernel
theorem dX10_clear_53 : decode cX10_clear 53 = .ok (.getfield 44, 3) := by decide +kernel
theorem dX10_clear_56 : decode cX10_clear 56 = .ok (.invokevirtual 75, 3) := by decide +kernel
theorem dX10_clear_59 : decode cX10_clear 59 = .ok (.return_, 1) := by decide +kernel
theorem dX10_factNamed_0 : decode cX10_factNamed 0 = .ok (.aload_n 0, 1) := by decide +kernel
theorem dX10_factNamed_1 : decode cX10_factNamed 1 = .ok (.getfield 9, 3) := by decide +kernel
theorem dX10_factNamed_4 : decode cX10_factNamed 4 = .ok (.aload_n 0, 1) := by decide +kernel
theorem dX10_factNamed_5 : decode cX10_factNamed 5 = .ok (.getfield 47, 3) := by decide +kernel
theorem dX10_factNamed_8 : decode cX10_factNamed 8 = .ok (.lload_n 1, 1) := by decide +kernel
theorem dX10_factNamed_9 : decode cX10_factNamed 9 = .ok (.invokestatic 101, 3) := by decide +kernel
theorem dX10_factNamed_12 : decode cX10_factNamed 12 = .ok (.ireturn, 1) := by decide +kernel
theorem dX10_finish_0 : decode cX10_finish 0 = .ok (.aload_n 0, 1) := by decide +kernel
theorem dX10_finish_1 : decode cX10_finish 1 = .ok (.aload_n 0, 1) := by decide +kernel
theorem dX10_finish_2 : decode cX10_finish 2 = .ok (.getfield 47, 3) := by decide +kernel
theorem dX10_finish_5 : decode cX10_finish 5 = .ok (.bipush 6, 2) := by decide +kernel
theorem dX10_finish_7 : decode cX10_finish 7 = .ok (.if_icmp .ge 16, 3) := by decide +kernel
theorem dX10_finish_10 : decode cX10_finish 10 = .ok (.lconst 1, 1) := by decide +kernel
theorem dX10_finish_11 : decode cX10_finish 11 = .ok (.iconst 1, 1) := by decide +kernel
theorem dX10_finish_12 : decode cX10_finish 12 = .ok (.aload_n 0, 1) := by decide +kernel
theorem dX10_finish_13 : decode cX10_finish 13 = .ok (.getfield 47, 3) := by decide +kernel
theorem dX10_finish_16 : decode cX10_finish 16 = .ok (.ishl, 1) := by decide +kernel
theorem dX10_finish_17 : decode cX10_finish 17 = .ok (.lshl, 1) := by decide +kernel
theorem dX10_finish_18 : decode cX10_finish 18 = .ok (.lconst 1, 1) := by decide +kernel
theorem dX10_finish_19 : decode cX10_finish 19 = .ok (.lsub, 1) := by decide +kernel
theorem dX10_finish_20 : decode cX10_finish 20 = .ok (.goto 6, 3) := by decide +kernel
theorem dX10_finish_23 : decode cX10_finish 23 = .ok (.ldc2_w 78, 3) := by decide +kernel
theorem dX10_finish_26 : decode cX10_finish 26 = .ok (.putfield 80, 3) := by decide +kernel
theorem dX10_finish_29 : decode cX10_finish 29 = .ok (.iconst 0, 1) := by decide +kernel
theorem dX10_finish_30 : decode cX10_finish 30 = .ok (.istore_n 1, 1) := by decide +kernel
theorem dX10_finish_31 : decode cX10_finish 31 = .ok (.iload_n 1, 1) := by decide +kernel
theorem dX10_finish_32 : decode cX10_finish 32 = .ok (.aload_n 0, 1) := by decide +kernel
theorem dX10_finish_33 : decode cX10_finish 33 = .ok (.getfield 60, 3) := by decide +kernel
theorem dX10_finish_36 : decode cX10_finish 36 = .ok (.if_icmp .ge 34, 3) := by decide +kernel
theorem dX10_finish_39 : decode cX10_finish 39 = .ok (.aload_n 0, 1) := by decide +kernel
theorem dX10_finish_40 : decode cX10_finish 40 = .ok (.dup, 1) := by decide +kernel
theorem dX10_finish_41 : decode cX10_finish 41 = .ok (.getfield 66, 3) := by decide +kernel
theorem dX10_finish_44 : decode cX10_finish 44 = .ok (.aload_n 0, 1) := by decide +kernel
theorem dX10_finish_45 : decode cX10_finish 45 = .ok (.getfield 25, 3) := by decide +kernel
theorem dX10_finish_48 : decode cX10_finish 48 = .ok (.iload_n 1, 1) := by decide +kernel
theorem dX10_finish_49 : decode cX10_finish 49 = .ok (.laload, 1) := by decide +kernel
theorem dX10_finish_50 : decode cX10_finish 50 = .ok (.aload_n 0, 1) := by decide +kernel
theorem dX10_finish_51 : decode cX10_finish 51 = .ok (.getfield 51, 3) := by decide +kernel
theorem dX10_finish_54 : decode cX10_finish 54 = .ok (.lushr, 1) := by decide +kernel
theorem dX10_finish_55 : decode cX10_finish 55 = .ok (.lconst 1, 1) := by decide +kernel
theorem dX10_finish_56 : decode cX10_finish 56 = .ok (.land, 1) := by decide +kernel
theorem dX10_finish_57 : decode cX10_finish 57 = .ok (.l2i, 1) := by decide +kernel
theorem dX10_finish_58 : decode cX10_finish 58 = .ok (.iload_n 1, 1) := by decide +kernel
theorem dX10_finish_59 : decode cX10_finish 59 = .ok (.ishl, 1) := by decide +kernel
theorem dX10_finish_60 : decode cX10_finish 60 = .ok (.ior, 1) := by decide +kernel
theorem dX10_finish_61 : decode cX10_finish 61 = .ok (.putfield 66, 3) := by decide +kernel
theorem dX10_finish_64 : decode cX10_finish 64 = .ok (.iinc 1 1, 3) := by decide +kernel
theorem dX10_finish_67 : decode cX10_finish 67 = .ok (.goto (-36), 3) := by decide +kernel
theorem dX10_finish_70 : decode cX10_finish 70 = .ok (.aload_n 0, 1) := by decide +kernel
theorem dX10_finish_71 : decode cX10_finish 71 = .ok (.getfield 40, 3) := by decide +kernel
theorem dX10_finish_74 : decode cX10_finish 74 = .ok (.invokestatic 84, 3) := by decide +kernel
theorem dX10_finish_77 : decode cX10_finish 77 = .ok (.aload_n 0, 1) := by decide +kernel
theorem dX10_finish_78 : decode cX10_finish 78 = .ok (.getfield 44, 3) := by decide +kernel
theorem dX10_finish_81 : decode cX10_finish 81 = .ok (.invokestatic 84, 3) := by decide +kernel
theorem dX10_finish_84 : decode cX10_finish 84 = .ok (.return_, 1) := by decide +kernel
theorem dX10_hasCase_0 : decode cX10_hasCase 0 = .ok (.iload_n 1, 1) := by decide +kernel
theorem dX10_hasCase_1 : decode cX10_hasCase 1 = .ok (.ifCond .lt 15, 3) := by decide +kernel
theorem dX10_hasCase_4 : decode cX10_hasCase 4 = .ok (.iload_n 1, 1) := by decide +kernel
theorem dX10_hasCase_5 : decode cX10_hasCase 5 = .ok (.aload_n 0, 1) := by decide +kernel
theorem dX10_hasCase_6 : decode cX10_hasCase 6 = .ok (.getfield 69, 3) := by decide +kernel
theorem dX10_hasCase_9 : decode cX10_hasCase 9 = .ok (.if_icmp .ge 7, 3) := by decide +kernel
theorem dX10_hasCase_12 : decode cX10_hasCase 12 = .ok (.iconst 1, 1) := by decide +kernel
theorem dX10_hasCase_13 : decode cX10_hasCase 13 = .ok (.goto 4, 3) := by decide +kernel
theorem dX10_hasCase_16 : decode cX10_hasCase 16 = .ok (.iconst 0, 1) := by decide +kernel
theorem dX10_hasCase_17 : decode cX10_hasCase 17 = .ok (.ireturn, 1) := by decide +kernel
theorem dX10_hasSet_0 : decode cX10_hasSet 0 = .ok (.iload_n 1, 1) := by decide +kernel
theorem dX10_hasSet_1 : decode cX10_hasSet 1 = .ok (.ifCond .lt 16, 3) := by decide +kernel
theorem dX10_hasSet_4 : decode cX10_hasSet 4 = .ok (.iload_n 1, 1) := by decide +kernel
theorem dX10_hasSet_5 : decode cX10_hasSet 5 = .ok (.aload_n 0, 1) := by decide +kernel
theorem dX10_hasSet_6 : decode cX10_hasSet 6 = .ok (.getfield 60, 3) := by decide +kernel
theorem dX10_hasSet_9 : decode cX10_hasSet 9 = .ok (.ishr, 1) := by decide +kernel
theorem dX10_hasSet_10 : decode cX10_hasSet 10 = .ok (.ifCond .ne 7, 3) := by decide +kernel
theorem dX10_hasSet_13 : decode cX10_hasSet 13 = .ok (.iconst 1, 1) := by decide +kernel
theorem dX10_hasSet_14 : decode cX10_hasSet 14 = .ok (.goto 4, 3) := by decide +kernel
theorem dX10_hasSet_17 : decode cX10_hasSet 17 = .ok (.iconst 0, 1) := by decide +kernel
theorem dX10_hasSet_18 : decode cX10_hasSet 18 = .ok (.ireturn, 1) := by decide +kernel
theorem dX10_hasWord_0 : decode cX10_hasWord 0 = .ok (.iload_n 1, 1) := by decide +kernel
theorem dX10_hasWord_1 : decode cX10_hasWord 1 = .ok (.ifCond .lt 15, 3) := by decide +kernel
theorem dX10_hasWord_4 : decode cX10_hasWord 4 = .ok (.iload_n 1, 1) := by decide +kernel
theorem dX10_hasWord_5 : decode cX10_hasWord 5 = .ok (.aload_n 0, 1) := by decide +kernel
theorem dX10_hasWord_6 : decode cX10_hasWord 6 = .ok (.getfield 60, 3) := by decide +kernel
theorem dX10_hasWord_9 : decode cX10_hasWord 9 = .ok (.if_icmp .ge 7, 3) := by decide +kernel
theorem dX10_hasWord_12 : decode cX10_hasWord 12 = .ok (.iconst 1, 1) := by decide +kernel
theorem dX10_hasWord_13 : decode cX10_hasWord 13 = .ok (.goto 4, 3) := by decide +kernel
theorem dX10_hasWord_16 : decode cX10_hasWord 16 = .ok (.iconst 0, 1) := by decide +kernel
theorem dX10_hasWord_17 : decode cX10_hasWord 17 = .ok (.ireturn, 1) := by decide +kernel
theorem dX10_indexOf_0 : decode cX10_indexOf 0 = .ok (.iconst 0, 1) := by decide +kernel
theorem dX10_indexOf_1 : decode cX10_indexOf 1 = .ok (.istore 4, 2) := by decide +kernel
theorem dX10_indexOf_3 : decode cX10_indexOf 3 = .ok (.iload 4, 2) := by decide +kernel
theorem dX10_indexOf_5 : decode cX10_indexOf 5 = .ok (.iload_n 1, 1) := by decide +kernel
theorem dX10_indexOf_6 : decode cX10_indexOf 6 = .ok (.if_icmp .ge 28, 3) := by decide +kernel
theorem dX10_indexOf_9 : decode cX10_indexOf 9 = .ok (.iload 4, 2) := by decide +kernel
theorem dX10_indexOf_11 : decode cX10_indexOf 11 = .ok (.aload_n 0, 1) := by decide +kernel
theorem dX10_indexOf_12 : decode cX10_indexOf 12 = .ok (.arraylength, 1) := by decide +kernel
theorem dX10_indexOf_13 : decode cX10_indexOf 13 = .ok (.if_icmp .ge 21, 3) := by decide +kernel
theorem dX10_indexOf_16 : decode cX10_indexOf 16 = .ok (.aload_n 0, 1) := by decide +kernel
theorem dX10_indexOf_17 : decode cX10_indexOf 17 = .ok (.iload 4, 2) := by decide +kernel
theorem dX10_indexOf_19 : decode cX10_indexOf 19 = .ok (.laload, 1) := by decide +kernel
theorem dX10_indexOf_20 : decode cX10_indexOf 20 = .ok (.lload_n 2, 1) := by decide +kernel
theorem dX10_indexOf_21 : decode cX10_indexOf 21 = .ok (.lcmp, 1) := by decide +kernel
theorem dX10_indexOf_22 : decode cX10_indexOf 22 = .ok (.ifCond .ne 6, 3) := by decide +kernel
theorem dX10_indexOf_25 : decode cX10_indexOf 25 = .ok (.iload 4, 2) := by decide +kernel
theorem dX10_indexOf_27 : decode cX10_indexOf 27 = .ok (.ireturn, 1) := by decide +kernel
theorem dX10_indexOf_28 : decode cX10_indexOf 28 = .ok (.iinc 4 1, 3) := by decide +kernel
theorem dX10_indexOf_31 : decode cX10_indexOf 31 = .ok (.goto (-28), 3) := by decide +kernel
theorem dX10_indexOf_34 : decode cX10_indexOf 34 = .ok (.iconst (-1), 1) := by decide +kernel
theorem dX10_indexOf_35 : decode cX10_indexOf 35 = .ok (.ireturn, 1) := by decide +kernel
theorem dX10_isTold_0 : decode cX10_isTold 0 = .ok (.aload_n 0, 1) := by decide +kernel
theorem dX10_isTold_1 : decode cX10_isTold 1 = .ok (.lload_n 1, 1) := by decide +kernel
theorem dX10_isTold_2 : decode cX10_isTold 2 = .ok (.invokevirtual 105, 3) := by decide +kernel
theorem dX10_isTold_5 : decode cX10_isTold 5 = .ok (.ifCond .ge 26, 3) := by decide +kernel
theorem dX10_isTold_8 : decode cX10_isTold 8 = .ok (.aload_n 0, 1) := by decide +kernel
theorem dX10_isTold_9 : decode cX10_isTold 9 = .ok (.lload_n 1, 1) := by decide +kernel
theorem dX10_isTold_10 : decode cX10_isTold 10 = .ok (.invokevirtual 109, 3) := by decide +kernel
theorem dX10_isTold_13 : decode cX10_isTold 13 = .ok (.ifCond .ge 18, 3) := by decide +kernel
theorem dX10_isTold_16 : decode cX10_isTold 16 = .ok (.aload_n 0, 1) := by decide +kernel
theorem dX10_isTold_17 : decode cX10_isTold 17 = .ok (.getfield 28, 3) := by decide +kernel
theorem dX10_isTold_20 : decode cX10_isTold 20 = .ok (.aload_n 0, 1) := by decide +kernel
theorem dX10_isTold_21 : decode cX10_isTold 21 = .ok (.getfield 69, 3) := by decide +kernel
theorem dX10_isTold_24 : decode cX10_isTold 24 = .ok (.lload_n 1, 1) := by decide +kernel
theorem dX10_isTold_25 : decode cX10_isTold 25 = .ok (.invokestatic 101, 3) := by decide +kernel
theorem dX10_isTold_28 : decode cX10_isTold 28 = .ok (.ifCond .lt 7, 3) := by decide +kernel
theorem dX10_isTold_31 : decode cX10_isTold 31 = .ok (.iconst 1, 1) := by decide +kernel
theorem dX10_isTold_32 : decode cX10_isTold 32 = .ok (.goto 4, 3) := by decide +kernel
theorem dX10_isTold_35 : decode cX10_isTold 35 = .ok (.iconst 0, 1) := by decide +kernel
theorem dX10_isTold_36 : decode cX10_isTold 36 = .ok (.ireturn, 1) := by decide +kernel
theorem dX10_liarsBy_0 : decode cX10_liarsBy 0 = .ok (.iconst 0, 1) := by decide +kernel
theorem dX10_liarsBy_1 : decode cX10_liarsBy 1 = .ok (.istore_n 2, 1) := by decide +kernel
theorem dX10_liarsBy_2 : decode cX10_liarsBy 2 = .ok (.iconst 0, 1) := by decide +kernel
theorem dX10_liarsBy_3 : decode cX10_liarsBy 3 = .ok (.istore_n 3, 1) := by decide +kernel
theorem dX10_liarsBy_4 : decode cX10_liarsBy 4 = .ok (.iload_n 3, 1) := by decide +kernel
theorem dX10_liarsBy_5 : decode cX10_liarsBy 5 = .ok (.aload_n 0, 1) := by decide +kernel
theorem dX10_liarsBy_6 : decode cX10_liarsBy 6 = .ok (.getfield 57, 3) := by decide +kernel
theorem dX10_liarsBy_9 : decode cX10_liarsBy 9 = .ok (.if_icmp .ge 30, 3) := by decide +kernel
theorem dX10_liarsBy_12 : decode cX10_liarsBy 12 = .ok (.iload_n 2, 1) := by decide +kernel
theorem dX10_liarsBy_13 : decode cX10_liarsBy 13 = .ok (.aload_n 0, 1) := by decide +kernel
theorem dX10_liarsBy_14 : decode cX10_liarsBy 14 = .ok (.getfield 18, 3) := by decide +kernel
theorem dX10_liarsBy_17 : decode cX10_liarsBy 17 = .ok (.iload_n 3, 1) := by decide +kernel
theorem dX10_liarsBy_18 : decode cX10_liarsBy 18 = .ok (.iaload, 1) := by decide +kernel
theorem dX10_liarsBy_19 : decode cX10_liarsBy 19 = .ok (.iload_n 1, 1) := by decide +kernel
theorem dX10_liarsBy_20 : decode cX10_liarsBy 20 = .ok (.iand, 1) := by decide +kernel
theorem dX10_liarsBy_21 : decode cX10_liarsBy 21 = .ok (.ifCond .eq 9, 3) := by decide +kernel
theorem dX10_liarsBy_24 : decode cX10_liarsBy 24 = .ok (.iconst 1, 1) := by decide +kernel
theorem dX10_liarsBy_25 : decode cX10_liarsBy 25 = .ok (.iload_n 3, 1) := by decide +kernel
theorem dX10_liarsBy_26 : decode cX10_liarsBy 26 = .ok (.ishl, 1) := by decide +kernel
theorem dX10_liarsBy_27 : decode cX10_liarsBy 27 = .ok (.goto 4, 3) := by decide +kernel
theorem dX10_liarsBy_30 : decode cX10_liarsBy 30 = .ok (.iconst 0, 1) := by decide +kernel
theorem dX10_liarsBy_31 : decode cX10_liarsBy 31 = .ok (.ior, 1) := by decide +kernel
theorem dX10_liarsBy_32 : decode cX10_liarsBy 32 = .ok (.istore_n 2, 1) := by decide +kernel
theorem dX10_liarsBy_33 : decode cX10_liarsBy 33 = .ok (.iinc 3 1, 3) := by decide +kernel
theorem dX10_liarsBy_36 : decode cX10_liarsBy 36 = .ok (.goto (-32), 3) := by decide +kernel
theorem dX10_liarsBy_39 : decode cX10_liarsBy 39 = .ok (.iload_n 2, 1) := by decide +kernel
theorem dX10_liarsBy_40 : decode cX10_liarsBy 40 = .ok (.ireturn, 1) := by decide +kernel
theorem dX10_tellOnce_0 : decode cX10_tellOnce 0 = .ok (.aload_n 0, 1) := by decide +kernel
theorem dX10_tellOnce_1 : decode cX10_tellOnce 1 = .ok (.getfield 88, 3) := by decide +kernel
theorem dX10_tellOnce_4 : decode cX10_tellOnce 4 = .ok (.ifCond .ne 8, 3) := by decide +kernel
theorem dX10_tellOnce_7 : decode cX10_tellOnce 7 = .ok (.aload_n 0, 1) := by decide +kernel
theorem dX10_tellOnce_8 : decode cX10_tellOnce 8 = .ok (.iconst 1, 1) := by decide +kernel
theorem dX10_tellOnce_9 : decode cX10_tellOnce 9 = .ok (.invokevirtual 91, 3) := by decide +kernel
theorem dX10_tellOnce_12 : decode cX10_tellOnce 12 = .ok (.return_, 1) := by decide +kernel
theorem dX10_together_0 : decode cX10_together 0 = .ok (.ldc2_w 78, 3) := by decide +kernel
theorem dX10_together_3 : decode cX10_together 3 = .ok (.lstore_n 2, 1) := by decide +kernel
theorem dX10_together_4 : decode cX10_together 4 = .ok (.iconst 0, 1) := by decide +kernel
theorem dX10_together_5 : decode cX10_together 5 = .ok (.istore 4, 2) := by decide +kernel
theorem dX10_together_7 : decode cX10_together 7 = .ok (.iload 4, 2) := by decide +kernel
theorem dX10_together_9 : decode cX10_together 9 = .ok (.aload_n 0, 1) := by decide +kernel
theorem dX10_together_10 : decode cX10_together 10 = .ok (.getfield 60, 3) := by decide +kernel
theorem dX10_together_13 : decode cX10_together 13 = .ok (.if_icmp .ge 28, 3) := by decide +kernel
theorem dX10_together_16 : decode cX10_together 16 = .ok (.iload_n 1, 1) := by decide +kernel
theorem dX10_together_17 : decode cX10_together 17 = .ok (.iload 4, 2) := by decide +kernel
theorem dX10_together_19 : decode cX10_together 19 = .ok (.ishr, 1) := by decide +kernel
theorem dX10_together_20 : decode cX10_together 20 = .ok (.iconst 1, 1) := by decide +kernel
theorem dX10_together_21 : decode cX10_together 21 = .ok (.iand, 1) := by decide +kernel
theorem dX10_together_22 : decode cX10_together 22 = .ok (.ifCond .eq 13, 3) := by decide +kernel
theorem dX10_together_25 : decode cX10_together 25 = .ok (.lload_n 2, 1) := by decide +kernel
theorem dX10_together_26 : decode cX10_together 26 = .ok (.aload_n 0, 1) := by decide +kernel
theorem dX10_together_27 : decode cX10_together 27 = .ok (.getfield 25, 3) := by decide +kernel
theorem dX10_together_30 : decode cX10_together 30 = .ok (.iload 4, 2) := by decide +kernel
theorem dX10_together_32 : decode cX10_together 32 = .ok (.laload, 1) := by decide +kernel
theorem dX10_together_33 : decode cX10_together 33 = .ok (.land, 1) := by decide +kernel
theorem dX10_together_34 : decode cX10_together 34 = .ok (.lstore_n 2, 1) := by decide +kernel
theorem dX10_together_35 : decode cX10_together 35 = .ok (.iinc 4 1, 3) := by decide +kernel
theorem dX10_together_38 : decode cX10_together 38 = .ok (.goto (-31), 3) := by decide +kernel
theorem dX10_together_41 : decode cX10_together 41 = .ok (.lload_n 2, 1) := by decide +kernel
theorem dX10_together_42 : decode cX10_together 42 = .ok (.lreturn, 1) := by decide +kernel
theorem dX10_witnessNamed_0 : decode cX10_witnessNamed 0 = .ok (.aload_n 0, 1) := by decide +kernel
theorem dX10_witnessNamed_1 : decode cX10_witnessNamed 1 = .ok (.getfield 15, 3) := by decide +kernel
theorem dX10_witnessNamed_4 : decode cX10_witnessNamed 4 = .ok (.aload_n 0, 1) := by decide +kernel
theorem dX10_witnessNamed_5 : decode cX10_witnessNamed 5 = .ok (.getfield 57, 3) := by decide +kernel
theorem dX10_witnessNamed_8 : decode cX10_witnessNamed 8 = .ok (.lload_n 1, 1) := by decide +kernel
theorem dX10_witnessNamed_9 : decode cX10_witnessNamed 9 = .ok (.invokestatic 101, 3) := by decide +kernel
theorem dX10_witnessNamed_12 : decode cX10_witnessNamed 12 = .ok (.ireturn, 1) := by decide +kernel
theorem dX11_ahead_0 : decode cX11_ahead 0 = .ok (.aload_n 0, 1) := by decide +kernel
theorem dX11_ahead_1 : decode cX11_ahead 1 = .ok (.iload_n 1, 1) := by decide +kernel
theorem dX11_ahead_2 : decode cX11_ahead 2 = .ok (.iload_n 2, 1) := by decide +kernel
theorem dX11_ahead_3 : decode cX11_ahead 3 = .ok (.invokevirtual 235, 3) := by decide +kernel
theorem dX11_ahead_6 : decode cX11_ahead 6 = .ok (.ifCond .eq 12, 3) := by decide +kernel
theorem dX11_ahead_9 : decode cX11_ahead 9 = .ok (.iload_n 3, 1) := by decide +kernel
theorem dX11_ahead_10 : decode cX11_ahead 10 = .ok (.ifCond .lt 8, 3) := by decide +kernel
theorem dX11_ahead_13 : decode cX11_ahead 13 = .ok (.iload_n 3, 1) := by decide +kernel
theorem dX11_ahead_14 : decode cX11_ahead 14 = .ok (.iconst 1, 1) := by decide +kernel
theorem dX11_ahead_15 : decode cX11_ahead 15 = .ok (.if_icmp .le 5, 3) := by decide +kernel
theorem dX11_ahead_18 : decode cX11_ahead 18 = .ok (.iconst (-1), 1) := by decide +kernel
theorem dX11_ahead_19 : decode cX11_ahead 19 = .ok (.ireturn, 1) := by decide +kernel
theorem dX11_ahead_20 : decode cX11_ahead 20 = .ok (.aload_n 0, 1) := by decide +kernel
theorem dX11_ahead_21 : decode cX11_ahead 21 = .ok (.getfield 94, 3) := by decide +kernel
theorem dX11_ahead_24 : decode cX11_ahead 24 = .ok (.aload_n 0, 1) := by decide +kernel
theorem dX11_ahead_25 : decode cX11_ahead 25 = .ok (.getfield 23, 3) := by decide +kernel
theorem dX11_ahead_28 : decode cX11_ahead 28 = .ok (.aload_n 0, 1) := by decide +kernel
theorem dX11_ahead_29 : decode cX11_ahead 29 = .ok (.getfield 47, 3) := by decide +kernel
theorem dX11_ahead_32 : decode cX11_ahead 32 = .ok (.iload_n 1, 1) := by decide +kernel
theorem dX11_ahead_33 : decode cX11_ahead 33 = .ok (.iload_n 2, 1) := by decide +kernel
theorem dX11_ahead_34 : decode cX11_ahead 34 = .ok (.invokevirtual 239, 3) := by decide +kernel
theorem dX11_ahead_37 : decode cX11_ahead 37 = .ok (.aload_n 0, 1) := by decide +kernel
theorem dX11_ahead_38 : decode cX11_ahead 38 = .ok (.getfield 94, 3) := by decide +kernel
theorem dX11_ahead_41 : decode cX11_ahead 41 = .ok (.getfield 243, 3) := by decide +kernel
theorem dX11_ahead_44 : decode cX11_ahead 44 = .ok (.ifCond .ne 6, 3) := by decide +kernel
theorem dX11_ahead_47 : decode cX11_ahead 47 = .ok (.bipush (-2), 2) := by decide +kernel
theorem dX11_ahead_49 : decode cX11_ahead 49 = .ok (.ireturn, 1) := by decide +kernel
theorem dX11_ahead_50 : decode cX11_ahead 50 = .ok (.iload_n 3, 1) := by decide +kernel
theorem dX11_ahead_51 : decode cX11_ahead 51 = .ok (.ifCond .ne 13, 3) := by decide +kernel
theorem dX11_ahead_54 : decode cX11_ahead 54 = .ok (.aload_n 0, 1) := by decide +kernel
theorem dX11_ahead_55 : decode cX11_ahead 55 = .ok (.getfield 94, 3) := by decide +kernel
theorem dX11_ahead_58 : decode cX11_ahead 58 = .ok (.getfield 243, 3) := by decide +kernel
theorem dX11_ahead_61 : decode cX11_ahead 61 = .ok (.goto 10, 3) := by decide +kernel
theorem dX11_ahead_64 : decode cX11_ahead 64 = .ok (.aload_n 0, 1) := by decide +kernel
theorem dX11_ahead_65 : decode cX11_ahead 65 = .ok (.getfield 94, 3) := by decide +kernel
theorem dX11_ahead_68 : decode cX11_ahead 68 = .ok (.getfield 244, 3) := by decide +kernel
theorem dX11_ahead_71 : decode cX11_ahead 71 = .ok (.ireturn, 1) := by decide +kernel
theorem dX11_aheadAt_0 : decode cX11_aheadAt 0 = .ok (.aload_n 0, 1) := by decide +kernel
theorem dX11_aheadAt_1 : decode cX11_aheadAt 1 = .ok (.iload_n 1, 1) := by decide +kernel
theorem dX11_aheadAt_2 : decode cX11_aheadAt 2 = .ok (.iload_n 2, 1) := by decide +kernel
theorem dX11_aheadAt_3 : decode cX11_aheadAt 3 = .ok (.invokevirtual 235, 3) := by decide +kernel
theorem dX11_aheadAt_6 : decode cX11_aheadAt 6 = .ok (.ifCond .eq 7, 3) := by decide +kernel
theorem dX11_aheadAt_9 : decode cX11_aheadAt 9 = .ok (.iload_n 3, 1) := by decide +kernel
theorem dX11_aheadAt_10 : decode cX11_aheadAt 10 = .ok (.ifCond .ge 5, 3) := by decide +kernel
theorem dX11_aheadAt_13 : decode cX11_aheadAt 13 = .ok (.iconst (-1), 1) := by decide +kernel
theorem dX11_aheadAt_14 : decode cX11_aheadAt 14 = .ok (.ireturn, 1) := by decide +kernel
theorem dX11_aheadAt_15 : decode cX11_aheadAt 15 = .ok (.aload_n 0, 1) := by decide +kernel
theorem dX11_aheadAt_16 : decode cX11_aheadAt 16 = .ok (.getfield 94, 3) := by decide +kernel
theorem dX11_aheadAt_19 : decode cX11_aheadAt 19 = .ok (.aload_n 0, 1) := by decide +kernel
theorem dX11_aheadAt_20 : decode cX11_aheadAt 20 = .ok (.getfield 23, 3) := by decide +kernel
theorem dX11_aheadAt_23 : decode cX11_aheadAt 23 = .ok (.aload_n 0, 1) := by decide +kernel
theorem dX11_aheadAt_24 : decode cX11_aheadAt 24 = .ok (.getfield 47, 3) := by decide +kernel
theorem dX11_aheadAt_27 : decode cX11_aheadAt 27 = .ok (.iload_n 1, 1) := by decide +kernel
theorem dX11_aheadAt_28 : decode cX11_aheadAt 28 = .ok (.iload_n 2, 1) := by decide +kernel
theorem dX11_aheadAt_29 : decode cX11_aheadAt 29 = .ok (.invokevirtual 239, 3) := by decide +kernel
theorem dX11_aheadAt_32 : decode cX11_aheadAt 32 = .ok (.aload_n 0, 1) := by decide +kernel
theorem dX11_aheadAt_33 : decode cX11_aheadAt 33 = .ok (.getfield 94, 3) := by decide +kernel
theorem dX11_aheadAt_36 : decode cX11_aheadAt 36 = .ok (.getfield 243, 3) := by decide +kernel
theorem dX11_aheadAt_39 : decode cX11_aheadAt 39 = .ok (.ifCond .ne 6, 3) := by decide +kernel
theorem dX11_aheadAt_42 : decode cX11_aheadAt 42 = .ok (.bipush (-2), 2) := by decide +kernel
theorem dX11_aheadAt_44 : decode cX11_aheadAt 44 = .ok (.ireturn, 1) := by decide +kernel
theorem dX11_aheadAt_45 : decode cX11_aheadAt 45 = .ok (.iload_n 3, 1) := by decide +kernel
theorem dX11_aheadAt_46 : decode cX11_aheadAt 46 = .ok (.aload_n 0, 1) := by decide +kernel
theorem dX11_aheadAt_47 : decode cX11_aheadAt 47 = .ok (.getfield 94, 3) := by decide +kernel
theorem dX11_aheadAt_50 : decode cX11_aheadAt 50 = .ok (.getfield 243, 3) := by decide +kernel
theorem dX11_aheadAt_53 : decode cX11_aheadAt 53 = .ok (.if_icmp .ge 15, 3) := by decide +kernel
theorem dX11_aheadAt_56 : decode cX11_aheadAt 56 = .ok (.aload_n 0, 1) := by decide +kernel
theorem dX11_aheadAt_57 : decode cX11_aheadAt 57 = .ok (.getfield 94, 3) := by decide +kernel
theorem dX11_aheadAt_60 : decode cX11_aheadAt 60 = .ok (.getfield 247, 3) := by decide +kernel
theorem dX11_aheadAt_63 : decode cX11_aheadAt 63 = .ok (.iload_n 3, 1) := by decide +kernel
theorem dX11_aheadAt_64 : decode cX11_aheadAt 64 = .ok (.iaload, 1) := by decide +kernel
theorem dX11_aheadAt_65 : decode cX11_aheadAt 65 = .ok (.goto 4, 3) := by decide +kernel
theorem dX11_aheadAt_68 : decode cX11_aheadAt 68 = .ok (.iconst (-1), 1) := by decide +kernel
theorem dX11_aheadAt_69 : decode cX11_aheadAt 69 = .ok (.ireturn, 1) := by decide +kernel
theorem dX11_areTwoCases_0 : decode cX11_areTwoCases 0 = .ok (.aload_n 0, 1) := by decide +kernel
theorem dX11_areTwoCases_1 : decode cX11_areTwoCases 1 = .ok (.getfield 23, 3) := by decide +kernel
theorem dX11_areTwoCases_4 : decode cX11_areTwoCases 4 = .ok (.iload_n 1, 1) := by decide +kernel
theorem dX11_areTwoCases_5 : decode cX11_areTwoCases 5 = .ok (.invokevirtual 196, 3) := by decide +kernel
theorem dX11_areTwoCases_8 : decode cX11_areTwoCases 8 = .ok (.ifCond .eq 23, 3) := by decide +kernel
theorem dX11_areTwoCases_11 : decode cX11_areTwoCases 11 = .ok (.aload_n 0, 1) := by decide +kernel
theorem dX11_areTwoCases_12 : decode cX11_areTwoCases 12 = .ok (.getfield 23, 3) := by decide +kernel
theorem dX11_areTwoCases_15 : decode cX11_areTwoCases 15 = .ok (.iload_n 2, 1) := by decide +kernel
theorem dX11_areTwoCases_16 : decode cX11_areTwoCases 16 = .ok (.invokevirtual 196, 3) := by decide +kernel
theorem dX11_areTwoCases_19 : decode cX11_areTwoCases 19 = .ok (.ifCond .eq 12, 3) := by decide +kernel
theorem dX11_areTwoCases_22 : decode cX11_areTwoCases 22 = .ok (.iload_n 1, 1) := by decide +kernel
theorem dX11_areTwoCases_23 : decode cX11_areTwoCases 23 = .ok (.iload_n 2, 1) := by decide +kernel
theorem dX11_areTwoCases_24 : decode cX11_areTwoCases 24 = .ok (.if_icmp .eq 7, 3) := by decide +kernel
theorem dX11_areTwoCases_27 : decode cX11_areTwoCases 27 = .ok (.iconst 1, 1) := by decide +kernel
theorem dX11_areTwoCases_28 : decode cX11_areTwoCases 28 = .ok (.goto 4, 3) := by decide +kernel
theorem dX11_areTwoCases_31 : decode cX11_areTwoCases 31 = .ok (.iconst 0, 1) := by decide +kernel
theorem dX11_areTwoCases_32 : decode cX11_areTwoCases 32 = .ok (.ireturn, 1) := by decide +kernel
theorem dX11_back_0 : decode cX11_back 0 = .ok (.iload_n 1, 1) := by decide +kernel
theorem dX11_back_1 : decode cX11_back 1 = .ok (.ifCond .lt 14, 3) := by decide +kernel
theorem dX11_back_4 : decode cX11_back 4 = .ok (.iload_n 1, 1) := by decide +kernel
theorem dX11_back_5 : decode cX11_back 5 = .ok (.aload_n 0, 1) := by decide +kernel
theorem dX11_back_6 : decode cX11_back 6 = .ok (.getfield 16, 3) := by decide +kernel
theorem dX11_back_9 : decode cX11_back 9 = .ok (.getfield 105, 3) := by decide +kernel
theorem dX11_back_12 : decode cX11_back 12 = .ok (.if_icmp .le 5, 3) := by decide +kernel
theorem dX11_back_15 : decode cX11_back 15 = .ok (.iconst (-1), 1) := by decide +kernel
theorem dX11_back_16 : decode cX11_back 16 = .ok (.ireturn, 1) := by decide +kernel
theorem dX11_back_17 : decode cX11_back 17 = .ok (.aload_n 0, 1) := by decide +kernel
theorem dX11_back_18 : decode cX11_back 18 = .ok (.getfield 16, 3) := by decide +kernel
theorem dX11_back_21 : decode cX11_back 21 = .ok (.dup, 1) := by decide +kernel
theorem dX11_back_22 : decode cX11_back 22 = .ok (.getfield 105, 3) := by decide +kernel
theorem dX11_back_25 : decode cX11_back 25 = .ok (.iload_n 1, 1) := by decide +kernel
theorem dX11_back_26 : decode cX11_back 26 = .ok (.isub, 1) := by decide +kernel
theorem dX11_back_27 : decode cX11_back 27 = .ok (.putfield 105, 3) := by decide +kernel
theorem dX11_back_30 : decode cX11_back 30 = .ok (.aload_n 0, 1) := by decide +kernel
theorem dX11_back_31 : decode cX11_back 31 = .ok (.getfield 16, 3) := by decide +kernel
theorem dX11_back_34 : decode cX11_back 34 = .ok (.getfield 105, 3) := by decide +kernel
theorem dX11_back_37 : decode cX11_back 37 = .ok (.ireturn, 1) := by decide +kernel
theorem dX11_burn_0 : decode cX11_burn 0 = .ok (.aload_n 0, 1) := by decide +kernel
theorem dX11_burn_1 : decode cX11_burn 1 = .ok (.getfield 101, 3) := by decide +kernel
theorem dX11_burn_4 : decode cX11_burn 4 = .ok (.getfield 292, 3) := by decide +kernel
theorem dX11_burn_7 : decode cX11_burn 7 = .ok (.istore_n 1, 1) := by decide +kernel
theorem dX11_burn_8 : decode cX11_burn 8 = .ok (.aload_n 0, 1) := by decide +kernel
theorem dX11_burn_9 : decode cX11_burn 9 = .ok (.getfield 101, 3) := by decide +kernel
theorem dX11_burn_12 : decode cX11_burn 12 = .ok (.invokevirtual 122, 3) := by decide +kernel
theorem dX11_burn_15 : decode cX11_burn 15 = .ok (.iload_n 1, 1) := by decide +kernel
theorem dX11_burn_16 : decode cX11_burn 16 = .ok (.ireturn, 1) := by decide +kernel
theorem dX11_canBeOrdered_0 : decode cX11_canBeOrdered 0 = .ok (.aload_n 0, 1) := by decide +kernel
theorem dX11_canBeOrdered_1 : decode cX11_canBeOrdered 1 = .ok (.getfield 23, 3) := by decide +kernel
theorem dX11_canBeOrdered_4 : decode cX11_canBeOrdered 4 = .ok (.iload_n 1, 1) := by decide +kernel
theorem dX11_canBeOrdered_5 : decode cX11_canBeOrdered 5 = .ok (.invokevirtual 278, 3) := by decide +kernel
theorem dX11_canBeOrdered_8 : decode cX11_canBeOrdered 8 = .ok (.ifCond .eq 16, 3) := by decide +kernel
theorem dX11_canBeOrdered_11 : decode cX11_canBeOrdered 11 = .ok (.iload_n 1, 1) := by decide +kernel
theorem dX11_canBeOrdered_12 : decode cX11_canBeOrdered 12 = .ok (.invokestatic 180, 3) := by decide +kernel
theorem dX11_canBeOrdered_15 : decode cX11_canBeOrdered 15 = .ok (.bipush 6, 2) := by decide +kernel
theorem dX11_canBeOrdered_17 : decode cX11_canBeOrdered 17 = .ok (.if_icmp .gt 7, 3) := by decide +kernel
theorem dX11_canBeOrdered_20 : decode cX11_canBeOrdered 20 = .ok (.iconst 1, 1) := by decide +kernel
theorem dX11_canBeOrdered_21 : decode cX11_canBeOrdered 21 = .ok (.goto 4, 3) := by decide +kernel
theorem dX11_canBeOrdered_24 : decode cX11_canBeOrdered 24 = .ok (.iconst 0, 1) := by decide +kernel
theorem dX11_canBeOrdered_25 : decode cX11_canBeOrdered 25 = .ok (.ireturn, 1) := by decide +kernel
theorem dX11_clock_0 : decode cX11_clock 0 = .ok (.aload_n 0, 1) := by decide +kernel
theorem dX11_clock_1 : decode cX11_clock 1 = .ok (.getfield 47, 3) := by decide +kernel
theorem dX11_clock_4 : decode cX11_clock 4 = .ok (.getfield 128, 3) := by decide +kernel
theorem dX11_clock_7 : decode cX11_clock 7 = .ok (.ireturn, 1) := by decide +kernel
theorem dX11_count_0 : decode cX11_count 0 = .ok (.iload_n 1, 1) := by decide +kernel
theorem dX11_count_1 : decode cX11_count 1 = .ok (.tableswitch 162 0 11 #[63, 71, 79, 87, 95, 106, 117, 128, 136, 144, 152, 157], 63) := by decide +kernel
theorem dX11_count_64 : decode cX11_count 64 = .ok (.aload_n 0, 1) := by decide +kernel
theorem dX11_count_65 : decode cX11_count 65 = .ok (.getfield 23, 3) := by decide +kernel
theorem dX11_count_68 : decode cX11_count 68 = .ok (.getfield 131, 3) := by decide +kernel
theorem dX11_count_71 : decode cX11_count 71 = .ok (.ireturn, 1) := by decide +kernel
theorem dX11_count_72 : decode cX11_count 72 = .ok (.aload_n 0, 1) := by decide +kernel
theorem dX11_count_73 : decode cX11_count 73 = .ok (.getfield 23, 3) := by decide +kernel
theorem dX11_count_76 : decode cX11_count 76 = .ok (.getfield 174, 3) := by decide +kernel
theorem dX11_count_79 : decode cX11_count 79 = .ok (.ireturn, 1) := by decide +kernel
theorem dX11_count_80 : decode cX11_count 80 = .ok (.aload_n 0, 1) := by decide +kernel
theorem dX11_count_81 : decode cX11_count 81 = .ok (.getfield 23, 3) := by decide +kernel
theorem dX11_count_84 : decode cX11_count 84 = .ok (.getfield 266, 3) := by decide +kernel
theorem dX11_count_87 : decode cX11_count 87 = .ok (.ireturn, 1) := by decide +kernel
theorem dX11_count_88 : decode cX11_count 88 = .ok (.aload_n 0, 1) := by decide +kernel
theorem dX11_count_89 : decode cX11_count 89 = .ok (.getfield 23, 3) := by decide +kernel
theorem dX11_count_92 : decode cX11_count 92 = .ok (.getfield 309, 3) := by decide +kernel
theorem dX11_count_95 : decode cX11_count 95 = .ok (.ireturn, 1) := by decide +kernel
theorem dX11_count_96 : decode cX11_count 96 = .ok (.aload_n 0, 1) := by decide +kernel
theorem dX11_count_97 : decode cX11_count 97 = .ok (.getfield 47, 3) := by decide +kernel
theorem dX11_count_100 : decode cX11_count 100 = .ok (.getfield 137, 3) := by decide +kernel
theorem dX11_count_103 : decode cX11_count 103 = .ok (.invokestatic 180, 3) := by decide +kernel
theorem dX11_count_106 : decode cX11_count 106 = .ok (.ireturn, 1) := by decide +kernel
theorem dX11_count_107 : decode cX11_count 107 = .ok (.aload_n 0, 1) := by decide +kernel
theorem dX11_count_108 : decode cX11_count 108 = .ok (.getfield 47, 3) := by decide +kernel
theorem dX11_count_111 : decode cX11_count 111 = .ok (.getfield 154, 3) := by decide +kernel
theorem dX11_count_114 : decode cX11_count 114 = .ok (.invokestatic 180, 3) := by decide +kernel
theorem dX11_count_117 : decode cX11_count 117 = .ok (.ireturn, 1) := by decide +kernel
theorem dX11_count_118 : decode cX11_count 118 = .ok (.aload_n 0, 1) := by decide +kernel
theorem dX11_count_119 : decode cX11_count 119 = .ok (.getfield 47, 3) := by decide +kernel
theorem dX11_count_122 : decode cX11_count 122 = .ok (.getfield 157, 3) := by decide +kernel
theorem dX11_count_125 : decode cX11_count 125 = .ok (.invokestatic 180, 3) := by decide +kernel
theorem dX11_count_128 : decode cX11_count 128 = .ok (.ireturn, 1) := by decide +kernel
theorem dX11_count_129 : decode cX11_count 129 = .ok (.aload_n 0, 1) := by decide +kernel
theorem dX11_count_130 : decode cX11_count 130 = .ok (.getfield 47, 3) := by decide +kernel
theorem dX11_count_133 : decode cX11_count 133 = .ok (.getfield 312, 3) := by decide +kernel
theorem dX11_count_136 : decode cX11_count 136 = .ok (.ireturn, 1) := by decide +kernel
theorem dX11_count_137 : decode cX11_count 137 = .ok (.aload_n 0, 1) := by decide +kernel
theorem dX11_count_138 : decode cX11_count 138 = .ok (.getfield 101, 3) := by decide +kernel
theorem dX11_count_141 : decode cX11_count 141 = .ok (.getfield 292, 3) := by decide +kernel
theorem dX11_count_144 : decode cX11_count 144 = .ok (.ireturn, 1) := by decide +kernel
theorem dX11_count_145 : decode cX11_count 145 = .ok (.aload_n 0, 1) := by decide +kernel
theorem dX11_count_146 : decode cX11_count 146 = .ok (.getfield 16, 3) := by decide +kernel
theorem dX11_count_149 : decode cX11_count 149 = .ok (.getfield 105, 3) := by decide +kernel
theorem dX11_count_152 : decode cX11_count 152 = .ok (.ireturn, 1) := by decide +kernel
theorem dX11_count_153 : decode cX11_count 153 = .ok (.aload_n 0, 1) := by decide +kernel
theorem dX11_count_154 : decode cX11_count 154 = .ok (.getfield 119, 3) := by decide +kernel
theorem dX11_count_157 : decode cX11_count 157 = .ok (.ireturn, 1) := by decide +kernel
