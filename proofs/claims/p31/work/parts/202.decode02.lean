theorem dX12_looks_14 : decode cX12_looks 14 = .ok (.istore_n 3, 1) := by decide +kernel
theorem dX12_looks_15 : decode cX12_looks 15 = .ok (.iload_n 3, 1) := by decide +kernel
theorem dX12_looks_16 : decode cX12_looks 16 = .ok (.iconst 1, 1) := by decide +kernel
theorem dX12_looks_17 : decode cX12_looks 17 = .ok (.aload_n 0, 1) := by decide +kernel
theorem dX12_looks_18 : decode cX12_looks 18 = .ok (.getfield 49, 3) := by decide +kernel
theorem dX12_looks_21 : decode cX12_looks 21 = .ok (.aload_n 0, 1) := by decide +kernel
theorem dX12_looks_22 : decode cX12_looks 22 = .ok (.getfield 222, 3) := by decide +kernel
theorem dX12_looks_25 : decode cX12_looks 25 = .ok (.iaload, 1) := by decide +kernel
theorem dX12_looks_26 : decode cX12_looks 26 = .ok (.ishl, 1) := by decide +kernel
theorem dX12_looks_27 : decode cX12_looks 27 = .ok (.if_icmp .ge 63, 3) := by decide +kernel
theorem dX12_looks_30 : decode cX12_looks 30 = .ok (.iload_n 3, 1) := by decide +kernel
theorem dX12_looks_31 : decode cX12_looks 31 = .ok (.aload_n 0, 1) := by decide +kernel
theorem dX12_looks_32 : decode cX12_looks 32 = .ok (.getfield 116, 3) := by decide +kernel
theorem dX12_looks_35 : decode cX12_looks 35 = .ok (.iconst 3, 1) := by decide +kernel
theorem dX12_looks_36 : decode cX12_looks 36 = .ok (.iaload, 1) := by decide +kernel
theorem dX12_looks_37 : decode cX12_looks 37 = .ok (.iand, 1) := by decide +kernel
theorem dX12_looks_38 : decode cX12_looks 38 = .ok (.ifCond .ne 46, 3) := by decide +kernel
theorem dX12_looks_41 : decode cX12_looks 41 = .ok (.iload_n 2, 1) := by decide +kernel
theorem dX12_looks_42 : decode cX12_looks 42 = .ok (.ifCond .lt 17, 3) := by decide +kernel
theorem dX12_looks_45 : decode cX12_looks 45 = .ok (.iload_n 3, 1) := by decide +kernel
theorem dX12_looks_46 : decode cX12_looks 46 = .ok (.invokestatic 346, 3) := by decide +kernel
theorem dX12_looks_49 : decode cX12_looks 49 = .ok (.iload_n 2, 1) := by decide +kernel
theorem dX12_looks_50 : decode cX12_looks 50 = .ok (.invokestatic 346, 3) := by decide +kernel
theorem dX12_looks_53 : decode cX12_looks 53 = .ok (.if_icmp .lt 6, 3) := by decide +kernel
theorem dX12_looks_56 : decode cX12_looks 56 = .ok (.goto 28, 3) := by decide +kernel
theorem dX12_looks_59 : decode cX12_looks 59 = .ok (.aload_n 0, 1) := by decide +kernel
theorem dX12_looks_60 : decode cX12_looks 60 = .ok (.aload_n 0, 1) := by decide +kernel
theorem dX12_looks_61 : decode cX12_looks 61 = .ok (.getfield 116, 3) := by decide +kernel
theorem dX12_looks_64 : decode cX12_looks 64 = .ok (.iconst 3, 1) := by decide +kernel
theorem dX12_looks_65 : decode cX12_looks 65 = .ok (.iaload, 1) := by decide +kernel
theorem dX12_looks_66 : decode cX12_looks 66 = .ok (.iload_n 3, 1) := by decide +kernel
theorem dX12_looks_67 : decode cX12_looks 67 = .ok (.ior, 1) := by decide +kernel
theorem dX12_looks_68 : decode cX12_looks 68 = .ok (.invokevirtual 330, 3) := by decide +kernel
theorem dX12_looks_71 : decode cX12_looks 71 = .ok (.aload_n 0, 1) := by decide +kernel
theorem dX12_looks_72 : decode cX12_looks 72 = .ok (.iload_n 1, 1) := by decide +kernel
theorem dX12_looks_73 : decode cX12_looks 73 = .ok (.invokevirtual 327, 3) := by decide +kernel
theorem dX12_looks_76 : decode cX12_looks 76 = .ok (.land, 1) := by decide +kernel
theorem dX12_looks_77 : decode cX12_looks 77 = .ok (.lconst 0, 1) := by decide +kernel
theorem dX12_looks_78 : decode cX12_looks 78 = .ok (.lcmp, 1) := by decide +kernel
theorem dX12_looks_79 : decode cX12_looks 79 = .ok (.ifCond .ne 5, 3) := by decide +kernel
theorem dX12_looks_82 : decode cX12_looks 82 = .ok (.iload_n 3, 1) := by decide +kernel
theorem dX12_looks_83 : decode cX12_looks 83 = .ok (.istore_n 2, 1) := by decide +kernel
theorem dX12_looks_84 : decode cX12_looks 84 = .ok (.iinc 3 1, 3) := by decide +kernel
theorem dX12_looks_87 : decode cX12_looks 87 = .ok (.goto (-72), 3) := by decide +kernel
theorem dX12_looks_90 : decode cX12_looks 90 = .ok (.iload_n 2, 1) := by decide +kernel
theorem dX12_looks_91 : decode cX12_looks 91 = .ok (.ireturn, 1) := by decide +kernel
theorem dX12_looksAt_0 : decode cX12_looksAt 0 = .ok (.aload_n 0, 1) := by decide +kernel
theorem dX12_looksAt_1 : decode cX12_looksAt 1 = .ok (.iload_n 1, 1) := by decide +kernel
theorem dX12_looksAt_2 : decode cX12_looksAt 2 = .ok (.invokevirtual 355, 3) := by decide +kernel
theorem dX12_looksAt_5 : decode cX12_looksAt 5 = .ok (.ifCond .eq 5, 3) := by decide +kernel
theorem dX12_looksAt_8 : decode cX12_looksAt 8 = .ok (.iconst 0, 1) := by decide +kernel
theorem dX12_looksAt_9 : decode cX12_looksAt 9 = .ok (.ireturn, 1) := by decide +kernel
theorem dX12_looksAt_10 : decode cX12_looksAt 10 = .ok (.aload_n 0, 1) := by decide +kernel
theorem dX12_looksAt_11 : decode cX12_looksAt 11 = .ok (.getfield 119, 3) := by decide +kernel
theorem dX12_looksAt_14 : decode cX12_looksAt 14 = .ok (.iconst 1, 1) := by decide +kernel
theorem dX12_looksAt_15 : decode cX12_looksAt 15 = .ok (.iaload, 1) := by decide +kernel
theorem dX12_looksAt_16 : decode cX12_looksAt 16 = .ok (.aload_n 0, 1) := by decide +kernel
theorem dX12_looksAt_17 : decode cX12_looksAt 17 = .ok (.getfield 119, 3) := by decide +kernel
theorem dX12_looksAt_20 : decode cX12_looksAt 20 = .ok (.iconst 2, 1) := by decide +kernel
theorem dX12_looksAt_21 : decode cX12_looksAt 21 = .ok (.iaload, 1) := by decide +kernel
theorem dX12_looksAt_22 : decode cX12_looksAt 22 = .ok (.iconst (-1), 1) := by decide +kernel
theorem dX12_looksAt_23 : decode cX12_looksAt 23 = .ok (.ixor, 1) := by decide +kernel
theorem dX12_looksAt_24 : decode cX12_looksAt 24 = .ok (.iand, 1) := by decide +kernel
theorem dX12_looksAt_25 : decode cX12_looksAt 25 = .ok (.aload_n 0, 1) := by decide +kernel
theorem dX12_looksAt_26 : decode cX12_looksAt 26 = .ok (.iload_n 1, 1) := by decide +kernel
theorem dX12_looksAt_27 : decode cX12_looksAt 27 = .ok (.invokevirtual 343, 3) := by decide +kernel
theorem dX12_looksAt_30 : decode cX12_looksAt 30 = .ok (.iand, 1) := by decide +kernel
theorem dX12_looksAt_31 : decode cX12_looksAt 31 = .ok (.istore_n 2, 1) := by decide +kernel
theorem dX12_looksAt_32 : decode cX12_looksAt 32 = .ok (.iconst 0, 1) := by decide +kernel
theorem dX12_looksAt_33 : decode cX12_looksAt 33 = .ok (.istore_n 3, 1) := by decide +kernel
theorem dX12_looksAt_34 : decode cX12_looksAt 34 = .ok (.iconst 0, 1) := by decide +kernel
theorem dX12_looksAt_35 : decode cX12_looksAt 35 = .ok (.istore 4, 2) := by decide +kernel
theorem dX12_looksAt_37 : decode cX12_looksAt 37 = .ok (.iload 4, 2) := by decide +kernel
theorem dX12_looksAt_39 : decode cX12_looksAt 39 = .ok (.aload_n 0, 1) := by decide +kernel
theorem dX12_looksAt_40 : decode cX12_looksAt 40 = .ok (.getfield 61, 3) := by decide +kernel
theorem dX12_looksAt_43 : decode cX12_looksAt 43 = .ok (.aload_n 0, 1) := by decide +kernel
theorem dX12_looksAt_44 : decode cX12_looksAt 44 = .ok (.getfield 222, 3) := by decide +kernel
theorem dX12_looksAt_47 : decode cX12_looksAt 47 = .ok (.iaload, 1) := by decide +kernel
theorem dX12_looksAt_48 : decode cX12_looksAt 48 = .ok (.if_icmp .ge 104, 3) := by decide +kernel
theorem dX12_looksAt_51 : decode cX12_looksAt 51 = .ok (.iload_n 2, 1) := by decide +kernel
theorem dX12_looksAt_52 : decode cX12_looksAt 52 = .ok (.iload 4, 2) := by decide +kernel
theorem dX12_looksAt_54 : decode cX12_looksAt 54 = .ok (.ishr, 1) := by decide +kernel
theorem dX12_looksAt_55 : decode cX12_looksAt 55 = .ok (.iconst 1, 1) := by decide +kernel
theorem dX12_looksAt_56 : decode cX12_looksAt 56 = .ok (.iand, 1) := by decide +kernel
theorem dX12_looksAt_57 : decode cX12_looksAt 57 = .ok (.ifCond .eq 89, 3) := by decide +kernel
theorem dX12_looksAt_60 : decode cX12_looksAt 60 = .ok (.aload_n 0, 1) := by decide +kernel
theorem dX12_looksAt_61 : decode cX12_looksAt 61 = .ok (.iload 4, 2) := by decide +kernel
theorem dX12_looksAt_63 : decode cX12_looksAt 63 = .ok (.invokevirtual 358, 3) := by decide +kernel
theorem dX12_looksAt_66 : decode cX12_looksAt 66 = .ok (.ifCond .eq 6, 3) := by decide +kernel
theorem dX12_looksAt_69 : decode cX12_looksAt 69 = .ok (.goto 77, 3) := by decide +kernel
theorem dX12_looksAt_72 : decode cX12_looksAt 72 = .ok (.aload_n 0, 1) := by decide +kernel
theorem dX12_looksAt_73 : decode cX12_looksAt 73 = .ok (.iconst 0, 1) := by decide +kernel
theorem dX12_looksAt_74 : decode cX12_looksAt 74 = .ok (.iload_n 1, 1) := by decide +kernel
theorem dX12_looksAt_75 : decode cX12_looksAt 75 = .ok (.invokevirtual 361, 3) := by decide +kernel
theorem dX12_looksAt_78 : decode cX12_looksAt 78 = .ok (.istore 5, 2) := by decide +kernel
theorem dX12_looksAt_80 : decode cX12_looksAt 80 = .ok (.aload_n 0, 1) := by decide +kernel
theorem dX12_looksAt_81 : decode cX12_looksAt 81 = .ok (.getfield 119, 3) := by decide +kernel
theorem dX12_looksAt_84 : decode cX12_looksAt 84 = .ok (.iconst 2, 1) := by decide +kernel
theorem dX12_looksAt_85 : decode cX12_looksAt 85 = .ok (.dup2, 1) := by decide +kernel
theorem dX12_looksAt_86 : decode cX12_looksAt 86 = .ok (.iaload, 1) := by decide +kernel
theorem dX12_looksAt_87 : decode cX12_looksAt 87 = .ok (.iconst 1, 1) := by decide +kernel
theorem dX12_looksAt_88 : decode cX12_looksAt 88 = .ok (.iload 4, 2) := by decide +kernel
theorem dX12_looksAt_90 : decode cX12_looksAt 90 = .ok (.ishl, 1) := by decide +kernel
theorem dX12_looksAt_91 : decode cX12_looksAt 91 = .ok (.ior, 1) := by decide +kernel
theorem dX12_looksAt_92 : decode cX12_looksAt 92 = .ok (.iastore, 1) := by decide +kernel
theorem dX12_looksAt_93 : decode cX12_looksAt 93 = .ok (.aload_n 0, 1) := by decide +kernel
theorem dX12_looksAt_94 : decode cX12_looksAt 94 = .ok (.getfield 119, 3) := by decide +kernel
theorem dX12_looksAt_97 : decode cX12_looksAt 97 = .ok (.iconst 0, 1) := by decide +kernel
theorem dX12_looksAt_98 : decode cX12_looksAt 98 = .ok (.aload_n 0, 1) := by decide +kernel
theorem dX12_looksAt_99 : decode cX12_looksAt 99 = .ok (.getfield 119, 3) := by decide +kernel
theorem dX12_looksAt_102 : decode cX12_looksAt 102 = .ok (.iconst 0, 1) := by decide +kernel
theorem dX12_looksAt_103 : decode cX12_looksAt 103 = .ok (.iaload, 1) := by decide +kernel
theorem dX12_looksAt_104 : decode cX12_looksAt 104 = .ok (.iload 5, 2) := by decide +kernel
theorem dX12_looksAt_106 : decode cX12_looksAt 106 = .ok (.isub, 1) := by decide +kernel
theorem dX12_looksAt_107 : decode cX12_looksAt 107 = .ok (.ldc_w 364, 3) := by decide +kernel
theorem dX12_looksAt_110 : decode cX12_looksAt 110 = .ok (.if_icmp .ge 9, 3) := by decide +kernel
theorem dX12_looksAt_113 : decode cX12_looksAt 113 = .ok (.ldc_w 364, 3) := by decide +kernel
theorem dX12_looksAt_116 : decode cX12_looksAt 116 = .ok (.goto 12, 3) := by decide +kernel
theorem dX12_looksAt_119 : decode cX12_looksAt 119 = .ok (.aload_n 0, 1) := by decide +kernel
theorem dX12_looksAt_120 : decode cX12_looksAt 120 = .ok (.getfield 119, 3) := by decide +kernel
theorem dX12_looksAt_123 : decode cX12_looksAt 123 = .ok (.iconst 0, 1) := by decide +kernel
theorem dX12_looksAt_124 : decode cX12_looksAt 124 = .ok (.iaload, 1) := by decide +kernel
theorem dX12_looksAt_125 : decode cX12_looksAt 125 = .ok (.iload 5, 2) := by decide +kernel
theorem dX12_looksAt_127 : decode cX12_looksAt 127 = .ok (.isub, 1) := by decide +kernel
theorem dX12_looksAt_128 : decode cX12_looksAt 128 = .ok (.iastore, 1) := by decide +kernel
theorem dX12_looksAt_129 : decode cX12_looksAt 129 = .ok (.aload_n 0, 1) := by decide +kernel
theorem dX12_looksAt_130 : decode cX12_looksAt 130 = .ok (.getfield 119, 3) := by decide +kernel
theorem dX12_looksAt_133 : decode cX12_looksAt 133 = .ok (.bipush 20, 2) := by decide +kernel
theorem dX12_looksAt_135 : decode cX12_looksAt 135 = .ok (.iload_n 1, 1) := by decide +kernel
theorem dX12_looksAt_136 : decode cX12_looksAt 136 = .ok (.iadd, 1) := by decide +kernel
theorem dX12_looksAt_137 : decode cX12_looksAt 137 = .ok (.dup2, 1) := by decide +kernel
theorem dX12_looksAt_138 : decode cX12_looksAt 138 = .ok (.iaload, 1) := by decide +kernel
theorem dX12_looksAt_139 : decode cX12_looksAt 139 = .ok (.iload 5, 2) := by decide +kernel
theorem dX12_looksAt_141 : decode cX12_looksAt 141 = .ok (.isub, 1) := by decide +kernel
theorem dX12_looksAt_142 : decode cX12_looksAt 142 = .ok (.iastore, 1) := by decide +kernel
theorem dX12_looksAt_143 : decode cX12_looksAt 143 = .ok (.iinc 3 1, 3) := by decide +kernel
theorem dX12_looksAt_146 : decode cX12_looksAt 146 = .ok (.iinc 4 1, 3) := by decide +kernel
theorem dX12_looksAt_149 : decode cX12_looksAt 149 = .ok (.goto (-112), 3) := by decide +kernel
theorem dX12_looksAt_152 : decode cX12_looksAt 152 = .ok (.iload_n 3, 1) := by decide +kernel
theorem dX12_looksAt_153 : decode cX12_looksAt 153 = .ok (.ireturn, 1) := by decide +kernel
theorem dX12_many_0 : decode cX12_many 0 = .ok (.iconst 0, 1) := by decide +kernel
theorem dX12_many_1 : decode cX12_many 1 = .ok (.istore_n 2, 1) := by decide +kernel
theorem dX12_many_2 : decode cX12_many 2 = .ok (.iconst 0, 1) := by decide +kernel
theorem dX12_many_3 : decode cX12_many 3 = .ok (.istore_n 3, 1) := by decide +kernel
theorem dX12_many_4 : decode cX12_many 4 = .ok (.iload_n 3, 1) := by decide +kernel
theorem dX12_many_5 : decode cX12_many 5 = .ok (.bipush 64, 2) := by decide +kernel
theorem dX12_many_7 : decode cX12_many 7 = .ok (.if_icmp .ge 18, 3) := by decide +kernel
theorem dX12_many_10 : decode cX12_many 10 = .ok (.iload_n 2, 1) := by decide +kernel
theorem dX12_many_11 : decode cX12_many 11 = .ok (.lload_n 0, 1) := by decide +kernel
theorem dX12_many_12 : decode cX12_many 12 = .ok (.iload_n 3, 1) := by decide +kernel
theorem dX12_many_13 : decode cX12_many 13 = .ok (.lshr, 1) := by decide +kernel
theorem dX12_many_14 : decode cX12_many 14 = .ok (.lconst 1, 1) := by decide +kernel
theorem dX12_many_15 : decode cX12_many 15 = .ok (.land, 1) := by decide +kernel
theorem dX12_many_16 : decode cX12_many 16 = .ok (.l2i, 1) := by decide +kernel
theorem dX12_many_17 : decode cX12_many 17 = .ok (.iadd, 1) := by decide +kernel
theorem dX12_many_18 : decode cX12_many 18 = .ok (.istore_n 2, 1) := by decide +kernel
theorem dX12_many_19 : decode cX12_many 19 = .ok (.iinc 3 1, 3) := by decide +kernel
theorem dX12_many_22 : decode cX12_many 22 = .ok (.goto (-18), 3) := by decide +kernel
theorem dX12_many_25 : decode cX12_many 25 = .ok (.iload_n 2, 1) := by decide +kernel
theorem dX12_many_26 : decode cX12_many 26 = .ok (.ireturn, 1) := by decide +kernel
theorem dX12_mayBe_0 : decode cX12_mayBe 0 = .ok (.lconst 0, 1) := by decide +kernel
theorem dX12_mayBe_1 : decode cX12_mayBe 1 = .ok (.lstore_n 2, 1) := by decide +kernel
theorem dX12_mayBe_2 : decode cX12_mayBe 2 = .ok (.iconst 0, 1) := by decide +kernel
theorem dX12_mayBe_3 : decode cX12_mayBe 3 = .ok (.istore 4, 2) := by decide +kernel
theorem dX12_mayBe_5 : decode cX12_mayBe 5 = .ok (.iload 4, 2) := by decide +kernel
theorem dX12_mayBe_7 : decode cX12_mayBe 7 = .ok (.iconst 1, 1) := by decide +kernel
theorem dX12_mayBe_8 : decode cX12_mayBe 8 = .ok (.aload_n 0, 1) := by decide +kernel
theorem dX12_mayBe_9 : decode cX12_mayBe 9 = .ok (.getfield 49, 3) := by decide +kernel
theorem dX12_mayBe_12 : decode cX12_mayBe 12 = .ok (.aload_n 0, 1) := by decide +kernel
theorem dX12_mayBe_13 : decode cX12_mayBe 13 = .ok (.getfield 222, 3) := by decide +kernel
theorem dX12_mayBe_16 : decode cX12_mayBe 16 = .ok (.iaload, 1) := by decide +kernel
theorem dX12_mayBe_17 : decode cX12_mayBe 17 = .ok (.ishl, 1) := by decide +kernel
theorem dX12_mayBe_18 : decode cX12_mayBe 18 = .ok (.if_icmp .ge 33, 3) := by decide +kernel
theorem dX12_mayBe_21 : decode cX12_mayBe 21 = .ok (.iload 4, 2) := by decide +kernel
theorem dX12_mayBe_23 : decode cX12_mayBe 23 = .ok (.aload_n 0, 1) := by decide +kernel
theorem dX12_mayBe_24 : decode cX12_mayBe 24 = .ok (.getfield 52, 3) := by decide +kernel
theorem dX12_mayBe_27 : decode cX12_mayBe 27 = .ok (.aload_n 0, 1) := by decide +kernel
theorem dX12_mayBe_28 : decode cX12_mayBe 28 = .ok (.getfield 222, 3) := by decide +kernel
theorem dX12_mayBe_31 : decode cX12_mayBe 31 = .ok (.iaload, 1) := by decide +kernel
theorem dX12_mayBe_32 : decode cX12_mayBe 32 = .ok (.ixor, 1) := by decide +kernel
theorem dX12_mayBe_33 : decode cX12_mayBe 33 = .ok (.iload_n 1, 1) := by decide +kernel
theorem dX12_mayBe_34 : decode cX12_mayBe 34 = .ok (.iand, 1) := by decide +kernel
theorem dX12_mayBe_35 : decode cX12_mayBe 35 = .ok (.ifCond .ne 10, 3) := by decide +kernel
theorem dX12_mayBe_38 : decode cX12_mayBe 38 = .ok (.lload_n 2, 1) := by decide +kernel
theorem dX12_mayBe_39 : decode cX12_mayBe 39 = .ok (.lconst 1, 1) := by decide +kernel
theorem dX12_mayBe_40 : decode cX12_mayBe 40 = .ok (.iload 4, 2) := by decide +kernel
theorem dX12_mayBe_42 : decode cX12_mayBe 42 = .ok (.lshl, 1) := by decide +kernel
theorem dX12_mayBe_43 : decode cX12_mayBe 43 = .ok (.lor, 1) := by decide +kernel
theorem dX12_mayBe_44 : decode cX12_mayBe 44 = .ok (.lstore_n 2, 1) := by decide +kernel
theorem dX12_mayBe_45 : decode cX12_mayBe 45 = .ok (.iinc 4 1, 3) := by decide +kernel
theorem dX12_mayBe_48 : decode cX12_mayBe 48 = .ok (.goto (-43), 3) := by decide +kernel
theorem dX12_mayBe_51 : decode cX12_mayBe 51 = .ok (.lload_n 2, 1) := by decide +kernel
theorem dX12_mayBe_52 : decode cX12_mayBe 52 = .ok (.lreturn, 1) := by decide +kernel
theorem dX12_minutesBy_0 : decode cX12_minutesBy 0 = .ok (.aload_n 0, 1) := by decide +kernel
theorem dX12_minutesBy_1 : decode cX12_minutesBy 1 = .ok (.getfield 83, 3) := by decide +kernel
theorem dX12_minutesBy_4 : decode cX12_minutesBy 4 = .ok (.iconst 2, 1) := by decide +kernel
theorem dX12_minutesBy_5 : decode cX12_minutesBy 5 = .ok (.aload_n 0, 1) := by decide +kernel
theorem dX12_minutesBy_6 : decode cX12_minutesBy 6 = .ok (.getfield 222, 3) := by decide +kernel
theorem dX12_minutesBy_9 : decode cX12_minutesBy 9 = .ok (.imul, 1) := by decide +kernel
theorem dX12_minutesBy_10 : decode cX12_minutesBy 10 = .ok (.iload_n 1, 1) := by decide +kernel
theorem dX12_minutesBy_11 : decode cX12_minutesBy 11 = .ok (.iadd, 1) := by decide +kernel
theorem dX12_minutesBy_12 : decode cX12_minutesBy 12 = .ok (.iaload, 1) := by decide +kernel
theorem dX12_minutesBy_13 : decode cX12_minutesBy 13 = .ok (.istore_n 3, 1) := by decide +kernel
theorem dX12_minutesBy_14 : decode cX12_minutesBy 14 = .ok (.aload_n 0, 1) := by decide +kernel
theorem dX12_minutesBy_15 : decode cX12_minutesBy 15 = .ok (.getfield 86, 3) := by decide +kernel
theorem dX12_minutesBy_18 : decode cX12_minutesBy 18 = .ok (.iconst 2, 1) := by decide +kernel
theorem dX12_minutesBy_19 : decode cX12_minutesBy 19 = .ok (.aload_n 0, 1) := by decide +kernel
theorem dX12_minutesBy_20 : decode cX12_minutesBy 20 = .ok (.getfield 222, 3) := by decide +kernel
theorem dX12_minutesBy_23 : decode cX12_minutesBy 23 = .ok (.imul, 1) := by decide +kernel
theorem dX12_minutesBy_24 : decode cX12_minutesBy 24 = .ok (.iload_n 1, 1) := by decide +kernel
theorem dX12_minutesBy_25 : decode cX12_minutesBy 25 = .ok (.iadd, 1) := by decide +kernel
theorem dX12_minutesBy_26 : decode cX12_minutesBy 26 = .ok (.iaload, 1) := by decide +kernel
theorem dX12_minutesBy_27 : decode cX12_minutesBy 27 = .ok (.istore 4, 2) := by decide +kernel
theorem dX12_minutesBy_29 : decode cX12_minutesBy 29 = .ok (.iload_n 3, 1) := by decide +kernel
theorem dX12_minutesBy_30 : decode cX12_minutesBy 30 = .ok (.iload 4, 2) := by decide +kernel
theorem dX12_minutesBy_32 : decode cX12_minutesBy 32 = .ok (.if_icmp .ne 5, 3) := by decide +kernel
theorem dX12_minutesBy_35 : decode cX12_minutesBy 35 = .ok (.iconst 1, 1) := by decide +kernel
theorem dX12_minutesBy_36 : decode cX12_minutesBy 36 = .ok (.ireturn, 1) := by decide +kernel
theorem dX12_minutesBy_37 : decode cX12_minutesBy 37 = .ok (.aload_n 0, 1) := by decide +kernel
theorem dX12_minutesBy_38 : decode cX12_minutesBy 38 = .ok (.getfield 119, 3) := by decide +kernel
theorem dX12_minutesBy_41 : decode cX12_minutesBy 41 = .ok (.iconst 0, 1) := by decide +kernel
theorem dX12_minutesBy_42 : decode cX12_minutesBy 42 = .ok (.iaload, 1) := by decide +kernel
theorem dX12_minutesBy_43 : decode cX12_minutesBy 43 = .ok (.sipush 1440, 3) := by decide +kernel
theorem dX12_minutesBy_46 : decode cX12_minutesBy 46 = .ok (.irem, 1) := by decide +kernel
theorem dX12_minutesBy_47 : decode cX12_minutesBy 47 = .ok (.istore 5, 2) := by decide +kernel
theorem dX12_minutesBy_49 : decode cX12_minutesBy 49 = .ok (.aload_n 0, 1) := by decide +kernel
theorem dX12_minutesBy_50 : decode cX12_minutesBy 50 = .ok (.getfield 110, 3) := by decide +kernel
theorem dX12_minutesBy_53 : decode cX12_minutesBy 53 = .ok (.iconst 0, 1) := by decide +kernel
theorem dX12_minutesBy_54 : decode cX12_minutesBy 54 = .ok (.aload_n 0, 1) := by decide +kernel
theorem dX12_minutesBy_55 : decode cX12_minutesBy 55 = .ok (.getfield 119, 3) := by decide +kernel
theorem dX12_minutesBy_58 : decode cX12_minutesBy 58 = .ok (.iconst 2, 1) := by decide +kernel
theorem dX12_minutesBy_59 : decode cX12_minutesBy 59 = .ok (.iaload, 1) := by decide +kernel
theorem dX12_minutesBy_60 : decode cX12_minutesBy 60 = .ok (.aload_n 0, 1) := by decide +kernel
theorem dX12_minutesBy_61 : decode cX12_minutesBy 61 = .ok (.iload_n 2, 1) := by decide +kernel
theorem dX12_minutesBy_62 : decode cX12_minutesBy 62 = .ok (.invokevirtual 343, 3) := by decide +kernel
theorem dX12_minutesBy_65 : decode cX12_minutesBy 65 = .ok (.iand, 1) := by decide +kernel
theorem dX12_minutesBy_66 : decode cX12_minutesBy 66 = .ok (.invokestatic 346, 3) := by decide +kernel
theorem dX12_minutesBy_69 : decode cX12_minutesBy 69 = .ok (.iastore, 1) := by decide +kernel
theorem dX12_minutesBy_70 : decode cX12_minutesBy 70 = .ok (.aload_n 0, 1) := by decide +kernel
theorem dX12_minutesBy_71 : decode cX12_minutesBy 71 = .ok (.getfield 110, 3) := by decide +kernel
theorem dX12_minutesBy_74 : decode cX12_minutesBy 74 = .ok (.iconst 1, 1) := by decide +kernel
theorem dX12_minutesBy_75 : decode cX12_minutesBy 75 = .ok (.aload_n 0, 1) := by decide +kernel
theorem dX12_minutesBy_76 : decode cX12_minutesBy 76 = .ok (.getfield 119, 3) := by decide +kernel
theorem dX12_minutesBy_79 : decode cX12_minutesBy 79 = .ok (.iconst 1, 1) := by decide +kernel
theorem dX12_minutesBy_80 : decode cX12_minutesBy 80 = .ok (.iaload, 1) := by decide +kernel
theorem dX12_minutesBy_81 : decode cX12_minutesBy 81 = .ok (.aload_n 0, 1) := by decide +kernel
theorem dX12_minutesBy_82 : decode cX12_minutesBy 82 = .ok (.iload_n 2, 1) := by decide +kernel
theorem dX12_minutesBy_83 : decode cX12_minutesBy 83 = .ok (.invokevirtual 343, 3) := by decide +kernel
theorem dX12_minutesBy_86 : decode cX12_minutesBy 86 = .ok (.iand, 1) := by decide +kernel
theorem dX12_minutesBy_87 : decode cX12_minutesBy 87 = .ok (.invokestatic 346, 3) := by decide +kernel
theorem dX12_minutesBy_90 : decode cX12_minutesBy 90 = .ok (.iastore, 1) := by decide +kernel
theorem dX12_minutesBy_91 : decode cX12_minutesBy 91 = .ok (.aload_n 0, 1) := by decide +kernel
theorem dX12_minutesBy_92 : decode cX12_minutesBy 92 = .ok (.getfield 110, 3) := by decide +kernel
theorem dX12_minutesBy_95 : decode cX12_minutesBy 95 = .ok (.iconst 2, 1) := by decide +kernel
theorem dX12_minutesBy_96 : decode cX12_minutesBy 96 = .ok (.iload 5, 2) := by decide +kernel
theorem dX12_minutesBy_98 : decode cX12_minutesBy 98 = .ok (.ifCond .ge 12, 3) := by decide +kernel
theorem dX12_minutesBy_101 : decode cX12_minutesBy 101 = .ok (.iload 5, 2) := by decide +kernel
theorem dX12_minutesBy_103 : decode cX12_minutesBy 103 = .ok (.sipush 1440, 3) := by decide +kernel
theorem dX12_minutesBy_106 : decode cX12_minutesBy 106 = .ok (.iadd, 1) := by decide +kernel
theorem dX12_minutesBy_107 : decode cX12_minutesBy 107 = .ok (.goto 5, 3) := by decide +kernel
theorem dX12_minutesBy_110 : decode cX12_minutesBy 110 = .ok (.iload 5, 2) := by decide +kernel
theorem dX12_minutesBy_112 : decode cX12_minutesBy 112 = .ok (.iastore, 1) := by decide +kernel
theorem dX12_minutesBy_113 : decode cX12_minutesBy 113 = .ok (.aload_n 0, 1) := by decide +kernel
theorem dX12_minutesBy_114 : decode cX12_minutesBy 114 = .ok (.getfield 110, 3) := by decide +kernel
theorem dX12_minutesBy_117 : decode cX12_minutesBy 117 = .ok (.iconst 3, 1) := by decide +kernel
theorem dX12_minutesBy_118 : decode cX12_minutesBy 118 = .ok (.aload_n 0, 1) := by decide +kernel
theorem dX12_minutesBy_119 : decode cX12_minutesBy 119 = .ok (.invokevirtual 349, 3) := by decide +kernel
theorem dX12_minutesBy_122 : decode cX12_minutesBy 122 = .ok (.iastore, 1) := by decide +kernel
theorem dX12_minutesBy_123 : decode cX12_minutesBy 123 = .ok (.aload_n 0, 1) := by decide +kernel
theorem dX12_minutesBy_124 : decode cX12_minutesBy 124 = .ok (.getfield 110, 3) := by decide +kernel
theorem dX12_minutesBy_127 : decode cX12_minutesBy 127 = .ok (.iconst 4, 1) := by decide +kernel
theorem dX12_minutesBy_128 : decode cX12_minutesBy 128 = .ok (.aload_n 0, 1) := by decide +kernel
theorem dX12_minutesBy_129 : decode cX12_minutesBy 129 = .ok (.getfield 119, 3) := by decide +kernel
theorem dX12_minutesBy_132 : decode cX12_minutesBy 132 = .ok (.iconst 3, 1) := by decide +kernel
theorem dX12_minutesBy_133 : decode cX12_minutesBy 133 = .ok (.iaload, 1) := by decide +kernel
theorem dX12_minutesBy_134 : decode cX12_minutesBy 134 = .ok (.invokestatic 346, 3) := by decide +kernel
theorem dX12_minutesBy_137 : decode cX12_minutesBy 137 = .ok (.iastore, 1) := by decide +kernel
theorem dX12_minutesBy_138 : decode cX12_minutesBy 138 = .ok (.aload_n 0, 1) := by decide +kernel
theorem dX12_minutesBy_139 : decode cX12_minutesBy 139 = .ok (.iconst 0, 1) := by decide +kernel
theorem dX12_minutesBy_140 : decode cX12_minutesBy 140 = .ok (.putfield 319, 3) := by decide +kernel
theorem dX12_minutesBy_143 : decode cX12_minutesBy 143 = .ok (.aload_n 0, 1) := by decide +kernel
theorem dX12_minutesBy_144 : decode cX12_minutesBy 144 = .ok (.iload_n 3, 1) := by decide +kernel
theorem dX12_minutesBy_145 : decode cX12_minutesBy 145 = .ok (.iload 4, 2) := by decide +kernel
theorem dX12_minutesBy_147 : decode cX12_minutesBy 147 = .ok (.invokevirtual 352, 3) := by decide +kernel
theorem dX12_minutesBy_150 : decode cX12_minutesBy 150 = .ok (.istore 6, 2) := by decide +kernel
theorem dX12_minutesBy_152 : decode cX12_minutesBy 152 = .ok (.aload_n 0, 1) := by decide +kernel
theorem dX12_minutesBy_153 : decode cX12_minutesBy 153 = .ok (.getfield 319, 3) := by decide +kernel
theorem dX12_minutesBy_156 : decode cX12_minutesBy 156 = .ok (.ifCond .ne 8, 3) := by decide +kernel
theorem dX12_minutesBy_159 : decode cX12_minutesBy 159 = .ok (.iload 6, 2) := by decide +kernel
theorem dX12_minutesBy_161 : decode cX12_minutesBy 161 = .ok (.ifCond .ge 7, 3) := by decide +kernel
theorem dX12_minutesBy_164 : decode cX12_minutesBy 164 = .ok (.iconst 0, 1) := by decide +kernel
theorem dX12_minutesBy_165 : decode cX12_minutesBy 165 = .ok (.goto 17, 3) := by decide +kernel
theorem dX12_minutesBy_168 : decode cX12_minutesBy 168 = .ok (.iload 6, 2) := by decide +kernel
theorem dX12_minutesBy_170 : decode cX12_minutesBy 170 = .ok (.bipush 120, 2) := by decide +kernel
theorem dX12_minutesBy_172 : decode cX12_minutesBy 172 = .ok (.if_icmp .le 8, 3) := by decide +kernel
theorem dX12_minutesBy_175 : decode cX12_minutesBy 175 = .ok (.bipush 120, 2) := by decide +kernel
theorem dX12_minutesBy_177 : decode cX12_minutesBy 177 = .ok (.goto 5, 3) := by decide +kernel
theorem dX12_minutesBy_180 : decode cX12_minutesBy 180 = .ok (.iload 6, 2) := by decide +kernel
theorem dX12_minutesBy_182 : decode cX12_minutesBy 182 = .ok (.ireturn, 1) := by decide +kernel
theorem dX12_must_0 : decode cX12_must 0 = .ok (.aload_n 0, 1) := by decide +kernel
theorem dX12_must_1 : decode cX12_must 1 = .ok (.iload_n 1, 1) := by decide +kernel
theorem dX12_must_2 : decode cX12_must 2 = .ok (.invokevirtual 210, 3) := by decide +kernel
theorem dX12_must_5 : decode cX12_must 5 = .ok (.ifCond .eq 10, 3) := by decide +kernel
theorem dX12_must_8 : decode cX12_must 8 = .ok (.aload_n 0, 1) := by decide +kernel
theorem dX12_must_9 : decode cX12_must 9 = .ok (.invokevirtual 213, 3) := by decide +kernel
theorem dX12_must_12 : decode cX12_must 12 = .ok (.goto 8, 3) := by decide +kernel
theorem dX12_must_15 : decode cX12_must 15 = .ok (.aload_n 0, 1) := by decide +kernel
theorem dX12_must_16 : decode cX12_must 16 = .ok (.iconst 1, 1) := by decide +kernel
theorem dX12_must_17 : decode cX12_must 17 = .ok (.invokevirtual 207, 3) := by decide +kernel
theorem dX12_must_20 : decode cX12_must 20 = .ok (.return_, 1) := by decide +kernel
theorem dX12_named_0 : decode cX12_named 0 = .ok (.aload_n 0, 1) := by decide +kernel
theorem dX12_named_1 : decode cX12_named 1 = .ok (.getfield 195, 3) := by decide +kernel
theorem dX12_named_4 : decode cX12_named 4 = .ok (.istore_n 1, 1) := by decide +kernel
theorem dX12_named_5 : decode cX12_named 5 = .ok (.aload_n 0, 1) := by decide +kernel
theorem dX12_named_6 : decode cX12_named 6 = .ok (.iconst 1, 1) := by decide +kernel
theorem dX12_named_7 : decode cX12_named 7 = .ok (.invokevirtual 265, 3) := by decide +kernel
theorem dX12_named_10 : decode cX12_named 10 = .ok (.iconst 0, 1) := by decide +kernel
theorem dX12_named_11 : decode cX12_named 11 = .ok (.istore_n 2, 1) := by decide +kernel
theorem dX12_named_12 : decode cX12_named 12 = .ok (.iload_n 2, 1) := by decide +kernel
theorem dX12_named_13 : decode cX12_named 13 = .ok (.aload_n 0, 1) := by decide +kernel
theorem dX12_named_14 : decode cX12_named 14 = .ok (.getfield 228, 3) := by decide +kernel
theorem dX12_named_17 : decode cX12_named 17 = .ok (.if_icmp .ge 38, 3) := by decide +kernel
theorem dX12_named_20 : decode cX12_named 20 = .ok (.aload_n 0, 1) := by decide +kernel
theorem dX12_named_21 : decode cX12_named 21 = .ok (.getfield 192, 3) := by decide +kernel
theorem dX12_named_24 : decode cX12_named 24 = .ok (.ifCond .ne 31, 3) := by decide +kernel
theorem dX12_named_27 : decode cX12_named 27 = .ok (.aload_n 0, 1) := by decide +kernel
theorem dX12_named_28 : decode cX12_named 28 = .ok (.getfield 40, 3) := by decide +kernel
theorem dX12_named_31 : decode cX12_named 31 = .ok (.iload_n 2, 1) := by decide +kernel
theorem dX12_named_32 : decode cX12_named 32 = .ok (.laload, 1) := by decide +kernel
theorem dX12_named_33 : decode cX12_named 33 = .ok (.aload_n 0, 1) := by decide +kernel
theorem dX12_named_34 : decode cX12_named 34 = .ok (.getfield 30, 3) := by decide +kernel
theorem dX12_named_37 : decode cX12_named 37 = .ok (.iload_n 1, 1) := by decide +kernel
theorem dX12_named_38 : decode cX12_named 38 = .ok (.laload, 1) := by decide +kernel
theorem dX12_named_39 : decode cX12_named 39 = .ok (.lcmp, 1) := by decide +kernel
theorem dX12_named_40 : decode cX12_named 40 = .ok (.ifCond .ne 9, 3) := by decide +kernel
theorem dX12_named_43 : decode cX12_named 43 = .ok (.aload_n 0, 1) := by decide +kernel
theorem dX12_named_44 : decode cX12_named 44 = .ok (.iconst 3, 1) := by decide +kernel
theorem dX12_named_45 : decode cX12_named 45 = .ok (.iload_n 1, 1) := by decide +kernel
theorem dX12_named_46 : decode cX12_named 46 = .ok (.invokevirtual 272, 3) := by decide +kernel
theorem dX12_named_49 : decode cX12_named 49 = .ok (.iinc 2 1, 3) := by decide +kernel
theorem dX12_named_52 : decode cX12_named 52 = .ok (.goto (-40), 3) := by decide +kernel
theorem dX12_named_55 : decode cX12_named 55 = .ok (.iload_n 1, 1) := by decide +kernel
theorem dX12_named_56 : decode cX12_named 56 = .ok (.ireturn, 1) := by decide +kernel
theorem dX12_never_0 : decode cX12_never 0 = .ok (.aload_n 0, 1) := by decide +kernel
theorem dX12_never_1 : decode cX12_never 1 = .ok (.iload_n 1, 1) := by decide +kernel
theorem dX12_never_2 : decode cX12_never 2 = .ok (.invokevirtual 420, 3) := by decide +kernel
theorem dX12_never_5 : decode cX12_never 5 = .ok (.ifCond .eq 12, 3) := by decide +kernel
theorem dX12_never_8 : decode cX12_never 8 = .ok (.iload_n 1, 1) := by decide +kernel
theorem dX12_never_9 : decode cX12_never 9 = .ok (.invokestatic 346, 3) := by decide +kernel
theorem dX12_never_12 : decode cX12_never 12 = .ok (.bipush 6, 2) := by decide +kernel
theorem dX12_never_14 : decode cX12_never 14 = .ok (.if_icmp .le 5, 3) := by decide +kernel
theorem dX12_never_17 : decode cX12_never 17 = .ok (.iconst (-1), 1) := by decide +kernel
theorem dX12_never_18 : decode cX12_never 18 = .ok (.ireturn, 1) := by decide +kernel
theorem dX12_never_19 : decode cX12_never 19 = .ok (.aload_n 0, 1) := by decide +kernel
theorem dX12_never_20 : decode cX12_never 20 = .ok (.iload_n 1, 1) := by decide +kernel
theorem dX12_never_21 : decode cX12_never 21 = .ok (.invokevirtual 414, 3) := by decide +kernel
theorem dX12_never_24 : decode cX12_never 24 = .ok (.iconst 1, 1) := by decide +kernel
theorem dX12_never_25 : decode cX12_never 25 = .ok (.istore_n 3, 1) := by decide +kernel
theorem dX12_never_26 : decode cX12_never 26 = .ok (.iload_n 3, 1) := by decide +kernel
theorem dX12_never_27 : decode cX12_never 27 = .ok (.ifCond .eq 64, 3) := by decide +kernel
theorem dX12_never_30 : decode cX12_never 30 = .ok (.aload_n 0, 1) := by decide +kernel
theorem dX12_never_31 : decode cX12_never 31 = .ok (.invokevirtual 384, 3) := by decide +kernel
theorem dX12_never_34 : decode cX12_never 34 = .ok (.aload_n 0, 1) := by decide +kernel
theorem dX12_never_35 : decode cX12_never 35 = .ok (.iload_n 2, 1) := by decide +kernel
theorem dX12_never_36 : decode cX12_never 36 = .ok (.putfield 334, 3) := by decide +kernel
theorem dX12_never_39 : decode cX12_never 39 = .ok (.aload_n 0, 1) := by decide +kernel
theorem dX12_never_40 : decode cX12_never 40 = .ok (.iconst 0, 1) := by decide +kernel
theorem dX12_never_41 : decode cX12_never 41 = .ok (.putfield 337, 3) := by decide +kernel
theorem dX12_never_44 : decode cX12_never 44 = .ok (.iconst 0, 1) := by decide +kernel
theorem dX12_never_45 : decode cX12_never 45 = .ok (.istore 4, 2) := by decide +kernel
theorem dX12_never_47 : decode cX12_never 47 = .ok (.iload 4, 2) := by decide +kernel
theorem dX12_never_49 : decode cX12_never 49 = .ok (.aload_n 0, 1) := by decide +kernel
theorem dX12_never_50 : decode cX12_never 50 = .ok (.getfield 411, 3) := by decide +kernel
theorem dX12_never_53 : decode cX12_never 53 = .ok (.if_icmp .ge 21, 3) := by decide +kernel
theorem dX12_never_56 : decode cX12_never 56 = .ok (.aload_n 0, 1) := by decide +kernel
theorem dX12_never_57 : decode cX12_never 57 = .ok (.aload_n 0, 1) := by decide +kernel
theorem dX12_never_58 : decode cX12_never 58 = .ok (.getfield 128, 3) := by decide +kernel
theorem dX12_never_61 : decode cX12_never 61 = .ok (.iload 4, 2) := by decide +kernel
theorem dX12_never_63 : decode cX12_never 63 = .ok (.iaload, 1) := by decide +kernel
theorem dX12_never_64 : decode cX12_never 64 = .ok (.invokevirtual 391, 3) := by decide +kernel
theorem dX12_never_67 : decode cX12_never 67 = .ok (.pop, 1) := by decide +kernel
theorem dX12_never_68 : decode cX12_never 68 = .ok (.iinc 4 1, 3) := by decide +kernel
theorem dX12_never_71 : decode cX12_never 71 = .ok (.goto (-24), 3) := by decide +kernel
theorem dX12_never_74 : decode cX12_never 74 = .ok (.aload_n 0, 1) := by decide +kernel
theorem dX12_never_75 : decode cX12_never 75 = .ok (.getfield 337, 3) := by decide +kernel
theorem dX12_never_78 : decode cX12_never 78 = .ok (.ifCond .ne 5, 3) := by decide +kernel
theorem dX12_never_81 : decode cX12_never 81 = .ok (.iconst 1, 1) := by decide +kernel
theorem dX12_never_82 : decode cX12_never 82 = .ok (.ireturn, 1) := by decide +kernel
theorem dX12_never_83 : decode cX12_never 83 = .ok (.aload_n 0, 1) := by decide +kernel
theorem dX12_never_84 : decode cX12_never 84 = .ok (.invokevirtual 417, 3) := by decide +kernel
theorem dX12_never_87 : decode cX12_never 87 = .ok (.istore_n 3, 1) := by decide +kernel
theorem dX12_never_88 : decode cX12_never 88 = .ok (.goto (-62), 3) := by decide +kernel
theorem dX12_never_91 : decode cX12_never 91 = .ok (.iconst 0, 1) := by decide +kernel
theorem dX12_never_92 : decode cX12_never 92 = .ok (.ireturn, 1) := by decide +kernel
theorem dX12_nextOrder_0 : decode cX12_nextOrder 0 = .ok (.aload_n 0, 1) := by decide +kernel
theorem dX12_nextOrder_1 : decode cX12_nextOrder 1 = .ok (.getfield 411, 3) := by decide +kernel
theorem dX12_nextOrder_4 : decode cX12_nextOrder 4 = .ok (.iconst 2, 1) := by decide +kernel
theorem dX12_nextOrder_5 : decode cX12_nextOrder 5 = .ok (.isub, 1) := by decide +kernel
theorem dX12_nextOrder_6 : decode cX12_nextOrder 6 = .ok (.istore_n 1, 1) := by decide +kernel
theorem dX12_nextOrder_7 : decode cX12_nextOrder 7 = .ok (.iload_n 1, 1) := by decide +kernel
theorem dX12_nextOrder_8 : decode cX12_nextOrder 8 = .ok (.ifCond .lt 26, 3) := by decide +kernel
theorem dX12_nextOrder_11 : decode cX12_nextOrder 11 = .ok (.aload_n 0, 1) := by decide +kernel
theorem dX12_nextOrder_12 : decode cX12_nextOrder 12 = .ok (.getfield 128, 3) := by decide +kernel
theorem dX12_nextOrder_15 : decode cX12_nextOrder 15 = .ok (.iload_n 1, 1) := by decide +kernel
theorem dX12_nextOrder_16 : decode cX12_nextOrder 16 = .ok (.iaload, 1) := by decide +kernel
theorem dX12_nextOrder_17 : decode cX12_nextOrder 17 = .ok (.aload_n 0, 1) := by decide +kernel
theorem dX12_nextOrder_18 : decode cX12_nextOrder 18 = .ok (.getfield 128, 3) := by decide +kernel
theorem dX12_nextOrder_21 : decode cX12_nextOrder 21 = .ok (.iload_n 1, 1) := by decide +kernel
theorem dX12_nextOrder_22 : decode cX12_nextOrder 22 = .ok (.iconst 1, 1) := by decide +kernel
theorem dX12_nextOrder_23 : decode cX12_nextOrder 23 = .ok (.iadd, 1) := by decide +kernel
theorem dX12_nextOrder_24 : decode cX12_nextOrder 24 = .ok (.iaload, 1) := by decide +kernel
theorem dX12_nextOrder_25 : decode cX12_nextOrder 25 = .ok (.if_icmp .le 9, 3) := by decide +kernel
theorem dX12_nextOrder_28 : decode cX12_nextOrder 28 = .ok (.iinc 1 (-1), 3) := by decide +kernel
theorem dX12_nextOrder_31 : decode cX12_nextOrder 31 = .ok (.goto (-24), 3) := by decide +kernel
theorem dX12_nextOrder_34 : decode cX12_nextOrder 34 = .ok (.iload_n 1, 1) := by decide +kernel
theorem dX12_nextOrder_35 : decode cX12_nextOrder 35 = .ok (.ifCond .ge 5, 3) := by decide +kernel
theorem dX12_nextOrder_38 : decode cX12_nextOrder 38 = .ok (.iconst 0, 1) := by decide +kernel
theorem dX12_nextOrder_39 : decode cX12_nextOrder 39 = .ok (.ireturn, 1) := by decide +kernel
theorem dX12_nextOrder_40 : decode cX12_nextOrder 40 = .ok (.aload_n 0, 1) := by decide +kernel
theorem dX12_nextOrder_41 : decode cX12_nextOrder 41 = .ok (.getfield 411, 3) := by decide +kernel
theorem dX12_nextOrder_44 : decode cX12_nextOrder 44 = .ok (.iconst 1, 1) := by decide +kernel
theorem dX12_nextOrder_45 : decode cX12_nextOrder 45 = .ok (.isub, 1) := by decide +kernel
theorem dX12_nextOrder_46 : decode cX12_nextOrder 46 = .ok (.istore_n 2, 1) := by decide +kernel
theorem dX12_nextOrder_47 : decode cX12_nextOrder 47 = .ok (.aload_n 0, 1) := by decide +kernel
theorem dX12_nextOrder_48 : decode cX12_nextOrder 48 = .ok (.getfield 128, 3) := by decide +kernel
theorem dX12_nextOrder_51 : decode cX12_nextOrder 51 = .ok (.iload_n 2, 1) := by decide +kernel
theorem dX12_nextOrder_52 : decode cX12_nextOrder 52 = .ok (.iaload, 1) := by decide +kernel
theorem dX12_nextOrder_53 : decode cX12_nextOrder 53 = .ok (.aload_n 0, 1) := by decide +kernel
theorem dX12_nextOrder_54 : decode cX12_nextOrder 54 = .ok (.getfield 128, 3) := by decide +kernel
theorem dX12_nextOrder_57 : decode cX12_nextOrder 57 = .ok (.iload_n 1, 1) := by decide +kernel
theorem dX12_nextOrder_58 : decode cX12_nextOrder 58 = .ok (.iaload, 1) := by decide +kernel
theorem dX12_nextOrder_59 : decode cX12_nextOrder 59 = .ok (.if_icmp .ge 9, 3) := by decide +kernel
theorem dX12_nextOrder_62 : decode cX12_nextOrder 62 = .ok (.iinc 2 (-1), 3) := by decide +kernel
theorem dX12_nextOrder_65 : decode cX12_nextOrder 65 = .ok (.goto (-18), 3) := by decide +kernel
theorem dX12_nextOrder_68 : decode cX12_nextOrder 68 = .ok (.aload_n 0, 1) := by decide +kernel
theorem dX12_nextOrder_69 : decode cX12_nextOrder 69 = .ok (.getfield 128, 3) := by decide +kernel
theorem dX12_nextOrder_72 : decode cX12_nextOrder 72 = .ok (.iload_n 1, 1) := by decide +kernel
theorem dX12_nextOrder_73 : decode cX12_nextOrder 73 = .ok (.iaload, 1) := by decide +kernel
theorem dX12_nextOrder_74 : decode cX12_nextOrder 74 = .ok (.istore_n 3, 1) := by decide +kernel
theorem dX12_nextOrder_75 : decode cX12_nextOrder 75 = .ok (.aload_n 0, 1) := by decide +kernel
theorem dX12_nextOrder_76 : decode cX12_nextOrder 76 = .ok (.getfield 128, 3) := by decide +kernel
theorem dX12_nextOrder_79 : decode cX12_nextOrder 79 = .ok (.iload_n 1, 1) := by decide +kernel
theorem dX12_nextOrder_80 : decode cX12_nextOrder 80 = .ok (.aload_n 0, 1) := by decide +kernel
theorem dX12_nextOrder_81 : decode cX12_nextOrder 81 = .ok (.getfield 128, 3) := by decide +kernel
theorem dX12_nextOrder_84 : decode cX12_nextOrder 84 = .ok (.iload_n 2, 1) := by decide +kernel
theorem dX12_nextOrder_85 : decode cX12_nextOrder 85 = .ok (.iaload, 1) := by decide +kernel
theorem dX12_nextOrder_86 : decode cX12_nextOrder 86 = .ok (.iastore, 1) := by decide +kernel
theorem dX12_nextOrder_87 : decode cX12_nextOrder 87 = .ok (.aload_n 0, 1) := by decide +kernel
theorem dX12_nextOrder_88 : decode cX12_nextOrder 88 = .ok (.getfield 128, 3) := by decide +kernel
theorem dX12_nextOrder_91 : decode cX12_nextOrder 91 = .ok (.iload_n 2, 1) := by decide +kernel
theorem dX12_nextOrder_92 : decode cX12_nextOrder 92 = .ok (.iload_n 3, 1) := by decide +kernel
theorem dX12_nextOrder_93 : decode cX12_nextOrder 93 = .ok (.iastore, 1) := by decide +kernel
theorem dX12_nextOrder_94 : decode cX12_nextOrder 94 = .ok (.iload_n 1, 1) := by decide +kernel
theorem dX12_nextOrder_95 : decode cX12_nextOrder 95 = .ok (.iconst 1, 1) := by decide +kernel
theorem dX12_nextOrder_96 : decode cX12_nextOrder 96 = .ok (.iadd, 1) := by decide +kernel
theorem dX12_nextOrder_97 : decode cX12_nextOrder 97 = .ok (.istore 4, 2) := by decide +kernel
theorem dX12_nextOrder_99 : decode cX12_nextOrder 99 = .ok (.aload_n 0, 1) := by decide +kernel
theorem dX12_nextOrder_100 : decode cX12_nextOrder 100 = .ok (.getfield 411, 3) := by decide +kernel
theorem dX12_nextOrder_103 : decode cX12_nextOrder 103 = .ok (.iconst 1, 1) := by decide +kernel
theorem dX12_nextOrder_104 : decode cX12_nextOrder 104 = .ok (.isub, 1) := by decide +kernel
theorem dX12_nextOrder_105 : decode cX12_nextOrder 105 = .ok (.istore 5, 2) := by decide +kernel
theorem dX12_nextOrder_107 : decode cX12_nextOrder 107 = .ok (.iload 4, 2) := by decide +kernel
theorem dX12_nextOrder_109 : decode cX12_nextOrder 109 = .ok (.iload 5, 2) := by decide +kernel
theorem dX12_nextOrder_111 : decode cX12_nextOrder 111 = .ok (.if_icmp .ge 42, 3) := by decide +kernel
theorem dX12_nextOrder_114 : decode cX12_nextOrder 114 = .ok (.aload_n 0, 1) := by decide +kernel
theorem dX12_nextOrder_115 : decode cX12_nextOrder 115 = .ok (.getfield 128, 3) := by decide +kernel
theorem dX12_nextOrder_118 : decode cX12_nextOrder 118 = .ok (.iload 4, 2) := by decide +kernel
theorem dX12_nextOrder_120 : decode cX12_nextOrder 120 = .ok (.iaload, 1) := by decide +kernel
theorem dX12_nextOrder_121 : decode cX12_nextOrder 121 = .ok (.istore_n 3, 1) := by decide +kernel
theorem dX12_nextOrder_122 : decode cX12_nextOrder 122 = .ok (.aload_n 0, 1) := by decide +kernel
theorem dX12_nextOrder_123 : decode cX12_nextOrder 123 = .ok (.getfield 128, 3) := by decide +kernel
theorem dX12_nextOrder_126 : decode cX12_nextOrder 126 = .ok (.iload 4, 2) := by decide +kernel
theorem dX12_nextOrder_128 : decode cX12_nextOrder 128 = .ok (.aload_n 0, 1) := by decide +kernel
theorem dX12_nextOrder_129 : decode cX12_nextOrder 129 = .ok (.getfield 128, 3) := by decide +kernel
theorem dX12_nextOrder_132 : decode cX12_nextOrder 132 = .ok (.iload 5, 2) := by decide +kernel
theorem dX12_nextOrder_134 : decode cX12_nextOrder 134 = .ok (.iaload, 1) := by decide +kernel
theorem dX12_nextOrder_135 : decode cX12_nextOrder 135 = .ok (.iastore, 1) := by decide +kernel
theorem dX12_nextOrder_136 : decode cX12_nextOrder 136 = .ok (.aload_n 0, 1) := by decide +kernel
theorem dX12_nextOrder_137 : decode cX12_nextOrder 137 = .ok (.getfield 128, 3) := by decide +kernel
theorem dX12_nextOrder_140 : decode cX12_nextOrder 140 = .ok (.iload 5, 2) := by decide +kernel
theorem dX12_nextOrder_142 : decode cX12_nextOrder 142 = .ok (.iload_n 3, 1) := by decide +kernel
theorem dX12_nextOrder_143 : decode cX12_nextOrder 143 = .ok (.iastore, 1) := by decide +kernel
theorem dX12_nextOrder_144 : decode cX12_nextOrder 144 = .ok (.iinc 4 1, 3) := by decide +kernel
theorem dX12_nextOrder_147 : decode cX12_nextOrder 147 = .ok (.iinc 5 (-1), 3) := by decide +kernel
theorem dX12_nextOrder_150 : decode cX12_nextOrder 150 = .ok (.goto (-43), 3) := by decide +kernel
theorem dX12_nextOrder_153 : decode cX12_nextOrder 153 = .ok (.iconst 1, 1) := by decide +kernel
theorem dX12_nextOrder_154 : decode cX12_nextOrder 154 = .ok (.ireturn, 1) := by decide +kernel
theorem dX12_nextRow_0 : decode cX12_nextRow 0 = .ok (.aload_n 0, 1) := by decide +kernel
theorem dX12_nextRow_1 : decode cX12_nextRow 1 = .ok (.getfield 397, 3) := by decide +kernel
theorem dX12_nextRow_4 : decode cX12_nextRow 4 = .ok (.iconst 1, 1) := by decide +kernel
theorem dX12_nextRow_5 : decode cX12_nextRow 5 = .ok (.isub, 1) := by decide +kernel
theorem dX12_nextRow_6 : decode cX12_nextRow 6 = .ok (.istore_n 1, 1) := by decide +kernel
theorem dX12_nextRow_7 : decode cX12_nextRow 7 = .ok (.iload_n 1, 1) := by decide +kernel
theorem dX12_nextRow_8 : decode cX12_nextRow 8 = .ok (.ifCond .lt 36, 3) := by decide +kernel
theorem dX12_nextRow_11 : decode cX12_nextRow 11 = .ok (.aload_n 0, 1) := by decide +kernel
theorem dX12_nextRow_12 : decode cX12_nextRow 12 = .ok (.getfield 125, 3) := by decide +kernel
theorem dX12_nextRow_15 : decode cX12_nextRow 15 = .ok (.iload_n 1, 1) := by decide +kernel
theorem dX12_nextRow_16 : decode cX12_nextRow 16 = .ok (.iaload, 1) := by decide +kernel
theorem dX12_nextRow_17 : decode cX12_nextRow 17 = .ok (.aload_n 0, 1) := by decide +kernel
theorem dX12_nextRow_18 : decode cX12_nextRow 18 = .ok (.getfield 61, 3) := by decide +kernel
theorem dX12_nextRow_21 : decode cX12_nextRow 21 = .ok (.aload_n 0, 1) := by decide +kernel
theorem dX12_nextRow_22 : decode cX12_nextRow 22 = .ok (.getfield 222, 3) := by decide +kernel
theorem dX12_nextRow_25 : decode cX12_nextRow 25 = .ok (.iaload, 1) := by decide +kernel
theorem dX12_nextRow_26 : decode cX12_nextRow 26 = .ok (.iconst 1, 1) := by decide +kernel
theorem dX12_nextRow_27 : decode cX12_nextRow 27 = .ok (.isub, 1) := by decide +kernel
theorem dX12_nextRow_28 : decode cX12_nextRow 28 = .ok (.if_icmp .ne 16, 3) := by decide +kernel
theorem dX12_nextRow_31 : decode cX12_nextRow 31 = .ok (.aload_n 0, 1) := by decide +kernel
theorem dX12_nextRow_32 : decode cX12_nextRow 32 = .ok (.getfield 125, 3) := by decide +kernel
theorem dX12_nextRow_35 : decode cX12_nextRow 35 = .ok (.iload_n 1, 1) := by decide +kernel
theorem dX12_nextRow_36 : decode cX12_nextRow 36 = .ok (.iconst 0, 1) := by decide +kernel
theorem dX12_nextRow_37 : decode cX12_nextRow 37 = .ok (.iastore, 1) := by decide +kernel
theorem dX12_nextRow_38 : decode cX12_nextRow 38 = .ok (.iinc 1 (-1), 3) := by decide +kernel
theorem dX12_nextRow_41 : decode cX12_nextRow 41 = .ok (.goto (-34), 3) := by decide +kernel
theorem dX12_nextRow_44 : decode cX12_nextRow 44 = .ok (.iload_n 1, 1) := by decide +kernel
theorem dX12_nextRow_45 : decode cX12_nextRow 45 = .ok (.ifCond .ge 5, 3) := by decide +kernel
theorem dX12_nextRow_48 : decode cX12_nextRow 48 = .ok (.iconst 0, 1) := by decide +kernel
theorem dX12_nextRow_49 : decode cX12_nextRow 49 = .ok (.ireturn, 1) := by decide +kernel
theorem dX12_nextRow_50 : decode cX12_nextRow 50 = .ok (.aload_n 0, 1) := by decide +kernel
theorem dX12_nextRow_51 : decode cX12_nextRow 51 = .ok (.getfield 125, 3) := by decide +kernel
theorem dX12_nextRow_54 : decode cX12_nextRow 54 = .ok (.iload_n 1, 1) := by decide +kernel
theorem dX12_nextRow_55 : decode cX12_nextRow 55 = .ok (.dup2, 1) := by decide +kernel
theorem dX12_nextRow_56 : decode cX12_nextRow 56 = .ok (.iaload, 1) := by decide +kernel
theorem dX12_nextRow_57 : decode cX12_nextRow 57 = .ok (.iconst 1, 1) := by decide +kernel
theorem dX12_nextRow_58 : decode cX12_nextRow 58 = .ok (.iadd, 1) := by decide +kernel
theorem dX12_nextRow_59 : decode cX12_nextRow 59 = .ok (.iastore, 1) := by decide +kernel
theorem dX12_nextRow_60 : decode cX12_nextRow 60 = .ok (.iconst 1, 1) := by decide +kernel
theorem dX12_nextRow_61 : decode cX12_nextRow 61 = .ok (.ireturn, 1) := by decide +kernel
theorem dX12_notes_0 : decode cX12_notes 0 = .ok (.aload_n 0, 1) := by decide +kernel
theorem dX12_notes_1 : decode cX12_notes 1 = .ok (.getfield 40, 3) := by decide +kernel
theorem dX12_notes_4 : decode cX12_notes 4 = .ok (.aload_n 0, 1) := by decide +kernel
theorem dX12_notes_5 : decode cX12_notes 5 = .ok (.getfield 228, 3) := by decide +kernel
theorem dX12_notes_8 : decode cX12_notes 8 = .ok (.aload_n 0, 1) := by decide +kernel
theorem dX12_notes_9 : decode cX12_notes 9 = .ok (.getfield 30, 3) := by decide +kernel
theorem dX12_notes_12 : decode cX12_notes 12 = .ok (.iload_n 1, 1) := by decide +kernel
theorem dX12_notes_13 : decode cX12_notes 13 = .ok (.laload, 1) := by decide +kernel
theorem dX12_notes_14 : decode cX12_notes 14 = .ok (.lastore, 1) := by decide +kernel
theorem dX12_notes_15 : decode cX12_notes 15 = .ok (.aload_n 0, 1) := by decide +kernel
theorem dX12_notes_16 : decode cX12_notes 16 = .ok (.getfield 43, 3) := by decide +kernel
theorem dX12_notes_19 : decode cX12_notes 19 = .ok (.aload_n 0, 1) := by decide +kernel
theorem dX12_notes_20 : decode cX12_notes 20 = .ok (.getfield 228, 3) := by decide +kernel
theorem dX12_notes_23 : decode cX12_notes 23 = .ok (.iload_n 2, 1) := by decide +kernel
theorem dX12_notes_24 : decode cX12_notes 24 = .ok (.iastore, 1) := by decide +kernel
theorem dX12_notes_25 : decode cX12_notes 25 = .ok (.aload_n 0, 1) := by decide +kernel
theorem dX12_notes_26 : decode cX12_notes 26 = .ok (.getfield 46, 3) := by decide +kernel
theorem dX12_notes_29 : decode cX12_notes 29 = .ok (.aload_n 0, 1) := by decide +kernel
theorem dX12_notes_30 : decode cX12_notes 30 = .ok (.getfield 228, 3) := by decide +kernel
theorem dX12_notes_33 : decode cX12_notes 33 = .ok (.iload_n 3, 1) := by decide +kernel
theorem dX12_notes_34 : decode cX12_notes 34 = .ok (.iastore, 1) := by decide +kernel
theorem dX12_notes_35 : decode cX12_notes 35 = .ok (.aload_n 0, 1) := by decide +kernel
theorem dX12_notes_36 : decode cX12_notes 36 = .ok (.dup, 1) := by decide +kernel
theorem dX12_notes_37 : decode cX12_notes 37 = .ok (.getfield 228, 3) := by decide +kernel
theorem dX12_notes_40 : decode cX12_notes 40 = .ok (.iconst 1, 1) := by decide +kernel
theorem dX12_notes_41 : decode cX12_notes 41 = .ok (.iadd, 1) := by decide +kernel
theorem dX12_notes_42 : decode cX12_notes 42 = .ok (.putfield 228, 3) := by decide +kernel
theorem dX12_notes_45 : decode cX12_notes 45 = .ok (.return_, 1) := by decide +kernel
theorem dX12_nots_0 : decode cX12_nots 0 = .ok (.aload_n 0, 1) := by decide +kernel
theorem dX12_nots_1 : decode cX12_nots 1 = .ok (.getfield 104, 3) := by decide +kernel
theorem dX12_nots_4 : decode cX12_nots 4 = .ok (.aload_n 0, 1) := by decide +kernel
theorem dX12_nots_5 : decode cX12_nots 5 = .ok (.getfield 219, 3) := by decide +kernel
theorem dX12_nots_8 : decode cX12_nots 8 = .ok (.iconst 0, 1) := by decide +kernel
theorem dX12_nots_9 : decode cX12_nots 9 = .ok (.bastore, 1) := by decide +kernel
theorem dX12_nots_10 : decode cX12_nots 10 = .ok (.aload_n 0, 1) := by decide +kernel
theorem dX12_nots_11 : decode cX12_nots 11 = .ok (.bipush 33, 2) := by decide +kernel
theorem dX12_nots_13 : decode cX12_nots 13 = .ok (.invokevirtual 210, 3) := by decide +kernel
theorem dX12_nots_16 : decode cX12_nots 16 = .ok (.ifCond .eq 36, 3) := by decide +kernel
theorem dX12_nots_19 : decode cX12_nots 19 = .ok (.aload_n 0, 1) := by decide +kernel
theorem dX12_nots_20 : decode cX12_nots 20 = .ok (.getfield 104, 3) := by decide +kernel
theorem dX12_nots_23 : decode cX12_nots 23 = .ok (.aload_n 0, 1) := by decide +kernel
theorem dX12_nots_24 : decode cX12_nots 24 = .ok (.getfield 219, 3) := by decide +kernel
theorem dX12_nots_27 : decode cX12_nots 27 = .ok (.aload_n 0, 1) := by decide +kernel
theorem dX12_nots_28 : decode cX12_nots 28 = .ok (.getfield 104, 3) := by decide +kernel
theorem dX12_nots_31 : decode cX12_nots 31 = .ok (.aload_n 0, 1) := by decide +kernel
theorem dX12_nots_32 : decode cX12_nots 32 = .ok (.getfield 219, 3) := by decide +kernel
theorem dX12_nots_35 : decode cX12_nots 35 = .ok (.baload, 1) := by decide +kernel
theorem dX12_nots_36 : decode cX12_nots 36 = .ok (.ifCond .ne 7, 3) := by decide +kernel
theorem dX12_nots_39 : decode cX12_nots 39 = .ok (.iconst 1, 1) := by decide +kernel
theorem dX12_nots_40 : decode cX12_nots 40 = .ok (.goto 4, 3) := by decide +kernel
theorem dX12_nots_43 : decode cX12_nots 43 = .ok (.iconst 0, 1) := by decide +kernel
theorem dX12_nots_44 : decode cX12_nots 44 = .ok (.bastore, 1) := by decide +kernel
theorem dX12_nots_45 : decode cX12_nots 45 = .ok (.aload_n 0, 1) := by decide +kernel
theorem dX12_nots_46 : decode cX12_nots 46 = .ok (.invokevirtual 213, 3) := by decide +kernel
theorem dX12_nots_49 : decode cX12_nots 49 = .ok (.goto (-39), 3) := by decide +kernel
theorem dX12_nots_52 : decode cX12_nots 52 = .ok (.return_, 1) := by decide +kernel
theorem dX12_opensCondition_0 : decode cX12_opensCondition 0 = .ok (.aload_n 0, 1) := by decide +kernel
theorem dX12_opensCondition_1 : decode cX12_opensCondition 1 = .ok (.getfield 98, 3) := by decide +kernel
theorem dX12_opensCondition_4 : decode cX12_opensCondition 4 = .ok (.aload_n 0, 1) := by decide +kernel
theorem dX12_opensCondition_5 : decode cX12_opensCondition 5 = .ok (.getfield 219, 3) := by decide +kernel
theorem dX12_opensCondition_8 : decode cX12_opensCondition 8 = .ok (.lconst 0, 1) := by decide +kernel
theorem dX12_opensCondition_9 : decode cX12_opensCondition 9 = .ok (.lastore, 1) := by decide +kernel
theorem dX12_opensCondition_10 : decode cX12_opensCondition 10 = .ok (.aload_n 0, 1) := by decide +kernel
theorem dX12_opensCondition_11 : decode cX12_opensCondition 11 = .ok (.getfield 101, 3) := by decide +kernel
theorem dX12_opensCondition_14 : decode cX12_opensCondition 14 = .ok (.aload_n 0, 1) := by decide +kernel
theorem dX12_opensCondition_15 : decode cX12_opensCondition 15 = .ok (.getfield 219, 3) := by decide +kernel
theorem dX12_opensCondition_18 : decode cX12_opensCondition 18 = .ok (.ldc2_w 290, 3) := by decide +kernel
theorem dX12_opensCondition_21 : decode cX12_opensCondition 21 = .ok (.lastore, 1) := by decide +kernel
theorem dX12_opensCondition_22 : decode cX12_opensCondition 22 = .ok (.return_, 1) := by decide +kernel
theorem dX12_order_0 : decode cX12_order 0 = .ok (.aload_n 0, 1) := by decide +kernel
theorem dX12_order_1 : decode cX12_order 1 = .ok (.iload_n 1, 1) := by decide +kernel
theorem dX12_order_2 : decode cX12_order 2 = .ok (.invokevirtual 420, 3) := by decide +kernel
theorem dX12_order_5 : decode cX12_order 5 = .ok (.ifCond .eq 21, 3) := by decide +kernel
theorem dX12_order_8 : decode cX12_order 8 = .ok (.iload_n 1, 1) := by decide +kernel
theorem dX12_order_9 : decode cX12_order 9 = .ok (.invokestatic 346, 3) := by decide +kernel
theorem dX12_order_12 : decode cX12_order 12 = .ok (.bipush 7, 2) := by decide +kernel
theorem dX12_order_14 : decode cX12_order 14 = .ok (.if_icmp .ge 12, 3) := by decide +kernel
theorem dX12_order_17 : decode cX12_order 17 = .ok (.aload_n 0, 1) := by decide +kernel
theorem dX12_order_18 : decode cX12_order 18 = .ok (.iload_n 1, 1) := by decide +kernel
theorem dX12_order_19 : decode cX12_order 19 = .ok (.iload_n 2, 1) := by decide +kernel
theorem dX12_order_20 : decode cX12_order 20 = .ok (.invokevirtual 423, 3) := by decide +kernel
theorem dX12_order_23 : decode cX12_order 23 = .ok (.goto 6, 3) := by decide +kernel
theorem dX12_order_26 : decode cX12_order 26 = .ok (.ldc_w 387, 3) := by decide +kernel
theorem dX12_order_29 : decode cX12_order 29 = .ok (.ireturn, 1) := by decide +kernel
theorem dX12_orderAt_0 : decode cX12_orderAt 0 = .ok (.aload_n 0, 1) := by decide +kernel
theorem dX12_orderAt_1 : decode cX12_orderAt 1 = .ok (.iload_n 1, 1) := by decide +kernel
theorem dX12_orderAt_2 : decode cX12_orderAt 2 = .ok (.invokevirtual 420, 3) := by decide +kernel
theorem dX12_orderAt_5 : decode cX12_orderAt 5 = .ok (.ifCond .eq 26, 3) := by decide +kernel
theorem dX12_orderAt_8 : decode cX12_orderAt 8 = .ok (.iload_n 1, 1) := by decide +kernel
theorem dX12_orderAt_9 : decode cX12_orderAt 9 = .ok (.invokestatic 346, 3) := by decide +kernel
theorem dX12_orderAt_12 : decode cX12_orderAt 12 = .ok (.bipush 6, 2) := by decide +kernel
theorem dX12_orderAt_14 : decode cX12_orderAt 14 = .ok (.if_icmp .gt 17, 3) := by decide +kernel
theorem dX12_orderAt_17 : decode cX12_orderAt 17 = .ok (.iload_n 3, 1) := by decide +kernel
theorem dX12_orderAt_18 : decode cX12_orderAt 18 = .ok (.iconst 0, 1) := by decide +kernel
theorem dX12_orderAt_19 : decode cX12_orderAt 19 = .ok (.iload_n 1, 1) := by decide +kernel
theorem dX12_orderAt_20 : decode cX12_orderAt 20 = .ok (.invokestatic 346, 3) := by decide +kernel
theorem dX12_orderAt_23 : decode cX12_orderAt 23 = .ok (.iconst 1, 1) := by decide +kernel
theorem dX12_orderAt_24 : decode cX12_orderAt 24 = .ok (.isub, 1) := by decide +kernel
theorem dX12_orderAt_25 : decode cX12_orderAt 25 = .ok (.invokestatic 323, 3) := by decide +kernel
theorem dX12_orderAt_28 : decode cX12_orderAt 28 = .ok (.ifCond .ne 5, 3) := by decide +kernel
theorem dX12_orderAt_31 : decode cX12_orderAt 31 = .ok (.iconst (-1), 1) := by decide +kernel
theorem dX12_orderAt_32 : decode cX12_orderAt 32 = .ok (.ireturn, 1) := by decide +kernel
theorem dX12_orderAt_33 : decode cX12_orderAt 33 = .ok (.aload_n 0, 1) := by decide +kernel
theorem dX12_orderAt_34 : decode cX12_orderAt 34 = .ok (.iload_n 1, 1) := by decide +kernel
theorem dX12_orderAt_35 : decode cX12_orderAt 35 = .ok (.iload_n 2, 1) := by decide +kernel
theorem dX12_orderAt_36 : decode cX12_orderAt 36 = .ok (.invokevirtual 423, 3) := by decide +kernel
theorem dX12_orderAt_39 : decode cX12_orderAt 39 = .ok (.ldc_w 427, 3) := by decide +kernel
theorem dX12_orderAt_42 : decode cX12_orderAt 42 = .ok (.if_icmp .ge 7, 3) := by decide +kernel
theorem dX12_orderAt_45 : decode cX12_orderAt 45 = .ok (.iconst (-1), 1) := by decide +kernel
theorem dX12_orderAt_46 : decode cX12_orderAt 46 = .ok (.goto 9, 3) := by decide +kernel
theorem dX12_orderAt_49 : decode cX12_orderAt 49 = .ok (.aload_n 0, 1) := by decide +kernel
theorem dX12_orderAt_50 : decode cX12_orderAt 50 = .ok (.getfield 131, 3) := by decide +kernel
theorem dX12_orderAt_53 : decode cX12_orderAt 53 = .ok (.iload_n 3, 1) := by decide +kernel
theorem dX12_orderAt_54 : decode cX12_orderAt 54 = .ok (.iaload, 1) := by decide +kernel
theorem dX12_orderAt_55 : decode cX12_orderAt 55 = .ok (.ireturn, 1) := by decide +kernel
theorem dX12_orders_0 : decode cX12_orders 0 = .ok (.aload_n 0, 1) := by decide +kernel
theorem dX12_orders_1 : decode cX12_orders 1 = .ok (.iload_n 1, 1) := by decide +kernel
theorem dX12_orders_2 : decode cX12_orders 2 = .ok (.invokevirtual 414, 3) := by decide +kernel
theorem dX12_orders_5 : decode cX12_orders 5 = .ok (.iconst 0, 1) := by decide +kernel
theorem dX12_orders_6 : decode cX12_orders 6 = .ok (.istore_n 3, 1) := by decide +kernel
theorem dX12_orders_7 : decode cX12_orders 7 = .ok (.iconst 1, 1) := by decide +kernel
theorem dX12_orders_8 : decode cX12_orders 8 = .ok (.istore 4, 2) := by decide +kernel
theorem dX12_orders_10 : decode cX12_orders 10 = .ok (.iconst 1, 1) := by decide +kernel
theorem dX12_orders_11 : decode cX12_orders 11 = .ok (.istore 5, 2) := by decide +kernel
theorem dX12_orders_13 : decode cX12_orders 13 = .ok (.iload 5, 2) := by decide +kernel
theorem dX12_orders_15 : decode cX12_orders 15 = .ok (.ifCond .eq 120, 3) := by decide +kernel
theorem dX12_orders_18 : decode cX12_orders 18 = .ok (.aload_n 0, 1) := by decide +kernel
theorem dX12_orders_19 : decode cX12_orders 19 = .ok (.invokevirtual 384, 3) := by decide +kernel
theorem dX12_orders_22 : decode cX12_orders 22 = .ok (.iconst 0, 1) := by decide +kernel
theorem dX12_orders_23 : decode cX12_orders 23 = .ok (.istore 6, 2) := by decide +kernel
theorem dX12_orders_25 : decode cX12_orders 25 = .ok (.iload 6, 2) := by decide +kernel
theorem dX12_orders_27 : decode cX12_orders 27 = .ok (.aload_n 0, 1) := by decide +kernel
theorem dX12_orders_28 : decode cX12_orders 28 = .ok (.getfield 411, 3) := by decide +kernel
theorem dX12_orders_31 : decode cX12_orders 31 = .ok (.if_icmp .ge 21, 3) := by decide +kernel
theorem dX12_orders_34 : decode cX12_orders 34 = .ok (.aload_n 0, 1) := by decide +kernel
theorem dX12_orders_35 : decode cX12_orders 35 = .ok (.aload_n 0, 1) := by decide +kernel
theorem dX12_orders_36 : decode cX12_orders 36 = .ok (.getfield 128, 3) := by decide +kernel
theorem dX12_orders_39 : decode cX12_orders 39 = .ok (.iload 6, 2) := by decide +kernel
theorem dX12_orders_41 : decode cX12_orders 41 = .ok (.iaload, 1) := by decide +kernel
theorem dX12_orders_42 : decode cX12_orders 42 = .ok (.invokevirtual 391, 3) := by decide +kernel
theorem dX12_orders_45 : decode cX12_orders 45 = .ok (.pop, 1) := by decide +kernel
theorem dX12_orders_46 : decode cX12_orders 46 = .ok (.iinc 6 1, 3) := by decide +kernel
theorem dX12_orders_49 : decode cX12_orders 49 = .ok (.goto (-24), 3) := by decide +kernel
theorem dX12_orders_52 : decode cX12_orders 52 = .ok (.iload 4, 2) := by decide +kernel
theorem dX12_orders_54 : decode cX12_orders 54 = .ok (.ifCond .ne 30, 3) := by decide +kernel
theorem dX12_orders_57 : decode cX12_orders 57 = .ok (.iload_n 2, 1) := by decide +kernel
theorem dX12_orders_58 : decode cX12_orders 58 = .ok (.ifCond .eq 16, 3) := by decide +kernel
theorem dX12_orders_61 : decode cX12_orders 61 = .ok (.aload_n 0, 1) := by decide +kernel
theorem dX12_orders_62 : decode cX12_orders 62 = .ok (.getfield 119, 3) := by decide +kernel
theorem dX12_orders_65 : decode cX12_orders 65 = .ok (.iconst 0, 1) := by decide +kernel
theorem dX12_orders_66 : decode cX12_orders 66 = .ok (.iaload, 1) := by decide +kernel
theorem dX12_orders_67 : decode cX12_orders 67 = .ok (.iload_n 3, 1) := by decide +kernel
theorem dX12_orders_68 : decode cX12_orders 68 = .ok (.if_icmp .le 55, 3) := by decide +kernel
theorem dX12_orders_71 : decode cX12_orders 71 = .ok (.goto 13, 3) := by decide +kernel
theorem dX12_orders_74 : decode cX12_orders 74 = .ok (.aload_n 0, 1) := by decide +kernel
theorem dX12_orders_75 : decode cX12_orders 75 = .ok (.getfield 119, 3) := by decide +kernel
theorem dX12_orders_78 : decode cX12_orders 78 = .ok (.iconst 0, 1) := by decide +kernel
theorem dX12_orders_79 : decode cX12_orders 79 = .ok (.iaload, 1) := by decide +kernel
theorem dX12_orders_80 : decode cX12_orders 80 = .ok (.iload_n 3, 1) := by decide +kernel
theorem dX12_orders_81 : decode cX12_orders 81 = .ok (.if_icmp .ge 42, 3) := by decide +kernel
theorem dX12_orders_84 : decode cX12_orders 84 = .ok (.aload_n 0, 1) := by decide +kernel
theorem dX12_orders_85 : decode cX12_orders 85 = .ok (.getfield 119, 3) := by decide +kernel
theorem dX12_orders_88 : decode cX12_orders 88 = .ok (.iconst 0, 1) := by decide +kernel
theorem dX12_orders_89 : decode cX12_orders 89 = .ok (.iaload, 1) := by decide +kernel
theorem dX12_orders_90 : decode cX12_orders 90 = .ok (.istore_n 3, 1) := by decide +kernel
theorem dX12_orders_91 : decode cX12_orders 91 = .ok (.iconst 0, 1) := by decide +kernel
theorem dX12_orders_92 : decode cX12_orders 92 = .ok (.istore 6, 2) := by decide +kernel
theorem dX12_orders_94 : decode cX12_orders 94 = .ok (.iload 6, 2) := by decide +kernel
theorem dX12_orders_96 : decode cX12_orders 96 = .ok (.aload_n 0, 1) := by decide +kernel
theorem dX12_orders_97 : decode cX12_orders 97 = .ok (.getfield 411, 3) := by decide +kernel
theorem dX12_orders_100 : decode cX12_orders 100 = .ok (.if_icmp .ge 23, 3) := by decide +kernel
theorem dX12_orders_103 : decode cX12_orders 103 = .ok (.aload_n 0, 1) := by decide +kernel
theorem dX12_orders_104 : decode cX12_orders 104 = .ok (.getfield 131, 3) := by decide +kernel
theorem dX12_orders_107 : decode cX12_orders 107 = .ok (.iload 6, 2) := by decide +kernel
theorem dX12_orders_109 : decode cX12_orders 109 = .ok (.aload_n 0, 1) := by decide +kernel
theorem dX12_orders_110 : decode cX12_orders 110 = .ok (.getfield 128, 3) := by decide +kernel
theorem dX12_orders_113 : decode cX12_orders 113 = .ok (.iload 6, 2) := by decide +kernel
theorem dX12_orders_115 : decode cX12_orders 115 = .ok (.iaload, 1) := by decide +kernel
theorem dX12_orders_116 : decode cX12_orders 116 = .ok (.iastore, 1) := by decide +kernel
theorem dX12_orders_117 : decode cX12_orders 117 = .ok (.iinc 6 1, 3) := by decide +kernel
theorem dX12_orders_120 : decode cX12_orders 120 = .ok (.goto (-26), 3) := by decide +kernel
theorem dX12_orders_123 : decode cX12_orders 123 = .ok (.iconst 0, 1) := by decide +kernel
theorem dX12_orders_124 : decode cX12_orders 124 = .ok (.istore 4, 2) := by decide +kernel
theorem dX12_orders_126 : decode cX12_orders 126 = .ok (.aload_n 0, 1) := by decide +kernel
theorem dX12_orders_127 : decode cX12_orders 127 = .ok (.invokevirtual 417, 3) := by decide +kernel
theorem dX12_orders_130 : decode cX12_orders 130 = .ok (.istore 5, 2) := by decide +kernel
theorem dX12_orders_132 : decode cX12_orders 132 = .ok (.goto (-119), 3) := by decide +kernel
theorem dX12_orders_135 : decode cX12_orders 135 = .ok (.iload_n 3, 1) := by decide +kernel
theorem dX12_orders_136 : decode cX12_orders 136 = .ok (.ireturn, 1) := by decide +kernel
theorem dX12_pause_0 : decode cX12_pause 0 = .ok (.iload_n 1, 1) := by decide +kernel
theorem dX12_pause_1 : decode cX12_pause 1 = .ok (.iconst 0, 1) := by decide +kernel
theorem dX12_pause_2 : decode cX12_pause 2 = .ok (.sipush 3000, 3) := by decide +kernel
theorem dX12_pause_5 : decode cX12_pause 5 = .ok (.invokestatic 323, 3) := by decide +kernel
theorem dX12_pause_8 : decode cX12_pause 8 = .ok (.ifCond .ne 7, 3) := by decide +kernel
theorem dX12_pause_11 : decode cX12_pause 11 = .ok (.ldc_w 387, 3) := by decide +kernel
theorem dX12_pause_14 : decode cX12_pause 14 = .ok (.ireturn, 1) := by decide +kernel
theorem dX12_pause_15 : decode cX12_pause 15 = .ok (.iload_n 1, 1) := by decide +kernel
theorem dX12_pause_16 : decode cX12_pause 16 = .ok (.ifCond .ne 10, 3) := by decide +kernel
theorem dX12_pause_19 : decode cX12_pause 19 = .ok (.aload_n 0, 1) := by decide +kernel
theorem dX12_pause_20 : decode cX12_pause 20 = .ok (.getfield 116, 3) := by decide +kernel
theorem dX12_pause_23 : decode cX12_pause 23 = .ok (.iconst 0, 1) := by decide +kernel
theorem dX12_pause_24 : decode cX12_pause 24 = .ok (.iaload, 1) := by decide +kernel
theorem dX12_pause_25 : decode cX12_pause 25 = .ok (.ireturn, 1) := by decide +kernel
theorem dX12_pause_26 : decode cX12_pause 26 = .ok (.aload_n 0, 1) := by decide +kernel
theorem dX12_pause_27 : decode cX12_pause 27 = .ok (.invokevirtual 384, 3) := by decide +kernel
theorem dX12_pause_30 : decode cX12_pause 30 = .ok (.aload_n 0, 1) := by decide +kernel
theorem dX12_pause_31 : decode cX12_pause 31 = .ok (.iload_n 1, 1) := by decide +kernel
theorem dX12_pause_32 : decode cX12_pause 32 = .ok (.invokevirtual 365, 3) := by decide +kernel
theorem dX12_pause_35 : decode cX12_pause 35 = .ok (.aload_n 0, 1) := by decide +kernel
theorem dX12_pause_36 : decode cX12_pause 36 = .ok (.invokevirtual 394, 3) := by decide +kernel
theorem dX12_pause_39 : decode cX12_pause 39 = .ok (.aload_n 0, 1) := by decide +kernel
theorem dX12_pause_40 : decode cX12_pause 40 = .ok (.getfield 116, 3) := by decide +kernel
theorem dX12_pause_43 : decode cX12_pause 43 = .ok (.iconst 0, 1) := by decide +kernel
theorem dX12_pause_44 : decode cX12_pause 44 = .ok (.iaload, 1) := by decide +kernel
theorem dX12_pause_45 : decode cX12_pause 45 = .ok (.ireturn, 1) := by decide +kernel
theorem dX12_place_0 : decode cX12_place 0 = .ok (.aload_n 0, 1) := by decide +kernel
theorem dX12_place_1 : decode cX12_place 1 = .ok (.getfield 37, 3) := by decide +kernel
theorem dX12_place_4 : decode cX12_place 4 = .ok (.ireturn, 1) := by decide +kernel
theorem dX12_put_0 : decode cX12_put 0 = .ok (.bipush 24, 2) := by decide +kernel
theorem dX12_put_2 : decode cX12_put 2 = .ok (.istore_n 2, 1) := by decide +kernel
theorem dX12_put_3 : decode cX12_put 3 = .ok (.iload_n 2, 1) := by decide +kernel
theorem dX12_put_4 : decode cX12_put 4 = .ok (.ifCond .lt 32, 3) := by decide +kernel
theorem dX12_put_7 : decode cX12_put 7 = .ok (.aload_n 0, 1) := by decide +kernel
theorem dX12_put_8 : decode cX12_put 8 = .ok (.getfield 13, 3) := by decide +kernel
theorem dX12_put_11 : decode cX12_put 11 = .ok (.aload_n 0, 1) := by decide +kernel
theorem dX12_put_12 : decode cX12_put 12 = .ok (.getfield 154, 3) := by decide +kernel
theorem dX12_put_15 : decode cX12_put 15 = .ok (.iload_n 1, 1) := by decide +kernel
theorem dX12_put_16 : decode cX12_put 16 = .ok (.iload_n 2, 1) := by decide +kernel
theorem dX12_put_17 : decode cX12_put 17 = .ok (.ishr, 1) := by decide +kernel
theorem dX12_put_18 : decode cX12_put 18 = .ok (.i2b, 1) := by decide +kernel
theorem dX12_put_19 : decode cX12_put 19 = .ok (.bastore, 1) := by decide +kernel
theorem dX12_put_20 : decode cX12_put 20 = .ok (.aload_n 0, 1) := by decide +kernel
theorem dX12_put_21 : decode cX12_put 21 = .ok (.dup, 1) := by decide +kernel
theorem dX12_put_22 : decode cX12_put 22 = .ok (.getfield 154, 3) := by decide +kernel
theorem dX12_put_25 : decode cX12_put 25 = .ok (.iconst 1, 1) := by decide +kernel
theorem dX12_put_26 : decode cX12_put 26 = .ok (.iadd, 1) := by decide +kernel
theorem dX12_put_27 : decode cX12_put 27 = .ok (.putfield 154, 3) := by decide +kernel
theorem dX12_put_30 : decode cX12_put 30 = .ok (.iinc 2 (-8), 3) := by decide +kernel
theorem dX12_put_33 : decode cX12_put 33 = .ok (.goto (-30), 3) := by decide +kernel
theorem dX12_put_36 : decode cX12_put 36 = .ok (.return_, 1) := by decide +kernel
theorem dX12_read_0 : decode cX12_read 0 = .ok (.aload_n 0, 1) := by decide +kernel
theorem dX12_read_1 : decode cX12_read 1 = .ok (.aload_n 0, 1) := by decide +kernel
theorem dX12_read_2 : decode cX12_read 2 = .ok (.getfield 154, 3) := by decide +kernel
theorem dX12_read_5 : decode cX12_read 5 = .ok (.putfield 161, 3) := by decide +kernel
theorem dX12_read_8 : decode cX12_read 8 = .ok (.iconst 0, 1) := by decide +kernel
theorem dX12_read_9 : decode cX12_read 9 = .ok (.istore_n 1, 1) := by decide +kernel
theorem dX12_read_10 : decode cX12_read 10 = .ok (.iload_n 1, 1) := by decide +kernel
theorem dX12_read_11 : decode cX12_read 11 = .ok (.aload_n 0, 1) := by decide +kernel
theorem dX12_read_12 : decode cX12_read 12 = .ok (.getfield 161, 3) := by decide +kernel
theorem dX12_read_15 : decode cX12_read 15 = .ok (.if_icmp .ge 21, 3) := by decide +kernel
theorem dX12_read_18 : decode cX12_read 18 = .ok (.aload_n 0, 1) := by decide +kernel
theorem dX12_read_19 : decode cX12_read 19 = .ok (.getfield 17, 3) := by decide +kernel
theorem dX12_read_22 : decode cX12_read 22 = .ok (.iload_n 1, 1) := by decide +kernel
theorem dX12_read_23 : decode cX12_read 23 = .ok (.aload_n 0, 1) := by decide +kernel
theorem dX12_read_24 : decode cX12_read 24 = .ok (.getfield 13, 3) := by decide +kernel
theorem dX12_read_27 : decode cX12_read 27 = .ok (.iload_n 1, 1) := by decide +kernel
theorem dX12_read_28 : decode cX12_read 28 = .ok (.baload, 1) := by decide +kernel
theorem dX12_read_29 : decode cX12_read 29 = .ok (.bastore, 1) := by decide +kernel
theorem dX12_read_30 : decode cX12_read 30 = .ok (.iinc 1 1, 3) := by decide +kernel
theorem dX12_read_33 : decode cX12_read 33 = .ok (.goto (-23), 3) := by decide +kernel
theorem dX12_read_36 : decode cX12_read 36 = .ok (.aload_n 0, 1) := by decide +kernel
theorem dX12_read_37 : decode cX12_read 37 = .ok (.iconst 0, 1) := by decide +kernel
theorem dX12_read_38 : decode cX12_read 38 = .ok (.putfield 154, 3) := by decide +kernel
theorem dX12_read_41 : decode cX12_read 41 = .ok (.aload_n 0, 1) := by decide +kernel
theorem dX12_read_42 : decode cX12_read 42 = .ok (.invokevirtual 216, 3) := by decide +kernel
theorem dX12_read_45 : decode cX12_read 45 = .ok (.aload_n 0, 1) := by decide +kernel
theorem dX12_read_46 : decode cX12_read 46 = .ok (.iconst 0, 1) := by decide +kernel
theorem dX12_read_47 : decode cX12_read 47 = .ok (.putfield 195, 3) := by decide +kernel
theorem dX12_read_50 : decode cX12_read 50 = .ok (.aload_n 0, 1) := by decide +kernel
theorem dX12_read_51 : decode cX12_read 51 = .ok (.iconst 0, 1) := by decide +kernel
theorem dX12_read_52 : decode cX12_read 52 = .ok (.putfield 219, 3) := by decide +kernel
theorem dX12_read_55 : decode cX12_read 55 = .ok (.aload_n 0, 1) := by decide +kernel
theorem dX12_read_56 : decode cX12_read 56 = .ok (.iconst 0, 1) := by decide +kernel
theorem dX12_read_57 : decode cX12_read 57 = .ok (.putfield 192, 3) := by decide +kernel
theorem dX12_read_60 : decode cX12_read 60 = .ok (.aload_n 0, 1) := by decide +kernel
theorem dX12_read_61 : decode cX12_read 61 = .ok (.iconst 0, 1) := by decide +kernel
theorem dX12_read_62 : decode cX12_read 62 = .ok (.putfield 201, 3) := by decide +kernel
theorem dX12_read_65 : decode cX12_read 65 = .ok (.aload_n 0, 1) := by decide +kernel
theorem dX12_read_66 : decode cX12_read 66 = .ok (.iconst 1, 1) := by decide +kernel
theorem dX12_read_67 : decode cX12_read 67 = .ok (.aload_n 0, 1) := by decide +kernel
theorem dX12_read_68 : decode cX12_read 68 = .ok (.getfield 222, 3) := by decide +kernel
theorem dX12_read_71 : decode cX12_read 71 = .ok (.isub, 1) := by decide +kernel
theorem dX12_read_72 : decode cX12_read 72 = .ok (.putfield 225, 3) := by decide +kernel
theorem dX12_read_75 : decode cX12_read 75 = .ok (.aload_n 0, 1) := by decide +kernel
theorem dX12_read_76 : decode cX12_read 76 = .ok (.iconst 0, 1) := by decide +kernel
theorem dX12_read_77 : decode cX12_read 77 = .ok (.putfield 228, 3) := by decide +kernel
theorem dX12_read_80 : decode cX12_read 80 = .ok (.aload_n 0, 1) := by decide +kernel
theorem dX12_read_81 : decode cX12_read 81 = .ok (.getfield 49, 3) := by decide +kernel
theorem dX12_read_84 : decode cX12_read 84 = .ok (.aload_n 0, 1) := by decide +kernel
theorem dX12_read_85 : decode cX12_read 85 = .ok (.getfield 225, 3) := by decide +kernel
theorem dX12_read_88 : decode cX12_read 88 = .ok (.iconst 0, 1) := by decide +kernel
theorem dX12_read_89 : decode cX12_read 89 = .ok (.iastore, 1) := by decide +kernel
theorem dX12_read_90 : decode cX12_read 90 = .ok (.aload_n 0, 1) := by decide +kernel
theorem dX12_read_91 : decode cX12_read 91 = .ok (.getfield 52, 3) := by decide +kernel
theorem dX12_read_94 : decode cX12_read 94 = .ok (.aload_n 0, 1) := by decide +kernel
theorem dX12_read_95 : decode cX12_read 95 = .ok (.getfield 225, 3) := by decide +kernel
theorem dX12_read_98 : decode cX12_read 98 = .ok (.iconst 0, 1) := by decide +kernel
theorem dX12_read_99 : decode cX12_read 99 = .ok (.iastore, 1) := by decide +kernel
theorem dX12_read_100 : decode cX12_read 100 = .ok (.aload_n 0, 1) := by decide +kernel
theorem dX12_read_101 : decode cX12_read 101 = .ok (.getfield 55, 3) := by decide +kernel
theorem dX12_read_104 : decode cX12_read 104 = .ok (.aload_n 0, 1) := by decide +kernel
theorem dX12_read_105 : decode cX12_read 105 = .ok (.getfield 225, 3) := by decide +kernel
theorem dX12_read_108 : decode cX12_read 108 = .ok (.iconst 0, 1) := by decide +kernel
theorem dX12_read_109 : decode cX12_read 109 = .ok (.iastore, 1) := by decide +kernel
theorem dX12_read_110 : decode cX12_read 110 = .ok (.aload_n 0, 1) := by decide +kernel
theorem dX12_read_111 : decode cX12_read 111 = .ok (.getfield 58, 3) := by decide +kernel
theorem dX12_read_114 : decode cX12_read 114 = .ok (.aload_n 0, 1) := by decide +kernel
theorem dX12_read_115 : decode cX12_read 115 = .ok (.getfield 225, 3) := by decide +kernel
theorem dX12_read_118 : decode cX12_read 118 = .ok (.iconst 0, 1) := by decide +kernel
theorem dX12_read_119 : decode cX12_read 119 = .ok (.iastore, 1) := by decide +kernel
theorem dX12_read_120 : decode cX12_read 120 = .ok (.aload_n 0, 1) := by decide +kernel
theorem dX12_read_121 : decode cX12_read 121 = .ok (.getfield 61, 3) := by decide +kernel
theorem dX12_read_124 : decode cX12_read 124 = .ok (.aload_n 0, 1) := by decide +kernel
theorem dX12_read_125 : decode cX12_read 125 = .ok (.getfield 225, 3) := by decide +kernel
theorem dX12_read_128 : decode cX12_read 128 = .ok (.iconst 0, 1) := by decide +kernel
theorem dX12_read_129 : decode cX12_read 129 = .ok (.iastore, 1) := by decide +kernel
theorem dX12_read_130 : decode cX12_read 130 = .ok (.aload_n 0, 1) := by decide +kernel
theorem dX12_read_131 : decode cX12_read 131 = .ok (.getfield 74, 3) := by decide +kernel
theorem dX12_read_134 : decode cX12_read 134 = .ok (.aload_n 0, 1) := by decide +kernel
theorem dX12_read_135 : decode cX12_read 135 = .ok (.getfield 225, 3) := by decide +kernel
theorem dX12_read_138 : decode cX12_read 138 = .ok (.iconst 0, 1) := by decide +kernel
theorem dX12_read_139 : decode cX12_read 139 = .ok (.iastore, 1) := by decide +kernel
theorem dX12_read_140 : decode cX12_read 140 = .ok (.aload_n 0, 1) := by decide +kernel
theorem dX12_read_141 : decode cX12_read 141 = .ok (.getfield 89, 3) := by decide +kernel
theorem dX12_read_144 : decode cX12_read 144 = .ok (.aload_n 0, 1) := by decide +kernel
theorem dX12_read_145 : decode cX12_read 145 = .ok (.getfield 225, 3) := by decide +kernel
theorem dX12_read_148 : decode cX12_read 148 = .ok (.iconst 0, 1) := by decide +kernel
theorem dX12_read_149 : decode cX12_read 149 = .ok (.iastore, 1) := by decide +kernel
theorem dX12_read_150 : decode cX12_read 150 = .ok (.aload_n 0, 1) := by decide +kernel
theorem dX12_read_151 : decode cX12_read 151 = .ok (.sipush 420, 3) := by decide +kernel
theorem dX12_read_154 : decode cX12_read 154 = .ok (.aload_n 0, 1) := by decide +kernel
theorem dX12_read_155 : decode cX12_read 155 = .ok (.getfield 225, 3) := by decide +kernel
theorem dX12_read_158 : decode cX12_read 158 = .ok (.imul, 1) := by decide +kernel
theorem dX12_read_159 : decode cX12_read 159 = .ok (.putfield 231, 3) := by decide +kernel
theorem dX12_read_162 : decode cX12_read 162 = .ok (.iconst 0, 1) := by decide +kernel
theorem dX12_read_163 : decode cX12_read 163 = .ok (.istore_n 1, 1) := by decide +kernel
theorem dX12_read_164 : decode cX12_read 164 = .ok (.iload_n 1, 1) := by decide +kernel
theorem dX12_read_165 : decode cX12_read 165 = .ok (.iconst 2, 1) := by decide +kernel
theorem dX12_read_166 : decode cX12_read 166 = .ok (.if_icmp .ge 37, 3) := by decide +kernel
theorem dX12_read_169 : decode cX12_read 169 = .ok (.aload_n 0, 1) := by decide +kernel
theorem dX12_read_170 : decode cX12_read 170 = .ok (.getfield 83, 3) := by decide +kernel
theorem dX12_read_173 : decode cX12_read 173 = .ok (.iconst 2, 1) := by decide +kernel
theorem dX12_read_174 : decode cX12_read 174 = .ok (.aload_n 0, 1) := by decide +kernel
theorem dX12_read_175 : decode cX12_read 175 = .ok (.getfield 225, 3) := by decide +kernel
theorem dX12_read_178 : decode cX12_read 178 = .ok (.imul, 1) := by decide +kernel
theorem dX12_read_179 : decode cX12_read 179 = .ok (.iload_n 1, 1) := by decide +kernel
theorem dX12_read_180 : decode cX12_read 180 = .ok (.iadd, 1) := by decide +kernel
theorem dX12_read_181 : decode cX12_read 181 = .ok (.iconst 0, 1) := by decide +kernel
theorem dX12_read_182 : decode cX12_read 182 = .ok (.iastore, 1) := by decide +kernel
theorem dX12_read_183 : decode cX12_read 183 = .ok (.aload_n 0, 1) := by decide +kernel
theorem dX12_read_184 : decode cX12_read 184 = .ok (.getfield 86, 3) := by decide +kernel
theorem dX12_read_187 : decode cX12_read 187 = .ok (.iconst 2, 1) := by decide +kernel
theorem dX12_read_188 : decode cX12_read 188 = .ok (.aload_n 0, 1) := by decide +kernel
theorem dX12_read_189 : decode cX12_read 189 = .ok (.getfield 225, 3) := by decide +kernel
theorem dX12_read_192 : decode cX12_read 192 = .ok (.imul, 1) := by decide +kernel
theorem dX12_read_193 : decode cX12_read 193 = .ok (.iload_n 1, 1) := by decide +kernel
theorem dX12_read_194 : decode cX12_read 194 = .ok (.iadd, 1) := by decide +kernel
theorem dX12_read_195 : decode cX12_read 195 = .ok (.iconst 0, 1) := by decide +kernel
theorem dX12_read_196 : decode cX12_read 196 = .ok (.iastore, 1) := by decide +kernel
theorem dX12_read_197 : decode cX12_read 197 = .ok (.iinc 1 1, 3) := by decide +kernel
theorem dX12_read_200 : decode cX12_read 200 = .ok (.goto (-36), 3) := by decide +kernel
theorem dX12_read_203 : decode cX12_read 203 = .ok (.aload_n 0, 1) := by decide +kernel
theorem dX12_read_204 : decode cX12_read 204 = .ok (.getfield 192, 3) := by decide +kernel
theorem dX12_read_207 : decode cX12_read 207 = .ok (.ifCond .ne 18, 3) := by decide +kernel
theorem dX12_read_210 : decode cX12_read 210 = .ok (.aload_n 0, 1) := by decide +kernel
theorem dX12_read_211 : decode cX12_read 211 = .ok (.iconst 0, 1) := by decide +kernel
theorem dX12_read_212 : decode cX12_read 212 = .ok (.invokevirtual 210, 3) := by decide +kernel
theorem dX12_read_215 : decode cX12_read 215 = .ok (.ifCond .ne 10, 3) := by decide +kernel
theorem dX12_read_218 : decode cX12_read 218 = .ok (.aload_n 0, 1) := by decide +kernel
theorem dX12_read_219 : decode cX12_read 219 = .ok (.invokevirtual 234, 3) := by decide +kernel
theorem dX12_read_222 : decode cX12_read 222 = .ok (.goto (-19), 3) := by decide +kernel
theorem dX12_read_225 : decode cX12_read 225 = .ok (.aload_n 0, 1) := by decide +kernel
theorem dX12_read_226 : decode cX12_read 226 = .ok (.aload_n 0, 1) := by decide +kernel
