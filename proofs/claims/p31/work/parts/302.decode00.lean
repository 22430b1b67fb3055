theorem dJ7_copyOf_59c91_0 : decode cJ7_copyOf_59c91 0 = .ok (.iload_n 1, 1) := by decide +kernel
theorem dJ7_copyOf_59c91_1 : decode cJ7_copyOf_59c91 1 = .ok (.aload_n 0, 1) := by decide +kernel
theorem dJ7_copyOf_59c91_2 : decode cJ7_copyOf_59c91 2 = .ok (.arraylength, 1) := by decide +kernel
theorem dJ7_copyOf_59c91_3 : decode cJ7_copyOf_59c91 3 = .ok (.if_icmp .ne 11, 3) := by decide +kernel
theorem dJ7_copyOf_59c91_6 : decode cJ7_copyOf_59c91 6 = .ok (.aload_n 0, 1) := by decide +kernel
theorem dJ7_copyOf_59c91_7 : decode cJ7_copyOf_59c91 7 = .ok (.invokevirtual 316, 3) := by decide +kernel
theorem dJ7_copyOf_59c91_10 : decode cJ7_copyOf_59c91 10 = .ok (.checkcast 317, 3) := by decide +kernel
theorem dJ7_copyOf_59c91_13 : decode cJ7_copyOf_59c91 13 = .ok (.areturn, 1) := by decide +kernel
theorem dJ7_copyOf_59c91_14 : decode cJ7_copyOf_59c91 14 = .ok (.iload_n 1, 1) := by decide +kernel
theorem dJ7_copyOf_59c91_15 : decode cJ7_copyOf_59c91 15 = .ok (.newarray .int, 2) := by decide +kernel
theorem dJ7_copyOf_59c91_17 : decode cJ7_copyOf_59c91 17 = .ok (.astore_n 2, 1) := by decide +kernel
theorem dJ7_copyOf_59c91_18 : decode cJ7_copyOf_59c91 18 = .ok (.aload_n 0, 1) := by decide +kernel
theorem dJ7_copyOf_59c91_19 : decode cJ7_copyOf_59c91 19 = .ok (.iconst 0, 1) := by decide +kernel
theorem dJ7_copyOf_59c91_20 : decode cJ7_copyOf_59c91 20 = .ok (.aload_n 2, 1) := by decide +kernel
theorem dJ7_copyOf_59c91_21 : decode cJ7_copyOf_59c91 21 = .ok (.iconst 0, 1) := by decide +kernel
theorem dJ7_copyOf_59c91_22 : decode cJ7_copyOf_59c91 22 = .ok (.aload_n 0, 1) := by decide +kernel
theorem dJ7_copyOf_59c91_23 : decode cJ7_copyOf_59c91 23 = .ok (.arraylength, 1) := by decide +kernel
theorem dJ7_copyOf_59c91_24 : decode cJ7_copyOf_59c91 24 = .ok (.iload_n 1, 1) := by decide +kernel
theorem dJ7_copyOf_59c91_25 : decode cJ7_copyOf_59c91 25 = .ok (.invokestatic 304, 3) := by decide +kernel
theorem dJ7_copyOf_59c91_28 : decode cJ7_copyOf_59c91 28 = .ok (.invokestatic 150, 3) := by decide +kernel
theorem dJ7_copyOf_59c91_31 : decode cJ7_copyOf_59c91 31 = .ok (.aload_n 2, 1) := by decide +kernel
theorem dJ7_copyOf_59c91_32 : decode cJ7_copyOf_59c91 32 = .ok (.areturn, 1) := by decide +kernel
theorem dJ7_copyOf_c38d5_0 : decode cJ7_copyOf_c38d5 0 = .ok (.iload_n 1, 1) := by decide +kernel
theorem dJ7_copyOf_c38d5_1 : decode cJ7_copyOf_c38d5 1 = .ok (.aload_n 0, 1) := by decide +kernel
theorem dJ7_copyOf_c38d5_2 : decode cJ7_copyOf_c38d5 2 = .ok (.arraylength, 1) := by decide +kernel
theorem dJ7_copyOf_c38d5_3 : decode cJ7_copyOf_c38d5 3 = .ok (.if_icmp .ne 11, 3) := by decide +kernel
theorem dJ7_copyOf_c38d5_6 : decode cJ7_copyOf_c38d5 6 = .ok (.aload_n 0, 1) := by decide +kernel
theorem dJ7_copyOf_c38d5_7 : decode cJ7_copyOf_c38d5 7 = .ok (.invokevirtual 319, 3) := by decide +kernel
theorem dJ7_copyOf_c38d5_10 : decode cJ7_copyOf_c38d5 10 = .ok (.checkcast 320, 3) := by decide +kernel
theorem dJ7_copyOf_c38d5_13 : decode cJ7_copyOf_c38d5 13 = .ok (.areturn, 1) := by decide +kernel
theorem dJ7_copyOf_c38d5_14 : decode cJ7_copyOf_c38d5 14 = .ok (.iload_n 1, 1) := by decide +kernel
theorem dJ7_copyOf_c38d5_15 : decode cJ7_copyOf_c38d5 15 = .ok (.newarray .long, 2) := by decide +kernel
theorem dJ7_copyOf_c38d5_17 : decode cJ7_copyOf_c38d5 17 = .ok (.astore_n 2, 1) := by decide +kernel
theorem dJ7_copyOf_c38d5_18 : decode cJ7_copyOf_c38d5 18 = .ok (.aload_n 0, 1) := by decide +kernel
theorem dJ7_copyOf_c38d5_19 : decode cJ7_copyOf_c38d5 19 = .ok (.iconst 0, 1) := by decide +kernel
theorem dJ7_copyOf_c38d5_20 : decode cJ7_copyOf_c38d5 20 = .ok (.aload_n 2, 1) := by decide +kernel
theorem dJ7_copyOf_c38d5_21 : decode cJ7_copyOf_c38d5 21 = .ok (.iconst 0, 1) := by decide +kernel
theorem dJ7_copyOf_c38d5_22 : decode cJ7_copyOf_c38d5 22 = .ok (.aload_n 0, 1) := by decide +kernel
theorem dJ7_copyOf_c38d5_23 : decode cJ7_copyOf_c38d5 23 = .ok (.arraylength, 1) := by decide +kernel
theorem dJ7_copyOf_c38d5_24 : decode cJ7_copyOf_c38d5 24 = .ok (.iload_n 1, 1) := by decide +kernel
theorem dJ7_copyOf_c38d5_25 : decode cJ7_copyOf_c38d5 25 = .ok (.invokestatic 304, 3) := by decide +kernel
theorem dJ7_copyOf_c38d5_28 : decode cJ7_copyOf_c38d5 28 = .ok (.invokestatic 150, 3) := by decide +kernel
theorem dJ7_copyOf_c38d5_31 : decode cJ7_copyOf_c38d5 31 = .ok (.aload_n 2, 1) := by decide +kernel
theorem dJ7_copyOf_c38d5_32 : decode cJ7_copyOf_c38d5 32 = .ok (.areturn, 1) := by decide +kernel
theorem dX0_canCome_0 : decode cX0_canCome 0 = .ok (.iload_n 0, 1) := by decide +kernel
theorem dX0_canCome_1 : decode cX0_canCome 1 = .ok (.iload_n 1, 1) := by decide +kernel
theorem dX0_canCome_2 : decode cX0_canCome 2 = .ok (.bipush 121, 2) := by decide +kernel
theorem dX0_canCome_4 : decode cX0_canCome 4 = .ok (.imul, 1) := by decide +kernel
theorem dX0_canCome_5 : decode cX0_canCome 5 = .ok (.if_icmp .gt 16, 3) := by decide +kernel
theorem dX0_canCome_8 : decode cX0_canCome 8 = .ok (.iload_n 1, 1) := by decide +kernel
theorem dX0_canCome_9 : decode cX0_canCome 9 = .ok (.iconst 1, 1) := by decide +kernel
theorem dX0_canCome_10 : decode cX0_canCome 10 = .ok (.if_icmp .gt 7, 3) := by decide +kernel
theorem dX0_canCome_13 : decode cX0_canCome 13 = .ok (.iload_n 0, 1) := by decide +kernel
theorem dX0_canCome_14 : decode cX0_canCome 14 = .ok (.ifCond .le 7, 3) := by decide +kernel
theorem dX0_canCome_17 : decode cX0_canCome 17 = .ok (.iconst 1, 1) := by decide +kernel
theorem dX0_canCome_18 : decode cX0_canCome 18 = .ok (.goto 4, 3) := by decide +kernel
theorem dX0_canCome_21 : decode cX0_canCome 21 = .ok (.iconst 0, 1) := by decide +kernel
theorem dX0_canCome_22 : decode cX0_canCome 22 = .ok (.ireturn, 1) := by decide +kernel
theorem dX0_expand_0 : decode cX0_expand 0 = .ok (.aload_n 0, 1) := by decide +kernel
theorem dX0_expand_1 : decode cX0_expand 1 = .ok (.getfield 24, 3) := by decide +kernel
theorem dX0_expand_4 : decode cX0_expand 4 = .ok (.getfield 77, 3) := by decide +kernel
theorem dX0_expand_7 : decode cX0_expand 7 = .ok (.iload_n 2, 1) := by decide +kernel
theorem dX0_expand_8 : decode cX0_expand 8 = .ok (.iaload, 1) := by decide +kernel
theorem dX0_expand_9 : decode cX0_expand 9 = .ok (.ldc 80, 2) := by decide +kernel
theorem dX0_expand_11 : decode cX0_expand 11 = .ok (.iand, 1) := by decide +kernel
theorem dX0_expand_12 : decode cX0_expand 12 = .ok (.istore 4, 2) := by decide +kernel
theorem dX0_expand_14 : decode cX0_expand 14 = .ok (.iload 4, 2) := by decide +kernel
theorem dX0_expand_16 : decode cX0_expand 16 = .ok (.iload 4, 2) := by decide +kernel
theorem dX0_expand_18 : decode cX0_expand 18 = .ok (.ineg, 1) := by decide +kernel
theorem dX0_expand_19 : decode cX0_expand 19 = .ok (.iand, 1) := by decide +kernel
theorem dX0_expand_20 : decode cX0_expand 20 = .ok (.istore 5, 2) := by decide +kernel
theorem dX0_expand_22 : decode cX0_expand 22 = .ok (.iconst 0, 1) := by decide +kernel
theorem dX0_expand_23 : decode cX0_expand 23 = .ok (.istore 6, 2) := by decide +kernel
theorem dX0_expand_25 : decode cX0_expand 25 = .ok (.iload 6, 2) := by decide +kernel
theorem dX0_expand_27 : decode cX0_expand 27 = .ok (.aload_n 1, 1) := by decide +kernel
theorem dX0_expand_28 : decode cX0_expand 28 = .ok (.getfield 81, 3) := by decide +kernel
theorem dX0_expand_31 : decode cX0_expand 31 = .ok (.if_icmp .ge 134, 3) := by decide +kernel
theorem dX0_expand_34 : decode cX0_expand 34 = .ok (.iload 4, 2) := by decide +kernel
theorem dX0_expand_36 : decode cX0_expand 36 = .ok (.iload 6, 2) := by decide +kernel
theorem dX0_expand_38 : decode cX0_expand 38 = .ok (.ishr, 1) := by decide +kernel
theorem dX0_expand_39 : decode cX0_expand 39 = .ok (.iconst 1, 1) := by decide +kernel
theorem dX0_expand_40 : decode cX0_expand 40 = .ok (.iand, 1) := by decide +kernel
theorem dX0_expand_41 : decode cX0_expand 41 = .ok (.ifCond .eq 15, 3) := by decide +kernel
theorem dX0_expand_44 : decode cX0_expand 44 = .ok (.iconst 1, 1) := by decide +kernel
theorem dX0_expand_45 : decode cX0_expand 45 = .ok (.iload 6, 2) := by decide +kernel
theorem dX0_expand_47 : decode cX0_expand 47 = .ok (.ishl, 1) := by decide +kernel
theorem dX0_expand_48 : decode cX0_expand 48 = .ok (.iload 5, 2) := by decide +kernel
theorem dX0_expand_50 : decode cX0_expand 50 = .ok (.if_icmp .eq 6, 3) := by decide +kernel
theorem dX0_expand_53 : decode cX0_expand 53 = .ok (.goto 106, 3) := by decide +kernel
theorem dX0_expand_56 : decode cX0_expand 56 = .ok (.aload_n 0, 1) := by decide +kernel
theorem dX0_expand_57 : decode cX0_expand 57 = .ok (.getfield 24, 3) := by decide +kernel
theorem dX0_expand_60 : decode cX0_expand 60 = .ok (.iload_n 2, 1) := by decide +kernel
theorem dX0_expand_61 : decode cX0_expand 61 = .ok (.aload_n 0, 1) := by decide +kernel
theorem dX0_expand_62 : decode cX0_expand 62 = .ok (.getfield 14, 3) := by decide +kernel
theorem dX0_expand_65 : decode cX0_expand 65 = .ok (.invokevirtual 83, 3) := by decide +kernel
theorem dX0_expand_68 : decode cX0_expand 68 = .ok (.aload_n 0, 1) := by decide +kernel
theorem dX0_expand_69 : decode cX0_expand 69 = .ok (.getfield 14, 3) := by decide +kernel
theorem dX0_expand_72 : decode cX0_expand 72 = .ok (.iconst 0, 1) := by decide +kernel
theorem dX0_expand_73 : decode cX0_expand 73 = .ok (.putfield 87, 3) := by decide +kernel
theorem dX0_expand_76 : decode cX0_expand 76 = .ok (.aload_n 0, 1) := by decide +kernel
theorem dX0_expand_77 : decode cX0_expand 77 = .ok (.getfield 14, 3) := by decide +kernel
theorem dX0_expand_80 : decode cX0_expand 80 = .ok (.aload_n 1, 1) := by decide +kernel
theorem dX0_expand_81 : decode cX0_expand 81 = .ok (.iload 6, 2) := by decide +kernel
theorem dX0_expand_83 : decode cX0_expand 83 = .ok (.invokevirtual 90, 3) := by decide +kernel
theorem dX0_expand_86 : decode cX0_expand 86 = .ok (.pop, 1) := by decide +kernel
theorem dX0_expand_87 : decode cX0_expand 87 = .ok (.aload_n 0, 1) := by decide +kernel
theorem dX0_expand_88 : decode cX0_expand 88 = .ok (.getfield 14, 3) := by decide +kernel
theorem dX0_expand_91 : decode cX0_expand 91 = .ok (.getfield 87, 3) := by decide +kernel
theorem dX0_expand_94 : decode cX0_expand 94 = .ok (.aload_n 0, 1) := by decide +kernel
theorem dX0_expand_95 : decode cX0_expand 95 = .ok (.getfield 36, 3) := by decide +kernel
theorem dX0_expand_98 : decode cX0_expand 98 = .ok (.ishr, 1) := by decide +kernel
theorem dX0_expand_99 : decode cX0_expand 99 = .ok (.iconst 1, 1) := by decide +kernel
theorem dX0_expand_100 : decode cX0_expand 100 = .ok (.iand, 1) := by decide +kernel
theorem dX0_expand_101 : decode cX0_expand 101 = .ok (.ifCond .eq 6, 3) := by decide +kernel
theorem dX0_expand_104 : decode cX0_expand 104 = .ok (.goto 55, 3) := by decide +kernel
theorem dX0_expand_107 : decode cX0_expand 107 = .ok (.aload_n 0, 1) := by decide +kernel
theorem dX0_expand_108 : decode cX0_expand 108 = .ok (.getfield 14, 3) := by decide +kernel
theorem dX0_expand_111 : decode cX0_expand 111 = .ok (.getfield 87, 3) := by decide +kernel
theorem dX0_expand_114 : decode cX0_expand 114 = .ok (.aload_n 0, 1) := by decide +kernel
theorem dX0_expand_115 : decode cX0_expand 115 = .ok (.getfield 32, 3) := by decide +kernel
theorem dX0_expand_118 : decode cX0_expand 118 = .ok (.ishr, 1) := by decide +kernel
theorem dX0_expand_119 : decode cX0_expand 119 = .ok (.iconst 1, 1) := by decide +kernel
theorem dX0_expand_120 : decode cX0_expand 120 = .ok (.iand, 1) := by decide +kernel
theorem dX0_expand_121 : decode cX0_expand 121 = .ok (.ifCond .eq 13, 3) := by decide +kernel
theorem dX0_expand_124 : decode cX0_expand 124 = .ok (.aload_n 0, 1) := by decide +kernel
theorem dX0_expand_125 : decode cX0_expand 125 = .ok (.aload_n 1, 1) := by decide +kernel
theorem dX0_expand_126 : decode cX0_expand 126 = .ok (.iload_n 2, 1) := by decide +kernel
theorem dX0_expand_127 : decode cX0_expand 127 = .ok (.iload 6, 2) := by decide +kernel
theorem dX0_expand_129 : decode cX0_expand 129 = .ok (.iload_n 3, 1) := by decide +kernel
theorem dX0_expand_130 : decode cX0_expand 130 = .ok (.invokevirtual 94, 3) := by decide +kernel
theorem dX0_expand_133 : decode cX0_expand 133 = .ok (.return_, 1) := by decide +kernel
theorem dX0_expand_134 : decode cX0_expand 134 = .ok (.iload_n 3, 1) := by decide +kernel
theorem dX0_expand_135 : decode cX0_expand 135 = .ok (.iconst 4, 1) := by decide +kernel
theorem dX0_expand_136 : decode cX0_expand 136 = .ok (.if_icmp .ge 23, 3) := by decide +kernel
theorem dX0_expand_139 : decode cX0_expand 139 = .ok (.aload_n 0, 1) := by decide +kernel
theorem dX0_expand_140 : decode cX0_expand 140 = .ok (.getfield 24, 3) := by decide +kernel
theorem dX0_expand_143 : decode cX0_expand 143 = .ok (.aload_n 0, 1) := by decide +kernel
theorem dX0_expand_144 : decode cX0_expand 144 = .ok (.getfield 14, 3) := by decide +kernel
theorem dX0_expand_147 : decode cX0_expand 147 = .ok (.iload_n 2, 1) := by decide +kernel
theorem dX0_expand_148 : decode cX0_expand 148 = .ok (.bipush 16, 2) := by decide +kernel
theorem dX0_expand_150 : decode cX0_expand 150 = .ok (.imul, 1) := by decide +kernel
theorem dX0_expand_151 : decode cX0_expand 151 = .ok (.iload 6, 2) := by decide +kernel
theorem dX0_expand_153 : decode cX0_expand 153 = .ok (.iadd, 1) := by decide +kernel
theorem dX0_expand_154 : decode cX0_expand 154 = .ok (.lconst 1, 1) := by decide +kernel
theorem dX0_expand_155 : decode cX0_expand 155 = .ok (.iconst 0, 1) := by decide +kernel
theorem dX0_expand_156 : decode cX0_expand 156 = .ok (.invokevirtual 54, 3) := by decide +kernel
theorem dX0_expand_159 : decode cX0_expand 159 = .ok (.iinc 6 1, 3) := by decide +kernel
theorem dX0_expand_162 : decode cX0_expand 162 = .ok (.goto (-137), 3) := by decide +kernel
theorem dX0_expand_165 : decode cX0_expand 165 = .ok (.return_, 1) := by decide +kernel
theorem dX0_keepPath_0 : decode cX0_keepPath 0 = .ok (.iload_n 2, 1) := by decide +kernel
theorem dX0_keepPath_1 : decode cX0_keepPath 1 = .ok (.istore 5, 2) := by decide +kernel
theorem dX0_keepPath_3 : decode cX0_keepPath 3 = .ok (.iload_n 3, 1) := by decide +kernel
theorem dX0_keepPath_4 : decode cX0_keepPath 4 = .ok (.istore 6, 2) := by decide +kernel
theorem dX0_keepPath_6 : decode cX0_keepPath 6 = .ok (.aload_n 0, 1) := by decide +kernel
theorem dX0_keepPath_7 : decode cX0_keepPath 7 = .ok (.iload 4, 2) := by decide +kernel
theorem dX0_keepPath_9 : decode cX0_keepPath 9 = .ok (.putfield 39, 3) := by decide +kernel
theorem dX0_keepPath_12 : decode cX0_keepPath 12 = .ok (.iload 4, 2) := by decide +kernel
theorem dX0_keepPath_14 : decode cX0_keepPath 14 = .ok (.iconst 1, 1) := by decide +kernel
theorem dX0_keepPath_15 : decode cX0_keepPath 15 = .ok (.isub, 1) := by decide +kernel
theorem dX0_keepPath_16 : decode cX0_keepPath 16 = .ok (.istore 7, 2) := by decide +kernel
theorem dX0_keepPath_18 : decode cX0_keepPath 18 = .ok (.iload 7, 2) := by decide +kernel
theorem dX0_keepPath_20 : decode cX0_keepPath 20 = .ok (.ifCond .lt 97, 3) := by decide +kernel
theorem dX0_keepPath_23 : decode cX0_keepPath 23 = .ok (.iload 7, 2) := by decide +kernel
theorem dX0_keepPath_25 : decode cX0_keepPath 25 = .ok (.iconst 4, 1) := by decide +kernel
theorem dX0_keepPath_26 : decode cX0_keepPath 26 = .ok (.if_icmp .ge 91, 3) := by decide +kernel
theorem dX0_keepPath_29 : decode cX0_keepPath 29 = .ok (.aload_n 0, 1) := by decide +kernel
theorem dX0_keepPath_30 : decode cX0_keepPath 30 = .ok (.getfield 20, 3) := by decide +kernel
theorem dX0_keepPath_33 : decode cX0_keepPath 33 = .ok (.iload 7, 2) := by decide +kernel
theorem dX0_keepPath_35 : decode cX0_keepPath 35 = .ok (.iload 6, 2) := by decide +kernel
theorem dX0_keepPath_37 : decode cX0_keepPath 37 = .ok (.iastore, 1) := by decide +kernel
theorem dX0_keepPath_38 : decode cX0_keepPath 38 = .ok (.aload_n 0, 1) := by decide +kernel
theorem dX0_keepPath_39 : decode cX0_keepPath 39 = .ok (.dup, 1) := by decide +kernel
theorem dX0_keepPath_40 : decode cX0_keepPath 40 = .ok (.getfield 42, 3) := by decide +kernel
theorem dX0_keepPath_43 : decode cX0_keepPath 43 = .ok (.aload_n 1, 1) := by decide +kernel
theorem dX0_keepPath_44 : decode cX0_keepPath 44 = .ok (.getfield 98, 3) := by decide +kernel
theorem dX0_keepPath_47 : decode cX0_keepPath 47 = .ok (.iload 6, 2) := by decide +kernel
theorem dX0_keepPath_49 : decode cX0_keepPath 49 = .ok (.ishr, 1) := by decide +kernel
theorem dX0_keepPath_50 : decode cX0_keepPath 50 = .ok (.iconst 1, 1) := by decide +kernel
theorem dX0_keepPath_51 : decode cX0_keepPath 51 = .ok (.iand, 1) := by decide +kernel
theorem dX0_keepPath_52 : decode cX0_keepPath 52 = .ok (.ifCond .ne 7, 3) := by decide +kernel
theorem dX0_keepPath_55 : decode cX0_keepPath 55 = .ok (.iconst 1, 1) := by decide +kernel
theorem dX0_keepPath_56 : decode cX0_keepPath 56 = .ok (.goto 4, 3) := by decide +kernel
theorem dX0_keepPath_59 : decode cX0_keepPath 59 = .ok (.iconst 0, 1) := by decide +kernel
theorem dX0_keepPath_60 : decode cX0_keepPath 60 = .ok (.iadd, 1) := by decide +kernel
theorem dX0_keepPath_61 : decode cX0_keepPath 61 = .ok (.putfield 42, 3) := by decide +kernel
theorem dX0_keepPath_64 : decode cX0_keepPath 64 = .ok (.iload 5, 2) := by decide +kernel
theorem dX0_keepPath_66 : decode cX0_keepPath 66 = .ok (.ifCond .lt 45, 3) := by decide +kernel
theorem dX0_keepPath_69 : decode cX0_keepPath 69 = .ok (.iload 5, 2) := by decide +kernel
theorem dX0_keepPath_71 : decode cX0_keepPath 71 = .ok (.aload_n 0, 1) := by decide +kernel
theorem dX0_keepPath_72 : decode cX0_keepPath 72 = .ok (.getfield 24, 3) := by decide +kernel
theorem dX0_keepPath_75 : decode cX0_keepPath 75 = .ok (.getfield 58, 3) := by decide +kernel
theorem dX0_keepPath_78 : decode cX0_keepPath 78 = .ok (.if_icmp .ge 33, 3) := by decide +kernel
theorem dX0_keepPath_81 : decode cX0_keepPath 81 = .ok (.aload_n 0, 1) := by decide +kernel
theorem dX0_keepPath_82 : decode cX0_keepPath 82 = .ok (.getfield 24, 3) := by decide +kernel
theorem dX0_keepPath_85 : decode cX0_keepPath 85 = .ok (.getfield 101, 3) := by decide +kernel
theorem dX0_keepPath_88 : decode cX0_keepPath 88 = .ok (.iload 5, 2) := by decide +kernel
theorem dX0_keepPath_90 : decode cX0_keepPath 90 = .ok (.iaload, 1) := by decide +kernel
theorem dX0_keepPath_91 : decode cX0_keepPath 91 = .ok (.bipush 16, 2) := by decide +kernel
theorem dX0_keepPath_93 : decode cX0_keepPath 93 = .ok (.irem, 1) := by decide +kernel
theorem dX0_keepPath_94 : decode cX0_keepPath 94 = .ok (.istore 6, 2) := by decide +kernel
theorem dX0_keepPath_96 : decode cX0_keepPath 96 = .ok (.aload_n 0, 1) := by decide +kernel
theorem dX0_keepPath_97 : decode cX0_keepPath 97 = .ok (.getfield 24, 3) := by decide +kernel
theorem dX0_keepPath_100 : decode cX0_keepPath 100 = .ok (.getfield 101, 3) := by decide +kernel
theorem dX0_keepPath_103 : decode cX0_keepPath 103 = .ok (.iload 5, 2) := by decide +kernel
theorem dX0_keepPath_105 : decode cX0_keepPath 105 = .ok (.iaload, 1) := by decide +kernel
theorem dX0_keepPath_106 : decode cX0_keepPath 106 = .ok (.bipush 16, 2) := by decide +kernel
theorem dX0_keepPath_108 : decode cX0_keepPath 108 = .ok (.idiv, 1) := by decide +kernel
theorem dX0_keepPath_109 : decode cX0_keepPath 109 = .ok (.istore 5, 2) := by decide +kernel
theorem dX0_keepPath_111 : decode cX0_keepPath 111 = .ok (.iinc 7 (-1), 3) := by decide +kernel
theorem dX0_keepPath_114 : decode cX0_keepPath 114 = .ok (.goto (-96), 3) := by decide +kernel
theorem dX0_keepPath_117 : decode cX0_keepPath 117 = .ok (.return_, 1) := by decide +kernel
theorem dX3_add_0 : decode cX3_add 0 = .ok (.aload_n 0, 1) := by decide +kernel
theorem dX3_add_1 : decode cX3_add 1 = .ok (.aload_n 1, 1) := by decide +kernel
theorem dX3_add_2 : decode cX3_add 2 = .ok (.iload 5, 2) := by decide +kernel
theorem dX3_add_4 : decode cX3_add 4 = .ok (.invokevirtual 56, 3) := by decide +kernel
theorem dX3_add_7 : decode cX3_add 7 = .ok (.istore 6, 2) := by decide +kernel
theorem dX3_add_9 : decode cX3_add 9 = .ok (.iload 6, 2) := by decide +kernel
theorem dX3_add_11 : decode cX3_add 11 = .ok (.ifCond .lt 32, 3) := by decide +kernel
theorem dX3_add_14 : decode cX3_add 14 = .ok (.aload_n 0, 1) := by decide +kernel
theorem dX3_add_15 : decode cX3_add 15 = .ok (.getfield 28, 3) := by decide +kernel
theorem dX3_add_18 : decode cX3_add 18 = .ok (.iload 6, 2) := by decide +kernel
theorem dX3_add_20 : decode cX3_add 20 = .ok (.iaload, 1) := by decide +kernel
theorem dX3_add_21 : decode cX3_add 21 = .ok (.ifCond .le 22, 3) := by decide +kernel
theorem dX3_add_24 : decode cX3_add 24 = .ok (.aload_n 0, 1) := by decide +kernel
theorem dX3_add_25 : decode cX3_add 25 = .ok (.getfield 24, 3) := by decide +kernel
theorem dX3_add_28 : decode cX3_add 28 = .ok (.aload_n 0, 1) := by decide +kernel
theorem dX3_add_29 : decode cX3_add 29 = .ok (.getfield 28, 3) := by decide +kernel
theorem dX3_add_32 : decode cX3_add 32 = .ok (.iload 6, 2) := by decide +kernel
theorem dX3_add_34 : decode cX3_add 34 = .ok (.iaload, 1) := by decide +kernel
theorem dX3_add_35 : decode cX3_add 35 = .ok (.iconst 1, 1) := by decide +kernel
theorem dX3_add_36 : decode cX3_add 36 = .ok (.isub, 1) := by decide +kernel
theorem dX3_add_37 : decode cX3_add 37 = .ok (.dup2, 1) := by decide +kernel
theorem dX3_add_38 : decode cX3_add 38 = .ok (.laload, 1) := by decide +kernel
theorem dX3_add_39 : decode cX3_add 39 = .ok (.lload_n 3, 1) := by decide +kernel
theorem dX3_add_40 : decode cX3_add 40 = .ok (.ladd, 1) := by decide +kernel
theorem dX3_add_41 : decode cX3_add 41 = .ok (.lastore, 1) := by decide +kernel
theorem dX3_add_42 : decode cX3_add 42 = .ok (.return_, 1) := by decide +kernel
theorem dX3_add_43 : decode cX3_add 43 = .ok (.aload_n 0, 1) := by decide +kernel
theorem dX3_add_44 : decode cX3_add 44 = .ok (.getfield 31, 3) := by decide +kernel
theorem dX3_add_47 : decode cX3_add 47 = .ok (.aload_n 0, 1) := by decide +kernel
theorem dX3_add_48 : decode cX3_add 48 = .ok (.getfield 11, 3) := by decide +kernel
theorem dX3_add_51 : decode cX3_add 51 = .ok (.arraylength, 1) := by decide +kernel
theorem dX3_add_52 : decode cX3_add 52 = .ok (.if_icmp .lt 16, 3) := by decide +kernel
theorem dX3_add_55 : decode cX3_add 55 = .ok (.aload_n 0, 1) := by decide +kernel
theorem dX3_add_56 : decode cX3_add 56 = .ok (.invokevirtual 60, 3) := by decide +kernel
theorem dX3_add_59 : decode cX3_add 59 = .ok (.aload_n 0, 1) := by decide +kernel
theorem dX3_add_60 : decode cX3_add 60 = .ok (.aload_n 1, 1) := by decide +kernel
theorem dX3_add_61 : decode cX3_add 61 = .ok (.iload 5, 2) := by decide +kernel
theorem dX3_add_63 : decode cX3_add 63 = .ok (.invokevirtual 56, 3) := by decide +kernel
theorem dX3_add_66 : decode cX3_add 66 = .ok (.istore 6, 2) := by decide +kernel
theorem dX3_add_68 : decode cX3_add 68 = .ok (.iload 6, 2) := by decide +kernel
theorem dX3_add_70 : decode cX3_add 70 = .ok (.ifCond .lt 15, 3) := by decide +kernel
theorem dX3_add_73 : decode cX3_add 73 = .ok (.aload_n 0, 1) := by decide +kernel
theorem dX3_add_74 : decode cX3_add 74 = .ok (.getfield 31, 3) := by decide +kernel
theorem dX3_add_77 : decode cX3_add 77 = .ok (.aload_n 0, 1) := by decide +kernel
theorem dX3_add_78 : decode cX3_add 78 = .ok (.getfield 11, 3) := by decide +kernel
theorem dX3_add_81 : decode cX3_add 81 = .ok (.arraylength, 1) := by decide +kernel
theorem dX3_add_82 : decode cX3_add 82 = .ok (.if_icmp .lt 4, 3) := by decide +kernel
theorem dX3_add_85 : decode cX3_add 85 = .ok (.return_, 1) := by decide +kernel
theorem dX3_add_86 : decode cX3_add 86 = .ok (.aload_n 0, 1) := by decide +kernel
theorem dX3_add_87 : decode cX3_add 87 = .ok (.getfield 11, 3) := by decide +kernel
theorem dX3_add_90 : decode cX3_add 90 = .ok (.aload_n 0, 1) := by decide +kernel
theorem dX3_add_91 : decode cX3_add 91 = .ok (.getfield 31, 3) := by decide +kernel
theorem dX3_add_94 : decode cX3_add 94 = .ok (.aload_n 1, 1) := by decide +kernel
theorem dX3_add_95 : decode cX3_add 95 = .ok (.invokestatic 63, 3) := by decide +kernel
theorem dX3_add_98 : decode cX3_add 98 = .ok (.iastore, 1) := by decide +kernel
theorem dX3_add_99 : decode cX3_add 99 = .ok (.aload_n 0, 1) := by decide +kernel
theorem dX3_add_100 : decode cX3_add 100 = .ok (.getfield 15, 3) := by decide +kernel
theorem dX3_add_103 : decode cX3_add 103 = .ok (.aload_n 0, 1) := by decide +kernel
theorem dX3_add_104 : decode cX3_add 104 = .ok (.getfield 31, 3) := by decide +kernel
theorem dX3_add_107 : decode cX3_add 107 = .ok (.aload_n 1, 1) := by decide +kernel
theorem dX3_add_108 : decode cX3_add 108 = .ok (.getfield 41, 3) := by decide +kernel
theorem dX3_add_111 : decode cX3_add 111 = .ok (.iastore, 1) := by decide +kernel
theorem dX3_add_112 : decode cX3_add 112 = .ok (.aload_n 0, 1) := by decide +kernel
theorem dX3_add_113 : decode cX3_add 113 = .ok (.getfield 18, 3) := by decide +kernel
theorem dX3_add_116 : decode cX3_add 116 = .ok (.aload_n 0, 1) := by decide +kernel
theorem dX3_add_117 : decode cX3_add 117 = .ok (.getfield 31, 3) := by decide +kernel
theorem dX3_add_120 : decode cX3_add 120 = .ok (.aload_n 1, 1) := by decide +kernel
theorem dX3_add_121 : decode cX3_add 121 = .ok (.getfield 53, 3) := by decide +kernel
theorem dX3_add_124 : decode cX3_add 124 = .ok (.iastore, 1) := by decide +kernel
theorem dX3_add_125 : decode cX3_add 125 = .ok (.aload_n 0, 1) := by decide +kernel
theorem dX3_add_126 : decode cX3_add 126 = .ok (.getfield 21, 3) := by decide +kernel
theorem dX3_add_129 : decode cX3_add 129 = .ok (.aload_n 0, 1) := by decide +kernel
theorem dX3_add_130 : decode cX3_add 130 = .ok (.getfield 31, 3) := by decide +kernel
theorem dX3_add_133 : decode cX3_add 133 = .ok (.iload_n 2, 1) := by decide +kernel
theorem dX3_add_134 : decode cX3_add 134 = .ok (.iastore, 1) := by decide +kernel
theorem dX3_add_135 : decode cX3_add 135 = .ok (.aload_n 0, 1) := by decide +kernel
theorem dX3_add_136 : decode cX3_add 136 = .ok (.getfield 24, 3) := by decide +kernel
theorem dX3_add_139 : decode cX3_add 139 = .ok (.aload_n 0, 1) := by decide +kernel
theorem dX3_add_140 : decode cX3_add 140 = .ok (.getfield 31, 3) := by decide +kernel
theorem dX3_add_143 : decode cX3_add 143 = .ok (.lload_n 3, 1) := by decide +kernel
theorem dX3_add_144 : decode cX3_add 144 = .ok (.lastore, 1) := by decide +kernel
theorem dX3_add_145 : decode cX3_add 145 = .ok (.aload_n 0, 1) := by decide +kernel
theorem dX3_add_146 : decode cX3_add 146 = .ok (.dup, 1) := by decide +kernel
theorem dX3_add_147 : decode cX3_add 147 = .ok (.getfield 31, 3) := by decide +kernel
theorem dX3_add_150 : decode cX3_add 150 = .ok (.iconst 1, 1) := by decide +kernel
theorem dX3_add_151 : decode cX3_add 151 = .ok (.iadd, 1) := by decide +kernel
theorem dX3_add_152 : decode cX3_add 152 = .ok (.putfield 31, 3) := by decide +kernel
theorem dX3_add_155 : decode cX3_add 155 = .ok (.aload_n 0, 1) := by decide +kernel
theorem dX3_add_156 : decode cX3_add 156 = .ok (.getfield 28, 3) := by decide +kernel
theorem dX3_add_159 : decode cX3_add 159 = .ok (.iload 6, 2) := by decide +kernel
theorem dX3_add_161 : decode cX3_add 161 = .ok (.aload_n 0, 1) := by decide +kernel
theorem dX3_add_162 : decode cX3_add 162 = .ok (.getfield 31, 3) := by decide +kernel
theorem dX3_add_165 : decode cX3_add 165 = .ok (.iastore, 1) := by decide +kernel
theorem dX3_add_166 : decode cX3_add 166 = .ok (.return_, 1) := by decide +kernel
theorem dX3_freeSlot_0 : decode cX3_freeSlot 0 = .ok (.aload_n 0, 1) := by decide +kernel
theorem dX3_freeSlot_1 : decode cX3_freeSlot 1 = .ok (.getfield 28, 3) := by decide +kernel
theorem dX3_freeSlot_4 : decode cX3_freeSlot 4 = .ok (.arraylength, 1) := by decide +kernel
theorem dX3_freeSlot_5 : decode cX3_freeSlot 5 = .ok (.iconst 1, 1) := by decide +kernel
theorem dX3_freeSlot_6 : decode cX3_freeSlot 6 = .ok (.isub, 1) := by decide +kernel
theorem dX3_freeSlot_7 : decode cX3_freeSlot 7 = .ok (.istore_n 2, 1) := by decide +kernel
theorem dX3_freeSlot_8 : decode cX3_freeSlot 8 = .ok (.iconst 0, 1) := by decide +kernel
theorem dX3_freeSlot_9 : decode cX3_freeSlot 9 = .ok (.istore_n 3, 1) := by decide +kernel
theorem dX3_freeSlot_10 : decode cX3_freeSlot 10 = .ok (.iload_n 3, 1) := by decide +kernel
theorem dX3_freeSlot_11 : decode cX3_freeSlot 11 = .ok (.aload_n 0, 1) := by decide +kernel
theorem dX3_freeSlot_12 : decode cX3_freeSlot 12 = .ok (.getfield 28, 3) := by decide +kernel
theorem dX3_freeSlot_15 : decode cX3_freeSlot 15 = .ok (.arraylength, 1) := by decide +kernel
theorem dX3_freeSlot_16 : decode cX3_freeSlot 16 = .ok (.if_icmp .ge 28, 3) := by decide +kernel
theorem dX3_freeSlot_19 : decode cX3_freeSlot 19 = .ok (.aload_n 0, 1) := by decide +kernel
theorem dX3_freeSlot_20 : decode cX3_freeSlot 20 = .ok (.getfield 28, 3) := by decide +kernel
theorem dX3_freeSlot_23 : decode cX3_freeSlot 23 = .ok (.iload_n 1, 1) := by decide +kernel
theorem dX3_freeSlot_24 : decode cX3_freeSlot 24 = .ok (.iload_n 3, 1) := by decide +kernel
theorem dX3_freeSlot_25 : decode cX3_freeSlot 25 = .ok (.iadd, 1) := by decide +kernel
theorem dX3_freeSlot_26 : decode cX3_freeSlot 26 = .ok (.iload_n 2, 1) := by decide +kernel
theorem dX3_freeSlot_27 : decode cX3_freeSlot 27 = .ok (.iand, 1) := by decide +kernel
theorem dX3_freeSlot_28 : decode cX3_freeSlot 28 = .ok (.iaload, 1) := by decide +kernel
theorem dX3_freeSlot_29 : decode cX3_freeSlot 29 = .ok (.ifCond .ne 9, 3) := by decide +kernel
theorem dX3_freeSlot_32 : decode cX3_freeSlot 32 = .ok (.iload_n 1, 1) := by decide +kernel
theorem dX3_freeSlot_33 : decode cX3_freeSlot 33 = .ok (.iload_n 3, 1) := by decide +kernel
theorem dX3_freeSlot_34 : decode cX3_freeSlot 34 = .ok (.iadd, 1) := by decide +kernel
theorem dX3_freeSlot_35 : decode cX3_freeSlot 35 = .ok (.iload_n 2, 1) := by decide +kernel
theorem dX3_freeSlot_36 : decode cX3_freeSlot 36 = .ok (.iand, 1) := by decide +kernel
theorem dX3_freeSlot_37 : decode cX3_freeSlot 37 = .ok (.ireturn, 1) := by decide +kernel
theorem dX3_freeSlot_38 : decode cX3_freeSlot 38 = .ok (.iinc 3 1, 3) := by decide +kernel
theorem dX3_freeSlot_41 : decode cX3_freeSlot 41 = .ok (.goto (-31), 3) := by decide +kernel
theorem dX3_freeSlot_44 : decode cX3_freeSlot 44 = .ok (.iconst 0, 1) := by decide +kernel
theorem dX3_freeSlot_45 : decode cX3_freeSlot 45 = .ok (.ireturn, 1) := by decide +kernel
theorem dX3_grow_0 : decode cX3_grow 0 = .ok (.iconst 2, 1) := by decide +kernel
theorem dX3_grow_1 : decode cX3_grow 1 = .ok (.aload_n 0, 1) := by decide +kernel
theorem dX3_grow_2 : decode cX3_grow 2 = .ok (.getfield 11, 3) := by decide +kernel
theorem dX3_grow_5 : decode cX3_grow 5 = .ok (.arraylength, 1) := by decide +kernel
theorem dX3_grow_6 : decode cX3_grow 6 = .ok (.imul, 1) := by decide +kernel
theorem dX3_grow_7 : decode cX3_grow 7 = .ok (.istore_n 1, 1) := by decide +kernel
theorem dX3_grow_8 : decode cX3_grow 8 = .ok (.iload_n 1, 1) := by decide +kernel
theorem dX3_grow_9 : decode cX3_grow 9 = .ok (.ldc 74, 2) := by decide +kernel
theorem dX3_grow_11 : decode cX3_grow 11 = .ok (.if_icmp .le 4, 3) := by decide +kernel
theorem dX3_grow_14 : decode cX3_grow 14 = .ok (.return_, 1) := by decide +kernel
theorem dX3_grow_15 : decode cX3_grow 15 = .ok (.aload_n 0, 1) := by decide +kernel
theorem dX3_grow_16 : decode cX3_grow 16 = .ok (.aload_n 0, 1) := by decide +kernel
theorem dX3_grow_17 : decode cX3_grow 17 = .ok (.getfield 11, 3) := by decide +kernel
theorem dX3_grow_20 : decode cX3_grow 20 = .ok (.iload_n 1, 1) := by decide +kernel
theorem dX3_grow_21 : decode cX3_grow 21 = .ok (.invokestatic 75, 3) := by decide +kernel
theorem dX3_grow_24 : decode cX3_grow 24 = .ok (.putfield 11, 3) := by decide +kernel
theorem dX3_grow_27 : decode cX3_grow 27 = .ok (.aload_n 0, 1) := by decide +kernel
theorem dX3_grow_28 : decode cX3_grow 28 = .ok (.aload_n 0, 1) := by decide +kernel
theorem dX3_grow_29 : decode cX3_grow 29 = .ok (.getfield 15, 3) := by decide +kernel
theorem dX3_grow_32 : decode cX3_grow 32 = .ok (.iload_n 1, 1) := by decide +kernel
theorem dX3_grow_33 : decode cX3_grow 33 = .ok (.invokestatic 75, 3) := by decide +kernel
theorem dX3_grow_36 : decode cX3_grow 36 = .ok (.putfield 15, 3) := by decide +kernel
theorem dX3_grow_39 : decode cX3_grow 39 = .ok (.aload_n 0, 1) := by decide +kernel
theorem dX3_grow_40 : decode cX3_grow 40 = .ok (.aload_n 0, 1) := by decide +kernel
theorem dX3_grow_41 : decode cX3_grow 41 = .ok (.getfield 18, 3) := by decide +kernel
theorem dX3_grow_44 : decode cX3_grow 44 = .ok (.iload_n 1, 1) := by decide +kernel
theorem dX3_grow_45 : decode cX3_grow 45 = .ok (.invokestatic 75, 3) := by decide +kernel
theorem dX3_grow_48 : decode cX3_grow 48 = .ok (.putfield 18, 3) := by decide +kernel
theorem dX3_grow_51 : decode cX3_grow 51 = .ok (.aload_n 0, 1) := by decide +kernel
theorem dX3_grow_52 : decode cX3_grow 52 = .ok (.aload_n 0, 1) := by decide +kernel
theorem dX3_grow_53 : decode cX3_grow 53 = .ok (.getfield 21, 3) := by decide +kernel
theorem dX3_grow_56 : decode cX3_grow 56 = .ok (.iload_n 1, 1) := by decide +kernel
theorem dX3_grow_57 : decode cX3_grow 57 = .ok (.invokestatic 75, 3) := by decide +kernel
theorem dX3_grow_60 : decode cX3_grow 60 = .ok (.putfield 21, 3) := by decide +kernel
theorem dX3_grow_63 : decode cX3_grow 63 = .ok (.aload_n 0, 1) := by decide +kernel
theorem dX3_grow_64 : decode cX3_grow 64 = .ok (.aload_n 0, 1) := by decide +kernel
theorem dX3_grow_65 : decode cX3_grow 65 = .ok (.getfield 24, 3) := by decide +kernel
theorem dX3_grow_68 : decode cX3_grow 68 = .ok (.iload_n 1, 1) := by decide +kernel
theorem dX3_grow_69 : decode cX3_grow 69 = .ok (.invokestatic 79, 3) := by decide +kernel
theorem dX3_grow_72 : decode cX3_grow 72 = .ok (.putfield 24, 3) := by decide +kernel
theorem dX3_grow_75 : decode cX3_grow 75 = .ok (.aload_n 0, 1) := by decide +kernel
theorem dX3_grow_76 : decode cX3_grow 76 = .ok (.iconst 2, 1) := by decide +kernel
theorem dX3_grow_77 : decode cX3_grow 77 = .ok (.iload_n 1, 1) := by decide +kernel
theorem dX3_grow_78 : decode cX3_grow 78 = .ok (.imul, 1) := by decide +kernel
theorem dX3_grow_79 : decode cX3_grow 79 = .ok (.newarray .int, 2) := by decide +kernel
theorem dX3_grow_81 : decode cX3_grow 81 = .ok (.putfield 28, 3) := by decide +kernel
theorem dX3_grow_84 : decode cX3_grow 84 = .ok (.iconst 0, 1) := by decide +kernel
theorem dX3_grow_85 : decode cX3_grow 85 = .ok (.istore_n 2, 1) := by decide +kernel
theorem dX3_grow_86 : decode cX3_grow 86 = .ok (.iload_n 2, 1) := by decide +kernel
theorem dX3_grow_87 : decode cX3_grow 87 = .ok (.aload_n 0, 1) := by decide +kernel
theorem dX3_grow_88 : decode cX3_grow 88 = .ok (.getfield 31, 3) := by decide +kernel
theorem dX3_grow_91 : decode cX3_grow 91 = .ok (.if_icmp .ge 42, 3) := by decide +kernel
theorem dX3_grow_94 : decode cX3_grow 94 = .ok (.aload_n 0, 1) := by decide +kernel
theorem dX3_grow_95 : decode cX3_grow 95 = .ok (.getfield 28, 3) := by decide +kernel
theorem dX3_grow_98 : decode cX3_grow 98 = .ok (.aload_n 0, 1) := by decide +kernel
theorem dX3_grow_99 : decode cX3_grow 99 = .ok (.aload_n 0, 1) := by decide +kernel
theorem dX3_grow_100 : decode cX3_grow 100 = .ok (.getfield 11, 3) := by decide +kernel
theorem dX3_grow_103 : decode cX3_grow 103 = .ok (.iload_n 2, 1) := by decide +kernel
theorem dX3_grow_104 : decode cX3_grow 104 = .ok (.iaload, 1) := by decide +kernel
theorem dX3_grow_105 : decode cX3_grow 105 = .ok (.aload_n 0, 1) := by decide +kernel
theorem dX3_grow_106 : decode cX3_grow 106 = .ok (.getfield 15, 3) := by decide +kernel
theorem dX3_grow_109 : decode cX3_grow 109 = .ok (.iload_n 2, 1) := by decide +kernel
theorem dX3_grow_110 : decode cX3_grow 110 = .ok (.iaload, 1) := by decide +kernel
theorem dX3_grow_111 : decode cX3_grow 111 = .ok (.aload_n 0, 1) := by decide +kernel
theorem dX3_grow_112 : decode cX3_grow 112 = .ok (.getfield 18, 3) := by decide +kernel
theorem dX3_grow_115 : decode cX3_grow 115 = .ok (.iload_n 2, 1) := by decide +kernel
theorem dX3_grow_116 : decode cX3_grow 116 = .ok (.iaload, 1) := by decide +kernel
theorem dX3_grow_117 : decode cX3_grow 117 = .ok (.invokestatic 70, 3) := by decide +kernel
theorem dX3_grow_120 : decode cX3_grow 120 = .ok (.invokevirtual 82, 3) := by decide +kernel
theorem dX3_grow_123 : decode cX3_grow 123 = .ok (.iload_n 2, 1) := by decide +kernel
theorem dX3_grow_124 : decode cX3_grow 124 = .ok (.iconst 1, 1) := by decide +kernel
theorem dX3_grow_125 : decode cX3_grow 125 = .ok (.iadd, 1) := by decide +kernel
theorem dX3_grow_126 : decode cX3_grow 126 = .ok (.iastore, 1) := by decide +kernel
theorem dX3_grow_127 : decode cX3_grow 127 = .ok (.iinc 2 1, 3) := by decide +kernel
theorem dX3_grow_130 : decode cX3_grow 130 = .ok (.goto (-44), 3) := by decide +kernel
theorem dX3_grow_133 : decode cX3_grow 133 = .ok (.return_, 1) := by decide +kernel
theorem dX3_hash_0 : decode cX3_hash 0 = .ok (.iload_n 0, 1) := by decide +kernel
theorem dX3_hash_1 : decode cX3_hash 1 = .ok (.ldc 67, 2) := by decide +kernel
theorem dX3_hash_3 : decode cX3_hash 3 = .ok (.imul, 1) := by decide +kernel
theorem dX3_hash_4 : decode cX3_hash 4 = .ok (.iload_n 1, 1) := by decide +kernel
theorem dX3_hash_5 : decode cX3_hash 5 = .ok (.ldc 68, 2) := by decide +kernel
theorem dX3_hash_7 : decode cX3_hash 7 = .ok (.imul, 1) := by decide +kernel
theorem dX3_hash_8 : decode cX3_hash 8 = .ok (.iadd, 1) := by decide +kernel
theorem dX3_hash_9 : decode cX3_hash 9 = .ok (.iload_n 2, 1) := by decide +kernel
theorem dX3_hash_10 : decode cX3_hash 10 = .ok (.ldc 69, 2) := by decide +kernel
theorem dX3_hash_12 : decode cX3_hash 12 = .ok (.imul, 1) := by decide +kernel
theorem dX3_hash_13 : decode cX3_hash 13 = .ok (.iadd, 1) := by decide +kernel
theorem dX3_hash_14 : decode cX3_hash 14 = .ok (.istore_n 3, 1) := by decide +kernel
theorem dX3_hash_15 : decode cX3_hash 15 = .ok (.iload_n 3, 1) := by decide +kernel
theorem dX3_hash_16 : decode cX3_hash 16 = .ok (.iload_n 3, 1) := by decide +kernel
theorem dX3_hash_17 : decode cX3_hash 17 = .ok (.bipush 15, 2) := by decide +kernel
theorem dX3_hash_19 : decode cX3_hash 19 = .ok (.iushr, 1) := by decide +kernel
theorem dX3_hash_20 : decode cX3_hash 20 = .ok (.ixor, 1) := by decide +kernel
theorem dX3_hash_21 : decode cX3_hash 21 = .ok (.ireturn, 1) := by decide +kernel
theorem dX3_load_0 : decode cX3_load 0 = .ok (.iload_n 1, 1) := by decide +kernel
theorem dX3_load_1 : decode cX3_load 1 = .ok (.ifCond .lt 57, 3) := by decide +kernel
theorem dX3_load_4 : decode cX3_load 4 = .ok (.iload_n 1, 1) := by decide +kernel
theorem dX3_load_5 : decode cX3_load 5 = .ok (.aload_n 0, 1) := by decide +kernel
theorem dX3_load_6 : decode cX3_load 6 = .ok (.getfield 31, 3) := by decide +kernel
theorem dX3_load_9 : decode cX3_load 9 = .ok (.if_icmp .ge 49, 3) := by decide +kernel
theorem dX3_load_12 : decode cX3_load 12 = .ok (.aload_n 2, 1) := by decide +kernel
theorem dX3_load_13 : decode cX3_load 13 = .ok (.aload_n 0, 1) := by decide +kernel
theorem dX3_load_14 : decode cX3_load 14 = .ok (.getfield 15, 3) := by decide +kernel
theorem dX3_load_17 : decode cX3_load 17 = .ok (.iload_n 1, 1) := by decide +kernel
theorem dX3_load_18 : decode cX3_load 18 = .ok (.iaload, 1) := by decide +kernel
theorem dX3_load_19 : decode cX3_load 19 = .ok (.putfield 41, 3) := by decide +kernel
theorem dX3_load_22 : decode cX3_load 22 = .ok (.aload_n 2, 1) := by decide +kernel
theorem dX3_load_23 : decode cX3_load 23 = .ok (.aload_n 0, 1) := by decide +kernel
theorem dX3_load_24 : decode cX3_load 24 = .ok (.getfield 11, 3) := by decide +kernel
theorem dX3_load_27 : decode cX3_load 27 = .ok (.iload_n 1, 1) := by decide +kernel
theorem dX3_load_28 : decode cX3_load 28 = .ok (.iaload, 1) := by decide +kernel
theorem dX3_load_29 : decode cX3_load 29 = .ok (.ldc 46, 2) := by decide +kernel
theorem dX3_load_31 : decode cX3_load 31 = .ok (.iand, 1) := by decide +kernel
theorem dX3_load_32 : decode cX3_load 32 = .ok (.putfield 47, 3) := by decide +kernel
theorem dX3_load_35 : decode cX3_load 35 = .ok (.aload_n 2, 1) := by decide +kernel
theorem dX3_load_36 : decode cX3_load 36 = .ok (.aload_n 0, 1) := by decide +kernel
theorem dX3_load_37 : decode cX3_load 37 = .ok (.getfield 11, 3) := by decide +kernel
theorem dX3_load_40 : decode cX3_load 40 = .ok (.iload_n 1, 1) := by decide +kernel
theorem dX3_load_41 : decode cX3_load 41 = .ok (.iaload, 1) := by decide +kernel
theorem dX3_load_42 : decode cX3_load 42 = .ok (.bipush 16, 2) := by decide +kernel
theorem dX3_load_44 : decode cX3_load 44 = .ok (.iushr, 1) := by decide +kernel
theorem dX3_load_45 : decode cX3_load 45 = .ok (.putfield 50, 3) := by decide +kernel
theorem dX3_load_48 : decode cX3_load 48 = .ok (.aload_n 2, 1) := by decide +kernel
theorem dX3_load_49 : decode cX3_load 49 = .ok (.aload_n 0, 1) := by decide +kernel
theorem dX3_load_50 : decode cX3_load 50 = .ok (.getfield 18, 3) := by decide +kernel
theorem dX3_load_53 : decode cX3_load 53 = .ok (.iload_n 1, 1) := by decide +kernel
theorem dX3_load_54 : decode cX3_load 54 = .ok (.iaload, 1) := by decide +kernel
theorem dX3_load_55 : decode cX3_load 55 = .ok (.putfield 53, 3) := by decide +kernel
theorem dX3_load_58 : decode cX3_load 58 = .ok (.return_, 1) := by decide +kernel
theorem dX3_packed_0 : decode cX3_packed 0 = .ok (.aload_n 0, 1) := by decide +kernel
theorem dX3_packed_1 : decode cX3_packed 1 = .ok (.getfield 47, 3) := by decide +kernel
theorem dX3_packed_4 : decode cX3_packed 4 = .ok (.aload_n 0, 1) := by decide +kernel
theorem dX3_packed_5 : decode cX3_packed 5 = .ok (.getfield 50, 3) := by decide +kernel
theorem dX3_packed_8 : decode cX3_packed 8 = .ok (.bipush 16, 2) := by decide +kernel
theorem dX3_packed_10 : decode cX3_packed 10 = .ok (.ishl, 1) := by decide +kernel
theorem dX3_packed_11 : decode cX3_packed 11 = .ok (.ior, 1) := by decide +kernel
theorem dX3_packed_12 : decode cX3_packed 12 = .ok (.ireturn, 1) := by decide +kernel
theorem dX3_slotOf_0 : decode cX3_slotOf 0 = .ok (.aload_n 1, 1) := by decide +kernel
theorem dX3_slotOf_1 : decode cX3_slotOf 1 = .ok (.invokestatic 63, 3) := by decide +kernel
theorem dX3_slotOf_4 : decode cX3_slotOf 4 = .ok (.istore_n 3, 1) := by decide +kernel
theorem dX3_slotOf_5 : decode cX3_slotOf 5 = .ok (.aload_n 0, 1) := by decide +kernel
theorem dX3_slotOf_6 : decode cX3_slotOf 6 = .ok (.getfield 28, 3) := by decide +kernel
theorem dX3_slotOf_9 : decode cX3_slotOf 9 = .ok (.arraylength, 1) := by decide +kernel
theorem dX3_slotOf_10 : decode cX3_slotOf 10 = .ok (.iconst 1, 1) := by decide +kernel
theorem dX3_slotOf_11 : decode cX3_slotOf 11 = .ok (.isub, 1) := by decide +kernel
theorem dX3_slotOf_12 : decode cX3_slotOf 12 = .ok (.istore 4, 2) := by decide +kernel
theorem dX3_slotOf_14 : decode cX3_slotOf 14 = .ok (.iload_n 3, 1) := by decide +kernel
theorem dX3_slotOf_15 : decode cX3_slotOf 15 = .ok (.aload_n 1, 1) := by decide +kernel
theorem dX3_slotOf_16 : decode cX3_slotOf 16 = .ok (.getfield 41, 3) := by decide +kernel
theorem dX3_slotOf_19 : decode cX3_slotOf 19 = .ok (.aload_n 1, 1) := by decide +kernel
theorem dX3_slotOf_20 : decode cX3_slotOf 20 = .ok (.getfield 53, 3) := by decide +kernel
theorem dX3_slotOf_23 : decode cX3_slotOf 23 = .ok (.invokestatic 70, 3) := by decide +kernel
theorem dX3_slotOf_26 : decode cX3_slotOf 26 = .ok (.istore 5, 2) := by decide +kernel
theorem dX3_slotOf_28 : decode cX3_slotOf 28 = .ok (.iconst 0, 1) := by decide +kernel
theorem dX3_slotOf_29 : decode cX3_slotOf 29 = .ok (.istore 6, 2) := by decide +kernel
theorem dX3_slotOf_31 : decode cX3_slotOf 31 = .ok (.iload 6, 2) := by decide +kernel
theorem dX3_slotOf_33 : decode cX3_slotOf 33 = .ok (.aload_n 0, 1) := by decide +kernel
theorem dX3_slotOf_34 : decode cX3_slotOf 34 = .ok (.getfield 28, 3) := by decide +kernel
theorem dX3_slotOf_37 : decode cX3_slotOf 37 = .ok (.arraylength, 1) := by decide +kernel
theorem dX3_slotOf_38 : decode cX3_slotOf 38 = .ok (.if_icmp .ge 83, 3) := by decide +kernel
theorem dX3_slotOf_41 : decode cX3_slotOf 41 = .ok (.iload 5, 2) := by decide +kernel
theorem dX3_slotOf_43 : decode cX3_slotOf 43 = .ok (.iload 6, 2) := by decide +kernel
theorem dX3_slotOf_45 : decode cX3_slotOf 45 = .ok (.iadd, 1) := by decide +kernel
theorem dX3_slotOf_46 : decode cX3_slotOf 46 = .ok (.iload 4, 2) := by decide +kernel
theorem dX3_slotOf_48 : decode cX3_slotOf 48 = .ok (.iand, 1) := by decide +kernel
theorem dX3_slotOf_49 : decode cX3_slotOf 49 = .ok (.istore 7, 2) := by decide +kernel
theorem dX3_slotOf_51 : decode cX3_slotOf 51 = .ok (.aload_n 0, 1) := by decide +kernel
theorem dX3_slotOf_52 : decode cX3_slotOf 52 = .ok (.getfield 28, 3) := by decide +kernel
theorem dX3_slotOf_55 : decode cX3_slotOf 55 = .ok (.iload 7, 2) := by decide +kernel
theorem dX3_slotOf_57 : decode cX3_slotOf 57 = .ok (.iaload, 1) := by decide +kernel
theorem dX3_slotOf_58 : decode cX3_slotOf 58 = .ok (.iconst 1, 1) := by decide +kernel
theorem dX3_slotOf_59 : decode cX3_slotOf 59 = .ok (.isub, 1) := by decide +kernel
theorem dX3_slotOf_60 : decode cX3_slotOf 60 = .ok (.istore 8, 2) := by decide +kernel
theorem dX3_slotOf_62 : decode cX3_slotOf 62 = .ok (.iload 8, 2) := by decide +kernel
theorem dX3_slotOf_64 : decode cX3_slotOf 64 = .ok (.ifCond .lt 48, 3) := by decide +kernel
theorem dX3_slotOf_67 : decode cX3_slotOf 67 = .ok (.iload 8, 2) := by decide +kernel
theorem dX3_slotOf_69 : decode cX3_slotOf 69 = .ok (.iload_n 2, 1) := by decide +kernel
theorem dX3_slotOf_70 : decode cX3_slotOf 70 = .ok (.if_icmp .lt 45, 3) := by decide +kernel
theorem dX3_slotOf_73 : decode cX3_slotOf 73 = .ok (.aload_n 0, 1) := by decide +kernel
theorem dX3_slotOf_74 : decode cX3_slotOf 74 = .ok (.getfield 11, 3) := by decide +kernel
theorem dX3_slotOf_77 : decode cX3_slotOf 77 = .ok (.iload 8, 2) := by decide +kernel
theorem dX3_slotOf_79 : decode cX3_slotOf 79 = .ok (.iaload, 1) := by decide +kernel
theorem dX3_slotOf_80 : decode cX3_slotOf 80 = .ok (.iload_n 3, 1) := by decide +kernel
theorem dX3_slotOf_81 : decode cX3_slotOf 81 = .ok (.if_icmp .ne 34, 3) := by decide +kernel
theorem dX3_slotOf_84 : decode cX3_slotOf 84 = .ok (.aload_n 0, 1) := by decide +kernel
theorem dX3_slotOf_85 : decode cX3_slotOf 85 = .ok (.getfield 15, 3) := by decide +kernel
theorem dX3_slotOf_88 : decode cX3_slotOf 88 = .ok (.iload 8, 2) := by decide +kernel
theorem dX3_slotOf_90 : decode cX3_slotOf 90 = .ok (.iaload, 1) := by decide +kernel
theorem dX3_slotOf_91 : decode cX3_slotOf 91 = .ok (.aload_n 1, 1) := by decide +kernel
theorem dX3_slotOf_92 : decode cX3_slotOf 92 = .ok (.getfield 41, 3) := by decide +kernel
theorem dX3_slotOf_95 : decode cX3_slotOf 95 = .ok (.if_icmp .ne 20, 3) := by decide +kernel
theorem dX3_slotOf_98 : decode cX3_slotOf 98 = .ok (.aload_n 0, 1) := by decide +kernel
theorem dX3_slotOf_99 : decode cX3_slotOf 99 = .ok (.getfield 18, 3) := by decide +kernel
theorem dX3_slotOf_102 : decode cX3_slotOf 102 = .ok (.iload 8, 2) := by decide +kernel
theorem dX3_slotOf_104 : decode cX3_slotOf 104 = .ok (.iaload, 1) := by decide +kernel
theorem dX3_slotOf_105 : decode cX3_slotOf 105 = .ok (.aload_n 1, 1) := by decide +kernel
theorem dX3_slotOf_106 : decode cX3_slotOf 106 = .ok (.getfield 53, 3) := by decide +kernel
theorem dX3_slotOf_109 : decode cX3_slotOf 109 = .ok (.if_icmp .ne 6, 3) := by decide +kernel
theorem dX3_slotOf_112 : decode cX3_slotOf 112 = .ok (.iload 7, 2) := by decide +kernel
theorem dX3_slotOf_114 : decode cX3_slotOf 114 = .ok (.ireturn, 1) := by decide +kernel
theorem dX3_slotOf_115 : decode cX3_slotOf 115 = .ok (.iinc 6 1, 3) := by decide +kernel
theorem dX3_slotOf_118 : decode cX3_slotOf 118 = .ok (.goto (-87), 3) := by decide +kernel
theorem dX3_slotOf_121 : decode cX3_slotOf 121 = .ok (.iconst (-1), 1) := by decide +kernel
theorem dX3_slotOf_122 : decode cX3_slotOf 122 = .ok (.ireturn, 1) := by decide +kernel
