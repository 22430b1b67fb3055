theorem dX12_tellWitness_17 : decode cX12_tellWitness 17 = .ok (.return_, 1) := by decide +kernel
theorem dX12_tellWitness_18 : decode cX12_tellWitness 18 = .ok (.aload_n 0, 1) := by decide +kernel
theorem dX12_tellWitness_19 : decode cX12_tellWitness 19 = .ok (.iload_n 1, 1) := by decide +kernel
theorem dX12_tellWitness_20 : decode cX12_tellWitness 20 = .ok (.iconst 1, 1) := by decide +kernel
theorem dX12_tellWitness_21 : decode cX12_tellWitness 21 = .ok (.aload_n 0, 1) := by decide +kernel
theorem dX12_tellWitness_22 : decode cX12_tellWitness 22 = .ok (.getfield 58, 3) := by decide +kernel
theorem dX12_tellWitness_25 : decode cX12_tellWitness 25 = .ok (.aload_n 0, 1) := by decide +kernel
theorem dX12_tellWitness_26 : decode cX12_tellWitness 26 = .ok (.getfield 225, 3) := by decide +kernel
theorem dX12_tellWitness_29 : decode cX12_tellWitness 29 = .ok (.iaload, 1) := by decide +kernel
theorem dX12_tellWitness_30 : decode cX12_tellWitness 30 = .ok (.invokevirtual 279, 3) := by decide +kernel
theorem dX12_tellWitness_33 : decode cX12_tellWitness 33 = .ok (.aload_n 0, 1) := by decide +kernel
theorem dX12_tellWitness_34 : decode cX12_tellWitness 34 = .ok (.getfield 58, 3) := by decide +kernel
theorem dX12_tellWitness_37 : decode cX12_tellWitness 37 = .ok (.aload_n 0, 1) := by decide +kernel
theorem dX12_tellWitness_38 : decode cX12_tellWitness 38 = .ok (.getfield 225, 3) := by decide +kernel
theorem dX12_tellWitness_41 : decode cX12_tellWitness 41 = .ok (.dup2, 1) := by decide +kernel
theorem dX12_tellWitness_42 : decode cX12_tellWitness 42 = .ok (.iaload, 1) := by decide +kernel
theorem dX12_tellWitness_43 : decode cX12_tellWitness 43 = .ok (.iconst 1, 1) := by decide +kernel
theorem dX12_tellWitness_44 : decode cX12_tellWitness 44 = .ok (.iadd, 1) := by decide +kernel
theorem dX12_tellWitness_45 : decode cX12_tellWitness 45 = .ok (.iastore, 1) := by decide +kernel
theorem dX12_tellWitness_46 : decode cX12_tellWitness 46 = .ok (.return_, 1) := by decide +kernel
theorem dX12_tellWord_0 : decode cX12_tellWord 0 = .ok (.bipush 16, 2) := by decide +kernel
theorem dX12_tellWord_2 : decode cX12_tellWord 2 = .ok (.aload_n 0, 1) := by decide +kernel
theorem dX12_tellWord_3 : decode cX12_tellWord 3 = .ok (.getfield 225, 3) := by decide +kernel
theorem dX12_tellWord_6 : decode cX12_tellWord 6 = .ok (.imul, 1) := by decide +kernel
theorem dX12_tellWord_7 : decode cX12_tellWord 7 = .ok (.aload_n 0, 1) := by decide +kernel
theorem dX12_tellWord_8 : decode cX12_tellWord 8 = .ok (.getfield 61, 3) := by decide +kernel
theorem dX12_tellWord_11 : decode cX12_tellWord 11 = .ok (.aload_n 0, 1) := by decide +kernel
theorem dX12_tellWord_12 : decode cX12_tellWord 12 = .ok (.getfield 225, 3) := by decide +kernel
theorem dX12_tellWord_15 : decode cX12_tellWord 15 = .ok (.iaload, 1) := by decide +kernel
theorem dX12_tellWord_16 : decode cX12_tellWord 16 = .ok (.iadd, 1) := by decide +kernel
theorem dX12_tellWord_17 : decode cX12_tellWord 17 = .ok (.istore_n 1, 1) := by decide +kernel
theorem dX12_tellWord_18 : decode cX12_tellWord 18 = .ok (.aload_n 0, 1) := by decide +kernel
theorem dX12_tellWord_19 : decode cX12_tellWord 19 = .ok (.getfield 64, 3) := by decide +kernel
theorem dX12_tellWord_22 : decode cX12_tellWord 22 = .ok (.iload_n 1, 1) := by decide +kernel
theorem dX12_tellWord_23 : decode cX12_tellWord 23 = .ok (.aload_n 0, 1) := by decide +kernel
theorem dX12_tellWord_24 : decode cX12_tellWord 24 = .ok (.iconst 1, 1) := by decide +kernel
theorem dX12_tellWord_25 : decode cX12_tellWord 25 = .ok (.invokevirtual 283, 3) := by decide +kernel
theorem dX12_tellWord_28 : decode cX12_tellWord 28 = .ok (.iastore, 1) := by decide +kernel
theorem dX12_tellWord_29 : decode cX12_tellWord 29 = .ok (.aload_n 0, 1) := by decide +kernel
theorem dX12_tellWord_30 : decode cX12_tellWord 30 = .ok (.getfield 67, 3) := by decide +kernel
theorem dX12_tellWord_33 : decode cX12_tellWord 33 = .ok (.iload_n 1, 1) := by decide +kernel
theorem dX12_tellWord_34 : decode cX12_tellWord 34 = .ok (.aload_n 0, 1) := by decide +kernel
theorem dX12_tellWord_35 : decode cX12_tellWord 35 = .ok (.getfield 192, 3) := by decide +kernel
theorem dX12_tellWord_38 : decode cX12_tellWord 38 = .ok (.ifCond .ne 16, 3) := by decide +kernel
theorem dX12_tellWord_41 : decode cX12_tellWord 41 = .ok (.aload_n 0, 1) := by decide +kernel
theorem dX12_tellWord_42 : decode cX12_tellWord 42 = .ok (.bipush 26, 2) := by decide +kernel
theorem dX12_tellWord_44 : decode cX12_tellWord 44 = .ok (.invokevirtual 210, 3) := by decide +kernel
theorem dX12_tellWord_47 : decode cX12_tellWord 47 = .ok (.ifCond .eq 7, 3) := by decide +kernel
theorem dX12_tellWord_50 : decode cX12_tellWord 50 = .ok (.iconst 1, 1) := by decide +kernel
theorem dX12_tellWord_51 : decode cX12_tellWord 51 = .ok (.goto 4, 3) := by decide +kernel
theorem dX12_tellWord_54 : decode cX12_tellWord 54 = .ok (.iconst 0, 1) := by decide +kernel
theorem dX12_tellWord_55 : decode cX12_tellWord 55 = .ok (.bastore, 1) := by decide +kernel
theorem dX12_tellWord_56 : decode cX12_tellWord 56 = .ok (.aload_n 0, 1) := by decide +kernel
theorem dX12_tellWord_57 : decode cX12_tellWord 57 = .ok (.getfield 67, 3) := by decide +kernel
theorem dX12_tellWord_60 : decode cX12_tellWord 60 = .ok (.iload_n 1, 1) := by decide +kernel
theorem dX12_tellWord_61 : decode cX12_tellWord 61 = .ok (.baload, 1) := by decide +kernel
theorem dX12_tellWord_62 : decode cX12_tellWord 62 = .ok (.ifCond .eq 7, 3) := by decide +kernel
theorem dX12_tellWord_65 : decode cX12_tellWord 65 = .ok (.aload_n 0, 1) := by decide +kernel
theorem dX12_tellWord_66 : decode cX12_tellWord 66 = .ok (.invokevirtual 213, 3) := by decide +kernel
theorem dX12_tellWord_69 : decode cX12_tellWord 69 = .ok (.aload_n 0, 1) := by decide +kernel
theorem dX12_tellWord_70 : decode cX12_tellWord 70 = .ok (.iconst 5, 1) := by decide +kernel
theorem dX12_tellWord_71 : decode cX12_tellWord 71 = .ok (.invokevirtual 265, 3) := by decide +kernel
theorem dX12_tellWord_74 : decode cX12_tellWord 74 = .ok (.aload_n 0, 1) := by decide +kernel
theorem dX12_tellWord_75 : decode cX12_tellWord 75 = .ok (.getfield 71, 3) := by decide +kernel
theorem dX12_tellWord_78 : decode cX12_tellWord 78 = .ok (.iload_n 1, 1) := by decide +kernel
theorem dX12_tellWord_79 : decode cX12_tellWord 79 = .ok (.aload_n 0, 1) := by decide +kernel
theorem dX12_tellWord_80 : decode cX12_tellWord 80 = .ok (.invokevirtual 286, 3) := by decide +kernel
theorem dX12_tellWord_83 : decode cX12_tellWord 83 = .ok (.lastore, 1) := by decide +kernel
theorem dX12_tellWord_84 : decode cX12_tellWord 84 = .ok (.aload_n 0, 1) := by decide +kernel
theorem dX12_tellWord_85 : decode cX12_tellWord 85 = .ok (.iconst 4, 1) := by decide +kernel
theorem dX12_tellWord_86 : decode cX12_tellWord 86 = .ok (.invokevirtual 265, 3) := by decide +kernel
theorem dX12_tellWord_89 : decode cX12_tellWord 89 = .ok (.aload_n 0, 1) := by decide +kernel
theorem dX12_tellWord_90 : decode cX12_tellWord 90 = .ok (.getfield 192, 3) := by decide +kernel
theorem dX12_tellWord_93 : decode cX12_tellWord 93 = .ok (.ifCond .ne 16, 3) := by decide +kernel
theorem dX12_tellWord_96 : decode cX12_tellWord 96 = .ok (.aload_n 0, 1) := by decide +kernel
theorem dX12_tellWord_97 : decode cX12_tellWord 97 = .ok (.getfield 61, 3) := by decide +kernel
theorem dX12_tellWord_100 : decode cX12_tellWord 100 = .ok (.aload_n 0, 1) := by decide +kernel
theorem dX12_tellWord_101 : decode cX12_tellWord 101 = .ok (.getfield 225, 3) := by decide +kernel
theorem dX12_tellWord_104 : decode cX12_tellWord 104 = .ok (.dup2, 1) := by decide +kernel
theorem dX12_tellWord_105 : decode cX12_tellWord 105 = .ok (.iaload, 1) := by decide +kernel
theorem dX12_tellWord_106 : decode cX12_tellWord 106 = .ok (.iconst 1, 1) := by decide +kernel
theorem dX12_tellWord_107 : decode cX12_tellWord 107 = .ok (.iadd, 1) := by decide +kernel
theorem dX12_tellWord_108 : decode cX12_tellWord 108 = .ok (.iastore, 1) := by decide +kernel
theorem dX12_tellWord_109 : decode cX12_tellWord 109 = .ok (.return_, 1) := by decide +kernel
theorem dX12_termOf_0 : decode cX12_termOf 0 = .ok (.iconst 0, 1) := by decide +kernel
theorem dX12_termOf_1 : decode cX12_termOf 1 = .ok (.istore_n 3, 1) := by decide +kernel
theorem dX12_termOf_2 : decode cX12_termOf 2 = .ok (.iload_n 1, 1) := by decide +kernel
theorem dX12_termOf_3 : decode cX12_termOf 3 = .ok (.istore 4, 2) := by decide +kernel
theorem dX12_termOf_5 : decode cX12_termOf 5 = .ok (.iload 4, 2) := by decide +kernel
theorem dX12_termOf_7 : decode cX12_termOf 7 = .ok (.iload_n 2, 1) := by decide +kernel
theorem dX12_termOf_8 : decode cX12_termOf 8 = .ok (.if_icmp .ge 157, 3) := by decide +kernel
theorem dX12_termOf_11 : decode cX12_termOf 11 = .ok (.aload_n 0, 1) := by decide +kernel
theorem dX12_termOf_12 : decode cX12_termOf 12 = .ok (.getfield 92, 3) := by decide +kernel
theorem dX12_termOf_15 : decode cX12_termOf 15 = .ok (.iload 4, 2) := by decide +kernel
theorem dX12_termOf_17 : decode cX12_termOf 17 = .ok (.iaload, 1) := by decide +kernel
theorem dX12_termOf_18 : decode cX12_termOf 18 = .ok (.istore 5, 2) := by decide +kernel
theorem dX12_termOf_20 : decode cX12_termOf 20 = .ok (.iload 5, 2) := by decide +kernel
theorem dX12_termOf_22 : decode cX12_termOf 22 = .ok (.iconst 2, 1) := by decide +kernel
theorem dX12_termOf_23 : decode cX12_termOf 23 = .ok (.if_icmp .ge 42, 3) := by decide +kernel
theorem dX12_termOf_26 : decode cX12_termOf 26 = .ok (.aload_n 0, 1) := by decide +kernel
theorem dX12_termOf_27 : decode cX12_termOf 27 = .ok (.getfield 113, 3) := by decide +kernel
theorem dX12_termOf_30 : decode cX12_termOf 30 = .ok (.iload_n 3, 1) := by decide +kernel
theorem dX12_termOf_31 : decode cX12_termOf 31 = .ok (.iload 5, 2) := by decide +kernel
theorem dX12_termOf_33 : decode cX12_termOf 33 = .ok (.ifCond .ne 13, 3) := by decide +kernel
theorem dX12_termOf_36 : decode cX12_termOf 36 = .ok (.aload_n 0, 1) := by decide +kernel
theorem dX12_termOf_37 : decode cX12_termOf 37 = .ok (.getfield 95, 3) := by decide +kernel
theorem dX12_termOf_40 : decode cX12_termOf 40 = .ok (.iload 4, 2) := by decide +kernel
theorem dX12_termOf_42 : decode cX12_termOf 42 = .ok (.iaload, 1) := by decide +kernel
theorem dX12_termOf_43 : decode cX12_termOf 43 = .ok (.goto 15, 3) := by decide +kernel
theorem dX12_termOf_46 : decode cX12_termOf 46 = .ok (.aload_n 0, 1) := by decide +kernel
theorem dX12_termOf_47 : decode cX12_termOf 47 = .ok (.getfield 110, 3) := by decide +kernel
theorem dX12_termOf_50 : decode cX12_termOf 50 = .ok (.aload_n 0, 1) := by decide +kernel
theorem dX12_termOf_51 : decode cX12_termOf 51 = .ok (.getfield 95, 3) := by decide +kernel
theorem dX12_termOf_54 : decode cX12_termOf 54 = .ok (.iload 4, 2) := by decide +kernel
theorem dX12_termOf_56 : decode cX12_termOf 56 = .ok (.iaload, 1) := by decide +kernel
theorem dX12_termOf_57 : decode cX12_termOf 57 = .ok (.iaload, 1) := by decide +kernel
theorem dX12_termOf_58 : decode cX12_termOf 58 = .ok (.iastore, 1) := by decide +kernel
theorem dX12_termOf_59 : decode cX12_termOf 59 = .ok (.iinc 3 1, 3) := by decide +kernel
theorem dX12_termOf_62 : decode cX12_termOf 62 = .ok (.goto 97, 3) := by decide +kernel
theorem dX12_termOf_65 : decode cX12_termOf 65 = .ok (.iinc 3 (-1), 3) := by decide +kernel
theorem dX12_termOf_68 : decode cX12_termOf 68 = .ok (.aload_n 0, 1) := by decide +kernel
theorem dX12_termOf_69 : decode cX12_termOf 69 = .ok (.getfield 113, 3) := by decide +kernel
theorem dX12_termOf_72 : decode cX12_termOf 72 = .ok (.iload_n 3, 1) := by decide +kernel
theorem dX12_termOf_73 : decode cX12_termOf 73 = .ok (.iconst 1, 1) := by decide +kernel
theorem dX12_termOf_74 : decode cX12_termOf 74 = .ok (.isub, 1) := by decide +kernel
theorem dX12_termOf_75 : decode cX12_termOf 75 = .ok (.iaload, 1) := by decide +kernel
theorem dX12_termOf_76 : decode cX12_termOf 76 = .ok (.istore 6, 2) := by decide +kernel
theorem dX12_termOf_78 : decode cX12_termOf 78 = .ok (.aload_n 0, 1) := by decide +kernel
theorem dX12_termOf_79 : decode cX12_termOf 79 = .ok (.getfield 113, 3) := by decide +kernel
theorem dX12_termOf_82 : decode cX12_termOf 82 = .ok (.iload_n 3, 1) := by decide +kernel
theorem dX12_termOf_83 : decode cX12_termOf 83 = .ok (.iaload, 1) := by decide +kernel
theorem dX12_termOf_84 : decode cX12_termOf 84 = .ok (.istore 7, 2) := by decide +kernel
theorem dX12_termOf_86 : decode cX12_termOf 86 = .ok (.iload 5, 2) := by decide +kernel
theorem dX12_termOf_88 : decode cX12_termOf 88 = .ok (.iconst 5, 1) := by decide +kernel
theorem dX12_termOf_89 : decode cX12_termOf 89 = .ok (.if_icmp .ne 15, 3) := by decide +kernel
theorem dX12_termOf_92 : decode cX12_termOf 92 = .ok (.iload 7, 2) := by decide +kernel
theorem dX12_termOf_94 : decode cX12_termOf 94 = .ok (.ifCond .ne 10, 3) := by decide +kernel
theorem dX12_termOf_97 : decode cX12_termOf 97 = .ok (.aload_n 0, 1) := by decide +kernel
theorem dX12_termOf_98 : decode cX12_termOf 98 = .ok (.iconst 1, 1) := by decide +kernel
theorem dX12_termOf_99 : decode cX12_termOf 99 = .ok (.putfield 319, 3) := by decide +kernel
theorem dX12_termOf_102 : decode cX12_termOf 102 = .ok (.iconst 0, 1) := by decide +kernel
theorem dX12_termOf_103 : decode cX12_termOf 103 = .ok (.ireturn, 1) := by decide +kernel
theorem dX12_termOf_104 : decode cX12_termOf 104 = .ok (.aload_n 0, 1) := by decide +kernel
theorem dX12_termOf_105 : decode cX12_termOf 105 = .ok (.getfield 113, 3) := by decide +kernel
theorem dX12_termOf_108 : decode cX12_termOf 108 = .ok (.iload_n 3, 1) := by decide +kernel
theorem dX12_termOf_109 : decode cX12_termOf 109 = .ok (.iconst 1, 1) := by decide +kernel
theorem dX12_termOf_110 : decode cX12_termOf 110 = .ok (.isub, 1) := by decide +kernel
theorem dX12_termOf_111 : decode cX12_termOf 111 = .ok (.iload 5, 2) := by decide +kernel
theorem dX12_termOf_113 : decode cX12_termOf 113 = .ok (.iconst 2, 1) := by decide +kernel
theorem dX12_termOf_114 : decode cX12_termOf 114 = .ok (.if_icmp .ne 11, 3) := by decide +kernel
theorem dX12_termOf_117 : decode cX12_termOf 117 = .ok (.iload 6, 2) := by decide +kernel
theorem dX12_termOf_119 : decode cX12_termOf 119 = .ok (.iload 7, 2) := by decide +kernel
theorem dX12_termOf_121 : decode cX12_termOf 121 = .ok (.iadd, 1) := by decide +kernel
theorem dX12_termOf_122 : decode cX12_termOf 122 = .ok (.goto 36, 3) := by decide +kernel
theorem dX12_termOf_125 : decode cX12_termOf 125 = .ok (.iload 5, 2) := by decide +kernel
theorem dX12_termOf_127 : decode cX12_termOf 127 = .ok (.iconst 3, 1) := by decide +kernel
theorem dX12_termOf_128 : decode cX12_termOf 128 = .ok (.if_icmp .ne 11, 3) := by decide +kernel
theorem dX12_termOf_131 : decode cX12_termOf 131 = .ok (.iload 6, 2) := by decide +kernel
theorem dX12_termOf_133 : decode cX12_termOf 133 = .ok (.iload 7, 2) := by decide +kernel
theorem dX12_termOf_135 : decode cX12_termOf 135 = .ok (.isub, 1) := by decide +kernel
theorem dX12_termOf_136 : decode cX12_termOf 136 = .ok (.goto 22, 3) := by decide +kernel
theorem dX12_termOf_139 : decode cX12_termOf 139 = .ok (.iload 5, 2) := by decide +kernel
theorem dX12_termOf_141 : decode cX12_termOf 141 = .ok (.iconst 4, 1) := by decide +kernel
theorem dX12_termOf_142 : decode cX12_termOf 142 = .ok (.if_icmp .ne 11, 3) := by decide +kernel
theorem dX12_termOf_145 : decode cX12_termOf 145 = .ok (.iload 6, 2) := by decide +kernel
theorem dX12_termOf_147 : decode cX12_termOf 147 = .ok (.iload 7, 2) := by decide +kernel
theorem dX12_termOf_149 : decode cX12_termOf 149 = .ok (.imul, 1) := by decide +kernel
theorem dX12_termOf_150 : decode cX12_termOf 150 = .ok (.goto 8, 3) := by decide +kernel
theorem dX12_termOf_153 : decode cX12_termOf 153 = .ok (.iload 6, 2) := by decide +kernel
theorem dX12_termOf_155 : decode cX12_termOf 155 = .ok (.iload 7, 2) := by decide +kernel
theorem dX12_termOf_157 : decode cX12_termOf 157 = .ok (.idiv, 1) := by decide +kernel
theorem dX12_termOf_158 : decode cX12_termOf 158 = .ok (.iastore, 1) := by decide +kernel
theorem dX12_termOf_159 : decode cX12_termOf 159 = .ok (.iinc 4 1, 3) := by decide +kernel
theorem dX12_termOf_162 : decode cX12_termOf 162 = .ok (.goto (-157), 3) := by decide +kernel
theorem dX12_termOf_165 : decode cX12_termOf 165 = .ok (.aload_n 0, 1) := by decide +kernel
theorem dX12_termOf_166 : decode cX12_termOf 166 = .ok (.getfield 113, 3) := by decide +kernel
theorem dX12_termOf_169 : decode cX12_termOf 169 = .ok (.iconst 0, 1) := by decide +kernel
theorem dX12_termOf_170 : decode cX12_termOf 170 = .ok (.iaload, 1) := by decide +kernel
theorem dX12_termOf_171 : decode cX12_termOf 171 = .ok (.ireturn, 1) := by decide +kernel
theorem dX12_token_0 : decode cX12_token 0 = .ok (.aload_n 0, 1) := by decide +kernel
theorem dX12_token_1 : decode cX12_token 1 = .ok (.getfield 20, 3) := by decide +kernel
theorem dX12_token_4 : decode cX12_token 4 = .ok (.aload_n 0, 1) := by decide +kernel
theorem dX12_token_5 : decode cX12_token 5 = .ok (.getfield 170, 3) := by decide +kernel
theorem dX12_token_8 : decode cX12_token 8 = .ok (.iload_n 1, 1) := by decide +kernel
theorem dX12_token_9 : decode cX12_token 9 = .ok (.iastore, 1) := by decide +kernel
theorem dX12_token_10 : decode cX12_token 10 = .ok (.aload_n 0, 1) := by decide +kernel
theorem dX12_token_11 : decode cX12_token 11 = .ok (.getfield 24, 3) := by decide +kernel
theorem dX12_token_14 : decode cX12_token 14 = .ok (.aload_n 0, 1) := by decide +kernel
theorem dX12_token_15 : decode cX12_token 15 = .ok (.getfield 170, 3) := by decide +kernel
theorem dX12_token_18 : decode cX12_token 18 = .ok (.iload_n 2, 1) := by decide +kernel
theorem dX12_token_19 : decode cX12_token 19 = .ok (.iastore, 1) := by decide +kernel
theorem dX12_token_20 : decode cX12_token 20 = .ok (.aload_n 0, 1) := by decide +kernel
theorem dX12_token_21 : decode cX12_token 21 = .ok (.getfield 27, 3) := by decide +kernel
theorem dX12_token_24 : decode cX12_token 24 = .ok (.aload_n 0, 1) := by decide +kernel
theorem dX12_token_25 : decode cX12_token 25 = .ok (.getfield 170, 3) := by decide +kernel
theorem dX12_token_28 : decode cX12_token 28 = .ok (.iload_n 3, 1) := by decide +kernel
theorem dX12_token_29 : decode cX12_token 29 = .ok (.iastore, 1) := by decide +kernel
theorem dX12_token_30 : decode cX12_token 30 = .ok (.aload_n 0, 1) := by decide +kernel
theorem dX12_token_31 : decode cX12_token 31 = .ok (.getfield 30, 3) := by decide +kernel
theorem dX12_token_34 : decode cX12_token 34 = .ok (.aload_n 0, 1) := by decide +kernel
theorem dX12_token_35 : decode cX12_token 35 = .ok (.getfield 170, 3) := by decide +kernel
theorem dX12_token_38 : decode cX12_token 38 = .ok (.lload 4, 2) := by decide +kernel
theorem dX12_token_40 : decode cX12_token 40 = .ok (.lastore, 1) := by decide +kernel
theorem dX12_token_41 : decode cX12_token 41 = .ok (.aload_n 0, 1) := by decide +kernel
theorem dX12_token_42 : decode cX12_token 42 = .ok (.dup, 1) := by decide +kernel
theorem dX12_token_43 : decode cX12_token 43 = .ok (.getfield 170, 3) := by decide +kernel
theorem dX12_token_46 : decode cX12_token 46 = .ok (.iconst 1, 1) := by decide +kernel
theorem dX12_token_47 : decode cX12_token 47 = .ok (.iadd, 1) := by decide +kernel
theorem dX12_token_48 : decode cX12_token 48 = .ok (.putfield 170, 3) := by decide +kernel
theorem dX12_token_51 : decode cX12_token 51 = .ok (.return_, 1) := by decide +kernel
theorem dX12_undo_0 : decode cX12_undo 0 = .ok (.aload_n 0, 1) := by decide +kernel
theorem dX12_undo_1 : decode cX12_undo 1 = .ok (.getfield 240, 3) := by decide +kernel
theorem dX12_undo_4 : decode cX12_undo 4 = .ok (.ifCond .ne 5, 3) := by decide +kernel
theorem dX12_undo_7 : decode cX12_undo 7 = .ok (.iconst 0, 1) := by decide +kernel
theorem dX12_undo_8 : decode cX12_undo 8 = .ok (.ireturn, 1) := by decide +kernel
theorem dX12_undo_9 : decode cX12_undo 9 = .ok (.aload_n 0, 1) := by decide +kernel
theorem dX12_undo_10 : decode cX12_undo 10 = .ok (.dup, 1) := by decide +kernel
theorem dX12_undo_11 : decode cX12_undo 11 = .ok (.getfield 240, 3) := by decide +kernel
theorem dX12_undo_14 : decode cX12_undo 14 = .ok (.iconst 1, 1) := by decide +kernel
theorem dX12_undo_15 : decode cX12_undo 15 = .ok (.isub, 1) := by decide +kernel
theorem dX12_undo_16 : decode cX12_undo 16 = .ok (.putfield 240, 3) := by decide +kernel
theorem dX12_undo_19 : decode cX12_undo 19 = .ok (.iconst 0, 1) := by decide +kernel
theorem dX12_undo_20 : decode cX12_undo 20 = .ok (.istore_n 1, 1) := by decide +kernel
theorem dX12_undo_21 : decode cX12_undo 21 = .ok (.iload_n 1, 1) := by decide +kernel
theorem dX12_undo_22 : decode cX12_undo 22 = .ok (.bipush 40, 2) := by decide +kernel
theorem dX12_undo_24 : decode cX12_undo 24 = .ok (.if_icmp .ge 29, 3) := by decide +kernel
theorem dX12_undo_27 : decode cX12_undo 27 = .ok (.aload_n 0, 1) := by decide +kernel
theorem dX12_undo_28 : decode cX12_undo 28 = .ok (.getfield 116, 3) := by decide +kernel
theorem dX12_undo_31 : decode cX12_undo 31 = .ok (.iload_n 1, 1) := by decide +kernel
theorem dX12_undo_32 : decode cX12_undo 32 = .ok (.aload_n 0, 1) := by decide +kernel
theorem dX12_undo_33 : decode cX12_undo 33 = .ok (.getfield 122, 3) := by decide +kernel
theorem dX12_undo_36 : decode cX12_undo 36 = .ok (.bipush 40, 2) := by decide +kernel
theorem dX12_undo_38 : decode cX12_undo 38 = .ok (.aload_n 0, 1) := by decide +kernel
theorem dX12_undo_39 : decode cX12_undo 39 = .ok (.getfield 240, 3) := by decide +kernel
theorem dX12_undo_42 : decode cX12_undo 42 = .ok (.imul, 1) := by decide +kernel
theorem dX12_undo_43 : decode cX12_undo 43 = .ok (.iload_n 1, 1) := by decide +kernel
theorem dX12_undo_44 : decode cX12_undo 44 = .ok (.iadd, 1) := by decide +kernel
theorem dX12_undo_45 : decode cX12_undo 45 = .ok (.iaload, 1) := by decide +kernel
theorem dX12_undo_46 : decode cX12_undo 46 = .ok (.iastore, 1) := by decide +kernel
theorem dX12_undo_47 : decode cX12_undo 47 = .ok (.iinc 1 1, 3) := by decide +kernel
theorem dX12_undo_50 : decode cX12_undo 50 = .ok (.goto (-29), 3) := by decide +kernel
theorem dX12_undo_53 : decode cX12_undo 53 = .ok (.iconst 1, 1) := by decide +kernel
theorem dX12_undo_54 : decode cX12_undo 54 = .ok (.ireturn, 1) := by decide +kernel
theorem dX12_unit_0 : decode cX12_unit 0 = .ok (.aload_n 0, 1) := by decide +kernel
theorem dX12_unit_1 : decode cX12_unit 1 = .ok (.iconst 2, 1) := by decide +kernel
theorem dX12_unit_2 : decode cX12_unit 2 = .ok (.invokevirtual 210, 3) := by decide +kernel
theorem dX12_unit_5 : decode cX12_unit 5 = .ok (.ifCond .eq 24, 3) := by decide +kernel
theorem dX12_unit_8 : decode cX12_unit 8 = .ok (.aload_n 0, 1) := by decide +kernel
theorem dX12_unit_9 : decode cX12_unit 9 = .ok (.iconst 0, 1) := by decide +kernel
theorem dX12_unit_10 : decode cX12_unit 10 = .ok (.aload_n 0, 1) := by decide +kernel
theorem dX12_unit_11 : decode cX12_unit 11 = .ok (.getfield 27, 3) := by decide +kernel
theorem dX12_unit_14 : decode cX12_unit 14 = .ok (.aload_n 0, 1) := by decide +kernel
theorem dX12_unit_15 : decode cX12_unit 15 = .ok (.getfield 195, 3) := by decide +kernel
theorem dX12_unit_18 : decode cX12_unit 18 = .ok (.iaload, 1) := by decide +kernel
theorem dX12_unit_19 : decode cX12_unit 19 = .ok (.invokevirtual 309, 3) := by decide +kernel
theorem dX12_unit_22 : decode cX12_unit 22 = .ok (.aload_n 0, 1) := by decide +kernel
theorem dX12_unit_23 : decode cX12_unit 23 = .ok (.invokevirtual 213, 3) := by decide +kernel
theorem dX12_unit_26 : decode cX12_unit 26 = .ok (.goto 89, 3) := by decide +kernel
theorem dX12_unit_29 : decode cX12_unit 29 = .ok (.aload_n 0, 1) := by decide +kernel
theorem dX12_unit_30 : decode cX12_unit 30 = .ok (.getfield 192, 3) := by decide +kernel
theorem dX12_unit_33 : decode cX12_unit 33 = .ok (.ifCond .ne 77, 3) := by decide +kernel
theorem dX12_unit_36 : decode cX12_unit 36 = .ok (.aload_n 0, 1) := by decide +kernel
theorem dX12_unit_37 : decode cX12_unit 37 = .ok (.getfield 20, 3) := by decide +kernel
theorem dX12_unit_40 : decode cX12_unit 40 = .ok (.aload_n 0, 1) := by decide +kernel
theorem dX12_unit_41 : decode cX12_unit 41 = .ok (.getfield 195, 3) := by decide +kernel
theorem dX12_unit_44 : decode cX12_unit 44 = .ok (.iaload, 1) := by decide +kernel
theorem dX12_unit_45 : decode cX12_unit 45 = .ok (.bipush 34, 2) := by decide +kernel
theorem dX12_unit_47 : decode cX12_unit 47 = .ok (.if_icmp .lt 17, 3) := by decide +kernel
theorem dX12_unit_50 : decode cX12_unit 50 = .ok (.aload_n 0, 1) := by decide +kernel
theorem dX12_unit_51 : decode cX12_unit 51 = .ok (.getfield 20, 3) := by decide +kernel
theorem dX12_unit_54 : decode cX12_unit 54 = .ok (.aload_n 0, 1) := by decide +kernel
theorem dX12_unit_55 : decode cX12_unit 55 = .ok (.getfield 195, 3) := by decide +kernel
theorem dX12_unit_58 : decode cX12_unit 58 = .ok (.iaload, 1) := by decide +kernel
theorem dX12_unit_59 : decode cX12_unit 59 = .ok (.bipush 37, 2) := by decide +kernel
theorem dX12_unit_61 : decode cX12_unit 61 = .ok (.if_icmp .le 12, 3) := by decide +kernel
theorem dX12_unit_64 : decode cX12_unit 64 = .ok (.aload_n 0, 1) := by decide +kernel
theorem dX12_unit_65 : decode cX12_unit 65 = .ok (.bipush 23, 2) := by decide +kernel
theorem dX12_unit_67 : decode cX12_unit 67 = .ok (.invokevirtual 210, 3) := by decide +kernel
theorem dX12_unit_70 : decode cX12_unit 70 = .ok (.ifCond .eq 40, 3) := by decide +kernel
theorem dX12_unit_73 : decode cX12_unit 73 = .ok (.aload_n 0, 1) := by decide +kernel
theorem dX12_unit_74 : decode cX12_unit 74 = .ok (.iconst 1, 1) := by decide +kernel
theorem dX12_unit_75 : decode cX12_unit 75 = .ok (.aload_n 0, 1) := by decide +kernel
theorem dX12_unit_76 : decode cX12_unit 76 = .ok (.bipush 23, 2) := by decide +kernel
theorem dX12_unit_78 : decode cX12_unit 78 = .ok (.invokevirtual 210, 3) := by decide +kernel
theorem dX12_unit_81 : decode cX12_unit 81 = .ok (.ifCond .eq 7, 3) := by decide +kernel
theorem dX12_unit_84 : decode cX12_unit 84 = .ok (.iconst 4, 1) := by decide +kernel
theorem dX12_unit_85 : decode cX12_unit 85 = .ok (.goto 15, 3) := by decide +kernel
theorem dX12_unit_88 : decode cX12_unit 88 = .ok (.aload_n 0, 1) := by decide +kernel
theorem dX12_unit_89 : decode cX12_unit 89 = .ok (.getfield 20, 3) := by decide +kernel
theorem dX12_unit_92 : decode cX12_unit 92 = .ok (.aload_n 0, 1) := by decide +kernel
theorem dX12_unit_93 : decode cX12_unit 93 = .ok (.getfield 195, 3) := by decide +kernel
theorem dX12_unit_96 : decode cX12_unit 96 = .ok (.iaload, 1) := by decide +kernel
theorem dX12_unit_97 : decode cX12_unit 97 = .ok (.bipush 34, 2) := by decide +kernel
theorem dX12_unit_99 : decode cX12_unit 99 = .ok (.isub, 1) := by decide +kernel
theorem dX12_unit_100 : decode cX12_unit 100 = .ok (.invokevirtual 309, 3) := by decide +kernel
theorem dX12_unit_103 : decode cX12_unit 103 = .ok (.aload_n 0, 1) := by decide +kernel
theorem dX12_unit_104 : decode cX12_unit 104 = .ok (.invokevirtual 213, 3) := by decide +kernel
theorem dX12_unit_107 : decode cX12_unit 107 = .ok (.goto 8, 3) := by decide +kernel
theorem dX12_unit_110 : decode cX12_unit 110 = .ok (.aload_n 0, 1) := by decide +kernel
theorem dX12_unit_111 : decode cX12_unit 111 = .ok (.iconst 1, 1) := by decide +kernel
theorem dX12_unit_112 : decode cX12_unit 112 = .ok (.invokevirtual 207, 3) := by decide +kernel
theorem dX12_unit_115 : decode cX12_unit 115 = .ok (.return_, 1) := by decide +kernel
theorem dX12_verdictOf_0 : decode cX12_verdictOf 0 = .ok (.aload_n 0, 1) := by decide +kernel
theorem dX12_verdictOf_1 : decode cX12_verdictOf 1 = .ok (.aload_n 0, 1) := by decide +kernel
theorem dX12_verdictOf_2 : decode cX12_verdictOf 2 = .ok (.getfield 119, 3) := by decide +kernel
theorem dX12_verdictOf_5 : decode cX12_verdictOf 5 = .ok (.iconst 3, 1) := by decide +kernel
theorem dX12_verdictOf_6 : decode cX12_verdictOf 6 = .ok (.iaload, 1) := by decide +kernel
theorem dX12_verdictOf_7 : decode cX12_verdictOf 7 = .ok (.invokevirtual 330, 3) := by decide +kernel
theorem dX12_verdictOf_10 : decode cX12_verdictOf 10 = .ok (.lstore_n 2, 1) := by decide +kernel
theorem dX12_verdictOf_11 : decode cX12_verdictOf 11 = .ok (.iconst 0, 1) := by decide +kernel
theorem dX12_verdictOf_12 : decode cX12_verdictOf 12 = .ok (.istore 4, 2) := by decide +kernel
theorem dX12_verdictOf_14 : decode cX12_verdictOf 14 = .ok (.iload 4, 2) := by decide +kernel
theorem dX12_verdictOf_16 : decode cX12_verdictOf 16 = .ok (.aload_n 0, 1) := by decide +kernel
theorem dX12_verdictOf_17 : decode cX12_verdictOf 17 = .ok (.getfield 61, 3) := by decide +kernel
theorem dX12_verdictOf_20 : decode cX12_verdictOf 20 = .ok (.aload_n 0, 1) := by decide +kernel
theorem dX12_verdictOf_21 : decode cX12_verdictOf 21 = .ok (.getfield 222, 3) := by decide +kernel
theorem dX12_verdictOf_24 : decode cX12_verdictOf 24 = .ok (.iaload, 1) := by decide +kernel
theorem dX12_verdictOf_25 : decode cX12_verdictOf 25 = .ok (.if_icmp .ge 41, 3) := by decide +kernel
theorem dX12_verdictOf_28 : decode cX12_verdictOf 28 = .ok (.aload_n 0, 1) := by decide +kernel
theorem dX12_verdictOf_29 : decode cX12_verdictOf 29 = .ok (.getfield 119, 3) := by decide +kernel
theorem dX12_verdictOf_32 : decode cX12_verdictOf 32 = .ok (.iconst 1, 1) := by decide +kernel
theorem dX12_verdictOf_33 : decode cX12_verdictOf 33 = .ok (.iaload, 1) := by decide +kernel
theorem dX12_verdictOf_34 : decode cX12_verdictOf 34 = .ok (.aload_n 0, 1) := by decide +kernel
theorem dX12_verdictOf_35 : decode cX12_verdictOf 35 = .ok (.getfield 119, 3) := by decide +kernel
theorem dX12_verdictOf_38 : decode cX12_verdictOf 38 = .ok (.iconst 2, 1) := by decide +kernel
theorem dX12_verdictOf_39 : decode cX12_verdictOf 39 = .ok (.iaload, 1) := by decide +kernel
theorem dX12_verdictOf_40 : decode cX12_verdictOf 40 = .ok (.iconst (-1), 1) := by decide +kernel
theorem dX12_verdictOf_41 : decode cX12_verdictOf 41 = .ok (.ixor, 1) := by decide +kernel
theorem dX12_verdictOf_42 : decode cX12_verdictOf 42 = .ok (.iand, 1) := by decide +kernel
theorem dX12_verdictOf_43 : decode cX12_verdictOf 43 = .ok (.iconst 1, 1) := by decide +kernel
theorem dX12_verdictOf_44 : decode cX12_verdictOf 44 = .ok (.iload 4, 2) := by decide +kernel
theorem dX12_verdictOf_46 : decode cX12_verdictOf 46 = .ok (.ishl, 1) := by decide +kernel
theorem dX12_verdictOf_47 : decode cX12_verdictOf 47 = .ok (.iand, 1) := by decide +kernel
theorem dX12_verdictOf_48 : decode cX12_verdictOf 48 = .ok (.ifCond .eq 12, 3) := by decide +kernel
theorem dX12_verdictOf_51 : decode cX12_verdictOf 51 = .ok (.lload_n 2, 1) := by decide +kernel
theorem dX12_verdictOf_52 : decode cX12_verdictOf 52 = .ok (.aload_n 0, 1) := by decide +kernel
theorem dX12_verdictOf_53 : decode cX12_verdictOf 53 = .ok (.iload 4, 2) := by decide +kernel
theorem dX12_verdictOf_55 : decode cX12_verdictOf 55 = .ok (.invokevirtual 327, 3) := by decide +kernel
theorem dX12_verdictOf_58 : decode cX12_verdictOf 58 = .ok (.land, 1) := by decide +kernel
theorem dX12_verdictOf_59 : decode cX12_verdictOf 59 = .ok (.lstore_n 2, 1) := by decide +kernel
theorem dX12_verdictOf_60 : decode cX12_verdictOf 60 = .ok (.iinc 4 1, 3) := by decide +kernel
theorem dX12_verdictOf_63 : decode cX12_verdictOf 63 = .ok (.goto (-49), 3) := by decide +kernel
theorem dX12_verdictOf_66 : decode cX12_verdictOf 66 = .ok (.lload_n 2, 1) := by decide +kernel
theorem dX12_verdictOf_67 : decode cX12_verdictOf 67 = .ok (.lconst 0, 1) := by decide +kernel
theorem dX12_verdictOf_68 : decode cX12_verdictOf 68 = .ok (.lcmp, 1) := by decide +kernel
theorem dX12_verdictOf_69 : decode cX12_verdictOf 69 = .ok (.ifCond .ne 5, 3) := by decide +kernel
theorem dX12_verdictOf_72 : decode cX12_verdictOf 72 = .ok (.iconst 3, 1) := by decide +kernel
theorem dX12_verdictOf_73 : decode cX12_verdictOf 73 = .ok (.ireturn, 1) := by decide +kernel
theorem dX12_verdictOf_74 : decode cX12_verdictOf 74 = .ok (.lload_n 2, 1) := by decide +kernel
theorem dX12_verdictOf_75 : decode cX12_verdictOf 75 = .ok (.aload_n 0, 1) := by decide +kernel
theorem dX12_verdictOf_76 : decode cX12_verdictOf 76 = .ok (.getfield 80, 3) := by decide +kernel
theorem dX12_verdictOf_79 : decode cX12_verdictOf 79 = .ok (.bipush 8, 2) := by decide +kernel
theorem dX12_verdictOf_81 : decode cX12_verdictOf 81 = .ok (.aload_n 0, 1) := by decide +kernel
theorem dX12_verdictOf_82 : decode cX12_verdictOf 82 = .ok (.getfield 222, 3) := by decide +kernel
theorem dX12_verdictOf_85 : decode cX12_verdictOf 85 = .ok (.imul, 1) := by decide +kernel
theorem dX12_verdictOf_86 : decode cX12_verdictOf 86 = .ok (.iload_n 1, 1) := by decide +kernel
theorem dX12_verdictOf_87 : decode cX12_verdictOf 87 = .ok (.iadd, 1) := by decide +kernel
theorem dX12_verdictOf_88 : decode cX12_verdictOf 88 = .ok (.laload, 1) := by decide +kernel
theorem dX12_verdictOf_89 : decode cX12_verdictOf 89 = .ok (.land, 1) := by decide +kernel
theorem dX12_verdictOf_90 : decode cX12_verdictOf 90 = .ok (.lstore 4, 2) := by decide +kernel
theorem dX12_verdictOf_92 : decode cX12_verdictOf 92 = .ok (.lload 4, 2) := by decide +kernel
theorem dX12_verdictOf_94 : decode cX12_verdictOf 94 = .ok (.lload_n 2, 1) := by decide +kernel
theorem dX12_verdictOf_95 : decode cX12_verdictOf 95 = .ok (.lcmp, 1) := by decide +kernel
theorem dX12_verdictOf_96 : decode cX12_verdictOf 96 = .ok (.ifCond .ne 7, 3) := by decide +kernel
theorem dX12_verdictOf_99 : decode cX12_verdictOf 99 = .ok (.iconst 1, 1) := by decide +kernel
theorem dX12_verdictOf_100 : decode cX12_verdictOf 100 = .ok (.goto 15, 3) := by decide +kernel
theorem dX12_verdictOf_103 : decode cX12_verdictOf 103 = .ok (.lload 4, 2) := by decide +kernel
theorem dX12_verdictOf_105 : decode cX12_verdictOf 105 = .ok (.lconst 0, 1) := by decide +kernel
theorem dX12_verdictOf_106 : decode cX12_verdictOf 106 = .ok (.lcmp, 1) := by decide +kernel
theorem dX12_verdictOf_107 : decode cX12_verdictOf 107 = .ok (.ifCond .ne 7, 3) := by decide +kernel
theorem dX12_verdictOf_110 : decode cX12_verdictOf 110 = .ok (.iconst 0, 1) := by decide +kernel
theorem dX12_verdictOf_111 : decode cX12_verdictOf 111 = .ok (.goto 4, 3) := by decide +kernel
theorem dX12_verdictOf_114 : decode cX12_verdictOf 114 = .ok (.iconst 2, 1) := by decide +kernel
theorem dX12_verdictOf_115 : decode cX12_verdictOf 115 = .ok (.ireturn, 1) := by decide +kernel
theorem dX12_witness_0 : decode cX12_witness 0 = .ok (.aload_n 0, 1) := by decide +kernel
theorem dX12_witness_1 : decode cX12_witness 1 = .ok (.iload_n 1, 1) := by decide +kernel
theorem dX12_witness_2 : decode cX12_witness 2 = .ok (.invokevirtual 381, 3) := by decide +kernel
theorem dX12_witness_5 : decode cX12_witness 5 = .ok (.ifCond .ne 5, 3) := by decide +kernel
theorem dX12_witness_8 : decode cX12_witness 8 = .ok (.iconst (-1), 1) := by decide +kernel
theorem dX12_witness_9 : decode cX12_witness 9 = .ok (.ireturn, 1) := by decide +kernel
theorem dX12_witness_10 : decode cX12_witness 10 = .ok (.aload_n 0, 1) := by decide +kernel
theorem dX12_witness_11 : decode cX12_witness 11 = .ok (.invokevirtual 384, 3) := by decide +kernel
theorem dX12_witness_14 : decode cX12_witness 14 = .ok (.iload_n 2, 1) := by decide +kernel
theorem dX12_witness_15 : decode cX12_witness 15 = .ok (.tableswitch 84 0 3 #[29, 45, 61, 70], 29) := by decide +kernel
theorem dX12_witness_44 : decode cX12_witness 44 = .ok (.aload_n 0, 1) := by decide +kernel
theorem dX12_witness_45 : decode cX12_witness 45 = .ok (.getfield 119, 3) := by decide +kernel
theorem dX12_witness_48 : decode cX12_witness 48 = .ok (.iconst 1, 1) := by decide +kernel
theorem dX12_witness_49 : decode cX12_witness 49 = .ok (.iaload, 1) := by decide +kernel
theorem dX12_witness_50 : decode cX12_witness 50 = .ok (.aload_n 0, 1) := by decide +kernel
theorem dX12_witness_51 : decode cX12_witness 51 = .ok (.iload_n 1, 1) := by decide +kernel
theorem dX12_witness_52 : decode cX12_witness 52 = .ok (.invokevirtual 343, 3) := by decide +kernel
theorem dX12_witness_55 : decode cX12_witness 55 = .ok (.iand, 1) := by decide +kernel
theorem dX12_witness_56 : decode cX12_witness 56 = .ok (.invokestatic 346, 3) := by decide +kernel
theorem dX12_witness_59 : decode cX12_witness 59 = .ok (.ireturn, 1) := by decide +kernel
theorem dX12_witness_60 : decode cX12_witness 60 = .ok (.aload_n 0, 1) := by decide +kernel
theorem dX12_witness_61 : decode cX12_witness 61 = .ok (.getfield 119, 3) := by decide +kernel
theorem dX12_witness_64 : decode cX12_witness 64 = .ok (.iconst 2, 1) := by decide +kernel
theorem dX12_witness_65 : decode cX12_witness 65 = .ok (.iaload, 1) := by decide +kernel
theorem dX12_witness_66 : decode cX12_witness 66 = .ok (.aload_n 0, 1) := by decide +kernel
theorem dX12_witness_67 : decode cX12_witness 67 = .ok (.iload_n 1, 1) := by decide +kernel
theorem dX12_witness_68 : decode cX12_witness 68 = .ok (.invokevirtual 343, 3) := by decide +kernel
theorem dX12_witness_71 : decode cX12_witness 71 = .ok (.iand, 1) := by decide +kernel
theorem dX12_witness_72 : decode cX12_witness 72 = .ok (.invokestatic 346, 3) := by decide +kernel
theorem dX12_witness_75 : decode cX12_witness 75 = .ok (.ireturn, 1) := by decide +kernel
theorem dX12_witness_76 : decode cX12_witness 76 = .ok (.aload_n 0, 1) := by decide +kernel
theorem dX12_witness_77 : decode cX12_witness 77 = .ok (.iload_n 1, 1) := by decide +kernel
theorem dX12_witness_78 : decode cX12_witness 78 = .ok (.invokevirtual 343, 3) := by decide +kernel
theorem dX12_witness_81 : decode cX12_witness 81 = .ok (.invokestatic 346, 3) := by decide +kernel
theorem dX12_witness_84 : decode cX12_witness 84 = .ok (.ireturn, 1) := by decide +kernel
theorem dX12_witness_85 : decode cX12_witness 85 = .ok (.aload_n 0, 1) := by decide +kernel
theorem dX12_witness_86 : decode cX12_witness 86 = .ok (.iload_n 1, 1) := by decide +kernel
theorem dX12_witness_87 : decode cX12_witness 87 = .ok (.invokevirtual 355, 3) := by decide +kernel
theorem dX12_witness_90 : decode cX12_witness 90 = .ok (.ifCond .eq 7, 3) := by decide +kernel
theorem dX12_witness_93 : decode cX12_witness 93 = .ok (.iconst 1, 1) := by decide +kernel
theorem dX12_witness_94 : decode cX12_witness 94 = .ok (.goto 4, 3) := by decide +kernel
theorem dX12_witness_97 : decode cX12_witness 97 = .ok (.iconst 0, 1) := by decide +kernel
theorem dX12_witness_98 : decode cX12_witness 98 = .ok (.ireturn, 1) := by decide +kernel
theorem dX12_witness_99 : decode cX12_witness 99 = .ok (.iconst (-1), 1) := by decide +kernel
theorem dX12_witness_100 : decode cX12_witness 100 = .ok (.ireturn, 1) := by decide +kernel
theorem dX12_word_0 : decode cX12_word 0 = .ok (.lconst 0, 1) := by decide +kernel
theorem dX12_word_1 : decode cX12_word 1 = .ok (.iload_n 0, 1) := by decide +kernel
theorem dX12_word_2 : decode cX12_word 2 = .ok (.invokestatic 166, 3) := by decide +kernel
theorem dX12_word_5 : decode cX12_word 5 = .ok (.iload_n 1, 1) := by decide +kernel
theorem dX12_word_6 : decode cX12_word 6 = .ok (.invokestatic 166, 3) := by decide +kernel
theorem dX12_word_9 : decode cX12_word 9 = .ok (.iload_n 2, 1) := by decide +kernel
theorem dX12_word_10 : decode cX12_word 10 = .ok (.invokestatic 166, 3) := by decide +kernel
theorem dX12_word_13 : decode cX12_word 13 = .ok (.iload_n 3, 1) := by decide +kernel
theorem dX12_word_14 : decode cX12_word 14 = .ok (.invokestatic 166, 3) := by decide +kernel
theorem dX12_word_17 : decode cX12_word 17 = .ok (.iload 4, 2) := by decide +kernel
theorem dX12_word_19 : decode cX12_word 19 = .ok (.invokestatic 166, 3) := by decide +kernel
theorem dX12_word_22 : decode cX12_word 22 = .ok (.iload 5, 2) := by decide +kernel
theorem dX12_word_24 : decode cX12_word 24 = .ok (.invokestatic 166, 3) := by decide +kernel
theorem dX12_word_27 : decode cX12_word 27 = .ok (.iload 6, 2) := by decide +kernel
theorem dX12_word_29 : decode cX12_word 29 = .ok (.invokestatic 166, 3) := by decide +kernel
theorem dX12_word_32 : decode cX12_word 32 = .ok (.lreturn, 1) := by decide +kernel
theorem dX12_word__0 : decode cX12_word_ 0 = .ok (.aload_n 0, 1) := by decide +kernel
theorem dX12_word__1 : decode cX12_word_ 1 = .ok (.iload_n 1, 1) := by decide +kernel
theorem dX12_word__2 : decode cX12_word_ 2 = .ok (.invokevirtual 371, 3) := by decide +kernel
theorem dX12_word__5 : decode cX12_word_ 5 = .ok (.ifCond .ne 5, 3) := by decide +kernel
theorem dX12_word__8 : decode cX12_word_ 8 = .ok (.iconst (-1), 1) := by decide +kernel
theorem dX12_word__9 : decode cX12_word_ 9 = .ok (.ireturn, 1) := by decide +kernel
theorem dX12_word__10 : decode cX12_word_ 10 = .ok (.iload_n 2, 1) := by decide +kernel
theorem dX12_word__11 : decode cX12_word_ 11 = .ok (.tableswitch 125 0 5 #[37, 52, 75, 89, 100, 111], 37) := by decide +kernel
theorem dX12_word__48 : decode cX12_word_ 48 = .ok (.aload_n 0, 1) := by decide +kernel
theorem dX12_word__49 : decode cX12_word_ 49 = .ok (.getfield 64, 3) := by decide +kernel
theorem dX12_word__52 : decode cX12_word_ 52 = .ok (.bipush 16, 2) := by decide +kernel
theorem dX12_word__54 : decode cX12_word_ 54 = .ok (.aload_n 0, 1) := by decide +kernel
theorem dX12_word__55 : decode cX12_word_ 55 = .ok (.getfield 222, 3) := by decide +kernel
theorem dX12_word__58 : decode cX12_word_ 58 = .ok (.imul, 1) := by decide +kernel
theorem dX12_word__59 : decode cX12_word_ 59 = .ok (.iload_n 1, 1) := by decide +kernel
theorem dX12_word__60 : decode cX12_word_ 60 = .ok (.iadd, 1) := by decide +kernel
theorem dX12_word__61 : decode cX12_word_ 61 = .ok (.iaload, 1) := by decide +kernel
theorem dX12_word__62 : decode cX12_word_ 62 = .ok (.ireturn, 1) := by decide +kernel
theorem dX12_word__63 : decode cX12_word_ 63 = .ok (.aload_n 0, 1) := by decide +kernel
theorem dX12_word__64 : decode cX12_word_ 64 = .ok (.getfield 67, 3) := by decide +kernel
theorem dX12_word__67 : decode cX12_word_ 67 = .ok (.bipush 16, 2) := by decide +kernel
theorem dX12_word__69 : decode cX12_word_ 69 = .ok (.aload_n 0, 1) := by decide +kernel
theorem dX12_word__70 : decode cX12_word_ 70 = .ok (.getfield 222, 3) := by decide +kernel
theorem dX12_word__73 : decode cX12_word_ 73 = .ok (.imul, 1) := by decide +kernel
theorem dX12_word__74 : decode cX12_word_ 74 = .ok (.iload_n 1, 1) := by decide +kernel
theorem dX12_word__75 : decode cX12_word_ 75 = .ok (.iadd, 1) := by decide +kernel
theorem dX12_word__76 : decode cX12_word_ 76 = .ok (.baload, 1) := by decide +kernel
theorem dX12_word__77 : decode cX12_word_ 77 = .ok (.ifCond .eq 7, 3) := by decide +kernel
theorem dX12_word__80 : decode cX12_word_ 80 = .ok (.iconst 1, 1) := by decide +kernel
theorem dX12_word__81 : decode cX12_word_ 81 = .ok (.goto 4, 3) := by decide +kernel
theorem dX12_word__84 : decode cX12_word_ 84 = .ok (.iconst 0, 1) := by decide +kernel
theorem dX12_word__85 : decode cX12_word_ 85 = .ok (.ireturn, 1) := by decide +kernel
theorem dX12_word__86 : decode cX12_word_ 86 = .ok (.aload_n 0, 1) := by decide +kernel
theorem dX12_word__87 : decode cX12_word_ 87 = .ok (.iload_n 1, 1) := by decide +kernel
theorem dX12_word__88 : decode cX12_word_ 88 = .ok (.invokevirtual 358, 3) := by decide +kernel
theorem dX12_word__91 : decode cX12_word_ 91 = .ok (.ifCond .eq 7, 3) := by decide +kernel
theorem dX12_word__94 : decode cX12_word_ 94 = .ok (.iconst 1, 1) := by decide +kernel
theorem dX12_word__95 : decode cX12_word_ 95 = .ok (.goto 4, 3) := by decide +kernel
theorem dX12_word__98 : decode cX12_word_ 98 = .ok (.iconst 0, 1) := by decide +kernel
theorem dX12_word__99 : decode cX12_word_ 99 = .ok (.ireturn, 1) := by decide +kernel
theorem dX12_word__100 : decode cX12_word_ 100 = .ok (.aload_n 0, 1) := by decide +kernel
theorem dX12_word__101 : decode cX12_word_ 101 = .ok (.getfield 116, 3) := by decide +kernel
theorem dX12_word__104 : decode cX12_word_ 104 = .ok (.iconst 1, 1) := by decide +kernel
theorem dX12_word__105 : decode cX12_word_ 105 = .ok (.iaload, 1) := by decide +kernel
theorem dX12_word__106 : decode cX12_word_ 106 = .ok (.iload_n 1, 1) := by decide +kernel
theorem dX12_word__107 : decode cX12_word_ 107 = .ok (.ishr, 1) := by decide +kernel
theorem dX12_word__108 : decode cX12_word_ 108 = .ok (.iconst 1, 1) := by decide +kernel
theorem dX12_word__109 : decode cX12_word_ 109 = .ok (.iand, 1) := by decide +kernel
theorem dX12_word__110 : decode cX12_word_ 110 = .ok (.ireturn, 1) := by decide +kernel
theorem dX12_word__111 : decode cX12_word_ 111 = .ok (.aload_n 0, 1) := by decide +kernel
theorem dX12_word__112 : decode cX12_word_ 112 = .ok (.getfield 116, 3) := by decide +kernel
theorem dX12_word__115 : decode cX12_word_ 115 = .ok (.iconst 2, 1) := by decide +kernel
theorem dX12_word__116 : decode cX12_word_ 116 = .ok (.iaload, 1) := by decide +kernel
theorem dX12_word__117 : decode cX12_word_ 117 = .ok (.iload_n 1, 1) := by decide +kernel
theorem dX12_word__118 : decode cX12_word_ 118 = .ok (.ishr, 1) := by decide +kernel
theorem dX12_word__119 : decode cX12_word_ 119 = .ok (.iconst 1, 1) := by decide +kernel
theorem dX12_word__120 : decode cX12_word_ 120 = .ok (.iand, 1) := by decide +kernel
theorem dX12_word__121 : decode cX12_word_ 121 = .ok (.ireturn, 1) := by decide +kernel
theorem dX12_word__122 : decode cX12_word_ 122 = .ok (.aload_n 0, 1) := by decide +kernel
theorem dX12_word__123 : decode cX12_word_ 123 = .ok (.iload_n 1, 1) := by decide +kernel
theorem dX12_word__124 : decode cX12_word_ 124 = .ok (.invokevirtual 327, 3) := by decide +kernel
theorem dX12_word__127 : decode cX12_word_ 127 = .ok (.aload_n 0, 1) := by decide +kernel
theorem dX12_word__128 : decode cX12_word_ 128 = .ok (.invokevirtual 374, 3) := by decide +kernel
theorem dX12_word__131 : decode cX12_word_ 131 = .ok (.land, 1) := by decide +kernel
theorem dX12_word__132 : decode cX12_word_ 132 = .ok (.invokestatic 377, 3) := by decide +kernel
theorem dX12_word__135 : decode cX12_word_ 135 = .ok (.ireturn, 1) := by decide +kernel
theorem dX12_word__136 : decode cX12_word_ 136 = .ok (.iconst (-1), 1) := by decide +kernel
theorem dX12_word__137 : decode cX12_word_ 137 = .ok (.ireturn, 1) := by decide +kernel
theorem dX12_wordsOf_0 : decode cX12_wordsOf 0 = .ok (.iconst 0, 1) := by decide +kernel
theorem dX12_wordsOf_1 : decode cX12_wordsOf 1 = .ok (.istore_n 2, 1) := by decide +kernel
theorem dX12_wordsOf_2 : decode cX12_wordsOf 2 = .ok (.iconst 0, 1) := by decide +kernel
theorem dX12_wordsOf_3 : decode cX12_wordsOf 3 = .ok (.istore_n 3, 1) := by decide +kernel
theorem dX12_wordsOf_4 : decode cX12_wordsOf 4 = .ok (.iload_n 3, 1) := by decide +kernel
theorem dX12_wordsOf_5 : decode cX12_wordsOf 5 = .ok (.aload_n 0, 1) := by decide +kernel
theorem dX12_wordsOf_6 : decode cX12_wordsOf 6 = .ok (.getfield 61, 3) := by decide +kernel
theorem dX12_wordsOf_9 : decode cX12_wordsOf 9 = .ok (.aload_n 0, 1) := by decide +kernel
theorem dX12_wordsOf_10 : decode cX12_wordsOf 10 = .ok (.getfield 222, 3) := by decide +kernel
theorem dX12_wordsOf_13 : decode cX12_wordsOf 13 = .ok (.iaload, 1) := by decide +kernel
theorem dX12_wordsOf_14 : decode cX12_wordsOf 14 = .ok (.if_icmp .ge 33, 3) := by decide +kernel
theorem dX12_wordsOf_17 : decode cX12_wordsOf 17 = .ok (.aload_n 0, 1) := by decide +kernel
theorem dX12_wordsOf_18 : decode cX12_wordsOf 18 = .ok (.getfield 64, 3) := by decide +kernel
theorem dX12_wordsOf_21 : decode cX12_wordsOf 21 = .ok (.bipush 16, 2) := by decide +kernel
theorem dX12_wordsOf_23 : decode cX12_wordsOf 23 = .ok (.aload_n 0, 1) := by decide +kernel
theorem dX12_wordsOf_24 : decode cX12_wordsOf 24 = .ok (.getfield 222, 3) := by decide +kernel
theorem dX12_wordsOf_27 : decode cX12_wordsOf 27 = .ok (.imul, 1) := by decide +kernel
theorem dX12_wordsOf_28 : decode cX12_wordsOf 28 = .ok (.iload_n 3, 1) := by decide +kernel
theorem dX12_wordsOf_29 : decode cX12_wordsOf 29 = .ok (.iadd, 1) := by decide +kernel
theorem dX12_wordsOf_30 : decode cX12_wordsOf 30 = .ok (.iaload, 1) := by decide +kernel
theorem dX12_wordsOf_31 : decode cX12_wordsOf 31 = .ok (.iload_n 1, 1) := by decide +kernel
theorem dX12_wordsOf_32 : decode cX12_wordsOf 32 = .ok (.if_icmp .ne 9, 3) := by decide +kernel
theorem dX12_wordsOf_35 : decode cX12_wordsOf 35 = .ok (.iload_n 2, 1) := by decide +kernel
theorem dX12_wordsOf_36 : decode cX12_wordsOf 36 = .ok (.iconst 1, 1) := by decide +kernel
theorem dX12_wordsOf_37 : decode cX12_wordsOf 37 = .ok (.iload_n 3, 1) := by decide +kernel
theorem dX12_wordsOf_38 : decode cX12_wordsOf 38 = .ok (.ishl, 1) := by decide +kernel
theorem dX12_wordsOf_39 : decode cX12_wordsOf 39 = .ok (.ior, 1) := by decide +kernel
theorem dX12_wordsOf_40 : decode cX12_wordsOf 40 = .ok (.istore_n 2, 1) := by decide +kernel
theorem dX12_wordsOf_41 : decode cX12_wordsOf 41 = .ok (.iinc 3 1, 3) := by decide +kernel
theorem dX12_wordsOf_44 : decode cX12_wordsOf 44 = .ok (.goto (-40), 3) := by decide +kernel
theorem dX12_wordsOf_47 : decode cX12_wordsOf 47 = .ok (.iload_n 2, 1) := by decide +kernel
theorem dX12_wordsOf_48 : decode cX12_wordsOf 48 = .ok (.ireturn, 1) := by decide +kernel
theorem dX12_would_0 : decode cX12_would 0 = .ok (.aload_n 0, 1) := by decide +kernel
theorem dX12_would_1 : decode cX12_would 1 = .ok (.iload_n 1, 1) := by decide +kernel
theorem dX12_would_2 : decode cX12_would 2 = .ok (.invokevirtual 371, 3) := by decide +kernel
theorem dX12_would_5 : decode cX12_would 5 = .ok (.ifCond .ne 7, 3) := by decide +kernel
theorem dX12_would_8 : decode cX12_would 8 = .ok (.ldc_w 387, 3) := by decide +kernel
theorem dX12_would_11 : decode cX12_would 11 = .ok (.ireturn, 1) := by decide +kernel
theorem dX12_would_12 : decode cX12_would 12 = .ok (.aload_n 0, 1) := by decide +kernel
theorem dX12_would_13 : decode cX12_would 13 = .ok (.invokevirtual 384, 3) := by decide +kernel
theorem dX12_would_16 : decode cX12_would 16 = .ok (.aload_n 0, 1) := by decide +kernel
theorem dX12_would_17 : decode cX12_would 17 = .ok (.iload_n 1, 1) := by decide +kernel
theorem dX12_would_18 : decode cX12_would 18 = .ok (.invokevirtual 391, 3) := by decide +kernel
theorem dX12_would_21 : decode cX12_would 21 = .ok (.pop, 1) := by decide +kernel
theorem dX12_would_22 : decode cX12_would 22 = .ok (.aload_n 0, 1) := by decide +kernel
theorem dX12_would_23 : decode cX12_would 23 = .ok (.getfield 119, 3) := by decide +kernel
theorem dX12_would_26 : decode cX12_would 26 = .ok (.iconst 0, 1) := by decide +kernel
theorem dX12_would_27 : decode cX12_would 27 = .ok (.iaload, 1) := by decide +kernel
theorem dX12_would_28 : decode cX12_would 28 = .ok (.ireturn, 1) := by decide +kernel
theorem dX12_write_0 : decode cX12_write 0 = .ok (.aload_n 0, 1) := by decide +kernel
theorem dX12_write_1 : decode cX12_write 1 = .ok (.getfield 243, 3) := by decide +kernel
theorem dX12_write_4 : decode cX12_write 4 = .ok (.iconst 5, 1) := by decide +kernel
theorem dX12_write_5 : decode cX12_write 5 = .ok (.if_icmp .eq 16, 3) := by decide +kernel
theorem dX12_write_8 : decode cX12_write 8 = .ok (.iload_n 1, 1) := by decide +kernel
theorem dX12_write_9 : decode cX12_write 9 = .ok (.ldc_w 364, 3) := by decide +kernel
theorem dX12_write_12 : decode cX12_write 12 = .ok (.ldc_w 333, 3) := by decide +kernel
theorem dX12_write_15 : decode cX12_write 15 = .ok (.invokestatic 323, 3) := by decide +kernel
theorem dX12_write_18 : decode cX12_write 18 = .ok (.ifCond .ne 5, 3) := by decide +kernel
theorem dX12_write_21 : decode cX12_write 21 = .ok (.iconst (-1), 1) := by decide +kernel
theorem dX12_write_22 : decode cX12_write 22 = .ok (.ireturn, 1) := by decide +kernel
theorem dX12_write_23 : decode cX12_write 23 = .ok (.aload_n 0, 1) := by decide +kernel
theorem dX12_write_24 : decode cX12_write 24 = .ok (.getfield 138, 3) := by decide +kernel
theorem dX12_write_27 : decode cX12_write 27 = .ok (.aload_n 0, 1) := by decide +kernel
theorem dX12_write_28 : decode cX12_write 28 = .ok (.getfield 243, 3) := by decide +kernel
theorem dX12_write_31 : decode cX12_write 31 = .ok (.iload_n 1, 1) := by decide +kernel
theorem dX12_write_32 : decode cX12_write 32 = .ok (.iastore, 1) := by decide +kernel
theorem dX12_write_33 : decode cX12_write 33 = .ok (.aload_n 0, 1) := by decide +kernel
theorem dX12_write_34 : decode cX12_write 34 = .ok (.dup, 1) := by decide +kernel
theorem dX12_write_35 : decode cX12_write 35 = .ok (.getfield 243, 3) := by decide +kernel
theorem dX12_write_38 : decode cX12_write 38 = .ok (.iconst 1, 1) := by decide +kernel
theorem dX12_write_39 : decode cX12_write 39 = .ok (.iadd, 1) := by decide +kernel
theorem dX12_write_40 : decode cX12_write 40 = .ok (.putfield 243, 3) := by decide +kernel
theorem dX12_write_43 : decode cX12_write 43 = .ok (.aload_n 0, 1) := by decide +kernel
theorem dX12_write_44 : decode cX12_write 44 = .ok (.getfield 243, 3) := by decide +kernel
theorem dX12_write_47 : decode cX12_write 47 = .ok (.iconst 1, 1) := by decide +kernel
theorem dX12_write_48 : decode cX12_write 48 = .ok (.isub, 1) := by decide +kernel
theorem dX12_write_49 : decode cX12_write 49 = .ok (.ireturn, 1) := by decide +kernel
theorem dX12_wrong_0 : decode cX12_wrong 0 = .ok (.aload_n 0, 1) := by decide +kernel
theorem dX12_wrong_1 : decode cX12_wrong 1 = .ok (.getfield 24, 3) := by decide +kernel
theorem dX12_wrong_4 : decode cX12_wrong 4 = .ok (.iload_n 2, 1) := by decide +kernel
theorem dX12_wrong_5 : decode cX12_wrong 5 = .ok (.iaload, 1) := by decide +kernel
theorem dX12_wrong_6 : decode cX12_wrong 6 = .ok (.istore_n 3, 1) := by decide +kernel
theorem dX12_wrong_7 : decode cX12_wrong 7 = .ok (.aload_n 0, 1) := by decide +kernel
theorem dX12_wrong_8 : decode cX12_wrong 8 = .ok (.getfield 192, 3) := by decide +kernel
theorem dX12_wrong_11 : decode cX12_wrong 11 = .ok (.ifCond .gt 34, 3) := by decide +kernel
theorem dX12_wrong_14 : decode cX12_wrong 14 = .ok (.aload_n 0, 1) := by decide +kernel
theorem dX12_wrong_15 : decode cX12_wrong 15 = .ok (.getfield 201, 3) := by decide +kernel
theorem dX12_wrong_18 : decode cX12_wrong 18 = .ok (.ifCond .eq 28, 3) := by decide +kernel
theorem dX12_wrong_21 : decode cX12_wrong 21 = .ok (.iload_n 3, 1) := by decide +kernel
theorem dX12_wrong_22 : decode cX12_wrong 22 = .ok (.aload_n 0, 1) := by decide +kernel
theorem dX12_wrong_23 : decode cX12_wrong 23 = .ok (.getfield 204, 3) := by decide +kernel
theorem dX12_wrong_26 : decode cX12_wrong 26 = .ok (.if_icmp .gt 19, 3) := by decide +kernel
theorem dX12_wrong_29 : decode cX12_wrong 29 = .ok (.iload_n 3, 1) := by decide +kernel
theorem dX12_wrong_30 : decode cX12_wrong 30 = .ok (.aload_n 0, 1) := by decide +kernel
theorem dX12_wrong_31 : decode cX12_wrong 31 = .ok (.getfield 204, 3) := by decide +kernel
theorem dX12_wrong_34 : decode cX12_wrong 34 = .ok (.if_icmp .ne 12, 3) := by decide +kernel
theorem dX12_wrong_37 : decode cX12_wrong 37 = .ok (.iload_n 1, 1) := by decide +kernel
theorem dX12_wrong_38 : decode cX12_wrong 38 = .ok (.aload_n 0, 1) := by decide +kernel
theorem dX12_wrong_39 : decode cX12_wrong 39 = .ok (.getfield 201, 3) := by decide +kernel
theorem dX12_wrong_42 : decode cX12_wrong 42 = .ok (.if_icmp .lt 4, 3) := by decide +kernel
theorem dX12_wrong_45 : decode cX12_wrong 45 = .ok (.return_, 1) := by decide +kernel
theorem dX12_wrong_46 : decode cX12_wrong 46 = .ok (.aload_n 0, 1) := by decide +kernel
theorem dX12_wrong_47 : decode cX12_wrong 47 = .ok (.iload_n 1, 1) := by decide +kernel
theorem dX12_wrong_48 : decode cX12_wrong 48 = .ok (.putfield 201, 3) := by decide +kernel
theorem dX12_wrong_51 : decode cX12_wrong 51 = .ok (.aload_n 0, 1) := by decide +kernel
theorem dX12_wrong_52 : decode cX12_wrong 52 = .ok (.iload_n 3, 1) := by decide +kernel
theorem dX12_wrong_53 : decode cX12_wrong 53 = .ok (.putfield 204, 3) := by decide +kernel
theorem dX12_wrong_56 : decode cX12_wrong 56 = .ok (.return_, 1) := by decide +kernel
