theorem dX12_fillsBook_42 : decode cX12_fillsBook 42 = .ok (.aload_n 0, 1) := by decide +kernel
theorem dX12_fillsBook_43 : decode cX12_fillsBook 43 = .ok (.getfield 119, 3) := by decide +kernel
theorem dX12_fillsBook_46 : decode cX12_fillsBook 46 = .ok (.iload_n 2, 1) := by decide +kernel
theorem dX12_fillsBook_47 : decode cX12_fillsBook 47 = .ok (.iaload, 1) := by decide +kernel
theorem dX12_fillsBook_48 : decode cX12_fillsBook 48 = .ok (.iastore, 1) := by decide +kernel
theorem dX12_fillsBook_49 : decode cX12_fillsBook 49 = .ok (.iinc 2 1, 3) := by decide +kernel
theorem dX12_fillsBook_52 : decode cX12_fillsBook 52 = .ok (.goto (-21), 3) := by decide +kernel
theorem dX12_fillsBook_55 : decode cX12_fillsBook 55 = .ok (.iconst 0, 1) := by decide +kernel
theorem dX12_fillsBook_56 : decode cX12_fillsBook 56 = .ok (.istore_n 2, 1) := by decide +kernel
theorem dX12_fillsBook_57 : decode cX12_fillsBook 57 = .ok (.aload_n 0, 1) := by decide +kernel
theorem dX12_fillsBook_58 : decode cX12_fillsBook 58 = .ok (.getfield 125, 3) := by decide +kernel
theorem dX12_fillsBook_61 : decode cX12_fillsBook 61 = .ok (.iconst 0, 1) := by decide +kernel
theorem dX12_fillsBook_62 : decode cX12_fillsBook 62 = .ok (.iconst (-1), 1) := by decide +kernel
theorem dX12_fillsBook_63 : decode cX12_fillsBook 63 = .ok (.iastore, 1) := by decide +kernel
theorem dX12_fillsBook_64 : decode cX12_fillsBook 64 = .ok (.iload_n 2, 1) := by decide +kernel
theorem dX12_fillsBook_65 : decode cX12_fillsBook 65 = .ok (.ifCond .lt 156, 3) := by decide +kernel
theorem dX12_fillsBook_68 : decode cX12_fillsBook 68 = .ok (.aload_n 0, 1) := by decide +kernel
theorem dX12_fillsBook_69 : decode cX12_fillsBook 69 = .ok (.getfield 125, 3) := by decide +kernel
theorem dX12_fillsBook_72 : decode cX12_fillsBook 72 = .ok (.iload_n 2, 1) := by decide +kernel
theorem dX12_fillsBook_73 : decode cX12_fillsBook 73 = .ok (.dup2, 1) := by decide +kernel
theorem dX12_fillsBook_74 : decode cX12_fillsBook 74 = .ok (.iaload, 1) := by decide +kernel
theorem dX12_fillsBook_75 : decode cX12_fillsBook 75 = .ok (.iconst 1, 1) := by decide +kernel
theorem dX12_fillsBook_76 : decode cX12_fillsBook 76 = .ok (.iadd, 1) := by decide +kernel
theorem dX12_fillsBook_77 : decode cX12_fillsBook 77 = .ok (.iastore, 1) := by decide +kernel
theorem dX12_fillsBook_78 : decode cX12_fillsBook 78 = .ok (.aload_n 0, 1) := by decide +kernel
theorem dX12_fillsBook_79 : decode cX12_fillsBook 79 = .ok (.getfield 125, 3) := by decide +kernel
theorem dX12_fillsBook_82 : decode cX12_fillsBook 82 = .ok (.iload_n 2, 1) := by decide +kernel
theorem dX12_fillsBook_83 : decode cX12_fillsBook 83 = .ok (.iaload, 1) := by decide +kernel
theorem dX12_fillsBook_84 : decode cX12_fillsBook 84 = .ok (.aload_n 0, 1) := by decide +kernel
theorem dX12_fillsBook_85 : decode cX12_fillsBook 85 = .ok (.getfield 61, 3) := by decide +kernel
theorem dX12_fillsBook_88 : decode cX12_fillsBook 88 = .ok (.aload_n 0, 1) := by decide +kernel
theorem dX12_fillsBook_89 : decode cX12_fillsBook 89 = .ok (.getfield 222, 3) := by decide +kernel
theorem dX12_fillsBook_92 : decode cX12_fillsBook 92 = .ok (.iaload, 1) := by decide +kernel
theorem dX12_fillsBook_93 : decode cX12_fillsBook 93 = .ok (.if_icmp .lt 9, 3) := by decide +kernel
theorem dX12_fillsBook_96 : decode cX12_fillsBook 96 = .ok (.iinc 2 (-1), 3) := by decide +kernel
theorem dX12_fillsBook_99 : decode cX12_fillsBook 99 = .ok (.goto (-35), 3) := by decide +kernel
theorem dX12_fillsBook_102 : decode cX12_fillsBook 102 = .ok (.iconst 0, 1) := by decide +kernel
theorem dX12_fillsBook_103 : decode cX12_fillsBook 103 = .ok (.istore_n 3, 1) := by decide +kernel
theorem dX12_fillsBook_104 : decode cX12_fillsBook 104 = .ok (.iload_n 3, 1) := by decide +kernel
theorem dX12_fillsBook_105 : decode cX12_fillsBook 105 = .ok (.bipush 40, 2) := by decide +kernel
theorem dX12_fillsBook_107 : decode cX12_fillsBook 107 = .ok (.if_icmp .ge 26, 3) := by decide +kernel
theorem dX12_fillsBook_110 : decode cX12_fillsBook 110 = .ok (.aload_n 0, 1) := by decide +kernel
theorem dX12_fillsBook_111 : decode cX12_fillsBook 111 = .ok (.getfield 119, 3) := by decide +kernel
theorem dX12_fillsBook_114 : decode cX12_fillsBook 114 = .ok (.iload_n 3, 1) := by decide +kernel
theorem dX12_fillsBook_115 : decode cX12_fillsBook 115 = .ok (.aload_n 0, 1) := by decide +kernel
theorem dX12_fillsBook_116 : decode cX12_fillsBook 116 = .ok (.getfield 141, 3) := by decide +kernel
theorem dX12_fillsBook_119 : decode cX12_fillsBook 119 = .ok (.bipush 40, 2) := by decide +kernel
theorem dX12_fillsBook_121 : decode cX12_fillsBook 121 = .ok (.iload_n 2, 1) := by decide +kernel
theorem dX12_fillsBook_122 : decode cX12_fillsBook 122 = .ok (.imul, 1) := by decide +kernel
theorem dX12_fillsBook_123 : decode cX12_fillsBook 123 = .ok (.iload_n 3, 1) := by decide +kernel
theorem dX12_fillsBook_124 : decode cX12_fillsBook 124 = .ok (.iadd, 1) := by decide +kernel
theorem dX12_fillsBook_125 : decode cX12_fillsBook 125 = .ok (.iaload, 1) := by decide +kernel
theorem dX12_fillsBook_126 : decode cX12_fillsBook 126 = .ok (.iastore, 1) := by decide +kernel
theorem dX12_fillsBook_127 : decode cX12_fillsBook 127 = .ok (.iinc 3 1, 3) := by decide +kernel
theorem dX12_fillsBook_130 : decode cX12_fillsBook 130 = .ok (.goto (-26), 3) := by decide +kernel
theorem dX12_fillsBook_133 : decode cX12_fillsBook 133 = .ok (.aload_n 0, 1) := by decide +kernel
theorem dX12_fillsBook_134 : decode cX12_fillsBook 134 = .ok (.aload_n 0, 1) := by decide +kernel
theorem dX12_fillsBook_135 : decode cX12_fillsBook 135 = .ok (.getfield 125, 3) := by decide +kernel
theorem dX12_fillsBook_138 : decode cX12_fillsBook 138 = .ok (.iload_n 2, 1) := by decide +kernel
theorem dX12_fillsBook_139 : decode cX12_fillsBook 139 = .ok (.iaload, 1) := by decide +kernel
theorem dX12_fillsBook_140 : decode cX12_fillsBook 140 = .ok (.invokevirtual 391, 3) := by decide +kernel
theorem dX12_fillsBook_143 : decode cX12_fillsBook 143 = .ok (.pop, 1) := by decide +kernel
theorem dX12_fillsBook_144 : decode cX12_fillsBook 144 = .ok (.aload_n 0, 1) := by decide +kernel
theorem dX12_fillsBook_145 : decode cX12_fillsBook 145 = .ok (.getfield 119, 3) := by decide +kernel
theorem dX12_fillsBook_148 : decode cX12_fillsBook 148 = .ok (.iconst 0, 1) := by decide +kernel
theorem dX12_fillsBook_149 : decode cX12_fillsBook 149 = .ok (.iaload, 1) := by decide +kernel
theorem dX12_fillsBook_150 : decode cX12_fillsBook 150 = .ok (.aload_n 0, 1) := by decide +kernel
theorem dX12_fillsBook_151 : decode cX12_fillsBook 151 = .ok (.getfield 138, 3) := by decide +kernel
theorem dX12_fillsBook_154 : decode cX12_fillsBook 154 = .ok (.iload_n 2, 1) := by decide +kernel
theorem dX12_fillsBook_155 : decode cX12_fillsBook 155 = .ok (.iaload, 1) := by decide +kernel
theorem dX12_fillsBook_156 : decode cX12_fillsBook 156 = .ok (.if_icmp .eq 6, 3) := by decide +kernel
theorem dX12_fillsBook_159 : decode cX12_fillsBook 159 = .ok (.goto (-95), 3) := by decide +kernel
theorem dX12_fillsBook_162 : decode cX12_fillsBook 162 = .ok (.iload_n 2, 1) := by decide +kernel
theorem dX12_fillsBook_163 : decode cX12_fillsBook 163 = .ok (.iload_n 1, 1) := by decide +kernel
theorem dX12_fillsBook_164 : decode cX12_fillsBook 164 = .ok (.iconst 1, 1) := by decide +kernel
theorem dX12_fillsBook_165 : decode cX12_fillsBook 165 = .ok (.isub, 1) := by decide +kernel
theorem dX12_fillsBook_166 : decode cX12_fillsBook 166 = .ok (.if_icmp .ne 11, 3) := by decide +kernel
theorem dX12_fillsBook_169 : decode cX12_fillsBook 169 = .ok (.aload_n 0, 1) := by decide +kernel
theorem dX12_fillsBook_170 : decode cX12_fillsBook 170 = .ok (.iload_n 1, 1) := by decide +kernel
theorem dX12_fillsBook_171 : decode cX12_fillsBook 171 = .ok (.invokevirtual 442, 3) := by decide +kernel
theorem dX12_fillsBook_174 : decode cX12_fillsBook 174 = .ok (.goto (-110), 3) := by decide +kernel
theorem dX12_fillsBook_177 : decode cX12_fillsBook 177 = .ok (.iinc 2 1, 3) := by decide +kernel
theorem dX12_fillsBook_180 : decode cX12_fillsBook 180 = .ok (.iconst 0, 1) := by decide +kernel
theorem dX12_fillsBook_181 : decode cX12_fillsBook 181 = .ok (.istore_n 3, 1) := by decide +kernel
theorem dX12_fillsBook_182 : decode cX12_fillsBook 182 = .ok (.iload_n 3, 1) := by decide +kernel
theorem dX12_fillsBook_183 : decode cX12_fillsBook 183 = .ok (.bipush 40, 2) := by decide +kernel
theorem dX12_fillsBook_185 : decode cX12_fillsBook 185 = .ok (.if_icmp .ge 26, 3) := by decide +kernel
theorem dX12_fillsBook_188 : decode cX12_fillsBook 188 = .ok (.aload_n 0, 1) := by decide +kernel
theorem dX12_fillsBook_189 : decode cX12_fillsBook 189 = .ok (.getfield 141, 3) := by decide +kernel
theorem dX12_fillsBook_192 : decode cX12_fillsBook 192 = .ok (.bipush 40, 2) := by decide +kernel
theorem dX12_fillsBook_194 : decode cX12_fillsBook 194 = .ok (.iload_n 2, 1) := by decide +kernel
theorem dX12_fillsBook_195 : decode cX12_fillsBook 195 = .ok (.imul, 1) := by decide +kernel
theorem dX12_fillsBook_196 : decode cX12_fillsBook 196 = .ok (.iload_n 3, 1) := by decide +kernel
theorem dX12_fillsBook_197 : decode cX12_fillsBook 197 = .ok (.iadd, 1) := by decide +kernel
theorem dX12_fillsBook_198 : decode cX12_fillsBook 198 = .ok (.aload_n 0, 1) := by decide +kernel
theorem dX12_fillsBook_199 : decode cX12_fillsBook 199 = .ok (.getfield 119, 3) := by decide +kernel
theorem dX12_fillsBook_202 : decode cX12_fillsBook 202 = .ok (.iload_n 3, 1) := by decide +kernel
theorem dX12_fillsBook_203 : decode cX12_fillsBook 203 = .ok (.iaload, 1) := by decide +kernel
theorem dX12_fillsBook_204 : decode cX12_fillsBook 204 = .ok (.iastore, 1) := by decide +kernel
theorem dX12_fillsBook_205 : decode cX12_fillsBook 205 = .ok (.iinc 3 1, 3) := by decide +kernel
theorem dX12_fillsBook_208 : decode cX12_fillsBook 208 = .ok (.goto (-26), 3) := by decide +kernel
theorem dX12_fillsBook_211 : decode cX12_fillsBook 211 = .ok (.aload_n 0, 1) := by decide +kernel
theorem dX12_fillsBook_212 : decode cX12_fillsBook 212 = .ok (.getfield 125, 3) := by decide +kernel
theorem dX12_fillsBook_215 : decode cX12_fillsBook 215 = .ok (.iload_n 2, 1) := by decide +kernel
theorem dX12_fillsBook_216 : decode cX12_fillsBook 216 = .ok (.iconst (-1), 1) := by decide +kernel
theorem dX12_fillsBook_217 : decode cX12_fillsBook 217 = .ok (.iastore, 1) := by decide +kernel
theorem dX12_fillsBook_218 : decode cX12_fillsBook 218 = .ok (.goto (-154), 3) := by decide +kernel
theorem dX12_fillsBook_221 : decode cX12_fillsBook 221 = .ok (.return_, 1) := by decide +kernel
theorem dX12_fillsOrder_0 : decode cX12_fillsOrder 0 = .ok (.aload_n 0, 1) := by decide +kernel
theorem dX12_fillsOrder_1 : decode cX12_fillsOrder 1 = .ok (.iconst 0, 1) := by decide +kernel
theorem dX12_fillsOrder_2 : decode cX12_fillsOrder 2 = .ok (.putfield 411, 3) := by decide +kernel
theorem dX12_fillsOrder_5 : decode cX12_fillsOrder 5 = .ok (.iconst 0, 1) := by decide +kernel
theorem dX12_fillsOrder_6 : decode cX12_fillsOrder 6 = .ok (.istore_n 2, 1) := by decide +kernel
theorem dX12_fillsOrder_7 : decode cX12_fillsOrder 7 = .ok (.iload_n 2, 1) := by decide +kernel
theorem dX12_fillsOrder_8 : decode cX12_fillsOrder 8 = .ok (.aload_n 0, 1) := by decide +kernel
theorem dX12_fillsOrder_9 : decode cX12_fillsOrder 9 = .ok (.getfield 61, 3) := by decide +kernel
theorem dX12_fillsOrder_12 : decode cX12_fillsOrder 12 = .ok (.aload_n 0, 1) := by decide +kernel
theorem dX12_fillsOrder_13 : decode cX12_fillsOrder 13 = .ok (.getfield 222, 3) := by decide +kernel
theorem dX12_fillsOrder_16 : decode cX12_fillsOrder 16 = .ok (.iaload, 1) := by decide +kernel
theorem dX12_fillsOrder_17 : decode cX12_fillsOrder 17 = .ok (.if_icmp .ge 40, 3) := by decide +kernel
theorem dX12_fillsOrder_20 : decode cX12_fillsOrder 20 = .ok (.iload_n 1, 1) := by decide +kernel
theorem dX12_fillsOrder_21 : decode cX12_fillsOrder 21 = .ok (.iload_n 2, 1) := by decide +kernel
theorem dX12_fillsOrder_22 : decode cX12_fillsOrder 22 = .ok (.ishr, 1) := by decide +kernel
theorem dX12_fillsOrder_23 : decode cX12_fillsOrder 23 = .ok (.iconst 1, 1) := by decide +kernel
theorem dX12_fillsOrder_24 : decode cX12_fillsOrder 24 = .ok (.iand, 1) := by decide +kernel
theorem dX12_fillsOrder_25 : decode cX12_fillsOrder 25 = .ok (.ifCond .ne 6, 3) := by decide +kernel
theorem dX12_fillsOrder_28 : decode cX12_fillsOrder 28 = .ok (.goto 23, 3) := by decide +kernel
theorem dX12_fillsOrder_31 : decode cX12_fillsOrder 31 = .ok (.aload_n 0, 1) := by decide +kernel
theorem dX12_fillsOrder_32 : decode cX12_fillsOrder 32 = .ok (.getfield 128, 3) := by decide +kernel
theorem dX12_fillsOrder_35 : decode cX12_fillsOrder 35 = .ok (.aload_n 0, 1) := by decide +kernel
theorem dX12_fillsOrder_36 : decode cX12_fillsOrder 36 = .ok (.getfield 411, 3) := by decide +kernel
theorem dX12_fillsOrder_39 : decode cX12_fillsOrder 39 = .ok (.iload_n 2, 1) := by decide +kernel
theorem dX12_fillsOrder_40 : decode cX12_fillsOrder 40 = .ok (.iastore, 1) := by decide +kernel
theorem dX12_fillsOrder_41 : decode cX12_fillsOrder 41 = .ok (.aload_n 0, 1) := by decide +kernel
theorem dX12_fillsOrder_42 : decode cX12_fillsOrder 42 = .ok (.dup, 1) := by decide +kernel
theorem dX12_fillsOrder_43 : decode cX12_fillsOrder 43 = .ok (.getfield 411, 3) := by decide +kernel
theorem dX12_fillsOrder_46 : decode cX12_fillsOrder 46 = .ok (.iconst 1, 1) := by decide +kernel
theorem dX12_fillsOrder_47 : decode cX12_fillsOrder 47 = .ok (.iadd, 1) := by decide +kernel
theorem dX12_fillsOrder_48 : decode cX12_fillsOrder 48 = .ok (.putfield 411, 3) := by decide +kernel
theorem dX12_fillsOrder_51 : decode cX12_fillsOrder 51 = .ok (.iinc 2 1, 3) := by decide +kernel
theorem dX12_fillsOrder_54 : decode cX12_fillsOrder 54 = .ok (.goto (-47), 3) := by decide +kernel
theorem dX12_fillsOrder_57 : decode cX12_fillsOrder 57 = .ok (.return_, 1) := by decide +kernel
theorem dX12_fillsSets_0 : decode cX12_fillsSets 0 = .ok (.aload_n 0, 1) := by decide +kernel
theorem dX12_fillsSets_1 : decode cX12_fillsSets 1 = .ok (.getfield 135, 3) := by decide +kernel
theorem dX12_fillsSets_4 : decode cX12_fillsSets 4 = .ok (.iconst 0, 1) := by decide +kernel
theorem dX12_fillsSets_5 : decode cX12_fillsSets 5 = .ok (.aload_n 0, 1) := by decide +kernel
theorem dX12_fillsSets_6 : decode cX12_fillsSets 6 = .ok (.aload_n 0, 1) := by decide +kernel
theorem dX12_fillsSets_7 : decode cX12_fillsSets 7 = .ok (.getfield 116, 3) := by decide +kernel
theorem dX12_fillsSets_10 : decode cX12_fillsSets 10 = .ok (.iconst 3, 1) := by decide +kernel
theorem dX12_fillsSets_11 : decode cX12_fillsSets 11 = .ok (.iaload, 1) := by decide +kernel
theorem dX12_fillsSets_12 : decode cX12_fillsSets 12 = .ok (.invokevirtual 330, 3) := by decide +kernel
theorem dX12_fillsSets_15 : decode cX12_fillsSets 15 = .ok (.lastore, 1) := by decide +kernel
theorem dX12_fillsSets_16 : decode cX12_fillsSets 16 = .ok (.iconst 1, 1) := by decide +kernel
theorem dX12_fillsSets_17 : decode cX12_fillsSets 17 = .ok (.istore_n 2, 1) := by decide +kernel
theorem dX12_fillsSets_18 : decode cX12_fillsSets 18 = .ok (.iload_n 2, 1) := by decide +kernel
theorem dX12_fillsSets_19 : decode cX12_fillsSets 19 = .ok (.iconst 1, 1) := by decide +kernel
theorem dX12_fillsSets_20 : decode cX12_fillsSets 20 = .ok (.aload_n 0, 1) := by decide +kernel
theorem dX12_fillsSets_21 : decode cX12_fillsSets 21 = .ok (.getfield 61, 3) := by decide +kernel
theorem dX12_fillsSets_24 : decode cX12_fillsSets 24 = .ok (.aload_n 0, 1) := by decide +kernel
theorem dX12_fillsSets_25 : decode cX12_fillsSets 25 = .ok (.getfield 222, 3) := by decide +kernel
theorem dX12_fillsSets_28 : decode cX12_fillsSets 28 = .ok (.iaload, 1) := by decide +kernel
theorem dX12_fillsSets_29 : decode cX12_fillsSets 29 = .ok (.ishl, 1) := by decide +kernel
theorem dX12_fillsSets_30 : decode cX12_fillsSets 30 = .ok (.if_icmp .ge 61, 3) := by decide +kernel
theorem dX12_fillsSets_33 : decode cX12_fillsSets 33 = .ok (.iconst 0, 1) := by decide +kernel
theorem dX12_fillsSets_34 : decode cX12_fillsSets 34 = .ok (.istore_n 3, 1) := by decide +kernel
theorem dX12_fillsSets_35 : decode cX12_fillsSets 35 = .ok (.iload_n 2, 1) := by decide +kernel
theorem dX12_fillsSets_36 : decode cX12_fillsSets 36 = .ok (.iload_n 3, 1) := by decide +kernel
theorem dX12_fillsSets_37 : decode cX12_fillsSets 37 = .ok (.ishr, 1) := by decide +kernel
theorem dX12_fillsSets_38 : decode cX12_fillsSets 38 = .ok (.iconst 1, 1) := by decide +kernel
theorem dX12_fillsSets_39 : decode cX12_fillsSets 39 = .ok (.iand, 1) := by decide +kernel
theorem dX12_fillsSets_40 : decode cX12_fillsSets 40 = .ok (.ifCond .ne 9, 3) := by decide +kernel
theorem dX12_fillsSets_43 : decode cX12_fillsSets 43 = .ok (.iinc 3 1, 3) := by decide +kernel
theorem dX12_fillsSets_46 : decode cX12_fillsSets 46 = .ok (.goto (-11), 3) := by decide +kernel
theorem dX12_fillsSets_49 : decode cX12_fillsSets 49 = .ok (.aload_n 0, 1) := by decide +kernel
theorem dX12_fillsSets_50 : decode cX12_fillsSets 50 = .ok (.getfield 135, 3) := by decide +kernel
theorem dX12_fillsSets_53 : decode cX12_fillsSets 53 = .ok (.iload_n 2, 1) := by decide +kernel
theorem dX12_fillsSets_54 : decode cX12_fillsSets 54 = .ok (.iload_n 2, 1) := by decide +kernel
theorem dX12_fillsSets_55 : decode cX12_fillsSets 55 = .ok (.iload_n 1, 1) := by decide +kernel
theorem dX12_fillsSets_56 : decode cX12_fillsSets 56 = .ok (.iconst (-1), 1) := by decide +kernel
theorem dX12_fillsSets_57 : decode cX12_fillsSets 57 = .ok (.ixor, 1) := by decide +kernel
theorem dX12_fillsSets_58 : decode cX12_fillsSets 58 = .ok (.iand, 1) := by decide +kernel
theorem dX12_fillsSets_59 : decode cX12_fillsSets 59 = .ok (.ifCond .eq 7, 3) := by decide +kernel
theorem dX12_fillsSets_62 : decode cX12_fillsSets 62 = .ok (.lconst 0, 1) := by decide +kernel
theorem dX12_fillsSets_63 : decode cX12_fillsSets 63 = .ok (.goto 21, 3) := by decide +kernel
theorem dX12_fillsSets_66 : decode cX12_fillsSets 66 = .ok (.aload_n 0, 1) := by decide +kernel
theorem dX12_fillsSets_67 : decode cX12_fillsSets 67 = .ok (.getfield 135, 3) := by decide +kernel
theorem dX12_fillsSets_70 : decode cX12_fillsSets 70 = .ok (.iload_n 2, 1) := by decide +kernel
theorem dX12_fillsSets_71 : decode cX12_fillsSets 71 = .ok (.iconst 1, 1) := by decide +kernel
theorem dX12_fillsSets_72 : decode cX12_fillsSets 72 = .ok (.iload_n 3, 1) := by decide +kernel
theorem dX12_fillsSets_73 : decode cX12_fillsSets 73 = .ok (.ishl, 1) := by decide +kernel
theorem dX12_fillsSets_74 : decode cX12_fillsSets 74 = .ok (.iconst (-1), 1) := by decide +kernel
theorem dX12_fillsSets_75 : decode cX12_fillsSets 75 = .ok (.ixor, 1) := by decide +kernel
theorem dX12_fillsSets_76 : decode cX12_fillsSets 76 = .ok (.iand, 1) := by decide +kernel
theorem dX12_fillsSets_77 : decode cX12_fillsSets 77 = .ok (.laload, 1) := by decide +kernel
theorem dX12_fillsSets_78 : decode cX12_fillsSets 78 = .ok (.aload_n 0, 1) := by decide +kernel
theorem dX12_fillsSets_79 : decode cX12_fillsSets 79 = .ok (.iload_n 3, 1) := by decide +kernel
theorem dX12_fillsSets_80 : decode cX12_fillsSets 80 = .ok (.invokevirtual 327, 3) := by decide +kernel
theorem dX12_fillsSets_83 : decode cX12_fillsSets 83 = .ok (.land, 1) := by decide +kernel
theorem dX12_fillsSets_84 : decode cX12_fillsSets 84 = .ok (.lastore, 1) := by decide +kernel
theorem dX12_fillsSets_85 : decode cX12_fillsSets 85 = .ok (.iinc 2 1, 3) := by decide +kernel
theorem dX12_fillsSets_88 : decode cX12_fillsSets 88 = .ok (.goto (-70), 3) := by decide +kernel
theorem dX12_fillsSets_91 : decode cX12_fillsSets 91 = .ok (.return_, 1) := by decide +kernel
theorem dX12_findsAhead_0 : decode cX12_findsAhead 0 = .ok (.aload_n 0, 1) := by decide +kernel
theorem dX12_findsAhead_1 : decode cX12_findsAhead 1 = .ok (.iconst 1, 1) := by decide +kernel
theorem dX12_findsAhead_2 : decode cX12_findsAhead 2 = .ok (.putfield 397, 3) := by decide +kernel
theorem dX12_findsAhead_5 : decode cX12_findsAhead 5 = .ok (.aload_n 0, 1) := by decide +kernel
theorem dX12_findsAhead_6 : decode cX12_findsAhead 6 = .ok (.getfield 397, 3) := by decide +kernel
theorem dX12_findsAhead_9 : decode cX12_findsAhead 9 = .ok (.iconst 5, 1) := by decide +kernel
theorem dX12_findsAhead_10 : decode cX12_findsAhead 10 = .ok (.if_icmp .ge 80, 3) := by decide +kernel
theorem dX12_findsAhead_13 : decode cX12_findsAhead 13 = .ok (.iconst 0, 1) := by decide +kernel
theorem dX12_findsAhead_14 : decode cX12_findsAhead 14 = .ok (.istore_n 3, 1) := by decide +kernel
theorem dX12_findsAhead_15 : decode cX12_findsAhead 15 = .ok (.iload_n 3, 1) := by decide +kernel
theorem dX12_findsAhead_16 : decode cX12_findsAhead 16 = .ok (.aload_n 0, 1) := by decide +kernel
theorem dX12_findsAhead_17 : decode cX12_findsAhead 17 = .ok (.getfield 397, 3) := by decide +kernel
theorem dX12_findsAhead_20 : decode cX12_findsAhead 20 = .ok (.if_icmp .ge 16, 3) := by decide +kernel
theorem dX12_findsAhead_23 : decode cX12_findsAhead 23 = .ok (.aload_n 0, 1) := by decide +kernel
theorem dX12_findsAhead_24 : decode cX12_findsAhead 24 = .ok (.getfield 125, 3) := by decide +kernel
theorem dX12_findsAhead_27 : decode cX12_findsAhead 27 = .ok (.iload_n 3, 1) := by decide +kernel
theorem dX12_findsAhead_28 : decode cX12_findsAhead 28 = .ok (.iconst 0, 1) := by decide +kernel
theorem dX12_findsAhead_29 : decode cX12_findsAhead 29 = .ok (.iastore, 1) := by decide +kernel
theorem dX12_findsAhead_30 : decode cX12_findsAhead 30 = .ok (.iinc 3 1, 3) := by decide +kernel
theorem dX12_findsAhead_33 : decode cX12_findsAhead 33 = .ok (.goto (-18), 3) := by decide +kernel
theorem dX12_findsAhead_36 : decode cX12_findsAhead 36 = .ok (.aload_n 0, 1) := by decide +kernel
theorem dX12_findsAhead_37 : decode cX12_findsAhead 37 = .ok (.getfield 61, 3) := by decide +kernel
theorem dX12_findsAhead_40 : decode cX12_findsAhead 40 = .ok (.aload_n 0, 1) := by decide +kernel
theorem dX12_findsAhead_41 : decode cX12_findsAhead 41 = .ok (.getfield 222, 3) := by decide +kernel
theorem dX12_findsAhead_44 : decode cX12_findsAhead 44 = .ok (.iaload, 1) := by decide +kernel
theorem dX12_findsAhead_45 : decode cX12_findsAhead 45 = .ok (.ifCond .le 7, 3) := by decide +kernel
theorem dX12_findsAhead_48 : decode cX12_findsAhead 48 = .ok (.iconst 1, 1) := by decide +kernel
theorem dX12_findsAhead_49 : decode cX12_findsAhead 49 = .ok (.goto 4, 3) := by decide +kernel
theorem dX12_findsAhead_52 : decode cX12_findsAhead 52 = .ok (.iconst 0, 1) := by decide +kernel
theorem dX12_findsAhead_53 : decode cX12_findsAhead 53 = .ok (.istore_n 3, 1) := by decide +kernel
theorem dX12_findsAhead_54 : decode cX12_findsAhead 54 = .ok (.iload_n 3, 1) := by decide +kernel
theorem dX12_findsAhead_55 : decode cX12_findsAhead 55 = .ok (.ifCond .eq 22, 3) := by decide +kernel
theorem dX12_findsAhead_58 : decode cX12_findsAhead 58 = .ok (.aload_n 0, 1) := by decide +kernel
theorem dX12_findsAhead_59 : decode cX12_findsAhead 59 = .ok (.iload_n 1, 1) := by decide +kernel
theorem dX12_findsAhead_60 : decode cX12_findsAhead 60 = .ok (.iload_n 2, 1) := by decide +kernel
theorem dX12_findsAhead_61 : decode cX12_findsAhead 61 = .ok (.invokevirtual 400, 3) := by decide +kernel
theorem dX12_findsAhead_64 : decode cX12_findsAhead 64 = .ok (.ifCond .eq 5, 3) := by decide +kernel
theorem dX12_findsAhead_67 : decode cX12_findsAhead 67 = .ok (.iconst 1, 1) := by decide +kernel
theorem dX12_findsAhead_68 : decode cX12_findsAhead 68 = .ok (.ireturn, 1) := by decide +kernel
theorem dX12_findsAhead_69 : decode cX12_findsAhead 69 = .ok (.aload_n 0, 1) := by decide +kernel
theorem dX12_findsAhead_70 : decode cX12_findsAhead 70 = .ok (.invokevirtual 404, 3) := by decide +kernel
theorem dX12_findsAhead_73 : decode cX12_findsAhead 73 = .ok (.istore_n 3, 1) := by decide +kernel
theorem dX12_findsAhead_74 : decode cX12_findsAhead 74 = .ok (.goto (-20), 3) := by decide +kernel
theorem dX12_findsAhead_77 : decode cX12_findsAhead 77 = .ok (.aload_n 0, 1) := by decide +kernel
theorem dX12_findsAhead_78 : decode cX12_findsAhead 78 = .ok (.dup, 1) := by decide +kernel
theorem dX12_findsAhead_79 : decode cX12_findsAhead 79 = .ok (.getfield 397, 3) := by decide +kernel
theorem dX12_findsAhead_82 : decode cX12_findsAhead 82 = .ok (.iconst 1, 1) := by decide +kernel
theorem dX12_findsAhead_83 : decode cX12_findsAhead 83 = .ok (.iadd, 1) := by decide +kernel
theorem dX12_findsAhead_84 : decode cX12_findsAhead 84 = .ok (.putfield 397, 3) := by decide +kernel
theorem dX12_findsAhead_87 : decode cX12_findsAhead 87 = .ok (.goto (-82), 3) := by decide +kernel
theorem dX12_findsAhead_90 : decode cX12_findsAhead 90 = .ok (.iconst 0, 1) := by decide +kernel
theorem dX12_findsAhead_91 : decode cX12_findsAhead 91 = .ok (.ireturn, 1) := by decide +kernel
theorem dX12_fits_0 : decode cX12_fits 0 = .ok (.iload_n 1, 1) := by decide +kernel
theorem dX12_fits_1 : decode cX12_fits 1 = .ok (.iconst 0, 1) := by decide +kernel
theorem dX12_fits_2 : decode cX12_fits 2 = .ok (.aload_n 0, 1) := by decide +kernel
theorem dX12_fits_3 : decode cX12_fits 3 = .ok (.getfield 243, 3) := by decide +kernel
theorem dX12_fits_6 : decode cX12_fits 6 = .ok (.invokestatic 323, 3) := by decide +kernel
theorem dX12_fits_9 : decode cX12_fits 9 = .ok (.ifCond .ne 7, 3) := by decide +kernel
theorem dX12_fits_12 : decode cX12_fits 12 = .ok (.ldc2_w 290, 3) := by decide +kernel
theorem dX12_fits_15 : decode cX12_fits 15 = .ok (.lreturn, 1) := by decide +kernel
theorem dX12_fits_16 : decode cX12_fits 16 = .ok (.aload_n 0, 1) := by decide +kernel
theorem dX12_fits_17 : decode cX12_fits 17 = .ok (.iload_n 1, 1) := by decide +kernel
theorem dX12_fits_18 : decode cX12_fits 18 = .ok (.invokevirtual 445, 3) := by decide +kernel
theorem dX12_fits_21 : decode cX12_fits 21 = .ok (.aload_n 0, 1) := by decide +kernel
theorem dX12_fits_22 : decode cX12_fits 22 = .ok (.getfield 432, 3) := by decide +kernel
theorem dX12_fits_25 : decode cX12_fits 25 = .ok (.lreturn, 1) := by decide +kernel
theorem dX12_fitsOne_0 : decode cX12_fitsOne 0 = .ok (.iconst 0, 1) := by decide +kernel
theorem dX12_fitsOne_1 : decode cX12_fitsOne 1 = .ok (.istore_n 2, 1) := by decide +kernel
theorem dX12_fitsOne_2 : decode cX12_fitsOne 2 = .ok (.iconst 0, 1) := by decide +kernel
theorem dX12_fitsOne_3 : decode cX12_fitsOne 3 = .ok (.istore_n 3, 1) := by decide +kernel
theorem dX12_fitsOne_4 : decode cX12_fitsOne 4 = .ok (.iload_n 3, 1) := by decide +kernel
theorem dX12_fitsOne_5 : decode cX12_fitsOne 5 = .ok (.iload_n 1, 1) := by decide +kernel
theorem dX12_fitsOne_6 : decode cX12_fitsOne 6 = .ok (.if_icmp .ge 20, 3) := by decide +kernel
theorem dX12_fitsOne_9 : decode cX12_fitsOne 9 = .ok (.iload_n 2, 1) := by decide +kernel
theorem dX12_fitsOne_10 : decode cX12_fitsOne 10 = .ok (.iconst 1, 1) := by decide +kernel
theorem dX12_fitsOne_11 : decode cX12_fitsOne 11 = .ok (.aload_n 0, 1) := by decide +kernel
theorem dX12_fitsOne_12 : decode cX12_fitsOne 12 = .ok (.getfield 125, 3) := by decide +kernel
theorem dX12_fitsOne_15 : decode cX12_fitsOne 15 = .ok (.iload_n 3, 1) := by decide +kernel
theorem dX12_fitsOne_16 : decode cX12_fitsOne 16 = .ok (.iaload, 1) := by decide +kernel
theorem dX12_fitsOne_17 : decode cX12_fitsOne 17 = .ok (.ishl, 1) := by decide +kernel
theorem dX12_fitsOne_18 : decode cX12_fitsOne 18 = .ok (.ior, 1) := by decide +kernel
theorem dX12_fitsOne_19 : decode cX12_fitsOne 19 = .ok (.istore_n 2, 1) := by decide +kernel
theorem dX12_fitsOne_20 : decode cX12_fitsOne 20 = .ok (.iinc 3 1, 3) := by decide +kernel
theorem dX12_fitsOne_23 : decode cX12_fitsOne 23 = .ok (.goto (-19), 3) := by decide +kernel
theorem dX12_fitsOne_26 : decode cX12_fitsOne 26 = .ok (.iconst 0, 1) := by decide +kernel
theorem dX12_fitsOne_27 : decode cX12_fitsOne 27 = .ok (.istore_n 3, 1) := by decide +kernel
theorem dX12_fitsOne_28 : decode cX12_fitsOne 28 = .ok (.iconst 0, 1) := by decide +kernel
theorem dX12_fitsOne_29 : decode cX12_fitsOne 29 = .ok (.istore 4, 2) := by decide +kernel
theorem dX12_fitsOne_31 : decode cX12_fitsOne 31 = .ok (.iload 4, 2) := by decide +kernel
theorem dX12_fitsOne_33 : decode cX12_fitsOne 33 = .ok (.aload_n 0, 1) := by decide +kernel
theorem dX12_fitsOne_34 : decode cX12_fitsOne 34 = .ok (.getfield 58, 3) := by decide +kernel
theorem dX12_fitsOne_37 : decode cX12_fitsOne 37 = .ok (.aload_n 0, 1) := by decide +kernel
theorem dX12_fitsOne_38 : decode cX12_fitsOne 38 = .ok (.getfield 222, 3) := by decide +kernel
theorem dX12_fitsOne_41 : decode cX12_fitsOne 41 = .ok (.iaload, 1) := by decide +kernel
theorem dX12_fitsOne_42 : decode cX12_fitsOne 42 = .ok (.if_icmp .ge 32, 3) := by decide +kernel
theorem dX12_fitsOne_45 : decode cX12_fitsOne 45 = .ok (.aload_n 0, 1) := by decide +kernel
theorem dX12_fitsOne_46 : decode cX12_fitsOne 46 = .ok (.getfield 119, 3) := by decide +kernel
theorem dX12_fitsOne_49 : decode cX12_fitsOne 49 = .ok (.iconst 2, 1) := by decide +kernel
theorem dX12_fitsOne_50 : decode cX12_fitsOne 50 = .ok (.iaload, 1) := by decide +kernel
theorem dX12_fitsOne_51 : decode cX12_fitsOne 51 = .ok (.aload_n 0, 1) := by decide +kernel
theorem dX12_fitsOne_52 : decode cX12_fitsOne 52 = .ok (.iload 4, 2) := by decide +kernel
theorem dX12_fitsOne_54 : decode cX12_fitsOne 54 = .ok (.invokevirtual 343, 3) := by decide +kernel
theorem dX12_fitsOne_57 : decode cX12_fitsOne 57 = .ok (.iand, 1) := by decide +kernel
theorem dX12_fitsOne_58 : decode cX12_fitsOne 58 = .ok (.ifCond .eq 10, 3) := by decide +kernel
theorem dX12_fitsOne_61 : decode cX12_fitsOne 61 = .ok (.iload_n 3, 1) := by decide +kernel
theorem dX12_fitsOne_62 : decode cX12_fitsOne 62 = .ok (.iconst 1, 1) := by decide +kernel
theorem dX12_fitsOne_63 : decode cX12_fitsOne 63 = .ok (.iload 4, 2) := by decide +kernel
theorem dX12_fitsOne_65 : decode cX12_fitsOne 65 = .ok (.ishl, 1) := by decide +kernel
theorem dX12_fitsOne_66 : decode cX12_fitsOne 66 = .ok (.ior, 1) := by decide +kernel
theorem dX12_fitsOne_67 : decode cX12_fitsOne 67 = .ok (.istore_n 3, 1) := by decide +kernel
theorem dX12_fitsOne_68 : decode cX12_fitsOne 68 = .ok (.iinc 4 1, 3) := by decide +kernel
theorem dX12_fitsOne_71 : decode cX12_fitsOne 71 = .ok (.goto (-40), 3) := by decide +kernel
theorem dX12_fitsOne_74 : decode cX12_fitsOne 74 = .ok (.aload_n 0, 1) := by decide +kernel
theorem dX12_fitsOne_75 : decode cX12_fitsOne 75 = .ok (.aload_n 0, 1) := by decide +kernel
theorem dX12_fitsOne_76 : decode cX12_fitsOne 76 = .ok (.getfield 432, 3) := by decide +kernel
theorem dX12_fitsOne_79 : decode cX12_fitsOne 79 = .ok (.lconst 0, 1) := by decide +kernel
theorem dX12_fitsOne_80 : decode cX12_fitsOne 80 = .ok (.lcmp, 1) := by decide +kernel
theorem dX12_fitsOne_81 : decode cX12_fitsOne 81 = .ok (.ifCond .ne 7, 3) := by decide +kernel
theorem dX12_fitsOne_84 : decode cX12_fitsOne 84 = .ok (.iload_n 2, 1) := by decide +kernel
theorem dX12_fitsOne_85 : decode cX12_fitsOne 85 = .ok (.goto 9, 3) := by decide +kernel
theorem dX12_fitsOne_88 : decode cX12_fitsOne 88 = .ok (.aload_n 0, 1) := by decide +kernel
theorem dX12_fitsOne_89 : decode cX12_fitsOne 89 = .ok (.getfield 436, 3) := by decide +kernel
theorem dX12_fitsOne_92 : decode cX12_fitsOne 92 = .ok (.iload_n 2, 1) := by decide +kernel
theorem dX12_fitsOne_93 : decode cX12_fitsOne 93 = .ok (.iand, 1) := by decide +kernel
theorem dX12_fitsOne_94 : decode cX12_fitsOne 94 = .ok (.putfield 436, 3) := by decide +kernel
theorem dX12_fitsOne_97 : decode cX12_fitsOne 97 = .ok (.aload_n 0, 1) := by decide +kernel
theorem dX12_fitsOne_98 : decode cX12_fitsOne 98 = .ok (.aload_n 0, 1) := by decide +kernel
theorem dX12_fitsOne_99 : decode cX12_fitsOne 99 = .ok (.getfield 432, 3) := by decide +kernel
theorem dX12_fitsOne_102 : decode cX12_fitsOne 102 = .ok (.lconst 0, 1) := by decide +kernel
theorem dX12_fitsOne_103 : decode cX12_fitsOne 103 = .ok (.lcmp, 1) := by decide +kernel
theorem dX12_fitsOne_104 : decode cX12_fitsOne 104 = .ok (.ifCond .ne 7, 3) := by decide +kernel
theorem dX12_fitsOne_107 : decode cX12_fitsOne 107 = .ok (.iload_n 3, 1) := by decide +kernel
theorem dX12_fitsOne_108 : decode cX12_fitsOne 108 = .ok (.goto 9, 3) := by decide +kernel
theorem dX12_fitsOne_111 : decode cX12_fitsOne 111 = .ok (.aload_n 0, 1) := by decide +kernel
theorem dX12_fitsOne_112 : decode cX12_fitsOne 112 = .ok (.getfield 439, 3) := by decide +kernel
theorem dX12_fitsOne_115 : decode cX12_fitsOne 115 = .ok (.iload_n 3, 1) := by decide +kernel
theorem dX12_fitsOne_116 : decode cX12_fitsOne 116 = .ok (.iand, 1) := by decide +kernel
theorem dX12_fitsOne_117 : decode cX12_fitsOne 117 = .ok (.putfield 439, 3) := by decide +kernel
theorem dX12_fitsOne_120 : decode cX12_fitsOne 120 = .ok (.aload_n 0, 1) := by decide +kernel
theorem dX12_fitsOne_121 : decode cX12_fitsOne 121 = .ok (.dup, 1) := by decide +kernel
theorem dX12_fitsOne_122 : decode cX12_fitsOne 122 = .ok (.getfield 432, 3) := by decide +kernel
theorem dX12_fitsOne_125 : decode cX12_fitsOne 125 = .ok (.lconst 1, 1) := by decide +kernel
theorem dX12_fitsOne_126 : decode cX12_fitsOne 126 = .ok (.ladd, 1) := by decide +kernel
theorem dX12_fitsOne_127 : decode cX12_fitsOne 127 = .ok (.putfield 432, 3) := by decide +kernel
theorem dX12_fitsOne_130 : decode cX12_fitsOne 130 = .ok (.return_, 1) := by decide +kernel
theorem dX12_forward_0 : decode cX12_forward 0 = .ok (.iconst 0, 1) := by decide +kernel
theorem dX12_forward_1 : decode cX12_forward 1 = .ok (.istore_n 2, 1) := by decide +kernel
theorem dX12_forward_2 : decode cX12_forward 2 = .ok (.iload_n 2, 1) := by decide +kernel
theorem dX12_forward_3 : decode cX12_forward 3 = .ok (.iload_n 1, 1) := by decide +kernel
theorem dX12_forward_4 : decode cX12_forward 4 = .ok (.if_icmp .ge 122, 3) := by decide +kernel
theorem dX12_forward_7 : decode cX12_forward 7 = .ok (.aload_n 0, 1) := by decide +kernel
theorem dX12_forward_8 : decode cX12_forward 8 = .ok (.getfield 119, 3) := by decide +kernel
theorem dX12_forward_11 : decode cX12_forward 11 = .ok (.iconst 0, 1) := by decide +kernel
theorem dX12_forward_12 : decode cX12_forward 12 = .ok (.iaload, 1) := by decide +kernel
theorem dX12_forward_13 : decode cX12_forward 13 = .ok (.ldc_w 333, 3) := by decide +kernel
theorem dX12_forward_16 : decode cX12_forward 16 = .ok (.if_icmp .ge 110, 3) := by decide +kernel
theorem dX12_forward_19 : decode cX12_forward 19 = .ok (.aload_n 0, 1) := by decide +kernel
theorem dX12_forward_20 : decode cX12_forward 20 = .ok (.getfield 119, 3) := by decide +kernel
theorem dX12_forward_23 : decode cX12_forward 23 = .ok (.iconst 0, 1) := by decide +kernel
theorem dX12_forward_24 : decode cX12_forward 24 = .ok (.dup2, 1) := by decide +kernel
theorem dX12_forward_25 : decode cX12_forward 25 = .ok (.iaload, 1) := by decide +kernel
theorem dX12_forward_26 : decode cX12_forward 26 = .ok (.iconst 1, 1) := by decide +kernel
theorem dX12_forward_27 : decode cX12_forward 27 = .ok (.iadd, 1) := by decide +kernel
theorem dX12_forward_28 : decode cX12_forward 28 = .ok (.iastore, 1) := by decide +kernel
theorem dX12_forward_29 : decode cX12_forward 29 = .ok (.aload_n 0, 1) := by decide +kernel
theorem dX12_forward_30 : decode cX12_forward 30 = .ok (.getfield 119, 3) := by decide +kernel
theorem dX12_forward_33 : decode cX12_forward 33 = .ok (.iconst 0, 1) := by decide +kernel
theorem dX12_forward_34 : decode cX12_forward 34 = .ok (.iaload, 1) := by decide +kernel
theorem dX12_forward_35 : decode cX12_forward 35 = .ok (.aload_n 0, 1) := by decide +kernel
theorem dX12_forward_36 : decode cX12_forward 36 = .ok (.getfield 334, 3) := by decide +kernel
theorem dX12_forward_39 : decode cX12_forward 39 = .ok (.if_icmp .ne 8, 3) := by decide +kernel
theorem dX12_forward_42 : decode cX12_forward 42 = .ok (.aload_n 0, 1) := by decide +kernel
theorem dX12_forward_43 : decode cX12_forward 43 = .ok (.iconst 1, 1) := by decide +kernel
theorem dX12_forward_44 : decode cX12_forward 44 = .ok (.putfield 337, 3) := by decide +kernel
theorem dX12_forward_47 : decode cX12_forward 47 = .ok (.iconst 0, 1) := by decide +kernel
theorem dX12_forward_48 : decode cX12_forward 48 = .ok (.istore_n 3, 1) := by decide +kernel
theorem dX12_forward_49 : decode cX12_forward 49 = .ok (.iload_n 3, 1) := by decide +kernel
theorem dX12_forward_50 : decode cX12_forward 50 = .ok (.aload_n 0, 1) := by decide +kernel
theorem dX12_forward_51 : decode cX12_forward 51 = .ok (.getfield 74, 3) := by decide +kernel
theorem dX12_forward_54 : decode cX12_forward 54 = .ok (.aload_n 0, 1) := by decide +kernel
theorem dX12_forward_55 : decode cX12_forward 55 = .ok (.getfield 222, 3) := by decide +kernel
theorem dX12_forward_58 : decode cX12_forward 58 = .ok (.iaload, 1) := by decide +kernel
theorem dX12_forward_59 : decode cX12_forward 59 = .ok (.if_icmp .ge 61, 3) := by decide +kernel
theorem dX12_forward_62 : decode cX12_forward 62 = .ok (.aload_n 0, 1) := by decide +kernel
theorem dX12_forward_63 : decode cX12_forward 63 = .ok (.getfield 77, 3) := by decide +kernel
theorem dX12_forward_66 : decode cX12_forward 66 = .ok (.bipush 8, 2) := by decide +kernel
theorem dX12_forward_68 : decode cX12_forward 68 = .ok (.aload_n 0, 1) := by decide +kernel
theorem dX12_forward_69 : decode cX12_forward 69 = .ok (.getfield 222, 3) := by decide +kernel
theorem dX12_forward_72 : decode cX12_forward 72 = .ok (.imul, 1) := by decide +kernel
theorem dX12_forward_73 : decode cX12_forward 73 = .ok (.iload_n 3, 1) := by decide +kernel
theorem dX12_forward_74 : decode cX12_forward 74 = .ok (.iadd, 1) := by decide +kernel
theorem dX12_forward_75 : decode cX12_forward 75 = .ok (.iaload, 1) := by decide +kernel
theorem dX12_forward_76 : decode cX12_forward 76 = .ok (.aload_n 0, 1) := by decide +kernel
theorem dX12_forward_77 : decode cX12_forward 77 = .ok (.getfield 119, 3) := by decide +kernel
theorem dX12_forward_80 : decode cX12_forward 80 = .ok (.iconst 0, 1) := by decide +kernel
theorem dX12_forward_81 : decode cX12_forward 81 = .ok (.iaload, 1) := by decide +kernel
theorem dX12_forward_82 : decode cX12_forward 82 = .ok (.if_icmp .eq 6, 3) := by decide +kernel
theorem dX12_forward_85 : decode cX12_forward 85 = .ok (.goto 29, 3) := by decide +kernel
theorem dX12_forward_88 : decode cX12_forward 88 = .ok (.aload_n 0, 1) := by decide +kernel
theorem dX12_forward_89 : decode cX12_forward 89 = .ok (.getfield 119, 3) := by decide +kernel
theorem dX12_forward_92 : decode cX12_forward 92 = .ok (.bipush 12, 2) := by decide +kernel
theorem dX12_forward_94 : decode cX12_forward 94 = .ok (.iload_n 3, 1) := by decide +kernel
theorem dX12_forward_95 : decode cX12_forward 95 = .ok (.iadd, 1) := by decide +kernel
theorem dX12_forward_96 : decode cX12_forward 96 = .ok (.aload_n 0, 1) := by decide +kernel
theorem dX12_forward_97 : decode cX12_forward 97 = .ok (.iload_n 3, 1) := by decide +kernel
theorem dX12_forward_98 : decode cX12_forward 98 = .ok (.invokevirtual 340, 3) := by decide +kernel
theorem dX12_forward_101 : decode cX12_forward 101 = .ok (.iastore, 1) := by decide +kernel
theorem dX12_forward_102 : decode cX12_forward 102 = .ok (.aload_n 0, 1) := by decide +kernel
theorem dX12_forward_103 : decode cX12_forward 103 = .ok (.getfield 119, 3) := by decide +kernel
theorem dX12_forward_106 : decode cX12_forward 106 = .ok (.iconst 4, 1) := by decide +kernel
theorem dX12_forward_107 : decode cX12_forward 107 = .ok (.iload_n 3, 1) := by decide +kernel
theorem dX12_forward_108 : decode cX12_forward 108 = .ok (.iadd, 1) := by decide +kernel
theorem dX12_forward_109 : decode cX12_forward 109 = .ok (.dup2, 1) := by decide +kernel
theorem dX12_forward_110 : decode cX12_forward 110 = .ok (.iaload, 1) := by decide +kernel
theorem dX12_forward_111 : decode cX12_forward 111 = .ok (.iconst 1, 1) := by decide +kernel
theorem dX12_forward_112 : decode cX12_forward 112 = .ok (.iadd, 1) := by decide +kernel
theorem dX12_forward_113 : decode cX12_forward 113 = .ok (.iastore, 1) := by decide +kernel
theorem dX12_forward_114 : decode cX12_forward 114 = .ok (.iinc 3 1, 3) := by decide +kernel
theorem dX12_forward_117 : decode cX12_forward 117 = .ok (.goto (-68), 3) := by decide +kernel
theorem dX12_forward_120 : decode cX12_forward 120 = .ok (.iinc 2 1, 3) := by decide +kernel
theorem dX12_forward_123 : decode cX12_forward 123 = .ok (.goto (-121), 3) := by decide +kernel
theorem dX12_forward_126 : decode cX12_forward 126 = .ok (.return_, 1) := by decide +kernel
theorem dX12_goesOn_0 : decode cX12_goesOn 0 = .ok (.aload_n 0, 1) := by decide +kernel
theorem dX12_goesOn_1 : decode cX12_goesOn 1 = .ok (.getfield 195, 3) := by decide +kernel
theorem dX12_goesOn_4 : decode cX12_goesOn 4 = .ok (.sipush 400, 3) := by decide +kernel
theorem dX12_goesOn_7 : decode cX12_goesOn 7 = .ok (.if_icmp .ne 11, 3) := by decide +kernel
theorem dX12_goesOn_10 : decode cX12_goesOn 10 = .ok (.aload_n 0, 1) := by decide +kernel
theorem dX12_goesOn_11 : decode cX12_goesOn 11 = .ok (.iconst 2, 1) := by decide +kernel
theorem dX12_goesOn_12 : decode cX12_goesOn 12 = .ok (.invokevirtual 207, 3) := by decide +kernel
theorem dX12_goesOn_15 : decode cX12_goesOn 15 = .ok (.goto 13, 3) := by decide +kernel
theorem dX12_goesOn_18 : decode cX12_goesOn 18 = .ok (.aload_n 0, 1) := by decide +kernel
theorem dX12_goesOn_19 : decode cX12_goesOn 19 = .ok (.dup, 1) := by decide +kernel
theorem dX12_goesOn_20 : decode cX12_goesOn 20 = .ok (.getfield 195, 3) := by decide +kernel
theorem dX12_goesOn_23 : decode cX12_goesOn 23 = .ok (.iconst 1, 1) := by decide +kernel
theorem dX12_goesOn_24 : decode cX12_goesOn 24 = .ok (.iadd, 1) := by decide +kernel
theorem dX12_goesOn_25 : decode cX12_goesOn 25 = .ok (.putfield 195, 3) := by decide +kernel
theorem dX12_goesOn_28 : decode cX12_goesOn 28 = .ok (.return_, 1) := by decide +kernel
theorem dX12_heardAll_0 : decode cX12_heardAll 0 = .ok (.iconst 0, 1) := by decide +kernel
theorem dX12_heardAll_1 : decode cX12_heardAll 1 = .ok (.istore_n 1, 1) := by decide +kernel
theorem dX12_heardAll_2 : decode cX12_heardAll 2 = .ok (.iconst 0, 1) := by decide +kernel
theorem dX12_heardAll_3 : decode cX12_heardAll 3 = .ok (.istore_n 2, 1) := by decide +kernel
theorem dX12_heardAll_4 : decode cX12_heardAll 4 = .ok (.iload_n 2, 1) := by decide +kernel
theorem dX12_heardAll_5 : decode cX12_heardAll 5 = .ok (.bipush 8, 2) := by decide +kernel
theorem dX12_heardAll_7 : decode cX12_heardAll 7 = .ok (.if_icmp .ge 20, 3) := by decide +kernel
theorem dX12_heardAll_10 : decode cX12_heardAll 10 = .ok (.iload_n 1, 1) := by decide +kernel
theorem dX12_heardAll_11 : decode cX12_heardAll 11 = .ok (.aload_n 0, 1) := by decide +kernel
theorem dX12_heardAll_12 : decode cX12_heardAll 12 = .ok (.getfield 119, 3) := by decide +kernel
theorem dX12_heardAll_15 : decode cX12_heardAll 15 = .ok (.iconst 4, 1) := by decide +kernel
theorem dX12_heardAll_16 : decode cX12_heardAll 16 = .ok (.iload_n 2, 1) := by decide +kernel
theorem dX12_heardAll_17 : decode cX12_heardAll 17 = .ok (.iadd, 1) := by decide +kernel
theorem dX12_heardAll_18 : decode cX12_heardAll 18 = .ok (.iaload, 1) := by decide +kernel
theorem dX12_heardAll_19 : decode cX12_heardAll 19 = .ok (.iadd, 1) := by decide +kernel
theorem dX12_heardAll_20 : decode cX12_heardAll 20 = .ok (.istore_n 1, 1) := by decide +kernel
theorem dX12_heardAll_21 : decode cX12_heardAll 21 = .ok (.iinc 2 1, 3) := by decide +kernel
theorem dX12_heardAll_24 : decode cX12_heardAll 24 = .ok (.goto (-20), 3) := by decide +kernel
theorem dX12_heardAll_27 : decode cX12_heardAll 27 = .ok (.iload_n 1, 1) := by decide +kernel
theorem dX12_heardAll_28 : decode cX12_heardAll 28 = .ok (.ireturn, 1) := by decide +kernel
theorem dX12_hearing_0 : decode cX12_hearing 0 = .ok (.aload_n 0, 1) := by decide +kernel
theorem dX12_hearing_1 : decode cX12_hearing 1 = .ok (.iload_n 1, 1) := by decide +kernel
theorem dX12_hearing_2 : decode cX12_hearing 2 = .ok (.invokevirtual 388, 3) := by decide +kernel
theorem dX12_hearing_5 : decode cX12_hearing 5 = .ok (.ifCond .ne 5, 3) := by decide +kernel
theorem dX12_hearing_8 : decode cX12_hearing 8 = .ok (.iconst (-1), 1) := by decide +kernel
theorem dX12_hearing_9 : decode cX12_hearing 9 = .ok (.ireturn, 1) := by decide +kernel
theorem dX12_hearing_10 : decode cX12_hearing 10 = .ok (.aload_n 0, 1) := by decide +kernel
theorem dX12_hearing_11 : decode cX12_hearing 11 = .ok (.invokevirtual 384, 3) := by decide +kernel
theorem dX12_hearing_14 : decode cX12_hearing 14 = .ok (.iload_n 2, 1) := by decide +kernel
theorem dX12_hearing_15 : decode cX12_hearing 15 = .ok (.tableswitch 69 0 3 #[29, 44, 53, 63], 29) := by decide +kernel
theorem dX12_hearing_44 : decode cX12_hearing 44 = .ok (.aload_n 0, 1) := by decide +kernel
theorem dX12_hearing_45 : decode cX12_hearing 45 = .ok (.getfield 77, 3) := by decide +kernel
theorem dX12_hearing_48 : decode cX12_hearing 48 = .ok (.bipush 8, 2) := by decide +kernel
theorem dX12_hearing_50 : decode cX12_hearing 50 = .ok (.aload_n 0, 1) := by decide +kernel
theorem dX12_hearing_51 : decode cX12_hearing 51 = .ok (.getfield 222, 3) := by decide +kernel
theorem dX12_hearing_54 : decode cX12_hearing 54 = .ok (.imul, 1) := by decide +kernel
theorem dX12_hearing_55 : decode cX12_hearing 55 = .ok (.iload_n 1, 1) := by decide +kernel
theorem dX12_hearing_56 : decode cX12_hearing 56 = .ok (.iadd, 1) := by decide +kernel
theorem dX12_hearing_57 : decode cX12_hearing 57 = .ok (.iaload, 1) := by decide +kernel
theorem dX12_hearing_58 : decode cX12_hearing 58 = .ok (.ireturn, 1) := by decide +kernel
theorem dX12_hearing_59 : decode cX12_hearing 59 = .ok (.aload_n 0, 1) := by decide +kernel
theorem dX12_hearing_60 : decode cX12_hearing 60 = .ok (.getfield 119, 3) := by decide +kernel
theorem dX12_hearing_63 : decode cX12_hearing 63 = .ok (.iconst 4, 1) := by decide +kernel
theorem dX12_hearing_64 : decode cX12_hearing 64 = .ok (.iload_n 1, 1) := by decide +kernel
theorem dX12_hearing_65 : decode cX12_hearing 65 = .ok (.iadd, 1) := by decide +kernel
theorem dX12_hearing_66 : decode cX12_hearing 66 = .ok (.iaload, 1) := by decide +kernel
theorem dX12_hearing_67 : decode cX12_hearing 67 = .ok (.ireturn, 1) := by decide +kernel
theorem dX12_hearing_68 : decode cX12_hearing 68 = .ok (.aload_n 0, 1) := by decide +kernel
theorem dX12_hearing_69 : decode cX12_hearing 69 = .ok (.getfield 119, 3) := by decide +kernel
theorem dX12_hearing_72 : decode cX12_hearing 72 = .ok (.bipush 12, 2) := by decide +kernel
theorem dX12_hearing_74 : decode cX12_hearing 74 = .ok (.iload_n 1, 1) := by decide +kernel
theorem dX12_hearing_75 : decode cX12_hearing 75 = .ok (.iadd, 1) := by decide +kernel
theorem dX12_hearing_76 : decode cX12_hearing 76 = .ok (.iaload, 1) := by decide +kernel
theorem dX12_hearing_77 : decode cX12_hearing 77 = .ok (.ireturn, 1) := by decide +kernel
theorem dX12_hearing_78 : decode cX12_hearing 78 = .ok (.aload_n 0, 1) := by decide +kernel
theorem dX12_hearing_79 : decode cX12_hearing 79 = .ok (.iload_n 1, 1) := by decide +kernel
theorem dX12_hearing_80 : decode cX12_hearing 80 = .ok (.invokevirtual 340, 3) := by decide +kernel
theorem dX12_hearing_83 : decode cX12_hearing 83 = .ok (.ireturn, 1) := by decide +kernel
theorem dX12_hearing_84 : decode cX12_hearing 84 = .ok (.iconst (-1), 1) := by decide +kernel
theorem dX12_hearing_85 : decode cX12_hearing 85 = .ok (.ireturn, 1) := by decide +kernel
theorem dX12_hold_0 : decode cX12_hold 0 = .ok (.iload_n 1, 1) := by decide +kernel
theorem dX12_hold_1 : decode cX12_hold 1 = .ok (.iconst 0, 1) := by decide +kernel
theorem dX12_hold_2 : decode cX12_hold 2 = .ok (.iconst 2, 1) := by decide +kernel
theorem dX12_hold_3 : decode cX12_hold 3 = .ok (.invokestatic 323, 3) := by decide +kernel
theorem dX12_hold_6 : decode cX12_hold 6 = .ok (.ifCond .ne 5, 3) := by decide +kernel
theorem dX12_hold_9 : decode cX12_hold 9 = .ok (.iconst 0, 1) := by decide +kernel
theorem dX12_hold_10 : decode cX12_hold 10 = .ok (.ireturn, 1) := by decide +kernel
theorem dX12_hold_11 : decode cX12_hold 11 = .ok (.aload_n 0, 1) := by decide +kernel
theorem dX12_hold_12 : decode cX12_hold 12 = .ok (.getfield 144, 3) := by decide +kernel
theorem dX12_hold_15 : decode cX12_hold 15 = .ok (.iload_n 1, 1) := by decide +kernel
theorem dX12_hold_16 : decode cX12_hold 16 = .ok (.iconst 1, 1) := by decide +kernel
theorem dX12_hold_17 : decode cX12_hold 17 = .ok (.bastore, 1) := by decide +kernel
theorem dX12_hold_18 : decode cX12_hold 18 = .ok (.iconst 0, 1) := by decide +kernel
theorem dX12_hold_19 : decode cX12_hold 19 = .ok (.istore_n 2, 1) := by decide +kernel
theorem dX12_hold_20 : decode cX12_hold 20 = .ok (.iload_n 2, 1) := by decide +kernel
theorem dX12_hold_21 : decode cX12_hold 21 = .ok (.bipush 40, 2) := by decide +kernel
theorem dX12_hold_23 : decode cX12_hold 23 = .ok (.if_icmp .ge 26, 3) := by decide +kernel
theorem dX12_hold_26 : decode cX12_hold 26 = .ok (.aload_n 0, 1) := by decide +kernel
theorem dX12_hold_27 : decode cX12_hold 27 = .ok (.getfield 147, 3) := by decide +kernel
theorem dX12_hold_30 : decode cX12_hold 30 = .ok (.bipush 40, 2) := by decide +kernel
theorem dX12_hold_32 : decode cX12_hold 32 = .ok (.iload_n 1, 1) := by decide +kernel
theorem dX12_hold_33 : decode cX12_hold 33 = .ok (.imul, 1) := by decide +kernel
theorem dX12_hold_34 : decode cX12_hold 34 = .ok (.iload_n 2, 1) := by decide +kernel
theorem dX12_hold_35 : decode cX12_hold 35 = .ok (.iadd, 1) := by decide +kernel
theorem dX12_hold_36 : decode cX12_hold 36 = .ok (.aload_n 0, 1) := by decide +kernel
theorem dX12_hold_37 : decode cX12_hold 37 = .ok (.getfield 116, 3) := by decide +kernel
theorem dX12_hold_40 : decode cX12_hold 40 = .ok (.iload_n 2, 1) := by decide +kernel
theorem dX12_hold_41 : decode cX12_hold 41 = .ok (.iaload, 1) := by decide +kernel
theorem dX12_hold_42 : decode cX12_hold 42 = .ok (.iastore, 1) := by decide +kernel
theorem dX12_hold_43 : decode cX12_hold 43 = .ok (.iinc 2 1, 3) := by decide +kernel
theorem dX12_hold_46 : decode cX12_hold 46 = .ok (.goto (-26), 3) := by decide +kernel
theorem dX12_hold_49 : decode cX12_hold 49 = .ok (.iconst 1, 1) := by decide +kernel
theorem dX12_hold_50 : decode cX12_hold 50 = .ok (.ireturn, 1) := by decide +kernel
theorem dX12_holdsOf_0 : decode cX12_holdsOf 0 = .ok (.aload_n 0, 1) := by decide +kernel
theorem dX12_holdsOf_1 : decode cX12_holdsOf 1 = .ok (.getfield 71, 3) := by decide +kernel
theorem dX12_holdsOf_4 : decode cX12_holdsOf 4 = .ok (.bipush 16, 2) := by decide +kernel
theorem dX12_holdsOf_6 : decode cX12_holdsOf 6 = .ok (.aload_n 0, 1) := by decide +kernel
theorem dX12_holdsOf_7 : decode cX12_holdsOf 7 = .ok (.getfield 222, 3) := by decide +kernel
theorem dX12_holdsOf_10 : decode cX12_holdsOf 10 = .ok (.imul, 1) := by decide +kernel
theorem dX12_holdsOf_11 : decode cX12_holdsOf 11 = .ok (.iload_n 1, 1) := by decide +kernel
theorem dX12_holdsOf_12 : decode cX12_holdsOf 12 = .ok (.iadd, 1) := by decide +kernel
theorem dX12_holdsOf_13 : decode cX12_holdsOf 13 = .ok (.laload, 1) := by decide +kernel
theorem dX12_holdsOf_14 : decode cX12_holdsOf 14 = .ok (.lreturn, 1) := by decide +kernel
theorem dX12_in_0 : decode cX12_in 0 = .ok (.iload_n 0, 1) := by decide +kernel
theorem dX12_in_1 : decode cX12_in 1 = .ok (.iload_n 1, 1) := by decide +kernel
theorem dX12_in_2 : decode cX12_in 2 = .ok (.if_icmp .lt 12, 3) := by decide +kernel
theorem dX12_in_5 : decode cX12_in 5 = .ok (.iload_n 0, 1) := by decide +kernel
theorem dX12_in_6 : decode cX12_in 6 = .ok (.iload_n 2, 1) := by decide +kernel
theorem dX12_in_7 : decode cX12_in 7 = .ok (.if_icmp .gt 7, 3) := by decide +kernel
theorem dX12_in_10 : decode cX12_in 10 = .ok (.iconst 1, 1) := by decide +kernel
theorem dX12_in_11 : decode cX12_in 11 = .ok (.goto 4, 3) := by decide +kernel
theorem dX12_in_14 : decode cX12_in 14 = .ok (.iconst 0, 1) := by decide +kernel
theorem dX12_in_15 : decode cX12_in 15 = .ok (.ireturn, 1) := by decide +kernel
theorem dX12_is_0 : decode cX12_is 0 = .ok (.aload_n 0, 1) := by decide +kernel
theorem dX12_is_1 : decode cX12_is 1 = .ok (.getfield 192, 3) := by decide +kernel
theorem dX12_is_4 : decode cX12_is 4 = .ok (.ifCond .ne 20, 3) := by decide +kernel
theorem dX12_is_7 : decode cX12_is 7 = .ok (.aload_n 0, 1) := by decide +kernel
theorem dX12_is_8 : decode cX12_is 8 = .ok (.getfield 20, 3) := by decide +kernel
theorem dX12_is_11 : decode cX12_is 11 = .ok (.aload_n 0, 1) := by decide +kernel
theorem dX12_is_12 : decode cX12_is 12 = .ok (.getfield 195, 3) := by decide +kernel
theorem dX12_is_15 : decode cX12_is 15 = .ok (.iaload, 1) := by decide +kernel
theorem dX12_is_16 : decode cX12_is 16 = .ok (.iload_n 1, 1) := by decide +kernel
theorem dX12_is_17 : decode cX12_is 17 = .ok (.if_icmp .ne 7, 3) := by decide +kernel
theorem dX12_is_20 : decode cX12_is 20 = .ok (.iconst 1, 1) := by decide +kernel
theorem dX12_is_21 : decode cX12_is 21 = .ok (.goto 4, 3) := by decide +kernel
theorem dX12_is_24 : decode cX12_is 24 = .ok (.iconst 0, 1) := by decide +kernel
theorem dX12_is_25 : decode cX12_is 25 = .ok (.ireturn, 1) := by decide +kernel
theorem dX12_isAhead_0 : decode cX12_isAhead 0 = .ok (.aload_n 0, 1) := by decide +kernel
theorem dX12_isAhead_1 : decode cX12_isAhead 1 = .ok (.invokevirtual 384, 3) := by decide +kernel
theorem dX12_isAhead_4 : decode cX12_isAhead 4 = .ok (.iconst 0, 1) := by decide +kernel
theorem dX12_isAhead_5 : decode cX12_isAhead 5 = .ok (.istore_n 3, 1) := by decide +kernel
theorem dX12_isAhead_6 : decode cX12_isAhead 6 = .ok (.iload_n 3, 1) := by decide +kernel
theorem dX12_isAhead_7 : decode cX12_isAhead 7 = .ok (.aload_n 0, 1) := by decide +kernel
theorem dX12_isAhead_8 : decode cX12_isAhead 8 = .ok (.getfield 397, 3) := by decide +kernel
theorem dX12_isAhead_11 : decode cX12_isAhead 11 = .ok (.if_icmp .ge 41, 3) := by decide +kernel
theorem dX12_isAhead_14 : decode cX12_isAhead 14 = .ok (.aload_n 0, 1) := by decide +kernel
theorem dX12_isAhead_15 : decode cX12_isAhead 15 = .ok (.aload_n 0, 1) := by decide +kernel
theorem dX12_isAhead_16 : decode cX12_isAhead 16 = .ok (.getfield 125, 3) := by decide +kernel
theorem dX12_isAhead_19 : decode cX12_isAhead 19 = .ok (.iload_n 3, 1) := by decide +kernel
theorem dX12_isAhead_20 : decode cX12_isAhead 20 = .ok (.iaload, 1) := by decide +kernel
theorem dX12_isAhead_21 : decode cX12_isAhead 21 = .ok (.invokevirtual 391, 3) := by decide +kernel
theorem dX12_isAhead_24 : decode cX12_isAhead 24 = .ok (.pop, 1) := by decide +kernel
theorem dX12_isAhead_25 : decode cX12_isAhead 25 = .ok (.aload_n 0, 1) := by decide +kernel
theorem dX12_isAhead_26 : decode cX12_isAhead 26 = .ok (.getfield 119, 3) := by decide +kernel
theorem dX12_isAhead_29 : decode cX12_isAhead 29 = .ok (.iconst 4, 1) := by decide +kernel
theorem dX12_isAhead_30 : decode cX12_isAhead 30 = .ok (.iload_n 2, 1) := by decide +kernel
theorem dX12_isAhead_31 : decode cX12_isAhead 31 = .ok (.iadd, 1) := by decide +kernel
theorem dX12_isAhead_32 : decode cX12_isAhead 32 = .ok (.iaload, 1) := by decide +kernel
theorem dX12_isAhead_33 : decode cX12_isAhead 33 = .ok (.aload_n 0, 1) := by decide +kernel
theorem dX12_isAhead_34 : decode cX12_isAhead 34 = .ok (.getfield 116, 3) := by decide +kernel
theorem dX12_isAhead_37 : decode cX12_isAhead 37 = .ok (.iconst 4, 1) := by decide +kernel
theorem dX12_isAhead_38 : decode cX12_isAhead 38 = .ok (.iload_n 2, 1) := by decide +kernel
theorem dX12_isAhead_39 : decode cX12_isAhead 39 = .ok (.iadd, 1) := by decide +kernel
theorem dX12_isAhead_40 : decode cX12_isAhead 40 = .ok (.iaload, 1) := by decide +kernel
theorem dX12_isAhead_41 : decode cX12_isAhead 41 = .ok (.if_icmp .le 5, 3) := by decide +kernel
theorem dX12_isAhead_44 : decode cX12_isAhead 44 = .ok (.iconst 0, 1) := by decide +kernel
theorem dX12_isAhead_45 : decode cX12_isAhead 45 = .ok (.ireturn, 1) := by decide +kernel
theorem dX12_isAhead_46 : decode cX12_isAhead 46 = .ok (.iinc 3 1, 3) := by decide +kernel
theorem dX12_isAhead_49 : decode cX12_isAhead 49 = .ok (.goto (-43), 3) := by decide +kernel
theorem dX12_isAhead_52 : decode cX12_isAhead 52 = .ok (.aload_n 0, 1) := by decide +kernel
theorem dX12_isAhead_53 : decode cX12_isAhead 53 = .ok (.getfield 119, 3) := by decide +kernel
theorem dX12_isAhead_56 : decode cX12_isAhead 56 = .ok (.iconst 4, 1) := by decide +kernel
theorem dX12_isAhead_57 : decode cX12_isAhead 57 = .ok (.iload_n 1, 1) := by decide +kernel
theorem dX12_isAhead_58 : decode cX12_isAhead 58 = .ok (.iadd, 1) := by decide +kernel
theorem dX12_isAhead_59 : decode cX12_isAhead 59 = .ok (.iaload, 1) := by decide +kernel
theorem dX12_isAhead_60 : decode cX12_isAhead 60 = .ok (.aload_n 0, 1) := by decide +kernel
theorem dX12_isAhead_61 : decode cX12_isAhead 61 = .ok (.getfield 116, 3) := by decide +kernel
theorem dX12_isAhead_64 : decode cX12_isAhead 64 = .ok (.iconst 4, 1) := by decide +kernel
theorem dX12_isAhead_65 : decode cX12_isAhead 65 = .ok (.iload_n 1, 1) := by decide +kernel
theorem dX12_isAhead_66 : decode cX12_isAhead 66 = .ok (.iadd, 1) := by decide +kernel
theorem dX12_isAhead_67 : decode cX12_isAhead 67 = .ok (.iaload, 1) := by decide +kernel
theorem dX12_isAhead_68 : decode cX12_isAhead 68 = .ok (.if_icmp .le 7, 3) := by decide +kernel
theorem dX12_isAhead_71 : decode cX12_isAhead 71 = .ok (.iconst 1, 1) := by decide +kernel
theorem dX12_isAhead_72 : decode cX12_isAhead 72 = .ok (.goto 4, 3) := by decide +kernel
theorem dX12_isAhead_75 : decode cX12_isAhead 75 = .ok (.iconst 0, 1) := by decide +kernel
theorem dX12_isAhead_76 : decode cX12_isAhead 76 = .ok (.ireturn, 1) := by decide +kernel
theorem dX12_isCase_0 : decode cX12_isCase 0 = .ok (.iload_n 1, 1) := by decide +kernel
theorem dX12_isCase_1 : decode cX12_isCase 1 = .ok (.iconst 0, 1) := by decide +kernel
theorem dX12_isCase_2 : decode cX12_isCase 2 = .ok (.aload_n 0, 1) := by decide +kernel
theorem dX12_isCase_3 : decode cX12_isCase 3 = .ok (.getfield 74, 3) := by decide +kernel
theorem dX12_isCase_6 : decode cX12_isCase 6 = .ok (.aload_n 0, 1) := by decide +kernel
theorem dX12_isCase_7 : decode cX12_isCase 7 = .ok (.getfield 222, 3) := by decide +kernel
theorem dX12_isCase_10 : decode cX12_isCase 10 = .ok (.iaload, 1) := by decide +kernel
theorem dX12_isCase_11 : decode cX12_isCase 11 = .ok (.iconst 1, 1) := by decide +kernel
theorem dX12_isCase_12 : decode cX12_isCase 12 = .ok (.isub, 1) := by decide +kernel
theorem dX12_isCase_13 : decode cX12_isCase 13 = .ok (.invokestatic 323, 3) := by decide +kernel
theorem dX12_isCase_16 : decode cX12_isCase 16 = .ok (.ireturn, 1) := by decide +kernel
theorem dX12_isDigit_0 : decode cX12_isDigit 0 = .ok (.iload_n 0, 1) := by decide +kernel
theorem dX12_isDigit_1 : decode cX12_isDigit 1 = .ok (.bipush 48, 2) := by decide +kernel
theorem dX12_isDigit_3 : decode cX12_isDigit 3 = .ok (.if_icmp .lt 13, 3) := by decide +kernel
theorem dX12_isDigit_6 : decode cX12_isDigit 6 = .ok (.iload_n 0, 1) := by decide +kernel
theorem dX12_isDigit_7 : decode cX12_isDigit 7 = .ok (.bipush 57, 2) := by decide +kernel
theorem dX12_isDigit_9 : decode cX12_isDigit 9 = .ok (.if_icmp .gt 7, 3) := by decide +kernel
theorem dX12_isDigit_12 : decode cX12_isDigit 12 = .ok (.iconst 1, 1) := by decide +kernel
theorem dX12_isDigit_13 : decode cX12_isDigit 13 = .ok (.goto 4, 3) := by decide +kernel
theorem dX12_isDigit_16 : decode cX12_isDigit 16 = .ok (.iconst 0, 1) := by decide +kernel
theorem dX12_isDigit_17 : decode cX12_isDigit 17 = .ok (.ireturn, 1) := by decide +kernel
theorem dX12_isLetter_0 : decode cX12_isLetter 0 = .ok (.iload_n 0, 1) := by decide +kernel
theorem dX12_isLetter_1 : decode cX12_isLetter 1 = .ok (.bipush 97, 2) := by decide +kernel
theorem dX12_isLetter_3 : decode cX12_isLetter 3 = .ok (.if_icmp .lt 13, 3) := by decide +kernel
theorem dX12_isLetter_6 : decode cX12_isLetter 6 = .ok (.iload_n 0, 1) := by decide +kernel
theorem dX12_isLetter_7 : decode cX12_isLetter 7 = .ok (.bipush 122, 2) := by decide +kernel
theorem dX12_isLetter_9 : decode cX12_isLetter 9 = .ok (.if_icmp .gt 7, 3) := by decide +kernel
theorem dX12_isLetter_12 : decode cX12_isLetter 12 = .ok (.iconst 1, 1) := by decide +kernel
theorem dX12_isLetter_13 : decode cX12_isLetter 13 = .ok (.goto 4, 3) := by decide +kernel
theorem dX12_isLetter_16 : decode cX12_isLetter 16 = .ok (.iconst 0, 1) := by decide +kernel
theorem dX12_isLetter_17 : decode cX12_isLetter 17 = .ok (.ireturn, 1) := by decide +kernel
theorem dX12_isSet_0 : decode cX12_isSet 0 = .ok (.iload_n 1, 1) := by decide +kernel
theorem dX12_isSet_1 : decode cX12_isSet 1 = .ok (.iconst 0, 1) := by decide +kernel
theorem dX12_isSet_2 : decode cX12_isSet 2 = .ok (.iconst 1, 1) := by decide +kernel
theorem dX12_isSet_3 : decode cX12_isSet 3 = .ok (.aload_n 0, 1) := by decide +kernel
theorem dX12_isSet_4 : decode cX12_isSet 4 = .ok (.getfield 61, 3) := by decide +kernel
theorem dX12_isSet_7 : decode cX12_isSet 7 = .ok (.aload_n 0, 1) := by decide +kernel
theorem dX12_isSet_8 : decode cX12_isSet 8 = .ok (.getfield 222, 3) := by decide +kernel
theorem dX12_isSet_11 : decode cX12_isSet 11 = .ok (.iaload, 1) := by decide +kernel
theorem dX12_isSet_12 : decode cX12_isSet 12 = .ok (.ishl, 1) := by decide +kernel
theorem dX12_isSet_13 : decode cX12_isSet 13 = .ok (.iconst 1, 1) := by decide +kernel
theorem dX12_isSet_14 : decode cX12_isSet 14 = .ok (.isub, 1) := by decide +kernel
theorem dX12_isSet_15 : decode cX12_isSet 15 = .ok (.invokestatic 323, 3) := by decide +kernel
theorem dX12_isSet_18 : decode cX12_isSet 18 = .ok (.ireturn, 1) := by decide +kernel
theorem dX12_isTrue_0 : decode cX12_isTrue 0 = .ok (.aload_n 0, 1) := by decide +kernel
theorem dX12_isTrue_1 : decode cX12_isTrue 1 = .ok (.iload_n 1, 1) := by decide +kernel
theorem dX12_isTrue_2 : decode cX12_isTrue 2 = .ok (.invokevirtual 327, 3) := by decide +kernel
theorem dX12_isTrue_5 : decode cX12_isTrue 5 = .ok (.aload_n 0, 1) := by decide +kernel
theorem dX12_isTrue_6 : decode cX12_isTrue 6 = .ok (.getfield 52, 3) := by decide +kernel
theorem dX12_isTrue_9 : decode cX12_isTrue 9 = .ok (.aload_n 0, 1) := by decide +kernel
theorem dX12_isTrue_10 : decode cX12_isTrue 10 = .ok (.getfield 222, 3) := by decide +kernel
theorem dX12_isTrue_13 : decode cX12_isTrue 13 = .ok (.iaload, 1) := by decide +kernel
theorem dX12_isTrue_14 : decode cX12_isTrue 14 = .ok (.lshr, 1) := by decide +kernel
theorem dX12_isTrue_15 : decode cX12_isTrue 15 = .ok (.lconst 1, 1) := by decide +kernel
theorem dX12_isTrue_16 : decode cX12_isTrue 16 = .ok (.land, 1) := by decide +kernel
theorem dX12_isTrue_17 : decode cX12_isTrue 17 = .ok (.lconst 1, 1) := by decide +kernel
theorem dX12_isTrue_18 : decode cX12_isTrue 18 = .ok (.lcmp, 1) := by decide +kernel
theorem dX12_isTrue_19 : decode cX12_isTrue 19 = .ok (.ifCond .ne 7, 3) := by decide +kernel
theorem dX12_isTrue_22 : decode cX12_isTrue 22 = .ok (.iconst 1, 1) := by decide +kernel
theorem dX12_isTrue_23 : decode cX12_isTrue 23 = .ok (.goto 4, 3) := by decide +kernel
theorem dX12_isTrue_26 : decode cX12_isTrue 26 = .ok (.iconst 0, 1) := by decide +kernel
theorem dX12_isTrue_27 : decode cX12_isTrue 27 = .ok (.ireturn, 1) := by decide +kernel
theorem dX12_isWitness_0 : decode cX12_isWitness 0 = .ok (.iload_n 1, 1) := by decide +kernel
theorem dX12_isWitness_1 : decode cX12_isWitness 1 = .ok (.iconst 0, 1) := by decide +kernel
theorem dX12_isWitness_2 : decode cX12_isWitness 2 = .ok (.aload_n 0, 1) := by decide +kernel
theorem dX12_isWitness_3 : decode cX12_isWitness 3 = .ok (.getfield 58, 3) := by decide +kernel
theorem dX12_isWitness_6 : decode cX12_isWitness 6 = .ok (.aload_n 0, 1) := by decide +kernel
theorem dX12_isWitness_7 : decode cX12_isWitness 7 = .ok (.getfield 222, 3) := by decide +kernel
theorem dX12_isWitness_10 : decode cX12_isWitness 10 = .ok (.iaload, 1) := by decide +kernel
theorem dX12_isWitness_11 : decode cX12_isWitness 11 = .ok (.iconst 1, 1) := by decide +kernel
theorem dX12_isWitness_12 : decode cX12_isWitness 12 = .ok (.isub, 1) := by decide +kernel
theorem dX12_isWitness_13 : decode cX12_isWitness 13 = .ok (.invokestatic 323, 3) := by decide +kernel
theorem dX12_isWitness_16 : decode cX12_isWitness 16 = .ok (.ireturn, 1) := by decide +kernel
theorem dX12_isWord_0 : decode cX12_isWord 0 = .ok (.iload_n 1, 1) := by decide +kernel
theorem dX12_isWord_1 : decode cX12_isWord 1 = .ok (.iconst 0, 1) := by decide +kernel
theorem dX12_isWord_2 : decode cX12_isWord 2 = .ok (.aload_n 0, 1) := by decide +kernel
theorem dX12_isWord_3 : decode cX12_isWord 3 = .ok (.getfield 61, 3) := by decide +kernel
theorem dX12_isWord_6 : decode cX12_isWord 6 = .ok (.aload_n 0, 1) := by decide +kernel
theorem dX12_isWord_7 : decode cX12_isWord 7 = .ok (.getfield 222, 3) := by decide +kernel
theorem dX12_isWord_10 : decode cX12_isWord 10 = .ok (.iaload, 1) := by decide +kernel
theorem dX12_isWord_11 : decode cX12_isWord 11 = .ok (.iconst 1, 1) := by decide +kernel
theorem dX12_isWord_12 : decode cX12_isWord 12 = .ok (.isub, 1) := by decide +kernel
theorem dX12_isWord_13 : decode cX12_isWord 13 = .ok (.invokestatic 323, 3) := by decide +kernel
theorem dX12_isWord_16 : decode cX12_isWord 16 = .ok (.ireturn, 1) := by decide +kernel
theorem dX12_keeps_0 : decode cX12_keeps 0 = .ok (.aload_n 0, 1) := by decide +kernel
theorem dX12_keeps_1 : decode cX12_keeps 1 = .ok (.getfield 240, 3) := by decide +kernel
theorem dX12_keeps_4 : decode cX12_keeps 4 = .ok (.bipush 40, 2) := by decide +kernel
theorem dX12_keeps_6 : decode cX12_keeps 6 = .ok (.if_icmp .ne 43, 3) := by decide +kernel
theorem dX12_keeps_9 : decode cX12_keeps 9 = .ok (.iconst 0, 1) := by decide +kernel
theorem dX12_keeps_10 : decode cX12_keeps 10 = .ok (.istore_n 1, 1) := by decide +kernel
theorem dX12_keeps_11 : decode cX12_keeps 11 = .ok (.iload_n 1, 1) := by decide +kernel
theorem dX12_keeps_12 : decode cX12_keeps 12 = .ok (.sipush 1560, 3) := by decide +kernel
theorem dX12_keeps_15 : decode cX12_keeps 15 = .ok (.if_icmp .ge 24, 3) := by decide +kernel
theorem dX12_keeps_18 : decode cX12_keeps 18 = .ok (.aload_n 0, 1) := by decide +kernel
theorem dX12_keeps_19 : decode cX12_keeps 19 = .ok (.getfield 122, 3) := by decide +kernel
theorem dX12_keeps_22 : decode cX12_keeps 22 = .ok (.iload_n 1, 1) := by decide +kernel
theorem dX12_keeps_23 : decode cX12_keeps 23 = .ok (.aload_n 0, 1) := by decide +kernel
theorem dX12_keeps_24 : decode cX12_keeps 24 = .ok (.getfield 122, 3) := by decide +kernel
theorem dX12_keeps_27 : decode cX12_keeps 27 = .ok (.iload_n 1, 1) := by decide +kernel
theorem dX12_keeps_28 : decode cX12_keeps 28 = .ok (.bipush 40, 2) := by decide +kernel
theorem dX12_keeps_30 : decode cX12_keeps 30 = .ok (.iadd, 1) := by decide +kernel
theorem dX12_keeps_31 : decode cX12_keeps 31 = .ok (.iaload, 1) := by decide +kernel
theorem dX12_keeps_32 : decode cX12_keeps 32 = .ok (.iastore, 1) := by decide +kernel
theorem dX12_keeps_33 : decode cX12_keeps 33 = .ok (.iinc 1 1, 3) := by decide +kernel
theorem dX12_keeps_36 : decode cX12_keeps 36 = .ok (.goto (-25), 3) := by decide +kernel
theorem dX12_keeps_39 : decode cX12_keeps 39 = .ok (.aload_n 0, 1) := by decide +kernel
theorem dX12_keeps_40 : decode cX12_keeps 40 = .ok (.dup, 1) := by decide +kernel
theorem dX12_keeps_41 : decode cX12_keeps 41 = .ok (.getfield 240, 3) := by decide +kernel
theorem dX12_keeps_44 : decode cX12_keeps 44 = .ok (.iconst 1, 1) := by decide +kernel
theorem dX12_keeps_45 : decode cX12_keeps 45 = .ok (.isub, 1) := by decide +kernel
theorem dX12_keeps_46 : decode cX12_keeps 46 = .ok (.putfield 240, 3) := by decide +kernel
theorem dX12_keeps_49 : decode cX12_keeps 49 = .ok (.iconst 0, 1) := by decide +kernel
theorem dX12_keeps_50 : decode cX12_keeps 50 = .ok (.istore_n 1, 1) := by decide +kernel
theorem dX12_keeps_51 : decode cX12_keeps 51 = .ok (.iload_n 1, 1) := by decide +kernel
theorem dX12_keeps_52 : decode cX12_keeps 52 = .ok (.bipush 40, 2) := by decide +kernel
theorem dX12_keeps_54 : decode cX12_keeps 54 = .ok (.if_icmp .ge 29, 3) := by decide +kernel
theorem dX12_keeps_57 : decode cX12_keeps 57 = .ok (.aload_n 0, 1) := by decide +kernel
theorem dX12_keeps_58 : decode cX12_keeps 58 = .ok (.getfield 122, 3) := by decide +kernel
theorem dX12_keeps_61 : decode cX12_keeps 61 = .ok (.bipush 40, 2) := by decide +kernel
theorem dX12_keeps_63 : decode cX12_keeps 63 = .ok (.aload_n 0, 1) := by decide +kernel
theorem dX12_keeps_64 : decode cX12_keeps 64 = .ok (.getfield 240, 3) := by decide +kernel
theorem dX12_keeps_67 : decode cX12_keeps 67 = .ok (.imul, 1) := by decide +kernel
theorem dX12_keeps_68 : decode cX12_keeps 68 = .ok (.iload_n 1, 1) := by decide +kernel
theorem dX12_keeps_69 : decode cX12_keeps 69 = .ok (.iadd, 1) := by decide +kernel
theorem dX12_keeps_70 : decode cX12_keeps 70 = .ok (.aload_n 0, 1) := by decide +kernel
theorem dX12_keeps_71 : decode cX12_keeps 71 = .ok (.getfield 116, 3) := by decide +kernel
theorem dX12_keeps_74 : decode cX12_keeps 74 = .ok (.iload_n 1, 1) := by decide +kernel
theorem dX12_keeps_75 : decode cX12_keeps 75 = .ok (.iaload, 1) := by decide +kernel
theorem dX12_keeps_76 : decode cX12_keeps 76 = .ok (.iastore, 1) := by decide +kernel
theorem dX12_keeps_77 : decode cX12_keeps 77 = .ok (.iinc 1 1, 3) := by decide +kernel
theorem dX12_keeps_80 : decode cX12_keeps 80 = .ok (.goto (-29), 3) := by decide +kernel
theorem dX12_keeps_83 : decode cX12_keeps 83 = .ok (.aload_n 0, 1) := by decide +kernel
theorem dX12_keeps_84 : decode cX12_keeps 84 = .ok (.dup, 1) := by decide +kernel
theorem dX12_keeps_85 : decode cX12_keeps 85 = .ok (.getfield 240, 3) := by decide +kernel
theorem dX12_keeps_88 : decode cX12_keeps 88 = .ok (.iconst 1, 1) := by decide +kernel
theorem dX12_keeps_89 : decode cX12_keeps 89 = .ok (.iadd, 1) := by decide +kernel
theorem dX12_keeps_90 : decode cX12_keeps 90 = .ok (.putfield 240, 3) := by decide +kernel
theorem dX12_keeps_93 : decode cX12_keeps 93 = .ok (.iconst 0, 1) := by decide +kernel
theorem dX12_keeps_94 : decode cX12_keeps 94 = .ok (.istore_n 1, 1) := by decide +kernel
theorem dX12_keeps_95 : decode cX12_keeps 95 = .ok (.iload_n 1, 1) := by decide +kernel
theorem dX12_keeps_96 : decode cX12_keeps 96 = .ok (.bipush 40, 2) := by decide +kernel
theorem dX12_keeps_98 : decode cX12_keeps 98 = .ok (.if_icmp .ge 21, 3) := by decide +kernel
theorem dX12_keeps_101 : decode cX12_keeps 101 = .ok (.aload_n 0, 1) := by decide +kernel
theorem dX12_keeps_102 : decode cX12_keeps 102 = .ok (.getfield 116, 3) := by decide +kernel
theorem dX12_keeps_105 : decode cX12_keeps 105 = .ok (.iload_n 1, 1) := by decide +kernel
theorem dX12_keeps_106 : decode cX12_keeps 106 = .ok (.aload_n 0, 1) := by decide +kernel
theorem dX12_keeps_107 : decode cX12_keeps 107 = .ok (.getfield 119, 3) := by decide +kernel
theorem dX12_keeps_110 : decode cX12_keeps 110 = .ok (.iload_n 1, 1) := by decide +kernel
theorem dX12_keeps_111 : decode cX12_keeps 111 = .ok (.iaload, 1) := by decide +kernel
theorem dX12_keeps_112 : decode cX12_keeps 112 = .ok (.iastore, 1) := by decide +kernel
theorem dX12_keeps_113 : decode cX12_keeps 113 = .ok (.iinc 1 1, 3) := by decide +kernel
theorem dX12_keeps_116 : decode cX12_keeps 116 = .ok (.goto (-21), 3) := by decide +kernel
theorem dX12_keeps_119 : decode cX12_keeps 119 = .ok (.return_, 1) := by decide +kernel
theorem dX12_known_0 : decode cX12_known 0 = .ok (.aload_n 0, 1) := by decide +kernel
theorem dX12_known_1 : decode cX12_known 1 = .ok (.getfield 195, 3) := by decide +kernel
theorem dX12_known_4 : decode cX12_known 4 = .ok (.istore_n 2, 1) := by decide +kernel
theorem dX12_known_5 : decode cX12_known 5 = .ok (.aload_n 0, 1) := by decide +kernel
theorem dX12_known_6 : decode cX12_known 6 = .ok (.iconst 1, 1) := by decide +kernel
theorem dX12_known_7 : decode cX12_known 7 = .ok (.invokevirtual 265, 3) := by decide +kernel
theorem dX12_known_10 : decode cX12_known 10 = .ok (.aload_n 0, 1) := by decide +kernel
theorem dX12_known_11 : decode cX12_known 11 = .ok (.getfield 192, 3) := by decide +kernel
theorem dX12_known_14 : decode cX12_known 14 = .ok (.ifCond .le 5, 3) := by decide +kernel
theorem dX12_known_17 : decode cX12_known 17 = .ok (.iconst (-1), 1) := by decide +kernel
theorem dX12_known_18 : decode cX12_known 18 = .ok (.ireturn, 1) := by decide +kernel
theorem dX12_known_19 : decode cX12_known 19 = .ok (.iconst 0, 1) := by decide +kernel
theorem dX12_known_20 : decode cX12_known 20 = .ok (.istore_n 3, 1) := by decide +kernel
theorem dX12_known_21 : decode cX12_known 21 = .ok (.iload_n 3, 1) := by decide +kernel
theorem dX12_known_22 : decode cX12_known 22 = .ok (.aload_n 0, 1) := by decide +kernel
theorem dX12_known_23 : decode cX12_known 23 = .ok (.getfield 228, 3) := by decide +kernel
theorem dX12_known_26 : decode cX12_known 26 = .ok (.if_icmp .ge 42, 3) := by decide +kernel
theorem dX12_known_29 : decode cX12_known 29 = .ok (.aload_n 0, 1) := by decide +kernel
theorem dX12_known_30 : decode cX12_known 30 = .ok (.getfield 40, 3) := by decide +kernel
theorem dX12_known_33 : decode cX12_known 33 = .ok (.iload_n 3, 1) := by decide +kernel
theorem dX12_known_34 : decode cX12_known 34 = .ok (.laload, 1) := by decide +kernel
theorem dX12_known_35 : decode cX12_known 35 = .ok (.aload_n 0, 1) := by decide +kernel
theorem dX12_known_36 : decode cX12_known 36 = .ok (.getfield 30, 3) := by decide +kernel
theorem dX12_known_39 : decode cX12_known 39 = .ok (.iload_n 2, 1) := by decide +kernel
theorem dX12_known_40 : decode cX12_known 40 = .ok (.laload, 1) := by decide +kernel
theorem dX12_known_41 : decode cX12_known 41 = .ok (.lcmp, 1) := by decide +kernel
theorem dX12_known_42 : decode cX12_known 42 = .ok (.ifCond .ne 20, 3) := by decide +kernel
theorem dX12_known_45 : decode cX12_known 45 = .ok (.aload_n 0, 1) := by decide +kernel
theorem dX12_known_46 : decode cX12_known 46 = .ok (.getfield 43, 3) := by decide +kernel
theorem dX12_known_49 : decode cX12_known 49 = .ok (.iload_n 3, 1) := by decide +kernel
theorem dX12_known_50 : decode cX12_known 50 = .ok (.iaload, 1) := by decide +kernel
theorem dX12_known_51 : decode cX12_known 51 = .ok (.iload_n 1, 1) := by decide +kernel
theorem dX12_known_52 : decode cX12_known 52 = .ok (.if_icmp .ne 10, 3) := by decide +kernel
theorem dX12_known_55 : decode cX12_known 55 = .ok (.aload_n 0, 1) := by decide +kernel
theorem dX12_known_56 : decode cX12_known 56 = .ok (.getfield 46, 3) := by decide +kernel
theorem dX12_known_59 : decode cX12_known 59 = .ok (.iload_n 3, 1) := by decide +kernel
theorem dX12_known_60 : decode cX12_known 60 = .ok (.iaload, 1) := by decide +kernel
theorem dX12_known_61 : decode cX12_known 61 = .ok (.ireturn, 1) := by decide +kernel
theorem dX12_known_62 : decode cX12_known 62 = .ok (.iinc 3 1, 3) := by decide +kernel
theorem dX12_known_65 : decode cX12_known 65 = .ok (.goto (-44), 3) := by decide +kernel
theorem dX12_known_68 : decode cX12_known 68 = .ok (.aload_n 0, 1) := by decide +kernel
theorem dX12_known_69 : decode cX12_known 69 = .ok (.iconst 4, 1) := by decide +kernel
theorem dX12_known_70 : decode cX12_known 70 = .ok (.iload_n 2, 1) := by decide +kernel
theorem dX12_known_71 : decode cX12_known 71 = .ok (.invokevirtual 272, 3) := by decide +kernel
theorem dX12_known_74 : decode cX12_known 74 = .ok (.iconst (-1), 1) := by decide +kernel
theorem dX12_known_75 : decode cX12_known 75 = .ok (.ireturn, 1) := by decide +kernel
theorem dX12_liars_0 : decode cX12_liars 0 = .ok (.iload_n 1, 1) := by decide +kernel
theorem dX12_liars_1 : decode cX12_liars 1 = .ok (.iconst 0, 1) := by decide +kernel
theorem dX12_liars_2 : decode cX12_liars 2 = .ok (.aload_n 0, 1) := by decide +kernel
theorem dX12_liars_3 : decode cX12_liars 3 = .ok (.getfield 243, 3) := by decide +kernel
theorem dX12_liars_6 : decode cX12_liars 6 = .ok (.invokestatic 323, 3) := by decide +kernel
theorem dX12_liars_9 : decode cX12_liars 9 = .ok (.ifCond .ne 5, 3) := by decide +kernel
theorem dX12_liars_12 : decode cX12_liars 12 = .ok (.iconst (-1), 1) := by decide +kernel
theorem dX12_liars_13 : decode cX12_liars 13 = .ok (.ireturn, 1) := by decide +kernel
theorem dX12_liars_14 : decode cX12_liars 14 = .ok (.aload_n 0, 1) := by decide +kernel
theorem dX12_liars_15 : decode cX12_liars 15 = .ok (.iload_n 1, 1) := by decide +kernel
theorem dX12_liars_16 : decode cX12_liars 16 = .ok (.invokevirtual 445, 3) := by decide +kernel
theorem dX12_liars_19 : decode cX12_liars 19 = .ok (.aload_n 0, 1) := by decide +kernel
theorem dX12_liars_20 : decode cX12_liars 20 = .ok (.getfield 439, 3) := by decide +kernel
theorem dX12_liars_23 : decode cX12_liars 23 = .ok (.ireturn, 1) := by decide +kernel
theorem dX12_look_0 : decode cX12_look 0 = .ok (.iload_n 1, 1) := by decide +kernel
theorem dX12_look_1 : decode cX12_look 1 = .ok (.iconst 0, 1) := by decide +kernel
theorem dX12_look_2 : decode cX12_look 2 = .ok (.aload_n 0, 1) := by decide +kernel
theorem dX12_look_3 : decode cX12_look 3 = .ok (.getfield 49, 3) := by decide +kernel
theorem dX12_look_6 : decode cX12_look 6 = .ok (.aload_n 0, 1) := by decide +kernel
theorem dX12_look_7 : decode cX12_look 7 = .ok (.getfield 222, 3) := by decide +kernel
theorem dX12_look_10 : decode cX12_look 10 = .ok (.iaload, 1) := by decide +kernel
theorem dX12_look_11 : decode cX12_look 11 = .ok (.iconst 1, 1) := by decide +kernel
theorem dX12_look_12 : decode cX12_look 12 = .ok (.isub, 1) := by decide +kernel
theorem dX12_look_13 : decode cX12_look 13 = .ok (.invokestatic 323, 3) := by decide +kernel
theorem dX12_look_16 : decode cX12_look 16 = .ok (.ifCond .ne 5, 3) := by decide +kernel
theorem dX12_look_19 : decode cX12_look 19 = .ok (.iconst (-1), 1) := by decide +kernel
theorem dX12_look_20 : decode cX12_look 20 = .ok (.ireturn, 1) := by decide +kernel
theorem dX12_look_21 : decode cX12_look 21 = .ok (.aload_n 0, 1) := by decide +kernel
theorem dX12_look_22 : decode cX12_look 22 = .ok (.getfield 116, 3) := by decide +kernel
theorem dX12_look_25 : decode cX12_look 25 = .ok (.iconst 3, 1) := by decide +kernel
theorem dX12_look_26 : decode cX12_look 26 = .ok (.iaload, 1) := by decide +kernel
theorem dX12_look_27 : decode cX12_look 27 = .ok (.iload_n 1, 1) := by decide +kernel
theorem dX12_look_28 : decode cX12_look 28 = .ok (.ishr, 1) := by decide +kernel
theorem dX12_look_29 : decode cX12_look 29 = .ok (.iconst 1, 1) := by decide +kernel
theorem dX12_look_30 : decode cX12_look 30 = .ok (.iand, 1) := by decide +kernel
theorem dX12_look_31 : decode cX12_look 31 = .ok (.iconst 1, 1) := by decide +kernel
theorem dX12_look_32 : decode cX12_look 32 = .ok (.if_icmp .ne 6, 3) := by decide +kernel
theorem dX12_look_35 : decode cX12_look 35 = .ok (.bipush (-2), 2) := by decide +kernel
theorem dX12_look_37 : decode cX12_look 37 = .ok (.ireturn, 1) := by decide +kernel
theorem dX12_look_38 : decode cX12_look 38 = .ok (.aload_n 0, 1) := by decide +kernel
theorem dX12_look_39 : decode cX12_look 39 = .ok (.invokevirtual 384, 3) := by decide +kernel
theorem dX12_look_42 : decode cX12_look 42 = .ok (.aload_n 0, 1) := by decide +kernel
theorem dX12_look_43 : decode cX12_look 43 = .ok (.iconst 1, 1) := by decide +kernel
theorem dX12_look_44 : decode cX12_look 44 = .ok (.invokevirtual 365, 3) := by decide +kernel
theorem dX12_look_47 : decode cX12_look 47 = .ok (.aload_n 0, 1) := by decide +kernel
theorem dX12_look_48 : decode cX12_look 48 = .ok (.getfield 119, 3) := by decide +kernel
theorem dX12_look_51 : decode cX12_look 51 = .ok (.iconst 3, 1) := by decide +kernel
theorem dX12_look_52 : decode cX12_look 52 = .ok (.dup2, 1) := by decide +kernel
theorem dX12_look_53 : decode cX12_look 53 = .ok (.iaload, 1) := by decide +kernel
theorem dX12_look_54 : decode cX12_look 54 = .ok (.iconst 1, 1) := by decide +kernel
theorem dX12_look_55 : decode cX12_look 55 = .ok (.iload_n 1, 1) := by decide +kernel
theorem dX12_look_56 : decode cX12_look 56 = .ok (.ishl, 1) := by decide +kernel
theorem dX12_look_57 : decode cX12_look 57 = .ok (.ior, 1) := by decide +kernel
theorem dX12_look_58 : decode cX12_look 58 = .ok (.iastore, 1) := by decide +kernel
theorem dX12_look_59 : decode cX12_look 59 = .ok (.iconst 0, 1) := by decide +kernel
theorem dX12_look_60 : decode cX12_look 60 = .ok (.istore_n 2, 1) := by decide +kernel
theorem dX12_look_61 : decode cX12_look 61 = .ok (.iconst 0, 1) := by decide +kernel
theorem dX12_look_62 : decode cX12_look 62 = .ok (.istore_n 3, 1) := by decide +kernel
theorem dX12_look_63 : decode cX12_look 63 = .ok (.iload_n 3, 1) := by decide +kernel
theorem dX12_look_64 : decode cX12_look 64 = .ok (.aload_n 0, 1) := by decide +kernel
theorem dX12_look_65 : decode cX12_look 65 = .ok (.getfield 58, 3) := by decide +kernel
theorem dX12_look_68 : decode cX12_look 68 = .ok (.aload_n 0, 1) := by decide +kernel
theorem dX12_look_69 : decode cX12_look 69 = .ok (.getfield 222, 3) := by decide +kernel
theorem dX12_look_72 : decode cX12_look 72 = .ok (.iaload, 1) := by decide +kernel
theorem dX12_look_73 : decode cX12_look 73 = .ok (.if_icmp .ge 17, 3) := by decide +kernel
theorem dX12_look_76 : decode cX12_look 76 = .ok (.iload_n 2, 1) := by decide +kernel
theorem dX12_look_77 : decode cX12_look 77 = .ok (.aload_n 0, 1) := by decide +kernel
theorem dX12_look_78 : decode cX12_look 78 = .ok (.iload_n 3, 1) := by decide +kernel
theorem dX12_look_79 : decode cX12_look 79 = .ok (.invokevirtual 368, 3) := by decide +kernel
theorem dX12_look_82 : decode cX12_look 82 = .ok (.iadd, 1) := by decide +kernel
theorem dX12_look_83 : decode cX12_look 83 = .ok (.istore_n 2, 1) := by decide +kernel
theorem dX12_look_84 : decode cX12_look 84 = .ok (.iinc 3 1, 3) := by decide +kernel
theorem dX12_look_87 : decode cX12_look 87 = .ok (.goto (-24), 3) := by decide +kernel
theorem dX12_look_90 : decode cX12_look 90 = .ok (.aload_n 0, 1) := by decide +kernel
theorem dX12_look_91 : decode cX12_look 91 = .ok (.invokevirtual 394, 3) := by decide +kernel
theorem dX12_look_94 : decode cX12_look 94 = .ok (.iload_n 2, 1) := by decide +kernel
theorem dX12_look_95 : decode cX12_look 95 = .ok (.ireturn, 1) := by decide +kernel
theorem dX12_looks_0 : decode cX12_looks 0 = .ok (.aload_n 0, 1) := by decide +kernel
theorem dX12_looks_1 : decode cX12_looks 1 = .ok (.iload_n 1, 1) := by decide +kernel
theorem dX12_looks_2 : decode cX12_looks 2 = .ok (.invokevirtual 371, 3) := by decide +kernel
theorem dX12_looks_5 : decode cX12_looks 5 = .ok (.ifCond .ne 5, 3) := by decide +kernel
theorem dX12_looks_8 : decode cX12_looks 8 = .ok (.iconst (-1), 1) := by decide +kernel
theorem dX12_looks_9 : decode cX12_looks 9 = .ok (.ireturn, 1) := by decide +kernel
theorem dX12_looks_10 : decode cX12_looks 10 = .ok (.bipush (-2), 2) := by decide +kernel
theorem dX12_looks_12 : decode cX12_looks 12 = .ok (.istore_n 2, 1) := by decide +kernel
theorem dX12_looks_13 : decode cX12_looks 13 = .ok (.iconst 0, 1) := by decide +kernel
