theorem dX1_expand_154 : decode cX1_expand 154 = .ok (.aload_n 0, 1) := by decide +kernel
theorem dX1_expand_155 : decode cX1_expand 155 = .ok (.getfield 14, 3) := by decide +kernel
theorem dX1_expand_158 : decode cX1_expand 158 = .ok (.iconst 0, 1) := by decide +kernel
theorem dX1_expand_159 : decode cX1_expand 159 = .ok (.lload 12, 2) := by decide +kernel
theorem dX1_expand_161 : decode cX1_expand 161 = .ok (.iload 5, 2) := by decide +kernel
theorem dX1_expand_163 : decode cX1_expand 163 = .ok (.invokevirtual 63, 3) := by decide +kernel
theorem dX1_expand_166 : decode cX1_expand 166 = .ok (.goto 53, 3) := by decide +kernel
theorem dX1_expand_169 : decode cX1_expand 169 = .ok (.aload_n 0, 1) := by decide +kernel
theorem dX1_expand_170 : decode cX1_expand 170 = .ok (.getfield 28, 3) := by decide +kernel
theorem dX1_expand_173 : decode cX1_expand 173 = .ok (.iload 4, 2) := by decide +kernel
theorem dX1_expand_175 : decode cX1_expand 175 = .ok (.dup2, 1) := by decide +kernel
theorem dX1_expand_176 : decode cX1_expand 176 = .ok (.laload, 1) := by decide +kernel
theorem dX1_expand_177 : decode cX1_expand 177 = .ok (.lload 12, 2) := by decide +kernel
theorem dX1_expand_179 : decode cX1_expand 179 = .ok (.ladd, 1) := by decide +kernel
theorem dX1_expand_180 : decode cX1_expand 180 = .ok (.lastore, 1) := by decide +kernel
theorem dX1_expand_181 : decode cX1_expand 181 = .ok (.aload_n 0, 1) := by decide +kernel
theorem dX1_expand_182 : decode cX1_expand 182 = .ok (.getfield 32, 3) := by decide +kernel
theorem dX1_expand_185 : decode cX1_expand 185 = .ok (.iload 4, 2) := by decide +kernel
theorem dX1_expand_187 : decode cX1_expand 187 = .ok (.dup2, 1) := by decide +kernel
theorem dX1_expand_188 : decode cX1_expand 188 = .ok (.iaload, 1) := by decide +kernel
theorem dX1_expand_189 : decode cX1_expand 189 = .ok (.aload_n 0, 1) := by decide +kernel
theorem dX1_expand_190 : decode cX1_expand 190 = .ok (.getfield 14, 3) := by decide +kernel
theorem dX1_expand_193 : decode cX1_expand 193 = .ok (.getfield 93, 3) := by decide +kernel
theorem dX1_expand_196 : decode cX1_expand 196 = .ok (.iand, 1) := by decide +kernel
theorem dX1_expand_197 : decode cX1_expand 197 = .ok (.iastore, 1) := by decide +kernel
theorem dX1_expand_198 : decode cX1_expand 198 = .ok (.aload_n 0, 1) := by decide +kernel
theorem dX1_expand_199 : decode cX1_expand 199 = .ok (.getfield 35, 3) := by decide +kernel
theorem dX1_expand_202 : decode cX1_expand 202 = .ok (.iload 4, 2) := by decide +kernel
theorem dX1_expand_204 : decode cX1_expand 204 = .ok (.dup2, 1) := by decide +kernel
theorem dX1_expand_205 : decode cX1_expand 205 = .ok (.iaload, 1) := by decide +kernel
theorem dX1_expand_206 : decode cX1_expand 206 = .ok (.aload_n 1, 1) := by decide +kernel
theorem dX1_expand_207 : decode cX1_expand 207 = .ok (.aload_n 0, 1) := by decide +kernel
theorem dX1_expand_208 : decode cX1_expand 208 = .ok (.getfield 14, 3) := by decide +kernel
theorem dX1_expand_211 : decode cX1_expand 211 = .ok (.getfield 96, 3) := by decide +kernel
theorem dX1_expand_214 : decode cX1_expand 214 = .ok (.invokevirtual 99, 3) := by decide +kernel
theorem dX1_expand_217 : decode cX1_expand 217 = .ok (.iand, 1) := by decide +kernel
theorem dX1_expand_218 : decode cX1_expand 218 = .ok (.iastore, 1) := by decide +kernel
theorem dX1_expand_219 : decode cX1_expand 219 = .ok (.iinc 10 1, 3) := by decide +kernel
theorem dX1_expand_222 : decode cX1_expand 222 = .ok (.goto (-186), 3) := by decide +kernel
theorem dX1_expand_225 : decode cX1_expand 225 = .ok (.return_, 1) := by decide +kernel
theorem dX1_find_0 : decode cX1_find 0 = .ok (.aload_n 0, 1) := by decide +kernel
theorem dX1_find_1 : decode cX1_find 1 = .ok (.getfield 24, 3) := by decide +kernel
theorem dX1_find_4 : decode cX1_find 4 = .ok (.iload_n 2, 1) := by decide +kernel
theorem dX1_find_5 : decode cX1_find 5 = .ok (.baload, 1) := by decide +kernel
theorem dX1_find_6 : decode cX1_find 6 = .ok (.ifCond .eq 4, 3) := by decide +kernel
theorem dX1_find_9 : decode cX1_find 9 = .ok (.return_, 1) := by decide +kernel
theorem dX1_find_10 : decode cX1_find 10 = .ok (.aload_n 0, 1) := by decide +kernel
theorem dX1_find_11 : decode cX1_find 11 = .ok (.getfield 24, 3) := by decide +kernel
theorem dX1_find_14 : decode cX1_find 14 = .ok (.iload_n 2, 1) := by decide +kernel
theorem dX1_find_15 : decode cX1_find 15 = .ok (.iconst 1, 1) := by decide +kernel
theorem dX1_find_16 : decode cX1_find 16 = .ok (.bastore, 1) := by decide +kernel
theorem dX1_find_17 : decode cX1_find 17 = .ok (.aload_n 0, 1) := by decide +kernel
theorem dX1_find_18 : decode cX1_find 18 = .ok (.getfield 28, 3) := by decide +kernel
theorem dX1_find_21 : decode cX1_find 21 = .ok (.iload_n 2, 1) := by decide +kernel
theorem dX1_find_22 : decode cX1_find 22 = .ok (.iload_n 2, 1) := by decide +kernel
theorem dX1_find_23 : decode cX1_find 23 = .ok (.ifCond .ne 7, 3) := by decide +kernel
theorem dX1_find_26 : decode cX1_find 26 = .ok (.lconst 1, 1) := by decide +kernel
theorem dX1_find_27 : decode cX1_find 27 = .ok (.goto 4, 3) := by decide +kernel
theorem dX1_find_30 : decode cX1_find 30 = .ok (.lconst 0, 1) := by decide +kernel
theorem dX1_find_31 : decode cX1_find 31 = .ok (.lastore, 1) := by decide +kernel
theorem dX1_find_32 : decode cX1_find 32 = .ok (.aload_n 0, 1) := by decide +kernel
theorem dX1_find_33 : decode cX1_find 33 = .ok (.getfield 32, 3) := by decide +kernel
theorem dX1_find_36 : decode cX1_find 36 = .ok (.iload_n 2, 1) := by decide +kernel
theorem dX1_find_37 : decode cX1_find 37 = .ok (.iload_n 2, 1) := by decide +kernel
theorem dX1_find_38 : decode cX1_find 38 = .ok (.ifCond .ne 7, 3) := by decide +kernel
theorem dX1_find_41 : decode cX1_find 41 = .ok (.iconst 0, 1) := by decide +kernel
theorem dX1_find_42 : decode cX1_find 42 = .ok (.goto 11, 3) := by decide +kernel
theorem dX1_find_45 : decode cX1_find 45 = .ok (.iconst 1, 1) := by decide +kernel
theorem dX1_find_46 : decode cX1_find 46 = .ok (.aload_n 1, 1) := by decide +kernel
theorem dX1_find_47 : decode cX1_find 47 = .ok (.getfield 46, 3) := by decide +kernel
theorem dX1_find_50 : decode cX1_find 50 = .ok (.ishl, 1) := by decide +kernel
theorem dX1_find_51 : decode cX1_find 51 = .ok (.iconst 1, 1) := by decide +kernel
theorem dX1_find_52 : decode cX1_find 52 = .ok (.isub, 1) := by decide +kernel
theorem dX1_find_53 : decode cX1_find 53 = .ok (.iastore, 1) := by decide +kernel
theorem dX1_find_54 : decode cX1_find 54 = .ok (.aload_n 0, 1) := by decide +kernel
theorem dX1_find_55 : decode cX1_find 55 = .ok (.getfield 35, 3) := by decide +kernel
theorem dX1_find_58 : decode cX1_find 58 = .ok (.iload_n 2, 1) := by decide +kernel
theorem dX1_find_59 : decode cX1_find 59 = .ok (.iload_n 2, 1) := by decide +kernel
theorem dX1_find_60 : decode cX1_find 60 = .ok (.ifCond .ne 7, 3) := by decide +kernel
theorem dX1_find_63 : decode cX1_find 63 = .ok (.iconst 0, 1) := by decide +kernel
theorem dX1_find_64 : decode cX1_find 64 = .ok (.goto 11, 3) := by decide +kernel
theorem dX1_find_67 : decode cX1_find 67 = .ok (.iconst 1, 1) := by decide +kernel
theorem dX1_find_68 : decode cX1_find 68 = .ok (.aload_n 1, 1) := by decide +kernel
theorem dX1_find_69 : decode cX1_find 69 = .ok (.getfield 51, 3) := by decide +kernel
theorem dX1_find_72 : decode cX1_find 72 = .ok (.ishl, 1) := by decide +kernel
theorem dX1_find_73 : decode cX1_find 73 = .ok (.iconst 1, 1) := by decide +kernel
theorem dX1_find_74 : decode cX1_find 74 = .ok (.isub, 1) := by decide +kernel
theorem dX1_find_75 : decode cX1_find 75 = .ok (.iastore, 1) := by decide +kernel
theorem dX1_find_76 : decode cX1_find 76 = .ok (.aload_n 0, 1) := by decide +kernel
theorem dX1_find_77 : decode cX1_find 77 = .ok (.getfield 38, 3) := by decide +kernel
theorem dX1_find_80 : decode cX1_find 80 = .ok (.invokevirtual 54, 3) := by decide +kernel
theorem dX1_find_83 : decode cX1_find 83 = .ok (.aload_n 0, 1) := by decide +kernel
theorem dX1_find_84 : decode cX1_find 84 = .ok (.getfield 14, 3) := by decide +kernel
theorem dX1_find_87 : decode cX1_find 87 = .ok (.aload_n 1, 1) := by decide +kernel
theorem dX1_find_88 : decode cX1_find 88 = .ok (.invokevirtual 59, 3) := by decide +kernel
theorem dX1_find_91 : decode cX1_find 91 = .ok (.aload_n 0, 1) := by decide +kernel
theorem dX1_find_92 : decode cX1_find 92 = .ok (.getfield 38, 3) := by decide +kernel
theorem dX1_find_95 : decode cX1_find 95 = .ok (.aload_n 0, 1) := by decide +kernel
theorem dX1_find_96 : decode cX1_find 96 = .ok (.getfield 14, 3) := by decide +kernel
theorem dX1_find_99 : decode cX1_find 99 = .ok (.iconst 0, 1) := by decide +kernel
theorem dX1_find_100 : decode cX1_find 100 = .ok (.lconst 1, 1) := by decide +kernel
theorem dX1_find_101 : decode cX1_find 101 = .ok (.iconst 0, 1) := by decide +kernel
theorem dX1_find_102 : decode cX1_find 102 = .ok (.invokevirtual 63, 3) := by decide +kernel
theorem dX1_find_105 : decode cX1_find 105 = .ok (.iconst 0, 1) := by decide +kernel
theorem dX1_find_106 : decode cX1_find 106 = .ok (.istore_n 3, 1) := by decide +kernel
theorem dX1_find_107 : decode cX1_find 107 = .ok (.iconst 1, 1) := by decide +kernel
theorem dX1_find_108 : decode cX1_find 108 = .ok (.istore 4, 2) := by decide +kernel
theorem dX1_find_110 : decode cX1_find 110 = .ok (.iload 4, 2) := by decide +kernel
theorem dX1_find_112 : decode cX1_find 112 = .ok (.iload_n 2, 1) := by decide +kernel
theorem dX1_find_113 : decode cX1_find 113 = .ok (.if_icmp .gt 49, 3) := by decide +kernel
theorem dX1_find_116 : decode cX1_find 116 = .ok (.aload_n 0, 1) := by decide +kernel
theorem dX1_find_117 : decode cX1_find 117 = .ok (.getfield 38, 3) := by decide +kernel
theorem dX1_find_120 : decode cX1_find 120 = .ok (.getfield 67, 3) := by decide +kernel
theorem dX1_find_123 : decode cX1_find 123 = .ok (.istore 5, 2) := by decide +kernel
theorem dX1_find_125 : decode cX1_find 125 = .ok (.iload_n 3, 1) := by decide +kernel
theorem dX1_find_126 : decode cX1_find 126 = .ok (.istore 6, 2) := by decide +kernel
theorem dX1_find_128 : decode cX1_find 128 = .ok (.iload 6, 2) := by decide +kernel
theorem dX1_find_130 : decode cX1_find 130 = .ok (.iload 5, 2) := by decide +kernel
theorem dX1_find_132 : decode cX1_find 132 = .ok (.if_icmp .ge 21, 3) := by decide +kernel
theorem dX1_find_135 : decode cX1_find 135 = .ok (.aload_n 0, 1) := by decide +kernel
theorem dX1_find_136 : decode cX1_find 136 = .ok (.aload_n 1, 1) := by decide +kernel
theorem dX1_find_137 : decode cX1_find 137 = .ok (.iload 6, 2) := by decide +kernel
theorem dX1_find_139 : decode cX1_find 139 = .ok (.iload 4, 2) := by decide +kernel
theorem dX1_find_141 : decode cX1_find 141 = .ok (.iload_n 2, 1) := by decide +kernel
theorem dX1_find_142 : decode cX1_find 142 = .ok (.iload 5, 2) := by decide +kernel
theorem dX1_find_144 : decode cX1_find 144 = .ok (.invokevirtual 68, 3) := by decide +kernel
theorem dX1_find_147 : decode cX1_find 147 = .ok (.iinc 6 1, 3) := by decide +kernel
theorem dX1_find_150 : decode cX1_find 150 = .ok (.goto (-22), 3) := by decide +kernel
theorem dX1_find_153 : decode cX1_find 153 = .ok (.iload 5, 2) := by decide +kernel
theorem dX1_find_155 : decode cX1_find 155 = .ok (.istore_n 3, 1) := by decide +kernel
theorem dX1_find_156 : decode cX1_find 156 = .ok (.iinc 4 1, 3) := by decide +kernel
theorem dX1_find_159 : decode cX1_find 159 = .ok (.goto (-49), 3) := by decide +kernel
theorem dX1_find_162 : decode cX1_find 162 = .ok (.aload_n 0, 1) := by decide +kernel
theorem dX1_find_163 : decode cX1_find 163 = .ok (.getfield 28, 3) := by decide +kernel
theorem dX1_find_166 : decode cX1_find 166 = .ok (.iload_n 2, 1) := by decide +kernel
theorem dX1_find_167 : decode cX1_find 167 = .ok (.laload, 1) := by decide +kernel
theorem dX1_find_168 : decode cX1_find 168 = .ok (.lconst 0, 1) := by decide +kernel
theorem dX1_find_169 : decode cX1_find 169 = .ok (.lcmp, 1) := by decide +kernel
theorem dX1_find_170 : decode cX1_find 170 = .ok (.ifCond .ne 17, 3) := by decide +kernel
theorem dX1_find_173 : decode cX1_find 173 = .ok (.aload_n 0, 1) := by decide +kernel
theorem dX1_find_174 : decode cX1_find 174 = .ok (.getfield 32, 3) := by decide +kernel
theorem dX1_find_177 : decode cX1_find 177 = .ok (.iload_n 2, 1) := by decide +kernel
theorem dX1_find_178 : decode cX1_find 178 = .ok (.iconst 0, 1) := by decide +kernel
theorem dX1_find_179 : decode cX1_find 179 = .ok (.iastore, 1) := by decide +kernel
theorem dX1_find_180 : decode cX1_find 180 = .ok (.aload_n 0, 1) := by decide +kernel
theorem dX1_find_181 : decode cX1_find 181 = .ok (.getfield 35, 3) := by decide +kernel
theorem dX1_find_184 : decode cX1_find 184 = .ok (.iload_n 2, 1) := by decide +kernel
theorem dX1_find_185 : decode cX1_find 185 = .ok (.iconst 0, 1) := by decide +kernel
theorem dX1_find_186 : decode cX1_find 186 = .ok (.iastore, 1) := by decide +kernel
theorem dX1_find_187 : decode cX1_find 187 = .ok (.return_, 1) := by decide +kernel
theorem dX2_add_0 : decode cX2_add 0 = .ok (.aload_n 0, 1) := by decide +kernel
theorem dX2_add_1 : decode cX2_add 1 = .ok (.getfield 18, 3) := by decide +kernel
theorem dX2_add_4 : decode cX2_add 4 = .ok (.sipush 400, 3) := by decide +kernel
theorem dX2_add_7 : decode cX2_add 7 = .ok (.if_icmp .ge 23, 3) := by decide +kernel
theorem dX2_add_10 : decode cX2_add 10 = .ok (.aload_n 0, 1) := by decide +kernel
theorem dX2_add_11 : decode cX2_add 11 = .ok (.getfield 9, 3) := by decide +kernel
theorem dX2_add_14 : decode cX2_add 14 = .ok (.aload_n 0, 1) := by decide +kernel
theorem dX2_add_15 : decode cX2_add 15 = .ok (.getfield 18, 3) := by decide +kernel
theorem dX2_add_18 : decode cX2_add 18 = .ok (.iload_n 1, 1) := by decide +kernel
theorem dX2_add_19 : decode cX2_add 19 = .ok (.iastore, 1) := by decide +kernel
theorem dX2_add_20 : decode cX2_add 20 = .ok (.aload_n 0, 1) := by decide +kernel
theorem dX2_add_21 : decode cX2_add 21 = .ok (.dup, 1) := by decide +kernel
theorem dX2_add_22 : decode cX2_add 22 = .ok (.getfield 18, 3) := by decide +kernel
theorem dX2_add_25 : decode cX2_add 25 = .ok (.iconst 1, 1) := by decide +kernel
theorem dX2_add_26 : decode cX2_add 26 = .ok (.iadd, 1) := by decide +kernel
theorem dX2_add_27 : decode cX2_add 27 = .ok (.putfield 18, 3) := by decide +kernel
theorem dX2_add_30 : decode cX2_add 30 = .ok (.return_, 1) := by decide +kernel
theorem dX2_clear_0 : decode cX2_clear 0 = .ok (.aload_n 0, 1) := by decide +kernel
theorem dX2_clear_1 : decode cX2_clear 1 = .ok (.iconst 0, 1) := by decide +kernel
theorem dX2_clear_2 : decode cX2_clear 2 = .ok (.putfield 18, 3) := by decide +kernel
theorem dX2_clear_5 : decode cX2_clear 5 = .ok (.return_, 1) := by decide +kernel
theorem dX2_minutes_0 : decode cX2_minutes 0 = .ok (.aload_n 0, 1) := by decide +kernel
theorem dX2_minutes_1 : decode cX2_minutes 1 = .ok (.iconst 0, 1) := by decide +kernel
theorem dX2_minutes_2 : decode cX2_minutes 2 = .ok (.putfield 22, 3) := by decide +kernel
theorem dX2_minutes_5 : decode cX2_minutes 5 = .ok (.aload_n 0, 1) := by decide +kernel
theorem dX2_minutes_6 : decode cX2_minutes 6 = .ok (.iconst 0, 1) := by decide +kernel
theorem dX2_minutes_7 : decode cX2_minutes 7 = .ok (.putfield 25, 3) := by decide +kernel
theorem dX2_minutes_10 : decode cX2_minutes 10 = .ok (.iconst 0, 1) := by decide +kernel
theorem dX2_minutes_11 : decode cX2_minutes 11 = .ok (.istore_n 3, 1) := by decide +kernel
theorem dX2_minutes_12 : decode cX2_minutes 12 = .ok (.iload_n 3, 1) := by decide +kernel
theorem dX2_minutes_13 : decode cX2_minutes 13 = .ok (.aload_n 0, 1) := by decide +kernel
theorem dX2_minutes_14 : decode cX2_minutes 14 = .ok (.getfield 18, 3) := by decide +kernel
theorem dX2_minutes_17 : decode cX2_minutes 17 = .ok (.if_icmp .ge 60, 3) := by decide +kernel
theorem dX2_minutes_20 : decode cX2_minutes 20 = .ok (.aload_n 0, 1) := by decide +kernel
theorem dX2_minutes_21 : decode cX2_minutes 21 = .ok (.getfield 9, 3) := by decide +kernel
theorem dX2_minutes_24 : decode cX2_minutes 24 = .ok (.iload_n 3, 1) := by decide +kernel
theorem dX2_minutes_25 : decode cX2_minutes 25 = .ok (.iaload, 1) := by decide +kernel
theorem dX2_minutes_26 : decode cX2_minutes 26 = .ok (.istore 4, 2) := by decide +kernel
theorem dX2_minutes_28 : decode cX2_minutes 28 = .ok (.iload 4, 2) := by decide +kernel
theorem dX2_minutes_30 : decode cX2_minutes 30 = .ok (.ifCond .lt 12, 3) := by decide +kernel
theorem dX2_minutes_33 : decode cX2_minutes 33 = .ok (.aload_n 0, 1) := by decide +kernel
theorem dX2_minutes_34 : decode cX2_minutes 34 = .ok (.iload 4, 2) := by decide +kernel
theorem dX2_minutes_36 : decode cX2_minutes 36 = .ok (.invokevirtual 29, 3) := by decide +kernel
theorem dX2_minutes_39 : decode cX2_minutes 39 = .ok (.goto 32, 3) := by decide +kernel
theorem dX2_minutes_42 : decode cX2_minutes 42 = .ok (.iload 4, 2) := by decide +kernel
theorem dX2_minutes_44 : decode cX2_minutes 44 = .ok (.bipush (-100), 2) := by decide +kernel
theorem dX2_minutes_46 : decode cX2_minutes 46 = .ok (.if_icmp .le 13, 3) := by decide +kernel
theorem dX2_minutes_49 : decode cX2_minutes 49 = .ok (.aload_n 0, 1) := by decide +kernel
theorem dX2_minutes_50 : decode cX2_minutes 50 = .ok (.iload 4, 2) := by decide +kernel
theorem dX2_minutes_52 : decode cX2_minutes 52 = .ok (.ineg, 1) := by decide +kernel
theorem dX2_minutes_53 : decode cX2_minutes 53 = .ok (.invokevirtual 33, 3) := by decide +kernel
theorem dX2_minutes_56 : decode cX2_minutes 56 = .ok (.goto 15, 3) := by decide +kernel
theorem dX2_minutes_59 : decode cX2_minutes 59 = .ok (.aload_n 0, 1) := by decide +kernel
theorem dX2_minutes_60 : decode cX2_minutes 60 = .ok (.aload_n 1, 1) := by decide +kernel
theorem dX2_minutes_61 : decode cX2_minutes 61 = .ok (.iload 4, 2) := by decide +kernel
theorem dX2_minutes_63 : decode cX2_minutes 63 = .ok (.ineg, 1) := by decide +kernel
theorem dX2_minutes_64 : decode cX2_minutes 64 = .ok (.iload_n 2, 1) := by decide +kernel
theorem dX2_minutes_65 : decode cX2_minutes 65 = .ok (.invokevirtual 36, 3) := by decide +kernel
theorem dX2_minutes_68 : decode cX2_minutes 68 = .ok (.invokevirtual 29, 3) := by decide +kernel
theorem dX2_minutes_71 : decode cX2_minutes 71 = .ok (.iinc 3 1, 3) := by decide +kernel
theorem dX2_minutes_74 : decode cX2_minutes 74 = .ok (.goto (-62), 3) := by decide +kernel
theorem dX2_minutes_77 : decode cX2_minutes 77 = .ok (.aload_n 0, 1) := by decide +kernel
theorem dX2_minutes_78 : decode cX2_minutes 78 = .ok (.getfield 25, 3) := by decide +kernel
theorem dX2_minutes_81 : decode cX2_minutes 81 = .ok (.ifCond .ne 11, 3) := by decide +kernel
theorem dX2_minutes_84 : decode cX2_minutes 84 = .ok (.aload_n 0, 1) := by decide +kernel
theorem dX2_minutes_85 : decode cX2_minutes 85 = .ok (.getfield 22, 3) := by decide +kernel
theorem dX2_minutes_88 : decode cX2_minutes 88 = .ok (.iconst 1, 1) := by decide +kernel
theorem dX2_minutes_89 : decode cX2_minutes 89 = .ok (.if_icmp .ge 5, 3) := by decide +kernel
theorem dX2_minutes_92 : decode cX2_minutes 92 = .ok (.iconst 0, 1) := by decide +kernel
theorem dX2_minutes_93 : decode cX2_minutes 93 = .ok (.ireturn, 1) := by decide +kernel
theorem dX2_minutes_94 : decode cX2_minutes 94 = .ok (.iconst 0, 1) := by decide +kernel
theorem dX2_minutes_95 : decode cX2_minutes 95 = .ok (.bipush 120, 2) := by decide +kernel
theorem dX2_minutes_97 : decode cX2_minutes 97 = .ok (.aload_n 0, 1) := by decide +kernel
theorem dX2_minutes_98 : decode cX2_minutes 98 = .ok (.getfield 15, 3) := by decide +kernel
theorem dX2_minutes_101 : decode cX2_minutes 101 = .ok (.iconst 0, 1) := by decide +kernel
theorem dX2_minutes_102 : decode cX2_minutes 102 = .ok (.iaload, 1) := by decide +kernel
theorem dX2_minutes_103 : decode cX2_minutes 103 = .ok (.invokestatic 42, 3) := by decide +kernel
theorem dX2_minutes_106 : decode cX2_minutes 106 = .ok (.invokestatic 47, 3) := by decide +kernel
theorem dX2_minutes_109 : decode cX2_minutes 109 = .ok (.ireturn, 1) := by decide +kernel
theorem dX2_operate_0 : decode cX2_operate 0 = .ok (.aload_n 0, 1) := by decide +kernel
theorem dX2_operate_1 : decode cX2_operate 1 = .ok (.getfield 22, 3) := by decide +kernel
theorem dX2_operate_4 : decode cX2_operate 4 = .ok (.iconst 2, 1) := by decide +kernel
theorem dX2_operate_5 : decode cX2_operate 5 = .ok (.if_icmp .lt 12, 3) := by decide +kernel
theorem dX2_operate_8 : decode cX2_operate 8 = .ok (.aload_n 0, 1) := by decide +kernel
theorem dX2_operate_9 : decode cX2_operate 9 = .ok (.getfield 22, 3) := by decide +kernel
theorem dX2_operate_12 : decode cX2_operate 12 = .ok (.bipush 32, 2) := by decide +kernel
theorem dX2_operate_14 : decode cX2_operate 14 = .ok (.if_icmp .le 4, 3) := by decide +kernel
theorem dX2_operate_17 : decode cX2_operate 17 = .ok (.return_, 1) := by decide +kernel
theorem dX2_operate_18 : decode cX2_operate 18 = .ok (.aload_n 0, 1) := by decide +kernel
theorem dX2_operate_19 : decode cX2_operate 19 = .ok (.dup, 1) := by decide +kernel
theorem dX2_operate_20 : decode cX2_operate 20 = .ok (.getfield 22, 3) := by decide +kernel
theorem dX2_operate_23 : decode cX2_operate 23 = .ok (.iconst 1, 1) := by decide +kernel
theorem dX2_operate_24 : decode cX2_operate 24 = .ok (.isub, 1) := by decide +kernel
theorem dX2_operate_25 : decode cX2_operate 25 = .ok (.putfield 22, 3) := by decide +kernel
theorem dX2_operate_28 : decode cX2_operate 28 = .ok (.aload_n 0, 1) := by decide +kernel
theorem dX2_operate_29 : decode cX2_operate 29 = .ok (.getfield 15, 3) := by decide +kernel
theorem dX2_operate_32 : decode cX2_operate 32 = .ok (.aload_n 0, 1) := by decide +kernel
theorem dX2_operate_33 : decode cX2_operate 33 = .ok (.getfield 22, 3) := by decide +kernel
theorem dX2_operate_36 : decode cX2_operate 36 = .ok (.iaload, 1) := by decide +kernel
theorem dX2_operate_37 : decode cX2_operate 37 = .ok (.istore_n 2, 1) := by decide +kernel
theorem dX2_operate_38 : decode cX2_operate 38 = .ok (.aload_n 0, 1) := by decide +kernel
theorem dX2_operate_39 : decode cX2_operate 39 = .ok (.getfield 15, 3) := by decide +kernel
theorem dX2_operate_42 : decode cX2_operate 42 = .ok (.aload_n 0, 1) := by decide +kernel
theorem dX2_operate_43 : decode cX2_operate 43 = .ok (.getfield 22, 3) := by decide +kernel
theorem dX2_operate_46 : decode cX2_operate 46 = .ok (.iconst 1, 1) := by decide +kernel
theorem dX2_operate_47 : decode cX2_operate 47 = .ok (.isub, 1) := by decide +kernel
theorem dX2_operate_48 : decode cX2_operate 48 = .ok (.iaload, 1) := by decide +kernel
theorem dX2_operate_49 : decode cX2_operate 49 = .ok (.istore_n 3, 1) := by decide +kernel
theorem dX2_operate_50 : decode cX2_operate 50 = .ok (.iconst 0, 1) := by decide +kernel
theorem dX2_operate_51 : decode cX2_operate 51 = .ok (.istore 4, 2) := by decide +kernel
theorem dX2_operate_53 : decode cX2_operate 53 = .ok (.iload_n 1, 1) := by decide +kernel
theorem dX2_operate_54 : decode cX2_operate 54 = .ok (.tableswitch 54 42 45 #[46, 30, 54, 38], 30) := by decide +kernel
theorem dX2_operate_84 : decode cX2_operate 84 = .ok (.iload_n 3, 1) := by decide +kernel
theorem dX2_operate_85 : decode cX2_operate 85 = .ok (.iload_n 2, 1) := by decide +kernel
theorem dX2_operate_86 : decode cX2_operate 86 = .ok (.iadd, 1) := by decide +kernel
theorem dX2_operate_87 : decode cX2_operate 87 = .ok (.istore 4, 2) := by decide +kernel
theorem dX2_operate_89 : decode cX2_operate 89 = .ok (.goto 36, 3) := by decide +kernel
theorem dX2_operate_92 : decode cX2_operate 92 = .ok (.iload_n 3, 1) := by decide +kernel
theorem dX2_operate_93 : decode cX2_operate 93 = .ok (.iload_n 2, 1) := by decide +kernel
theorem dX2_operate_94 : decode cX2_operate 94 = .ok (.isub, 1) := by decide +kernel
theorem dX2_operate_95 : decode cX2_operate 95 = .ok (.istore 4, 2) := by decide +kernel
theorem dX2_operate_97 : decode cX2_operate 97 = .ok (.goto 28, 3) := by decide +kernel
theorem dX2_operate_100 : decode cX2_operate 100 = .ok (.iload_n 3, 1) := by decide +kernel
theorem dX2_operate_101 : decode cX2_operate 101 = .ok (.iload_n 2, 1) := by decide +kernel
theorem dX2_operate_102 : decode cX2_operate 102 = .ok (.imul, 1) := by decide +kernel
theorem dX2_operate_103 : decode cX2_operate 103 = .ok (.istore 4, 2) := by decide +kernel
theorem dX2_operate_105 : decode cX2_operate 105 = .ok (.goto 20, 3) := by decide +kernel
theorem dX2_operate_108 : decode cX2_operate 108 = .ok (.iload_n 2, 1) := by decide +kernel
theorem dX2_operate_109 : decode cX2_operate 109 = .ok (.ifCond .ne 11, 3) := by decide +kernel
theorem dX2_operate_112 : decode cX2_operate 112 = .ok (.aload_n 0, 1) := by decide +kernel
theorem dX2_operate_113 : decode cX2_operate 113 = .ok (.iconst 1, 1) := by decide +kernel
theorem dX2_operate_114 : decode cX2_operate 114 = .ok (.putfield 25, 3) := by decide +kernel
theorem dX2_operate_117 : decode cX2_operate 117 = .ok (.goto 8, 3) := by decide +kernel
theorem dX2_operate_120 : decode cX2_operate 120 = .ok (.iload_n 3, 1) := by decide +kernel
theorem dX2_operate_121 : decode cX2_operate 121 = .ok (.iload_n 2, 1) := by decide +kernel
theorem dX2_operate_122 : decode cX2_operate 122 = .ok (.idiv, 1) := by decide +kernel
theorem dX2_operate_123 : decode cX2_operate 123 = .ok (.istore 4, 2) := by decide +kernel
theorem dX2_operate_125 : decode cX2_operate 125 = .ok (.aload_n 0, 1) := by decide +kernel
theorem dX2_operate_126 : decode cX2_operate 126 = .ok (.getfield 15, 3) := by decide +kernel
theorem dX2_operate_129 : decode cX2_operate 129 = .ok (.aload_n 0, 1) := by decide +kernel
theorem dX2_operate_130 : decode cX2_operate 130 = .ok (.getfield 22, 3) := by decide +kernel
theorem dX2_operate_133 : decode cX2_operate 133 = .ok (.iconst 1, 1) := by decide +kernel
theorem dX2_operate_134 : decode cX2_operate 134 = .ok (.isub, 1) := by decide +kernel
theorem dX2_operate_135 : decode cX2_operate 135 = .ok (.iload 4, 2) := by decide +kernel
theorem dX2_operate_137 : decode cX2_operate 137 = .ok (.iastore, 1) := by decide +kernel
theorem dX2_operate_138 : decode cX2_operate 138 = .ok (.return_, 1) := by decide +kernel
theorem dX2_push_0 : decode cX2_push 0 = .ok (.aload_n 0, 1) := by decide +kernel
theorem dX2_push_1 : decode cX2_push 1 = .ok (.getfield 22, 3) := by decide +kernel
theorem dX2_push_4 : decode cX2_push 4 = .ok (.ifCond .lt 32, 3) := by decide +kernel
theorem dX2_push_7 : decode cX2_push 7 = .ok (.aload_n 0, 1) := by decide +kernel
theorem dX2_push_8 : decode cX2_push 8 = .ok (.getfield 22, 3) := by decide +kernel
theorem dX2_push_11 : decode cX2_push 11 = .ok (.bipush 32, 2) := by decide +kernel
theorem dX2_push_13 : decode cX2_push 13 = .ok (.if_icmp .ge 23, 3) := by decide +kernel
theorem dX2_push_16 : decode cX2_push 16 = .ok (.aload_n 0, 1) := by decide +kernel
theorem dX2_push_17 : decode cX2_push 17 = .ok (.getfield 15, 3) := by decide +kernel
theorem dX2_push_20 : decode cX2_push 20 = .ok (.aload_n 0, 1) := by decide +kernel
theorem dX2_push_21 : decode cX2_push 21 = .ok (.getfield 22, 3) := by decide +kernel
theorem dX2_push_24 : decode cX2_push 24 = .ok (.iload_n 1, 1) := by decide +kernel
theorem dX2_push_25 : decode cX2_push 25 = .ok (.iastore, 1) := by decide +kernel
theorem dX2_push_26 : decode cX2_push 26 = .ok (.aload_n 0, 1) := by decide +kernel
theorem dX2_push_27 : decode cX2_push 27 = .ok (.dup, 1) := by decide +kernel
theorem dX2_push_28 : decode cX2_push 28 = .ok (.getfield 22, 3) := by decide +kernel
theorem dX2_push_31 : decode cX2_push 31 = .ok (.iconst 1, 1) := by decide +kernel
theorem dX2_push_32 : decode cX2_push 32 = .ok (.iadd, 1) := by decide +kernel
theorem dX2_push_33 : decode cX2_push 33 = .ok (.putfield 22, 3) := by decide +kernel
theorem dX2_push_36 : decode cX2_push 36 = .ok (.return_, 1) := by decide +kernel
theorem dX3_clear_0 : decode cX3_clear 0 = .ok (.aload_n 0, 1) := by decide +kernel
theorem dX3_clear_1 : decode cX3_clear 1 = .ok (.iconst 0, 1) := by decide +kernel
theorem dX3_clear_2 : decode cX3_clear 2 = .ok (.putfield 31, 3) := by decide +kernel
theorem dX3_clear_5 : decode cX3_clear 5 = .ok (.aload_n 0, 1) := by decide +kernel
theorem dX3_clear_6 : decode cX3_clear 6 = .ok (.getfield 28, 3) := by decide +kernel
theorem dX3_clear_9 : decode cX3_clear 9 = .ok (.iconst 0, 1) := by decide +kernel
theorem dX3_clear_10 : decode cX3_clear 10 = .ok (.invokestatic 35, 3) := by decide +kernel
theorem dX3_clear_13 : decode cX3_clear 13 = .ok (.return_, 1) := by decide +kernel
theorem dX4_avoids_0 : decode cX4_avoids 0 = .ok (.iload_n 2, 1) := by decide +kernel
theorem dX4_avoids_1 : decode cX4_avoids 1 = .ok (.ifCond .eq 15, 3) := by decide +kernel
theorem dX4_avoids_4 : decode cX4_avoids 4 = .ok (.iload 4, 2) := by decide +kernel
theorem dX4_avoids_6 : decode cX4_avoids 6 = .ok (.ifCond .lt 10, 3) := by decide +kernel
theorem dX4_avoids_9 : decode cX4_avoids 9 = .ok (.iload 4, 2) := by decide +kernel
theorem dX4_avoids_11 : decode cX4_avoids 11 = .ok (.bipush 6, 2) := by decide +kernel
theorem dX4_avoids_13 : decode cX4_avoids 13 = .ok (.if_icmp .lt 5, 3) := by decide +kernel
theorem dX4_avoids_16 : decode cX4_avoids 16 = .ok (.iconst 1, 1) := by decide +kernel
theorem dX4_avoids_17 : decode cX4_avoids 17 = .ok (.ireturn, 1) := by decide +kernel
theorem dX4_avoids_18 : decode cX4_avoids 18 = .ok (.aload_n 0, 1) := by decide +kernel
theorem dX4_avoids_19 : decode cX4_avoids 19 = .ok (.getfield 11, 3) := by decide +kernel
theorem dX4_avoids_22 : decode cX4_avoids 22 = .ok (.iload 4, 2) := by decide +kernel
theorem dX4_avoids_24 : decode cX4_avoids 24 = .ok (.iconst 1, 1) := by decide +kernel
theorem dX4_avoids_25 : decode cX4_avoids 25 = .ok (.iadd, 1) := by decide +kernel
theorem dX4_avoids_26 : decode cX4_avoids 26 = .ok (.aaload, 1) := by decide +kernel
theorem dX4_avoids_27 : decode cX4_avoids 27 = .ok (.astore 5, 2) := by decide +kernel
theorem dX4_avoids_29 : decode cX4_avoids 29 = .ok (.iconst 0, 1) := by decide +kernel
theorem dX4_avoids_30 : decode cX4_avoids 30 = .ok (.istore 6, 2) := by decide +kernel
theorem dX4_avoids_32 : decode cX4_avoids 32 = .ok (.iload 6, 2) := by decide +kernel
theorem dX4_avoids_34 : decode cX4_avoids 34 = .ok (.aload_n 1, 1) := by decide +kernel
theorem dX4_avoids_35 : decode cX4_avoids 35 = .ok (.getfield 65, 3) := by decide +kernel
theorem dX4_avoids_38 : decode cX4_avoids 38 = .ok (.if_icmp .ge 82, 3) := by decide +kernel
theorem dX4_avoids_41 : decode cX4_avoids 41 = .ok (.iload_n 2, 1) := by decide +kernel
theorem dX4_avoids_42 : decode cX4_avoids 42 = .ok (.iload 6, 2) := by decide +kernel
theorem dX4_avoids_44 : decode cX4_avoids 44 = .ok (.ishr, 1) := by decide +kernel
theorem dX4_avoids_45 : decode cX4_avoids 45 = .ok (.iconst 1, 1) := by decide +kernel
theorem dX4_avoids_46 : decode cX4_avoids 46 = .ok (.iand, 1) := by decide +kernel
theorem dX4_avoids_47 : decode cX4_avoids 47 = .ok (.ifCond .eq 67, 3) := by decide +kernel
theorem dX4_avoids_50 : decode cX4_avoids 50 = .ok (.aload 5, 2) := by decide +kernel
theorem dX4_avoids_52 : decode cX4_avoids 52 = .ok (.aload_n 0, 1) := by decide +kernel
theorem dX4_avoids_53 : decode cX4_avoids 53 = .ok (.getfield 11, 3) := by decide +kernel
theorem dX4_avoids_56 : decode cX4_avoids 56 = .ok (.iload 4, 2) := by decide +kernel
theorem dX4_avoids_58 : decode cX4_avoids 58 = .ok (.aaload, 1) := by decide +kernel
theorem dX4_avoids_59 : decode cX4_avoids 59 = .ok (.invokevirtual 41, 3) := by decide +kernel
theorem dX4_avoids_62 : decode cX4_avoids 62 = .ok (.aload 5, 2) := by decide +kernel
theorem dX4_avoids_64 : decode cX4_avoids 64 = .ok (.iload_n 3, 1) := by decide +kernel
theorem dX4_avoids_65 : decode cX4_avoids 65 = .ok (.putfield 87, 3) := by decide +kernel
theorem dX4_avoids_68 : decode cX4_avoids 68 = .ok (.aload 5, 2) := by decide +kernel
theorem dX4_avoids_70 : decode cX4_avoids 70 = .ok (.iconst 0, 1) := by decide +kernel
theorem dX4_avoids_71 : decode cX4_avoids 71 = .ok (.putfield 90, 3) := by decide +kernel
theorem dX4_avoids_74 : decode cX4_avoids 74 = .ok (.aload 5, 2) := by decide +kernel
theorem dX4_avoids_76 : decode cX4_avoids 76 = .ok (.aload_n 1, 1) := by decide +kernel
theorem dX4_avoids_77 : decode cX4_avoids 77 = .ok (.iload 6, 2) := by decide +kernel
theorem dX4_avoids_79 : decode cX4_avoids 79 = .ok (.invokevirtual 70, 3) := by decide +kernel
theorem dX4_avoids_82 : decode cX4_avoids 82 = .ok (.pop, 1) := by decide +kernel
theorem dX4_avoids_83 : decode cX4_avoids 83 = .ok (.aload 5, 2) := by decide +kernel
theorem dX4_avoids_85 : decode cX4_avoids 85 = .ok (.getfield 90, 3) := by decide +kernel
theorem dX4_avoids_88 : decode cX4_avoids 88 = .ok (.ifCond .ne 26, 3) := by decide +kernel
theorem dX4_avoids_91 : decode cX4_avoids 91 = .ok (.aload_n 0, 1) := by decide +kernel
theorem dX4_avoids_92 : decode cX4_avoids 92 = .ok (.aload_n 1, 1) := by decide +kernel
theorem dX4_avoids_93 : decode cX4_avoids 93 = .ok (.iload_n 2, 1) := by decide +kernel
theorem dX4_avoids_94 : decode cX4_avoids 94 = .ok (.iconst 1, 1) := by decide +kernel
theorem dX4_avoids_95 : decode cX4_avoids 95 = .ok (.iload 6, 2) := by decide +kernel
theorem dX4_avoids_97 : decode cX4_avoids 97 = .ok (.ishl, 1) := by decide +kernel
theorem dX4_avoids_98 : decode cX4_avoids 98 = .ok (.iconst (-1), 1) := by decide +kernel
theorem dX4_avoids_99 : decode cX4_avoids 99 = .ok (.ixor, 1) := by decide +kernel
theorem dX4_avoids_100 : decode cX4_avoids 100 = .ok (.iand, 1) := by decide +kernel
theorem dX4_avoids_101 : decode cX4_avoids 101 = .ok (.iload_n 3, 1) := by decide +kernel
theorem dX4_avoids_102 : decode cX4_avoids 102 = .ok (.iload 4, 2) := by decide +kernel
theorem dX4_avoids_104 : decode cX4_avoids 104 = .ok (.iconst 1, 1) := by decide +kernel
theorem dX4_avoids_105 : decode cX4_avoids 105 = .ok (.iadd, 1) := by decide +kernel
theorem dX4_avoids_106 : decode cX4_avoids 106 = .ok (.invokevirtual 83, 3) := by decide +kernel
theorem dX4_avoids_109 : decode cX4_avoids 109 = .ok (.ifCond .eq 5, 3) := by decide +kernel
theorem dX4_avoids_112 : decode cX4_avoids 112 = .ok (.iconst 1, 1) := by decide +kernel
theorem dX4_avoids_113 : decode cX4_avoids 113 = .ok (.ireturn, 1) := by decide +kernel
theorem dX4_avoids_114 : decode cX4_avoids 114 = .ok (.iinc 6 1, 3) := by decide +kernel
theorem dX4_avoids_117 : decode cX4_avoids 117 = .ok (.goto (-85), 3) := by decide +kernel
theorem dX4_avoids_120 : decode cX4_avoids 120 = .ok (.iconst 0, 1) := by decide +kernel
theorem dX4_avoids_121 : decode cX4_avoids 121 = .ok (.ireturn, 1) := by decide +kernel
theorem dX4_canAvoid_0 : decode cX4_canAvoid 0 = .ok (.aload_n 0, 1) := by decide +kernel
theorem dX4_canAvoid_1 : decode cX4_canAvoid 1 = .ok (.getfield 11, 3) := by decide +kernel
theorem dX4_canAvoid_4 : decode cX4_canAvoid 4 = .ok (.iconst 0, 1) := by decide +kernel
theorem dX4_canAvoid_5 : decode cX4_canAvoid 5 = .ok (.aaload, 1) := by decide +kernel
theorem dX4_canAvoid_6 : decode cX4_canAvoid 6 = .ok (.aload_n 2, 1) := by decide +kernel
theorem dX4_canAvoid_7 : decode cX4_canAvoid 7 = .ok (.invokevirtual 41, 3) := by decide +kernel
theorem dX4_canAvoid_10 : decode cX4_canAvoid 10 = .ok (.aload_n 0, 1) := by decide +kernel
theorem dX4_canAvoid_11 : decode cX4_canAvoid 11 = .ok (.aload_n 1, 1) := by decide +kernel
theorem dX4_canAvoid_12 : decode cX4_canAvoid 12 = .ok (.iload_n 3, 1) := by decide +kernel
theorem dX4_canAvoid_13 : decode cX4_canAvoid 13 = .ok (.iload 4, 2) := by decide +kernel
theorem dX4_canAvoid_15 : decode cX4_canAvoid 15 = .ok (.iconst 0, 1) := by decide +kernel
theorem dX4_canAvoid_16 : decode cX4_canAvoid 16 = .ok (.invokevirtual 83, 3) := by decide +kernel
theorem dX4_canAvoid_19 : decode cX4_canAvoid 19 = .ok (.ireturn, 1) := by decide +kernel
theorem dX4_extend_0 : decode cX4_extend 0 = .ok (.iload_n 2, 1) := by decide +kernel
theorem dX4_extend_1 : decode cX4_extend 1 = .ok (.ifCond .eq 13, 3) := by decide +kernel
theorem dX4_extend_4 : decode cX4_extend 4 = .ok (.iload_n 3, 1) := by decide +kernel
theorem dX4_extend_5 : decode cX4_extend 5 = .ok (.ifCond .lt 9, 3) := by decide +kernel
theorem dX4_extend_8 : decode cX4_extend 8 = .ok (.iload_n 3, 1) := by decide +kernel
theorem dX4_extend_9 : decode cX4_extend 9 = .ok (.bipush 6, 2) := by decide +kernel
theorem dX4_extend_11 : decode cX4_extend 11 = .ok (.if_icmp .lt 26, 3) := by decide +kernel
theorem dX4_extend_14 : decode cX4_extend 14 = .ok (.aload_n 0, 1) := by decide +kernel
theorem dX4_extend_15 : decode cX4_extend 15 = .ok (.aload_n 0, 1) := by decide +kernel
theorem dX4_extend_16 : decode cX4_extend 16 = .ok (.getfield 11, 3) := by decide +kernel
theorem dX4_extend_19 : decode cX4_extend 19 = .ok (.iconst 0, 1) := by decide +kernel
theorem dX4_extend_20 : decode cX4_extend 20 = .ok (.iload_n 3, 1) := by decide +kernel
theorem dX4_extend_21 : decode cX4_extend 21 = .ok (.bipush 6, 2) := by decide +kernel
theorem dX4_extend_23 : decode cX4_extend 23 = .ok (.invokestatic 49, 3) := by decide +kernel
theorem dX4_extend_26 : decode cX4_extend 26 = .ok (.invokestatic 55, 3) := by decide +kernel
theorem dX4_extend_29 : decode cX4_extend 29 = .ok (.aaload, 1) := by decide +kernel
theorem dX4_extend_30 : decode cX4_extend 30 = .ok (.getfield 58, 3) := by decide +kernel
theorem dX4_extend_33 : decode cX4_extend 33 = .ok (.invokevirtual 61, 3) := by decide +kernel
theorem dX4_extend_36 : decode cX4_extend 36 = .ok (.return_, 1) := by decide +kernel
theorem dX4_extend_37 : decode cX4_extend 37 = .ok (.aload_n 0, 1) := by decide +kernel
theorem dX4_extend_38 : decode cX4_extend 38 = .ok (.getfield 11, 3) := by decide +kernel
theorem dX4_extend_41 : decode cX4_extend 41 = .ok (.iload_n 3, 1) := by decide +kernel
theorem dX4_extend_42 : decode cX4_extend 42 = .ok (.iconst 1, 1) := by decide +kernel
theorem dX4_extend_43 : decode cX4_extend 43 = .ok (.iadd, 1) := by decide +kernel
theorem dX4_extend_44 : decode cX4_extend 44 = .ok (.aaload, 1) := by decide +kernel
theorem dX4_extend_45 : decode cX4_extend 45 = .ok (.astore 4, 2) := by decide +kernel
theorem dX4_extend_47 : decode cX4_extend 47 = .ok (.iconst 0, 1) := by decide +kernel
theorem dX4_extend_48 : decode cX4_extend 48 = .ok (.istore 5, 2) := by decide +kernel
theorem dX4_extend_50 : decode cX4_extend 50 = .ok (.iload 5, 2) := by decide +kernel
theorem dX4_extend_52 : decode cX4_extend 52 = .ok (.aload_n 1, 1) := by decide +kernel
theorem dX4_extend_53 : decode cX4_extend 53 = .ok (.getfield 65, 3) := by decide +kernel
theorem dX4_extend_56 : decode cX4_extend 56 = .ok (.if_icmp .ge 62, 3) := by decide +kernel
theorem dX4_extend_59 : decode cX4_extend 59 = .ok (.iload_n 2, 1) := by decide +kernel
theorem dX4_extend_60 : decode cX4_extend 60 = .ok (.iload 5, 2) := by decide +kernel
theorem dX4_extend_62 : decode cX4_extend 62 = .ok (.ishr, 1) := by decide +kernel
theorem dX4_extend_63 : decode cX4_extend 63 = .ok (.iconst 1, 1) := by decide +kernel
theorem dX4_extend_64 : decode cX4_extend 64 = .ok (.iand, 1) := by decide +kernel
theorem dX4_extend_65 : decode cX4_extend 65 = .ok (.ifCond .eq 47, 3) := by decide +kernel
theorem dX4_extend_68 : decode cX4_extend 68 = .ok (.aload 4, 2) := by decide +kernel
theorem dX4_extend_70 : decode cX4_extend 70 = .ok (.aload_n 0, 1) := by decide +kernel
theorem dX4_extend_71 : decode cX4_extend 71 = .ok (.getfield 11, 3) := by decide +kernel
theorem dX4_extend_74 : decode cX4_extend 74 = .ok (.iload_n 3, 1) := by decide +kernel
theorem dX4_extend_75 : decode cX4_extend 75 = .ok (.aaload, 1) := by decide +kernel
theorem dX4_extend_76 : decode cX4_extend 76 = .ok (.invokevirtual 41, 3) := by decide +kernel
theorem dX4_extend_79 : decode cX4_extend 79 = .ok (.aload 4, 2) := by decide +kernel
theorem dX4_extend_81 : decode cX4_extend 81 = .ok (.aload_n 1, 1) := by decide +kernel
theorem dX4_extend_82 : decode cX4_extend 82 = .ok (.iload 5, 2) := by decide +kernel
theorem dX4_extend_84 : decode cX4_extend 84 = .ok (.invokevirtual 70, 3) := by decide +kernel
theorem dX4_extend_87 : decode cX4_extend 87 = .ok (.pop, 1) := by decide +kernel
theorem dX4_extend_88 : decode cX4_extend 88 = .ok (.aload_n 0, 1) := by decide +kernel
theorem dX4_extend_89 : decode cX4_extend 89 = .ok (.getfield 17, 3) := by decide +kernel
theorem dX4_extend_92 : decode cX4_extend 92 = .ok (.iload_n 3, 1) := by decide +kernel
theorem dX4_extend_93 : decode cX4_extend 93 = .ok (.iload 5, 2) := by decide +kernel
theorem dX4_extend_95 : decode cX4_extend 95 = .ok (.iastore, 1) := by decide +kernel
theorem dX4_extend_96 : decode cX4_extend 96 = .ok (.aload_n 0, 1) := by decide +kernel
theorem dX4_extend_97 : decode cX4_extend 97 = .ok (.aload_n 1, 1) := by decide +kernel
theorem dX4_extend_98 : decode cX4_extend 98 = .ok (.iload_n 2, 1) := by decide +kernel
theorem dX4_extend_99 : decode cX4_extend 99 = .ok (.iconst 1, 1) := by decide +kernel
theorem dX4_extend_100 : decode cX4_extend 100 = .ok (.iload 5, 2) := by decide +kernel
theorem dX4_extend_102 : decode cX4_extend 102 = .ok (.ishl, 1) := by decide +kernel
theorem dX4_extend_103 : decode cX4_extend 103 = .ok (.iconst (-1), 1) := by decide +kernel
theorem dX4_extend_104 : decode cX4_extend 104 = .ok (.ixor, 1) := by decide +kernel
theorem dX4_extend_105 : decode cX4_extend 105 = .ok (.iand, 1) := by decide +kernel
theorem dX4_extend_106 : decode cX4_extend 106 = .ok (.iload_n 3, 1) := by decide +kernel
theorem dX4_extend_107 : decode cX4_extend 107 = .ok (.iconst 1, 1) := by decide +kernel
theorem dX4_extend_108 : decode cX4_extend 108 = .ok (.iadd, 1) := by decide +kernel
theorem dX4_extend_109 : decode cX4_extend 109 = .ok (.invokevirtual 45, 3) := by decide +kernel
theorem dX4_extend_112 : decode cX4_extend 112 = .ok (.iinc 5 1, 3) := by decide +kernel
theorem dX4_extend_115 : decode cX4_extend 115 = .ok (.goto (-65), 3) := by decide +kernel
theorem dX4_extend_118 : decode cX4_extend 118 = .ok (.return_, 1) := by decide +kernel
theorem dX4_find_0 : decode cX4_find 0 = .ok (.aload_n 0, 1) := by decide +kernel
theorem dX4_find_1 : decode cX4_find 1 = .ok (.getfield 27, 3) := by decide +kernel
theorem dX4_find_4 : decode cX4_find 4 = .ok (.ifCond .eq 21, 3) := by decide +kernel
theorem dX4_find_7 : decode cX4_find 7 = .ok (.aload_n 0, 1) := by decide +kernel
theorem dX4_find_8 : decode cX4_find 8 = .ok (.getfield 31, 3) := by decide +kernel
theorem dX4_find_11 : decode cX4_find 11 = .ok (.iload_n 3, 1) := by decide +kernel
theorem dX4_find_12 : decode cX4_find 12 = .ok (.if_icmp .ne 13, 3) := by decide +kernel
theorem dX4_find_15 : decode cX4_find 15 = .ok (.aload_n 0, 1) := by decide +kernel
theorem dX4_find_16 : decode cX4_find 16 = .ok (.getfield 35, 3) := by decide +kernel
theorem dX4_find_19 : decode cX4_find 19 = .ok (.iload 4, 2) := by decide +kernel
theorem dX4_find_21 : decode cX4_find 21 = .ok (.if_icmp .ne 4, 3) := by decide +kernel
theorem dX4_find_24 : decode cX4_find 24 = .ok (.return_, 1) := by decide +kernel
theorem dX4_find_25 : decode cX4_find 25 = .ok (.aload_n 0, 1) := by decide +kernel
theorem dX4_find_26 : decode cX4_find 26 = .ok (.iconst 1, 1) := by decide +kernel
theorem dX4_find_27 : decode cX4_find 27 = .ok (.putfield 27, 3) := by decide +kernel
theorem dX4_find_30 : decode cX4_find 30 = .ok (.aload_n 0, 1) := by decide +kernel
theorem dX4_find_31 : decode cX4_find 31 = .ok (.iload_n 3, 1) := by decide +kernel
theorem dX4_find_32 : decode cX4_find 32 = .ok (.putfield 31, 3) := by decide +kernel
theorem dX4_find_35 : decode cX4_find 35 = .ok (.aload_n 0, 1) := by decide +kernel
theorem dX4_find_36 : decode cX4_find 36 = .ok (.iload 4, 2) := by decide +kernel
theorem dX4_find_38 : decode cX4_find 38 = .ok (.putfield 35, 3) := by decide +kernel
theorem dX4_find_41 : decode cX4_find 41 = .ok (.aload_n 0, 1) := by decide +kernel
theorem dX4_find_42 : decode cX4_find 42 = .ok (.iconst 0, 1) := by decide +kernel
theorem dX4_find_43 : decode cX4_find 43 = .ok (.putfield 38, 3) := by decide +kernel
theorem dX4_find_46 : decode cX4_find 46 = .ok (.aload_n 0, 1) := by decide +kernel
theorem dX4_find_47 : decode cX4_find 47 = .ok (.getfield 11, 3) := by decide +kernel
theorem dX4_find_50 : decode cX4_find 50 = .ok (.iconst 0, 1) := by decide +kernel
theorem dX4_find_51 : decode cX4_find 51 = .ok (.aaload, 1) := by decide +kernel
theorem dX4_find_52 : decode cX4_find 52 = .ok (.aload_n 2, 1) := by decide +kernel
theorem dX4_find_53 : decode cX4_find 53 = .ok (.invokevirtual 41, 3) := by decide +kernel
theorem dX4_find_56 : decode cX4_find 56 = .ok (.aload_n 0, 1) := by decide +kernel
theorem dX4_find_57 : decode cX4_find 57 = .ok (.aload_n 1, 1) := by decide +kernel
theorem dX4_find_58 : decode cX4_find 58 = .ok (.iload_n 3, 1) := by decide +kernel
theorem dX4_find_59 : decode cX4_find 59 = .ok (.iconst 0, 1) := by decide +kernel
theorem dX4_find_60 : decode cX4_find 60 = .ok (.invokevirtual 45, 3) := by decide +kernel
theorem dX4_find_63 : decode cX4_find 63 = .ok (.return_, 1) := by decide +kernel
theorem dX4_judge_0 : decode cX4_judge 0 = .ok (.aload_n 0, 1) := by decide +kernel
theorem dX4_judge_1 : decode cX4_judge 1 = .ok (.getfield 38, 3) := by decide +kernel
theorem dX4_judge_4 : decode cX4_judge 4 = .ok (.ifCond .eq 30, 3) := by decide +kernel
theorem dX4_judge_7 : decode cX4_judge 7 = .ok (.aload_n 0, 1) := by decide +kernel
theorem dX4_judge_8 : decode cX4_judge 8 = .ok (.getfield 35, 3) := by decide +kernel
theorem dX4_judge_11 : decode cX4_judge 11 = .ok (.ifCond .eq 14, 3) := by decide +kernel
theorem dX4_judge_14 : decode cX4_judge 14 = .ok (.iload_n 1, 1) := by decide +kernel
theorem dX4_judge_15 : decode cX4_judge 15 = .ok (.aload_n 0, 1) := by decide +kernel
theorem dX4_judge_16 : decode cX4_judge 16 = .ok (.getfield 74, 3) := by decide +kernel
theorem dX4_judge_19 : decode cX4_judge 19 = .ok (.if_icmp .gt 15, 3) := by decide +kernel
theorem dX4_judge_22 : decode cX4_judge 22 = .ok (.goto 11, 3) := by decide +kernel
theorem dX4_judge_25 : decode cX4_judge 25 = .ok (.iload_n 1, 1) := by decide +kernel
theorem dX4_judge_26 : decode cX4_judge 26 = .ok (.aload_n 0, 1) := by decide +kernel
theorem dX4_judge_27 : decode cX4_judge 27 = .ok (.getfield 74, 3) := by decide +kernel
theorem dX4_judge_30 : decode cX4_judge 30 = .ok (.if_icmp .lt 4, 3) := by decide +kernel
theorem dX4_judge_33 : decode cX4_judge 33 = .ok (.return_, 1) := by decide +kernel
theorem dX4_judge_34 : decode cX4_judge 34 = .ok (.aload_n 0, 1) := by decide +kernel
theorem dX4_judge_35 : decode cX4_judge 35 = .ok (.iconst 1, 1) := by decide +kernel
theorem dX4_judge_36 : decode cX4_judge 36 = .ok (.putfield 38, 3) := by decide +kernel
theorem dX4_judge_39 : decode cX4_judge 39 = .ok (.aload_n 0, 1) := by decide +kernel
theorem dX4_judge_40 : decode cX4_judge 40 = .ok (.iload_n 1, 1) := by decide +kernel
theorem dX4_judge_41 : decode cX4_judge 41 = .ok (.putfield 74, 3) := by decide +kernel
theorem dX4_judge_44 : decode cX4_judge 44 = .ok (.aload_n 0, 1) := by decide +kernel
theorem dX4_judge_45 : decode cX4_judge 45 = .ok (.getfield 17, 3) := by decide +kernel
theorem dX4_judge_48 : decode cX4_judge 48 = .ok (.iconst 0, 1) := by decide +kernel
theorem dX4_judge_49 : decode cX4_judge 49 = .ok (.aload_n 0, 1) := by decide +kernel
theorem dX4_judge_50 : decode cX4_judge 50 = .ok (.getfield 21, 3) := by decide +kernel
theorem dX4_judge_53 : decode cX4_judge 53 = .ok (.iconst 0, 1) := by decide +kernel
theorem dX4_judge_54 : decode cX4_judge 54 = .ok (.bipush 6, 2) := by decide +kernel
theorem dX4_judge_56 : decode cX4_judge 56 = .ok (.invokestatic 77, 3) := by decide +kernel
theorem dX4_judge_59 : decode cX4_judge 59 = .ok (.return_, 1) := by decide +kernel
theorem dX5_accept_0 : decode cX5_accept 0 = .ok (.aload_n 0, 1) := by decide +kernel
theorem dX5_accept_1 : decode cX5_accept 1 = .ok (.getfield 39, 3) := by decide +kernel
theorem dX5_accept_4 : decode cX5_accept 4 = .ok (.iload_n 1, 1) := by decide +kernel
theorem dX5_accept_5 : decode cX5_accept 5 = .ok (.if_icmp .ne 10, 3) := by decide +kernel
theorem dX5_accept_8 : decode cX5_accept 8 = .ok (.aload_n 0, 1) := by decide +kernel
theorem dX5_accept_9 : decode cX5_accept 9 = .ok (.getfield 42, 3) := by decide +kernel
theorem dX5_accept_12 : decode cX5_accept 12 = .ok (.ifCond .eq 5, 3) := by decide +kernel
theorem dX5_accept_15 : decode cX5_accept 15 = .ok (.iconst 0, 1) := by decide +kernel
theorem dX5_accept_16 : decode cX5_accept 16 = .ok (.ireturn, 1) := by decide +kernel
theorem dX5_accept_17 : decode cX5_accept 17 = .ok (.aload_n 0, 1) := by decide +kernel
theorem dX5_accept_18 : decode cX5_accept 18 = .ok (.getfield 31, 3) := by decide +kernel
theorem dX5_accept_21 : decode cX5_accept 21 = .ok (.sipush 400, 3) := by decide +kernel
theorem dX5_accept_24 : decode cX5_accept 24 = .ok (.if_icmp .lt 15, 3) := by decide +kernel
theorem dX5_accept_27 : decode cX5_accept 27 = .ok (.aload_n 0, 1) := by decide +kernel
theorem dX5_accept_28 : decode cX5_accept 28 = .ok (.iconst 2, 1) := by decide +kernel
theorem dX5_accept_29 : decode cX5_accept 29 = .ok (.putfield 42, 3) := by decide +kernel
theorem dX5_accept_32 : decode cX5_accept 32 = .ok (.aload_n 0, 1) := by decide +kernel
theorem dX5_accept_33 : decode cX5_accept 33 = .ok (.iconst 0, 1) := by decide +kernel
theorem dX5_accept_34 : decode cX5_accept 34 = .ok (.putfield 39, 3) := by decide +kernel
theorem dX5_accept_37 : decode cX5_accept 37 = .ok (.iconst 0, 1) := by decide +kernel
theorem dX5_accept_38 : decode cX5_accept 38 = .ok (.ireturn, 1) := by decide +kernel
theorem dX5_accept_39 : decode cX5_accept 39 = .ok (.aload_n 0, 1) := by decide +kernel
theorem dX5_accept_40 : decode cX5_accept 40 = .ok (.dup, 1) := by decide +kernel
theorem dX5_accept_41 : decode cX5_accept 41 = .ok (.getfield 31, 3) := by decide +kernel
theorem dX5_accept_44 : decode cX5_accept 44 = .ok (.iconst 1, 1) := by decide +kernel
theorem dX5_accept_45 : decode cX5_accept 45 = .ok (.iadd, 1) := by decide +kernel
theorem dX5_accept_46 : decode cX5_accept 46 = .ok (.putfield 31, 3) := by decide +kernel
theorem dX5_accept_49 : decode cX5_accept 49 = .ok (.aload_n 0, 1) := by decide +kernel
theorem dX5_accept_50 : decode cX5_accept 50 = .ok (.aload_n 0, 1) := by decide +kernel
theorem dX5_accept_51 : decode cX5_accept 51 = .ok (.getfield 12, 3) := by decide +kernel
theorem dX5_accept_54 : decode cX5_accept 54 = .ok (.getfield 35, 3) := by decide +kernel
theorem dX5_accept_57 : decode cX5_accept 57 = .ok (.aload_n 0, 1) := by decide +kernel
theorem dX5_accept_58 : decode cX5_accept 58 = .ok (.getfield 31, 3) := by decide +kernel
theorem dX5_accept_61 : decode cX5_accept 61 = .ok (.iaload, 1) := by decide +kernel
theorem dX5_accept_62 : decode cX5_accept 62 = .ok (.putfield 39, 3) := by decide +kernel
theorem dX5_accept_65 : decode cX5_accept 65 = .ok (.iconst 1, 1) := by decide +kernel
theorem dX5_accept_66 : decode cX5_accept 66 = .ok (.ireturn, 1) := by decide +kernel
theorem dX5_all_0 : decode cX5_all 0 = .ok (.aload_n 0, 1) := by decide +kernel
theorem dX5_all_1 : decode cX5_all 1 = .ok (.iload_n 1, 1) := by decide +kernel
theorem dX5_all_2 : decode cX5_all 2 = .ok (.invokevirtual 169, 3) := by decide +kernel
theorem dX5_all_5 : decode cX5_all 5 = .ok (.lstore_n 2, 1) := by decide +kernel
theorem dX5_all_6 : decode cX5_all 6 = .ok (.iconst 0, 1) := by decide +kernel
theorem dX5_all_7 : decode cX5_all 7 = .ok (.istore 4, 2) := by decide +kernel
theorem dX5_all_9 : decode cX5_all 9 = .ok (.iload 4, 2) := by decide +kernel
theorem dX5_all_11 : decode cX5_all 11 = .ok (.sipush 400, 3) := by decide +kernel
theorem dX5_all_14 : decode cX5_all 14 = .ok (.if_icmp .gt 26, 3) := by decide +kernel
theorem dX5_all_17 : decode cX5_all 17 = .ok (.aload_n 0, 1) := by decide +kernel
theorem dX5_all_18 : decode cX5_all 18 = .ok (.bipush 112, 2) := by decide +kernel
theorem dX5_all_20 : decode cX5_all 20 = .ok (.invokevirtual 88, 3) := by decide +kernel
theorem dX5_all_23 : decode cX5_all 23 = .ok (.ifCond .eq 17, 3) := by decide +kernel
theorem dX5_all_26 : decode cX5_all 26 = .ok (.lload_n 2, 1) := by decide +kernel
theorem dX5_all_27 : decode cX5_all 27 = .ok (.aload_n 0, 1) := by decide +kernel
theorem dX5_all_28 : decode cX5_all 28 = .ok (.iload_n 1, 1) := by decide +kernel
theorem dX5_all_29 : decode cX5_all 29 = .ok (.invokevirtual 169, 3) := by decide +kernel
theorem dX5_all_32 : decode cX5_all 32 = .ok (.land, 1) := by decide +kernel
theorem dX5_all_33 : decode cX5_all 33 = .ok (.lstore_n 2, 1) := by decide +kernel
theorem dX5_all_34 : decode cX5_all 34 = .ok (.iinc 4 1, 3) := by decide +kernel
theorem dX5_all_37 : decode cX5_all 37 = .ok (.goto (-28), 3) := by decide +kernel
theorem dX5_all_40 : decode cX5_all 40 = .ok (.lload_n 2, 1) := by decide +kernel
theorem dX5_all_41 : decode cX5_all 41 = .ok (.lreturn, 1) := by decide +kernel
theorem dX5_begin_0 : decode cX5_begin 0 = .ok (.iload_n 1, 1) := by decide +kernel
theorem dX5_begin_1 : decode cX5_begin 1 = .ok (.iload_n 2, 1) := by decide +kernel
theorem dX5_begin_2 : decode cX5_begin 2 = .ok (.if_icmp .lt 8, 3) := by decide +kernel
theorem dX5_begin_5 : decode cX5_begin 5 = .ok (.aload_n 0, 1) := by decide +kernel
theorem dX5_begin_6 : decode cX5_begin 6 = .ok (.iconst 2, 1) := by decide +kernel
theorem dX5_begin_7 : decode cX5_begin 7 = .ok (.invokevirtual 74, 3) := by decide +kernel
theorem dX5_begin_10 : decode cX5_begin 10 = .ok (.aload_n 0, 1) := by decide +kernel
theorem dX5_begin_11 : decode cX5_begin 11 = .ok (.aload_n 0, 1) := by decide +kernel
theorem dX5_begin_12 : decode cX5_begin 12 = .ok (.getfield 39, 3) := by decide +kernel
theorem dX5_begin_15 : decode cX5_begin 15 = .ok (.invokevirtual 88, 3) := by decide +kernel
theorem dX5_begin_18 : decode cX5_begin 18 = .ok (.pop, 1) := by decide +kernel
theorem dX5_begin_19 : decode cX5_begin 19 = .ok (.return_, 1) := by decide +kernel
theorem dX5_cond_0 : decode cX5_cond 0 = .ok (.aload_n 0, 1) := by decide +kernel
theorem dX5_cond_1 : decode cX5_cond 1 = .ok (.iload_n 1, 1) := by decide +kernel
theorem dX5_cond_2 : decode cX5_cond 2 = .ok (.invokevirtual 166, 3) := by decide +kernel
theorem dX5_cond_5 : decode cX5_cond 5 = .ok (.lstore_n 2, 1) := by decide +kernel
theorem dX5_cond_6 : decode cX5_cond 6 = .ok (.iconst 0, 1) := by decide +kernel
theorem dX5_cond_7 : decode cX5_cond 7 = .ok (.istore 4, 2) := by decide +kernel
theorem dX5_cond_9 : decode cX5_cond 9 = .ok (.iload 4, 2) := by decide +kernel
theorem dX5_cond_11 : decode cX5_cond 11 = .ok (.sipush 400, 3) := by decide +kernel
theorem dX5_cond_14 : decode cX5_cond 14 = .ok (.if_icmp .gt 26, 3) := by decide +kernel
theorem dX5_cond_17 : decode cX5_cond 17 = .ok (.aload_n 0, 1) := by decide +kernel
theorem dX5_cond_18 : decode cX5_cond 18 = .ok (.bipush 111, 2) := by decide +kernel
theorem dX5_cond_20 : decode cX5_cond 20 = .ok (.invokevirtual 88, 3) := by decide +kernel
theorem dX5_cond_23 : decode cX5_cond 23 = .ok (.ifCond .eq 17, 3) := by decide +kernel
theorem dX5_cond_26 : decode cX5_cond 26 = .ok (.lload_n 2, 1) := by decide +kernel
theorem dX5_cond_27 : decode cX5_cond 27 = .ok (.aload_n 0, 1) := by decide +kernel
theorem dX5_cond_28 : decode cX5_cond 28 = .ok (.iload_n 1, 1) := by decide +kernel
theorem dX5_cond_29 : decode cX5_cond 29 = .ok (.invokevirtual 166, 3) := by decide +kernel
theorem dX5_cond_32 : decode cX5_cond 32 = .ok (.lor, 1) := by decide +kernel
theorem dX5_cond_33 : decode cX5_cond 33 = .ok (.lstore_n 2, 1) := by decide +kernel
theorem dX5_cond_34 : decode cX5_cond 34 = .ok (.iinc 4 1, 3) := by decide +kernel
theorem dX5_cond_37 : decode cX5_cond 37 = .ok (.goto (-28), 3) := by decide +kernel
theorem dX5_cond_40 : decode cX5_cond 40 = .ok (.lload_n 2, 1) := by decide +kernel
theorem dX5_cond_41 : decode cX5_cond 41 = .ok (.lreturn, 1) := by decide +kernel
theorem dX5_enter_0 : decode cX5_enter 0 = .ok (.iload_n 1, 1) := by decide +kernel
theorem dX5_enter_1 : decode cX5_enter 1 = .ok (.bipush 6, 2) := by decide +kernel
theorem dX5_enter_3 : decode cX5_enter 3 = .ok (.if_icmp .lt 8, 3) := by decide +kernel
theorem dX5_enter_6 : decode cX5_enter 6 = .ok (.aload_n 0, 1) := by decide +kernel
theorem dX5_enter_7 : decode cX5_enter 7 = .ok (.iconst 2, 1) := by decide +kernel
theorem dX5_enter_8 : decode cX5_enter 8 = .ok (.invokevirtual 74, 3) := by decide +kernel
theorem dX5_enter_11 : decode cX5_enter 11 = .ok (.aload_n 0, 1) := by decide +kernel
theorem dX5_enter_12 : decode cX5_enter 12 = .ok (.bipush 40, 2) := by decide +kernel
theorem dX5_enter_14 : decode cX5_enter 14 = .ok (.invokevirtual 88, 3) := by decide +kernel
theorem dX5_enter_17 : decode cX5_enter 17 = .ok (.ireturn, 1) := by decide +kernel
theorem dX5_expect_0 : decode cX5_expect 0 = .ok (.aload_n 0, 1) := by decide +kernel
theorem dX5_expect_1 : decode cX5_expect 1 = .ok (.iload_n 1, 1) := by decide +kernel
theorem dX5_expect_2 : decode cX5_expect 2 = .ok (.invokevirtual 88, 3) := by decide +kernel
theorem dX5_expect_5 : decode cX5_expect 5 = .ok (.ifCond .ne 8, 3) := by decide +kernel
theorem dX5_expect_8 : decode cX5_expect 8 = .ok (.aload_n 0, 1) := by decide +kernel
theorem dX5_expect_9 : decode cX5_expect 9 = .ok (.iconst 1, 1) := by decide +kernel
theorem dX5_expect_10 : decode cX5_expect 10 = .ok (.invokevirtual 74, 3) := by decide +kernel
theorem dX5_expect_13 : decode cX5_expect 13 = .ok (.return_, 1) := by decide +kernel
theorem dX5_fail_0 : decode cX5_fail 0 = .ok (.aload_n 0, 1) := by decide +kernel
theorem dX5_fail_1 : decode cX5_fail 1 = .ok (.getfield 42, 3) := by decide +kernel
theorem dX5_fail_4 : decode cX5_fail 4 = .ok (.ifCond .ne 13, 3) := by decide +kernel
theorem dX5_fail_7 : decode cX5_fail 7 = .ok (.aload_n 0, 1) := by decide +kernel
theorem dX5_fail_8 : decode cX5_fail 8 = .ok (.iload_n 1, 1) := by decide +kernel
theorem dX5_fail_9 : decode cX5_fail 9 = .ok (.putfield 42, 3) := by decide +kernel
theorem dX5_fail_12 : decode cX5_fail 12 = .ok (.aload_n 0, 1) := by decide +kernel
theorem dX5_fail_13 : decode cX5_fail 13 = .ok (.iconst 0, 1) := by decide +kernel
theorem dX5_fail_14 : decode cX5_fail 14 = .ok (.putfield 39, 3) := by decide +kernel
theorem dX5_fail_17 : decode cX5_fail 17 = .ok (.return_, 1) := by decide +kernel
theorem dX5_failSoftly_0 : decode cX5_failSoftly 0 = .ok (.aload_n 0, 1) := by decide +kernel
theorem dX5_failSoftly_1 : decode cX5_failSoftly 1 = .ok (.getfield 42, 3) := by decide +kernel
theorem dX5_failSoftly_4 : decode cX5_failSoftly 4 = .ok (.ifCond .ne 32, 3) := by decide +kernel
theorem dX5_failSoftly_7 : decode cX5_failSoftly 7 = .ok (.aload_n 0, 1) := by decide +kernel
theorem dX5_failSoftly_8 : decode cX5_failSoftly 8 = .ok (.getfield 45, 3) := by decide +kernel
theorem dX5_failSoftly_11 : decode cX5_failSoftly 11 = .ok (.ifCond .ne 25, 3) := by decide +kernel
theorem dX5_failSoftly_14 : decode cX5_failSoftly 14 = .ok (.aload_n 0, 1) := by decide +kernel
theorem dX5_failSoftly_15 : decode cX5_failSoftly 15 = .ok (.iload_n 1, 1) := by decide +kernel
theorem dX5_failSoftly_16 : decode cX5_failSoftly 16 = .ok (.putfield 45, 3) := by decide +kernel
theorem dX5_failSoftly_19 : decode cX5_failSoftly 19 = .ok (.aload_n 0, 1) := by decide +kernel
theorem dX5_failSoftly_20 : decode cX5_failSoftly 20 = .ok (.aload_n 0, 1) := by decide +kernel
theorem dX5_failSoftly_21 : decode cX5_failSoftly 21 = .ok (.getfield 12, 3) := by decide +kernel
theorem dX5_failSoftly_24 : decode cX5_failSoftly 24 = .ok (.aload_n 0, 1) := by decide +kernel
theorem dX5_failSoftly_25 : decode cX5_failSoftly 25 = .ok (.getfield 31, 3) := by decide +kernel
theorem dX5_failSoftly_28 : decode cX5_failSoftly 28 = .ok (.iconst 1, 1) := by decide +kernel
theorem dX5_failSoftly_29 : decode cX5_failSoftly 29 = .ok (.isub, 1) := by decide +kernel
theorem dX5_failSoftly_30 : decode cX5_failSoftly 30 = .ok (.invokevirtual 81, 3) := by decide +kernel
theorem dX5_failSoftly_33 : decode cX5_failSoftly 33 = .ok (.putfield 85, 3) := by decide +kernel
theorem dX5_failSoftly_36 : decode cX5_failSoftly 36 = .ok (.return_, 1) := by decide +kernel
theorem dX5_faultPlace_0 : decode cX5_faultPlace 0 = .ok (.aload_n 0, 1) := by decide +kernel
theorem dX5_faultPlace_1 : decode cX5_faultPlace 1 = .ok (.getfield 42, 3) := by decide +kernel
theorem dX5_faultPlace_4 : decode cX5_faultPlace 4 = .ok (.ifCond .eq 15, 3) := by decide +kernel
theorem dX5_faultPlace_7 : decode cX5_faultPlace 7 = .ok (.aload_n 0, 1) := by decide +kernel
theorem dX5_faultPlace_8 : decode cX5_faultPlace 8 = .ok (.getfield 12, 3) := by decide +kernel
theorem dX5_faultPlace_11 : decode cX5_faultPlace 11 = .ok (.aload_n 0, 1) := by decide +kernel
theorem dX5_faultPlace_12 : decode cX5_faultPlace 12 = .ok (.getfield 31, 3) := by decide +kernel
theorem dX5_faultPlace_15 : decode cX5_faultPlace 15 = .ok (.invokevirtual 81, 3) := by decide +kernel
theorem dX5_faultPlace_18 : decode cX5_faultPlace 18 = .ok (.ireturn, 1) := by decide +kernel
theorem dX5_faultPlace_19 : decode cX5_faultPlace 19 = .ok (.aload_n 0, 1) := by decide +kernel
theorem dX5_faultPlace_20 : decode cX5_faultPlace 20 = .ok (.getfield 45, 3) := by decide +kernel
theorem dX5_faultPlace_23 : decode cX5_faultPlace 23 = .ok (.ifCond .eq 10, 3) := by decide +kernel
theorem dX5_faultPlace_26 : decode cX5_faultPlace 26 = .ok (.aload_n 0, 1) := by decide +kernel
theorem dX5_faultPlace_27 : decode cX5_faultPlace 27 = .ok (.getfield 85, 3) := by decide +kernel
theorem dX5_faultPlace_30 : decode cX5_faultPlace 30 = .ok (.goto 4, 3) := by decide +kernel
theorem dX5_faultPlace_33 : decode cX5_faultPlace 33 = .ok (.iconst (-1), 1) := by decide +kernel
theorem dX5_faultPlace_34 : decode cX5_faultPlace 34 = .ok (.ireturn, 1) := by decide +kernel
theorem dX5_literal_0 : decode cX5_literal 0 = .ok (.iconst 0, 1) := by decide +kernel
theorem dX5_literal_1 : decode cX5_literal 1 = .ok (.istore_n 2, 1) := by decide +kernel
theorem dX5_literal_2 : decode cX5_literal 2 = .ok (.iconst 0, 1) := by decide +kernel
theorem dX5_literal_3 : decode cX5_literal 3 = .ok (.istore_n 3, 1) := by decide +kernel
theorem dX5_literal_4 : decode cX5_literal 4 = .ok (.iload_n 3, 1) := by decide +kernel
theorem dX5_literal_5 : decode cX5_literal 5 = .ok (.sipush 400, 3) := by decide +kernel
theorem dX5_literal_8 : decode cX5_literal 8 = .ok (.if_icmp .gt 28, 3) := by decide +kernel
theorem dX5_literal_11 : decode cX5_literal 11 = .ok (.aload_n 0, 1) := by decide +kernel
theorem dX5_literal_12 : decode cX5_literal 12 = .ok (.bipush 113, 2) := by decide +kernel
theorem dX5_literal_14 : decode cX5_literal 14 = .ok (.invokevirtual 88, 3) := by decide +kernel
theorem dX5_literal_17 : decode cX5_literal 17 = .ok (.ifCond .eq 19, 3) := by decide +kernel
theorem dX5_literal_20 : decode cX5_literal 20 = .ok (.iload_n 2, 1) := by decide +kernel
theorem dX5_literal_21 : decode cX5_literal 21 = .ok (.ifCond .ne 7, 3) := by decide +kernel
theorem dX5_literal_24 : decode cX5_literal 24 = .ok (.iconst 1, 1) := by decide +kernel
theorem dX5_literal_25 : decode cX5_literal 25 = .ok (.goto 4, 3) := by decide +kernel
theorem dX5_literal_28 : decode cX5_literal 28 = .ok (.iconst 0, 1) := by decide +kernel
theorem dX5_literal_29 : decode cX5_literal 29 = .ok (.istore_n 2, 1) := by decide +kernel
theorem dX5_literal_30 : decode cX5_literal 30 = .ok (.iinc 3 1, 3) := by decide +kernel
theorem dX5_literal_33 : decode cX5_literal 33 = .ok (.goto (-29), 3) := by decide +kernel
theorem dX5_literal_36 : decode cX5_literal 36 = .ok (.lconst 0, 1) := by decide +kernel
theorem dX5_literal_37 : decode cX5_literal 37 = .ok (.lstore_n 3, 1) := by decide +kernel
theorem dX5_literal_38 : decode cX5_literal 38 = .ok (.aload_n 0, 1) := by decide +kernel
theorem dX5_literal_39 : decode cX5_literal 39 = .ok (.getfield 39, 3) := by decide +kernel
theorem dX5_literal_42 : decode cX5_literal 42 = .ok (.bipush 40, 2) := by decide +kernel
theorem dX5_literal_44 : decode cX5_literal 44 = .ok (.if_icmp .ne 28, 3) := by decide +kernel
theorem dX5_literal_47 : decode cX5_literal 47 = .ok (.aload_n 0, 1) := by decide +kernel
theorem dX5_literal_48 : decode cX5_literal 48 = .ok (.iload_n 1, 1) := by decide +kernel
theorem dX5_literal_49 : decode cX5_literal 49 = .ok (.invokevirtual 172, 3) := by decide +kernel
theorem dX5_literal_52 : decode cX5_literal 52 = .ok (.ifCond .eq 11, 3) := by decide +kernel
theorem dX5_literal_55 : decode cX5_literal 55 = .ok (.aload_n 0, 1) := by decide +kernel
theorem dX5_literal_56 : decode cX5_literal 56 = .ok (.iload_n 1, 1) := by decide +kernel
theorem dX5_literal_57 : decode cX5_literal 57 = .ok (.iconst 1, 1) := by decide +kernel
theorem dX5_literal_58 : decode cX5_literal 58 = .ok (.iadd, 1) := by decide +kernel
theorem dX5_literal_59 : decode cX5_literal 59 = .ok (.invokevirtual 135, 3) := by decide +kernel
theorem dX5_literal_62 : decode cX5_literal 62 = .ok (.lstore_n 3, 1) := by decide +kernel
theorem dX5_literal_63 : decode cX5_literal 63 = .ok (.aload_n 0, 1) := by decide +kernel
theorem dX5_literal_64 : decode cX5_literal 64 = .ok (.bipush 41, 2) := by decide +kernel
theorem dX5_literal_66 : decode cX5_literal 66 = .ok (.invokevirtual 107, 3) := by decide +kernel
theorem dX5_literal_69 : decode cX5_literal 69 = .ok (.goto 44, 3) := by decide +kernel
theorem dX5_literal_72 : decode cX5_literal 72 = .ok (.aload_n 0, 1) := by decide +kernel
theorem dX5_literal_73 : decode cX5_literal 73 = .ok (.getfield 18, 3) := by decide +kernel
theorem dX5_literal_76 : decode cX5_literal 76 = .ok (.aload_n 0, 1) := by decide +kernel
theorem dX5_literal_77 : decode cX5_literal 77 = .ok (.iconst 2, 1) := by decide +kernel
theorem dX5_literal_78 : decode cX5_literal 78 = .ok (.invokevirtual 124, 3) := by decide +kernel
theorem dX5_literal_81 : decode cX5_literal 81 = .ok (.invokevirtual 175, 3) := by decide +kernel
theorem dX5_literal_84 : decode cX5_literal 84 = .ok (.istore 5, 2) := by decide +kernel
theorem dX5_literal_86 : decode cX5_literal 86 = .ok (.iload 5, 2) := by decide +kernel
theorem dX5_literal_88 : decode cX5_literal 88 = .ok (.ifCond .lt 20, 3) := by decide +kernel
theorem dX5_literal_91 : decode cX5_literal 91 = .ok (.iload 5, 2) := by decide +kernel
theorem dX5_literal_93 : decode cX5_literal 93 = .ok (.bipush 6, 2) := by decide +kernel
theorem dX5_literal_95 : decode cX5_literal 95 = .ok (.if_icmp .ge 13, 3) := by decide +kernel
theorem dX5_literal_98 : decode cX5_literal 98 = .ok (.getstatic 178, 3) := by decide +kernel
theorem dX5_literal_101 : decode cX5_literal 101 = .ok (.iload 5, 2) := by decide +kernel
theorem dX5_literal_103 : decode cX5_literal 103 = .ok (.laload, 1) := by decide +kernel
theorem dX5_literal_104 : decode cX5_literal 104 = .ok (.lstore_n 3, 1) := by decide +kernel
theorem dX5_literal_105 : decode cX5_literal 105 = .ok (.goto 8, 3) := by decide +kernel
theorem dX5_literal_108 : decode cX5_literal 108 = .ok (.aload_n 0, 1) := by decide +kernel
theorem dX5_literal_109 : decode cX5_literal 109 = .ok (.iconst 4, 1) := by decide +kernel
theorem dX5_literal_110 : decode cX5_literal 110 = .ok (.invokevirtual 132, 3) := by decide +kernel
theorem dX5_literal_113 : decode cX5_literal 113 = .ok (.iload_n 2, 1) := by decide +kernel
theorem dX5_literal_114 : decode cX5_literal 114 = .ok (.ifCond .eq 11, 3) := by decide +kernel
theorem dX5_literal_117 : decode cX5_literal 117 = .ok (.lload_n 3, 1) := by decide +kernel
theorem dX5_literal_118 : decode cX5_literal 118 = .ok (.ldc2_w 181, 3) := by decide +kernel
theorem dX5_literal_121 : decode cX5_literal 121 = .ok (.lxor, 1) := by decide +kernel
theorem dX5_literal_122 : decode cX5_literal 122 = .ok (.goto 4, 3) := by decide +kernel
theorem dX5_literal_125 : decode cX5_literal 125 = .ok (.lload_n 3, 1) := by decide +kernel
theorem dX5_literal_126 : decode cX5_literal 126 = .ok (.lreturn, 1) := by decide +kernel
theorem dX5_parse_0 : decode cX5_parse 0 = .ok (.aload_n 0, 1) := by decide +kernel
theorem dX5_parse_1 : decode cX5_parse 1 = .ok (.getfield 12, 3) := by decide +kernel
theorem dX5_parse_4 : decode cX5_parse 4 = .ok (.aload_n 1, 1) := by decide +kernel
theorem dX5_parse_5 : decode cX5_parse 5 = .ok (.invokevirtual 22, 3) := by decide +kernel
theorem dX5_parse_8 : decode cX5_parse 8 = .ok (.aload_n 0, 1) := by decide +kernel
theorem dX5_parse_9 : decode cX5_parse 9 = .ok (.aload_n 2, 1) := by decide +kernel
theorem dX5_parse_10 : decode cX5_parse 10 = .ok (.putfield 18, 3) := by decide +kernel
theorem dX5_parse_13 : decode cX5_parse 13 = .ok (.aload_n 0, 1) := by decide +kernel
theorem dX5_parse_14 : decode cX5_parse 14 = .ok (.getfield 18, 3) := by decide +kernel
theorem dX5_parse_17 : decode cX5_parse 17 = .ok (.invokevirtual 26, 3) := by decide +kernel
theorem dX5_parse_20 : decode cX5_parse 20 = .ok (.aload_n 0, 1) := by decide +kernel
theorem dX5_parse_21 : decode cX5_parse 21 = .ok (.iconst 0, 1) := by decide +kernel
theorem dX5_parse_22 : decode cX5_parse 22 = .ok (.putfield 31, 3) := by decide +kernel
theorem dX5_parse_25 : decode cX5_parse 25 = .ok (.aload_n 0, 1) := by decide +kernel
theorem dX5_parse_26 : decode cX5_parse 26 = .ok (.aload_n 0, 1) := by decide +kernel
theorem dX5_parse_27 : decode cX5_parse 27 = .ok (.getfield 12, 3) := by decide +kernel
theorem dX5_parse_30 : decode cX5_parse 30 = .ok (.getfield 35, 3) := by decide +kernel
theorem dX5_parse_33 : decode cX5_parse 33 = .ok (.iconst 0, 1) := by decide +kernel
theorem dX5_parse_34 : decode cX5_parse 34 = .ok (.iaload, 1) := by decide +kernel
theorem dX5_parse_35 : decode cX5_parse 35 = .ok (.putfield 39, 3) := by decide +kernel
theorem dX5_parse_38 : decode cX5_parse 38 = .ok (.aload_n 0, 1) := by decide +kernel
theorem dX5_parse_39 : decode cX5_parse 39 = .ok (.iconst 0, 1) := by decide +kernel
theorem dX5_parse_40 : decode cX5_parse 40 = .ok (.putfield 42, 3) := by decide +kernel
theorem dX5_parse_43 : decode cX5_parse 43 = .ok (.aload_n 0, 1) := by decide +kernel
theorem dX5_parse_44 : decode cX5_parse 44 = .ok (.iconst 0, 1) := by decide +kernel
theorem dX5_parse_45 : decode cX5_parse 45 = .ok (.putfield 45, 3) := by decide +kernel
theorem dX5_parse_48 : decode cX5_parse 48 = .ok (.iconst 0, 1) := by decide +kernel
theorem dX5_parse_49 : decode cX5_parse 49 = .ok (.istore_n 3, 1) := by decide +kernel
theorem dX5_parse_50 : decode cX5_parse 50 = .ok (.iload_n 3, 1) := by decide +kernel
theorem dX5_parse_51 : decode cX5_parse 51 = .ok (.sipush 400, 3) := by decide +kernel
theorem dX5_parse_54 : decode cX5_parse 54 = .ok (.if_icmp .gt 148, 3) := by decide +kernel
theorem dX5_parse_57 : decode cX5_parse 57 = .ok (.aload_n 0, 1) := by decide +kernel
theorem dX5_parse_58 : decode cX5_parse 58 = .ok (.getfield 39, 3) := by decide +kernel
theorem dX5_parse_61 : decode cX5_parse 61 = .ok (.ifCond .eq 141, 3) := by decide +kernel
theorem dX5_parse_64 : decode cX5_parse 64 = .ok (.aload_n 0, 1) := by decide +kernel
theorem dX5_parse_65 : decode cX5_parse 65 = .ok (.getfield 39, 3) := by decide +kernel
theorem dX5_parse_68 : decode cX5_parse 68 = .ok (.tableswitch 123 100 110 #[60, 123, 123, 123, 67, 74, 123, 81, 88, 102, 116], 60) := by decide +kernel
theorem dX5_parse_128 : decode cX5_parse 128 = .ok (.aload_n 0, 1) := by decide +kernel
theorem dX5_parse_129 : decode cX5_parse 129 = .ok (.invokevirtual 48, 3) := by decide +kernel
theorem dX5_parse_132 : decode cX5_parse 132 = .ok (.goto 64, 3) := by decide +kernel
theorem dX5_parse_135 : decode cX5_parse 135 = .ok (.aload_n 0, 1) := by decide +kernel
theorem dX5_parse_136 : decode cX5_parse 136 = .ok (.invokevirtual 51, 3) := by decide +kernel
theorem dX5_parse_139 : decode cX5_parse 139 = .ok (.goto 57, 3) := by decide +kernel
theorem dX5_parse_142 : decode cX5_parse 142 = .ok (.aload_n 0, 1) := by decide +kernel
theorem dX5_parse_143 : decode cX5_parse 143 = .ok (.invokevirtual 54, 3) := by decide +kernel
theorem dX5_parse_146 : decode cX5_parse 146 = .ok (.goto 50, 3) := by decide +kernel
theorem dX5_parse_149 : decode cX5_parse 149 = .ok (.aload_n 0, 1) := by decide +kernel
theorem dX5_parse_150 : decode cX5_parse 150 = .ok (.invokevirtual 57, 3) := by decide +kernel
theorem dX5_parse_153 : decode cX5_parse 153 = .ok (.goto 43, 3) := by decide +kernel
theorem dX5_parse_156 : decode cX5_parse 156 = .ok (.aload_n 0, 1) := by decide +kernel
theorem dX5_parse_157 : decode cX5_parse 157 = .ok (.aload_n 0, 1) := by decide +kernel
theorem dX5_parse_158 : decode cX5_parse 158 = .ok (.getfield 18, 3) := by decide +kernel
theorem dX5_parse_161 : decode cX5_parse 161 = .ok (.getfield 60, 3) := by decide +kernel
theorem dX5_parse_164 : decode cX5_parse 164 = .ok (.invokevirtual 64, 3) := by decide +kernel
theorem dX5_parse_167 : decode cX5_parse 167 = .ok (.goto 29, 3) := by decide +kernel
theorem dX5_parse_170 : decode cX5_parse 170 = .ok (.aload_n 0, 1) := by decide +kernel
theorem dX5_parse_171 : decode cX5_parse 171 = .ok (.aload_n 0, 1) := by decide +kernel
theorem dX5_parse_172 : decode cX5_parse 172 = .ok (.getfield 18, 3) := by decide +kernel
theorem dX5_parse_175 : decode cX5_parse 175 = .ok (.getfield 68, 3) := by decide +kernel
theorem dX5_parse_178 : decode cX5_parse 178 = .ok (.invokevirtual 64, 3) := by decide +kernel
theorem dX5_parse_181 : decode cX5_parse 181 = .ok (.goto 15, 3) := by decide +kernel
theorem dX5_parse_184 : decode cX5_parse 184 = .ok (.aload_n 0, 1) := by decide +kernel
theorem dX5_parse_185 : decode cX5_parse 185 = .ok (.invokevirtual 71, 3) := by decide +kernel
theorem dX5_parse_188 : decode cX5_parse 188 = .ok (.goto 8, 3) := by decide +kernel
theorem dX5_parse_191 : decode cX5_parse 191 = .ok (.aload_n 0, 1) := by decide +kernel
theorem dX5_parse_192 : decode cX5_parse 192 = .ok (.iconst 1, 1) := by decide +kernel
theorem dX5_parse_193 : decode cX5_parse 193 = .ok (.invokevirtual 74, 3) := by decide +kernel
theorem dX5_parse_196 : decode cX5_parse 196 = .ok (.iinc 3 1, 3) := by decide +kernel
theorem dX5_parse_199 : decode cX5_parse 199 = .ok (.goto (-149), 3) := by decide +kernel
theorem dX5_parse_202 : decode cX5_parse 202 = .ok (.aload_n 0, 1) := by decide +kernel
theorem dX5_parse_203 : decode cX5_parse 203 = .ok (.getfield 18, 3) := by decide +kernel
theorem dX5_parse_206 : decode cX5_parse 206 = .ok (.invokevirtual 78, 3) := by decide +kernel
theorem dX5_parse_209 : decode cX5_parse 209 = .ok (.aload_n 0, 1) := by decide +kernel
theorem dX5_parse_210 : decode cX5_parse 210 = .ok (.getfield 42, 3) := by decide +kernel
theorem dX5_parse_213 : decode cX5_parse 213 = .ok (.ifCond .eq 10, 3) := by decide +kernel
theorem dX5_parse_216 : decode cX5_parse 216 = .ok (.aload_n 0, 1) := by decide +kernel
theorem dX5_parse_217 : decode cX5_parse 217 = .ok (.getfield 42, 3) := by decide +kernel
theorem dX5_parse_220 : decode cX5_parse 220 = .ok (.goto 7, 3) := by decide +kernel
theorem dX5_parse_223 : decode cX5_parse 223 = .ok (.aload_n 0, 1) := by decide +kernel
theorem dX5_parse_224 : decode cX5_parse 224 = .ok (.getfield 45, 3) := by decide +kernel
theorem dX5_parse_227 : decode cX5_parse 227 = .ok (.ireturn, 1) := by decide +kernel
theorem dX5_product_0 : decode cX5_product 0 = .ok (.aload_n 0, 1) := by decide +kernel
theorem dX5_product_1 : decode cX5_product 1 = .ok (.aload_n 1, 1) := by decide +kernel
theorem dX5_product_2 : decode cX5_product 2 = .ok (.iload_n 2, 1) := by decide +kernel
theorem dX5_product_3 : decode cX5_product 3 = .ok (.invokevirtual 189, 3) := by decide +kernel
theorem dX5_product_6 : decode cX5_product 6 = .ok (.iconst 0, 1) := by decide +kernel
theorem dX5_product_7 : decode cX5_product 7 = .ok (.istore_n 3, 1) := by decide +kernel
theorem dX5_product_8 : decode cX5_product 8 = .ok (.iload_n 3, 1) := by decide +kernel
theorem dX5_product_9 : decode cX5_product 9 = .ok (.sipush 400, 3) := by decide +kernel
theorem dX5_product_12 : decode cX5_product 12 = .ok (.if_icmp .gt 53, 3) := by decide +kernel
theorem dX5_product_15 : decode cX5_product 15 = .ok (.aload_n 0, 1) := by decide +kernel
theorem dX5_product_16 : decode cX5_product 16 = .ok (.getfield 39, 3) := by decide +kernel
theorem dX5_product_19 : decode cX5_product 19 = .ok (.bipush 42, 2) := by decide +kernel
theorem dX5_product_21 : decode cX5_product 21 = .ok (.if_icmp .eq 12, 3) := by decide +kernel
theorem dX5_product_24 : decode cX5_product 24 = .ok (.aload_n 0, 1) := by decide +kernel
theorem dX5_product_25 : decode cX5_product 25 = .ok (.getfield 39, 3) := by decide +kernel
theorem dX5_product_28 : decode cX5_product 28 = .ok (.bipush 47, 2) := by decide +kernel
theorem dX5_product_30 : decode cX5_product 30 = .ok (.if_icmp .ne 35, 3) := by decide +kernel
theorem dX5_product_33 : decode cX5_product 33 = .ok (.aload_n 0, 1) := by decide +kernel
theorem dX5_product_34 : decode cX5_product 34 = .ok (.getfield 39, 3) := by decide +kernel
theorem dX5_product_37 : decode cX5_product 37 = .ok (.istore 4, 2) := by decide +kernel
theorem dX5_product_39 : decode cX5_product 39 = .ok (.aload_n 0, 1) := by decide +kernel
theorem dX5_product_40 : decode cX5_product 40 = .ok (.iload 4, 2) := by decide +kernel
theorem dX5_product_42 : decode cX5_product 42 = .ok (.invokevirtual 88, 3) := by decide +kernel
theorem dX5_product_45 : decode cX5_product 45 = .ok (.pop, 1) := by decide +kernel
theorem dX5_product_46 : decode cX5_product 46 = .ok (.aload_n 0, 1) := by decide +kernel
theorem dX5_product_47 : decode cX5_product 47 = .ok (.aload_n 1, 1) := by decide +kernel
theorem dX5_product_48 : decode cX5_product 48 = .ok (.iload_n 2, 1) := by decide +kernel
theorem dX5_product_49 : decode cX5_product 49 = .ok (.invokevirtual 189, 3) := by decide +kernel
theorem dX5_product_52 : decode cX5_product 52 = .ok (.aload_n 1, 1) := by decide +kernel
theorem dX5_product_53 : decode cX5_product 53 = .ok (.iload 4, 2) := by decide +kernel
theorem dX5_product_55 : decode cX5_product 55 = .ok (.ineg, 1) := by decide +kernel
theorem dX5_product_56 : decode cX5_product 56 = .ok (.invokevirtual 186, 3) := by decide +kernel
theorem dX5_product_59 : decode cX5_product 59 = .ok (.iinc 3 1, 3) := by decide +kernel
theorem dX5_product_62 : decode cX5_product 62 = .ok (.goto (-54), 3) := by decide +kernel
theorem dX5_product_65 : decode cX5_product 65 = .ok (.return_, 1) := by decide +kernel
theorem dX5_sum_0 : decode cX5_sum 0 = .ok (.aload_n 0, 1) := by decide +kernel
theorem dX5_sum_1 : decode cX5_sum 1 = .ok (.aload_n 1, 1) := by decide +kernel
theorem dX5_sum_2 : decode cX5_sum 2 = .ok (.iload_n 2, 1) := by decide +kernel
theorem dX5_sum_3 : decode cX5_sum 3 = .ok (.invokevirtual 183, 3) := by decide +kernel
theorem dX5_sum_6 : decode cX5_sum 6 = .ok (.iconst 0, 1) := by decide +kernel
theorem dX5_sum_7 : decode cX5_sum 7 = .ok (.istore_n 3, 1) := by decide +kernel
theorem dX5_sum_8 : decode cX5_sum 8 = .ok (.iload_n 3, 1) := by decide +kernel
theorem dX5_sum_9 : decode cX5_sum 9 = .ok (.sipush 400, 3) := by decide +kernel
theorem dX5_sum_12 : decode cX5_sum 12 = .ok (.if_icmp .gt 53, 3) := by decide +kernel
theorem dX5_sum_15 : decode cX5_sum 15 = .ok (.aload_n 0, 1) := by decide +kernel
theorem dX5_sum_16 : decode cX5_sum 16 = .ok (.getfield 39, 3) := by decide +kernel
theorem dX5_sum_19 : decode cX5_sum 19 = .ok (.bipush 43, 2) := by decide +kernel
theorem dX5_sum_21 : decode cX5_sum 21 = .ok (.if_icmp .eq 12, 3) := by decide +kernel
theorem dX5_sum_24 : decode cX5_sum 24 = .ok (.aload_n 0, 1) := by decide +kernel
theorem dX5_sum_25 : decode cX5_sum 25 = .ok (.getfield 39, 3) := by decide +kernel
