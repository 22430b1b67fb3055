theorem dX12_count_85 : decode cX12_count 85 = .ok (.getfield 61, 3) := by decide +kernel
theorem dX12_count_88 : decode cX12_count 88 = .ok (.aload_n 0, 1) := by decide +kernel
theorem dX12_count_89 : decode cX12_count 89 = .ok (.getfield 222, 3) := by decide +kernel
theorem dX12_count_92 : decode cX12_count 92 = .ok (.iaload, 1) := by decide +kernel
theorem dX12_count_93 : decode cX12_count 93 = .ok (.ireturn, 1) := by decide +kernel
theorem dX12_count_94 : decode cX12_count 94 = .ok (.aload_n 0, 1) := by decide +kernel
theorem dX12_count_95 : decode cX12_count 95 = .ok (.getfield 74, 3) := by decide +kernel
theorem dX12_count_98 : decode cX12_count 98 = .ok (.aload_n 0, 1) := by decide +kernel
theorem dX12_count_99 : decode cX12_count 99 = .ok (.getfield 222, 3) := by decide +kernel
theorem dX12_count_102 : decode cX12_count 102 = .ok (.iaload, 1) := by decide +kernel
theorem dX12_count_103 : decode cX12_count 103 = .ok (.ireturn, 1) := by decide +kernel
theorem dX12_count_104 : decode cX12_count 104 = .ok (.aload_n 0, 1) := by decide +kernel
theorem dX12_count_105 : decode cX12_count 105 = .ok (.getfield 116, 3) := by decide +kernel
theorem dX12_count_108 : decode cX12_count 108 = .ok (.iconst 3, 1) := by decide +kernel
theorem dX12_count_109 : decode cX12_count 109 = .ok (.iaload, 1) := by decide +kernel
theorem dX12_count_110 : decode cX12_count 110 = .ok (.invokestatic 346, 3) := by decide +kernel
theorem dX12_count_113 : decode cX12_count 113 = .ok (.ireturn, 1) := by decide +kernel
theorem dX12_count_114 : decode cX12_count 114 = .ok (.aload_n 0, 1) := by decide +kernel
theorem dX12_count_115 : decode cX12_count 115 = .ok (.getfield 116, 3) := by decide +kernel
theorem dX12_count_118 : decode cX12_count 118 = .ok (.iconst 1, 1) := by decide +kernel
theorem dX12_count_119 : decode cX12_count 119 = .ok (.iaload, 1) := by decide +kernel
theorem dX12_count_120 : decode cX12_count 120 = .ok (.invokestatic 346, 3) := by decide +kernel
theorem dX12_count_123 : decode cX12_count 123 = .ok (.ireturn, 1) := by decide +kernel
theorem dX12_count_124 : decode cX12_count 124 = .ok (.aload_n 0, 1) := by decide +kernel
theorem dX12_count_125 : decode cX12_count 125 = .ok (.getfield 116, 3) := by decide +kernel
theorem dX12_count_128 : decode cX12_count 128 = .ok (.iconst 2, 1) := by decide +kernel
theorem dX12_count_129 : decode cX12_count 129 = .ok (.iaload, 1) := by decide +kernel
theorem dX12_count_130 : decode cX12_count 130 = .ok (.invokestatic 346, 3) := by decide +kernel
theorem dX12_count_133 : decode cX12_count 133 = .ok (.ireturn, 1) := by decide +kernel
theorem dX12_count_134 : decode cX12_count 134 = .ok (.aload_n 0, 1) := by decide +kernel
theorem dX12_count_135 : decode cX12_count 135 = .ok (.invokevirtual 384, 3) := by decide +kernel
theorem dX12_count_138 : decode cX12_count 138 = .ok (.aload_n 0, 1) := by decide +kernel
theorem dX12_count_139 : decode cX12_count 139 = .ok (.invokevirtual 349, 3) := by decide +kernel
theorem dX12_count_142 : decode cX12_count 142 = .ok (.ireturn, 1) := by decide +kernel
theorem dX12_count_143 : decode cX12_count 143 = .ok (.aload_n 0, 1) := by decide +kernel
theorem dX12_count_144 : decode cX12_count 144 = .ok (.getfield 243, 3) := by decide +kernel
theorem dX12_count_147 : decode cX12_count 147 = .ok (.ireturn, 1) := by decide +kernel
theorem dX12_count_148 : decode cX12_count 148 = .ok (.aload_n 0, 1) := by decide +kernel
theorem dX12_count_149 : decode cX12_count 149 = .ok (.getfield 154, 3) := by decide +kernel
theorem dX12_count_152 : decode cX12_count 152 = .ok (.ireturn, 1) := by decide +kernel
theorem dX12_count_153 : decode cX12_count 153 = .ok (.aload_n 0, 1) := by decide +kernel
theorem dX12_count_154 : decode cX12_count 154 = .ok (.getfield 240, 3) := by decide +kernel
theorem dX12_count_157 : decode cX12_count 157 = .ok (.ireturn, 1) := by decide +kernel
theorem dX12_count_158 : decode cX12_count 158 = .ok (.aload_n 0, 1) := by decide +kernel
theorem dX12_count_159 : decode cX12_count 159 = .ok (.getfield 144, 3) := by decide +kernel
theorem dX12_count_162 : decode cX12_count 162 = .ok (.iconst 0, 1) := by decide +kernel
theorem dX12_count_163 : decode cX12_count 163 = .ok (.baload, 1) := by decide +kernel
theorem dX12_count_164 : decode cX12_count 164 = .ok (.ifCond .eq 7, 3) := by decide +kernel
theorem dX12_count_171 : decode cX12_count 171 = .ok (.iconst 0, 1) := by decide +kernel
theorem dX12_count_172 : decode cX12_count 172 = .ok (.aload_n 0, 1) := by decide +kernel
theorem dX12_count_173 : decode cX12_count 173 = .ok (.getfield 144, 3) := by decide +kernel
theorem dX12_count_176 : decode cX12_count 176 = .ok (.iconst 1, 1) := by decide +kernel
theorem dX12_count_177 : decode cX12_count 177 = .ok (.baload, 1) := by decide +kernel
theorem dX12_count_178 : decode cX12_count 178 = .ok (.ifCond .eq 7, 3) := by decide +kernel
theorem dX12_count_185 : decode cX12_count 185 = .ok (.iconst 0, 1) := by decide +kernel
theorem dX12_count_186 : decode cX12_count 186 = .ok (.iadd, 1) := by decide +kernel
theorem dX12_count_187 : decode cX12_count 187 = .ok (.aload_n 0, 1) := by decide +kernel
theorem dX12_count_188 : decode cX12_count 188 = .ok (.getfield 144, 3) := by decide +kernel
theorem dX12_count_191 : decode cX12_count 191 = .ok (.iconst 2, 1) := by decide +kernel
theorem dX12_count_192 : decode cX12_count 192 = .ok (.baload, 1) := by decide +kernel
theorem dX12_count_193 : decode cX12_count 193 = .ok (.ifCond .eq 7, 3) := by decide +kernel
theorem dX12_count_200 : decode cX12_count 200 = .ok (.iconst 0, 1) := by decide +kernel
theorem dX12_count_201 : decode cX12_count 201 = .ok (.iadd, 1) := by decide +kernel
theorem dX12_count_202 : decode cX12_count 202 = .ok (.ireturn, 1) := by decide +kernel
theorem dX12_count_203 : decode cX12_count 203 = .ok (.iconst (-1), 1) := by decide +kernel
theorem dX12_count_204 : decode cX12_count 204 = .ok (.ireturn, 1) := by decide +kernel
theorem dX12_cut_0 : decode cX12_cut 0 = .ok (.aload_n 0, 1) := by decide +kernel
theorem dX12_cut_1 : decode cX12_cut 1 = .ok (.iconst 0, 1) := by decide +kernel
theorem dX12_cut_2 : decode cX12_cut 2 = .ok (.putfield 170, 3) := by decide +kernel
theorem dX12_cut_5 : decode cX12_cut 5 = .ok (.iconst 0, 1) := by decide +kernel
theorem dX12_cut_6 : decode cX12_cut 6 = .ok (.istore_n 1, 1) := by decide +kernel
theorem dX12_cut_7 : decode cX12_cut 7 = .ok (.aload_n 0, 1) := by decide +kernel
theorem dX12_cut_8 : decode cX12_cut 8 = .ok (.getfield 170, 3) := by decide +kernel
theorem dX12_cut_11 : decode cX12_cut 11 = .ok (.sipush 400, 3) := by decide +kernel
theorem dX12_cut_14 : decode cX12_cut 14 = .ok (.if_icmp .gt 280, 3) := by decide +kernel
theorem dX12_cut_17 : decode cX12_cut 17 = .ok (.aload_n 0, 1) := by decide +kernel
theorem dX12_cut_18 : decode cX12_cut 18 = .ok (.iload_n 1, 1) := by decide +kernel
theorem dX12_cut_19 : decode cX12_cut 19 = .ok (.invokevirtual 173, 3) := by decide +kernel
theorem dX12_cut_22 : decode cX12_cut 22 = .ok (.istore_n 2, 1) := by decide +kernel
theorem dX12_cut_23 : decode cX12_cut 23 = .ok (.iload_n 1, 1) := by decide +kernel
theorem dX12_cut_24 : decode cX12_cut 24 = .ok (.aload_n 0, 1) := by decide +kernel
theorem dX12_cut_25 : decode cX12_cut 25 = .ok (.getfield 161, 3) := by decide +kernel
theorem dX12_cut_28 : decode cX12_cut 28 = .ok (.if_icmp .lt 15, 3) := by decide +kernel
theorem dX12_cut_31 : decode cX12_cut 31 = .ok (.aload_n 0, 1) := by decide +kernel
theorem dX12_cut_32 : decode cX12_cut 32 = .ok (.iconst 0, 1) := by decide +kernel
theorem dX12_cut_33 : decode cX12_cut 33 = .ok (.aload_n 0, 1) := by decide +kernel
theorem dX12_cut_34 : decode cX12_cut 34 = .ok (.getfield 161, 3) := by decide +kernel
theorem dX12_cut_37 : decode cX12_cut 37 = .ok (.iconst 0, 1) := by decide +kernel
theorem dX12_cut_38 : decode cX12_cut 38 = .ok (.lconst 0, 1) := by decide +kernel
theorem dX12_cut_39 : decode cX12_cut 39 = .ok (.invokevirtual 177, 3) := by decide +kernel
theorem dX12_cut_42 : decode cX12_cut 42 = .ok (.return_, 1) := by decide +kernel
theorem dX12_fact_0 : decode cX12_fact 0 = .ok (.iload_n 1, 1) := by decide +kernel
theorem dX12_fact_1 : decode cX12_fact 1 = .ok (.iconst 0, 1) := by decide +kernel
theorem dX12_fact_2 : decode cX12_fact 2 = .ok (.aload_n 0, 1) := by decide +kernel
theorem dX12_fact_3 : decode cX12_fact 3 = .ok (.getfield 49, 3) := by decide +kernel
theorem dX12_fact_6 : decode cX12_fact 6 = .ok (.aload_n 0, 1) := by decide +kernel
theorem dX12_fact_7 : decode cX12_fact 7 = .ok (.getfield 222, 3) := by decide +kernel
theorem dX12_fact_10 : decode cX12_fact 10 = .ok (.iaload, 1) := by decide +kernel
theorem dX12_fact_11 : decode cX12_fact 11 = .ok (.iconst 1, 1) := by decide +kernel
theorem dX12_fact_12 : decode cX12_fact 12 = .ok (.isub, 1) := by decide +kernel
theorem dX12_fact_13 : decode cX12_fact 13 = .ok (.invokestatic 323, 3) := by decide +kernel
theorem dX12_fact_16 : decode cX12_fact 16 = .ok (.ifCond .eq 12, 3) := by decide +kernel
theorem dX12_fact_28 : decode cX12_fact 28 = .ok (.iconst (-1), 1) := by decide +kernel
theorem dX12_fact_29 : decode cX12_fact 29 = .ok (.ireturn, 1) := by decide +kernel
theorem dX12_feed_0 : decode cX12_feed 0 = .ok (.aload_n 0, 1) := by decide +kernel
theorem dX12_feed_1 : decode cX12_feed 1 = .ok (.getfield 154, 3) := by decide +kernel
theorem dX12_feed_4 : decode cX12_feed 4 = .ok (.bipush 20, 2) := by decide +kernel
theorem dX12_feed_6 : decode cX12_feed 6 = .ok (.iadd, 1) := by decide +kernel
theorem dX12_feed_7 : decode cX12_feed 7 = .ok (.sipush 2000, 3) := by decide +kernel
theorem dX12_feed_10 : decode cX12_feed 10 = .ok (.if_icmp .le 5, 3) := by decide +kernel
theorem dX12_feed_15 : decode cX12_feed 15 = .ok (.aload_n 0, 1) := by decide +kernel
theorem dX12_feed_16 : decode cX12_feed 16 = .ok (.iload_n 1, 1) := by decide +kernel
theorem dX12_feed_17 : decode cX12_feed 17 = .ok (.invokevirtual 157, 3) := by decide +kernel
theorem dX12_feed_20 : decode cX12_feed 20 = .ok (.aload_n 0, 1) := by decide +kernel
theorem dX12_feed_21 : decode cX12_feed 21 = .ok (.iload_n 2, 1) := by decide +kernel
theorem dX12_feed_22 : decode cX12_feed 22 = .ok (.invokevirtual 157, 3) := by decide +kernel
theorem dX12_feed_25 : decode cX12_feed 25 = .ok (.aload_n 0, 1) := by decide +kernel
theorem dX12_feed_26 : decode cX12_feed 26 = .ok (.iload_n 3, 1) := by decide +kernel
theorem dX12_feed_27 : decode cX12_feed 27 = .ok (.invokevirtual 157, 3) := by decide +kernel
theorem dX12_feed_30 : decode cX12_feed 30 = .ok (.aload_n 0, 1) := by decide +kernel
theorem dX12_feed_31 : decode cX12_feed 31 = .ok (.iload 4, 2) := by decide +kernel
theorem dX12_feed_33 : decode cX12_feed 33 = .ok (.invokevirtual 157, 3) := by decide +kernel
theorem dX12_feed_36 : decode cX12_feed 36 = .ok (.aload_n 0, 1) := by decide +kernel
theorem dX12_feed_37 : decode cX12_feed 37 = .ok (.iload 5, 2) := by decide +kernel
theorem dX12_feed_39 : decode cX12_feed 39 = .ok (.invokevirtual 157, 3) := by decide +kernel
theorem dX12_feed_42 : decode cX12_feed 42 = .ok (.aload_n 0, 1) := by decide +kernel
theorem dX12_feed_43 : decode cX12_feed 43 = .ok (.getfield 154, 3) := by decide +kernel
theorem dX12_feed_46 : decode cX12_feed 46 = .ok (.ireturn, 1) := by decide +kernel
theorem dX12_fillsBook_0 : decode cX12_fillsBook 0 = .ok (.aload_n 0, 1) := by decide +kernel
theorem dX12_fillsBook_1 : decode cX12_fillsBook 1 = .ok (.lconst 0, 1) := by decide +kernel
theorem dX12_fillsBook_2 : decode cX12_fillsBook 2 = .ok (.putfield 432, 3) := by decide +kernel
theorem dX12_fillsBook_5 : decode cX12_fillsBook 5 = .ok (.aload_n 0, 1) := by decide +kernel
theorem dX12_fillsBook_6 : decode cX12_fillsBook 6 = .ok (.iconst 0, 1) := by decide +kernel
theorem dX12_fillsBook_7 : decode cX12_fillsBook 7 = .ok (.putfield 436, 3) := by decide +kernel
theorem dX12_fillsBook_10 : decode cX12_fillsBook 10 = .ok (.aload_n 0, 1) := by decide +kernel
theorem dX12_fillsBook_11 : decode cX12_fillsBook 11 = .ok (.iconst 0, 1) := by decide +kernel
theorem dX12_fillsBook_12 : decode cX12_fillsBook 12 = .ok (.putfield 439, 3) := by decide +kernel
theorem dX12_fillsBook_15 : decode cX12_fillsBook 15 = .ok (.aload_n 0, 1) := by decide +kernel
theorem dX12_fillsBook_16 : decode cX12_fillsBook 16 = .ok (.invokevirtual 237, 3) := by decide +kernel
theorem dX12_fillsBook_19 : decode cX12_fillsBook 19 = .ok (.iload_n 1, 1) := by decide +kernel
theorem dX12_fillsBook_20 : decode cX12_fillsBook 20 = .ok (.ifCond .ne 9, 3) := by decide +kernel
theorem dX12_fillsBook_23 : decode cX12_fillsBook 23 = .ok (.aload_n 0, 1) := by decide +kernel
theorem dX12_fillsBook_24 : decode cX12_fillsBook 24 = .ok (.iconst 0, 1) := by decide +kernel
theorem dX12_fillsBook_25 : decode cX12_fillsBook 25 = .ok (.invokevirtual 442, 3) := by decide +kernel
theorem dX12_fillsBook_28 : decode cX12_fillsBook 28 = .ok (.return_, 1) := by decide +kernel
theorem dX12_fillsOrder_0 : decode cX12_fillsOrder 0 = .ok (.aload_n 0, 1) := by decide +kernel
theorem dX12_fillsOrder_1 : decode cX12_fillsOrder 1 = .ok (.iconst 0, 1) := by decide +kernel
theorem dX12_fillsOrder_2 : decode cX12_fillsOrder 2 = .ok (.putfield 411, 3) := by decide +kernel
theorem dX12_fillsOrder_5 : decode cX12_fillsOrder 5 = .ok (.iconst 0, 1) := by decide +kernel
theorem dX12_fillsOrder_6 : decode cX12_fillsOrder 6 = .ok (.istore_n 2, 1) := by decide +kernel
theorem dX12_fillsOrder_7 : decode cX12_fillsOrder 7 = .ok (.iload_n 2, 1) := by decide +kernel
theorem dX12_fillsOrder_8 : decode cX12_fillsOrder 8 = .ok (.aload_n 0, 1) := by decide +kernel
theorem dX12_fillsOrder_9 : decode cX12_fillsOrder 9 = .ok (.getfield 61, 3) := by decide +kernel
theorem dX12_fillsOrder_12 : decode cX12_fillsOrder 12 = .ok (.aload_n 0, 1) := by decide +kernel
theorem dX12_fillsOrder_13 : decode cX12_fillsOrder 13 = .ok (.getfield 222, 3) := by decide +kernel
theorem dX12_fillsOrder_16 : decode cX12_fillsOrder 16 = .ok (.iaload, 1) := by decide +kernel
theorem dX12_fillsOrder_17 : decode cX12_fillsOrder 17 = .ok (.if_icmp .ge 40, 3) := by decide +kernel
theorem dX12_fillsOrder_57 : decode cX12_fillsOrder 57 = .ok (.return_, 1) := by decide +kernel
theorem dX12_fillsSets_0 : decode cX12_fillsSets 0 = .ok (.aload_n 0, 1) := by decide +kernel
theorem dX12_fillsSets_1 : decode cX12_fillsSets 1 = .ok (.getfield 135, 3) := by decide +kernel
theorem dX12_fillsSets_4 : decode cX12_fillsSets 4 = .ok (.iconst 0, 1) := by decide +kernel
theorem dX12_fillsSets_5 : decode cX12_fillsSets 5 = .ok (.aload_n 0, 1) := by decide +kernel
theorem dX12_fillsSets_6 : decode cX12_fillsSets 6 = .ok (.aload_n 0, 1) := by decide +kernel
theorem dX12_fillsSets_7 : decode cX12_fillsSets 7 = .ok (.getfield 116, 3) := by decide +kernel
theorem dX12_fillsSets_10 : decode cX12_fillsSets 10 = .ok (.iconst 3, 1) := by decide +kernel
theorem dX12_fillsSets_11 : decode cX12_fillsSets 11 = .ok (.iaload, 1) := by decide +kernel
theorem dX12_fillsSets_12 : decode cX12_fillsSets 12 = .ok (.invokevirtual 330, 3) := by decide +kernel
theorem dX12_fillsSets_15 : decode cX12_fillsSets 15 = .ok (.lastore, 1) := by decide +kernel
theorem dX12_fillsSets_16 : decode cX12_fillsSets 16 = .ok (.iconst 1, 1) := by decide +kernel
theorem dX12_fillsSets_17 : decode cX12_fillsSets 17 = .ok (.istore_n 2, 1) := by decide +kernel
theorem dX12_fillsSets_18 : decode cX12_fillsSets 18 = .ok (.iload_n 2, 1) := by decide +kernel
theorem dX12_fillsSets_19 : decode cX12_fillsSets 19 = .ok (.iconst 1, 1) := by decide +kernel
theorem dX12_fillsSets_20 : decode cX12_fillsSets 20 = .ok (.aload_n 0, 1) := by decide +kernel
theorem dX12_fillsSets_21 : decode cX12_fillsSets 21 = .ok (.getfield 61, 3) := by decide +kernel
theorem dX12_fillsSets_24 : decode cX12_fillsSets 24 = .ok (.aload_n 0, 1) := by decide +kernel
theorem dX12_fillsSets_25 : decode cX12_fillsSets 25 = .ok (.getfield 222, 3) := by decide +kernel
theorem dX12_fillsSets_28 : decode cX12_fillsSets 28 = .ok (.iaload, 1) := by decide +kernel
theorem dX12_fillsSets_29 : decode cX12_fillsSets 29 = .ok (.ishl, 1) := by decide +kernel
theorem dX12_fillsSets_30 : decode cX12_fillsSets 30 = .ok (.if_icmp .ge 61, 3) := by decide +kernel
theorem dX12_fillsSets_91 : decode cX12_fillsSets 91 = .ok (.return_, 1) := by decide +kernel
theorem dX12_fits_0 : decode cX12_fits 0 = .ok (.iload_n 1, 1) := by decide +kernel
theorem dX12_fits_1 : decode cX12_fits 1 = .ok (.iconst 0, 1) := by decide +kernel
theorem dX12_fits_2 : decode cX12_fits 2 = .ok (.aload_n 0, 1) := by decide +kernel
theorem dX12_fits_3 : decode cX12_fits 3 = .ok (.getfield 243, 3) := by decide +kernel
theorem dX12_fits_6 : decode cX12_fits 6 = .ok (.invokestatic 323, 3) := by decide +kernel
theorem dX12_fits_9 : decode cX12_fits 9 = .ok (.ifCond .ne 7, 3) := by decide +kernel
theorem dX12_fits_12 : decode cX12_fits 12 = .ok (.ldc2_w 290, 3) := by decide +kernel
theorem dX12_fits_15 : decode cX12_fits 15 = .ok (.lreturn, 1) := by decide +kernel
theorem dX12_fits_16 : decode cX12_fits 16 = .ok (.aload_n 0, 1) := by decide +kernel
theorem dX12_fits_17 : decode cX12_fits 17 = .ok (.iload_n 1, 1) := by decide +kernel
theorem dX12_fits_18 : decode cX12_fits 18 = .ok (.invokevirtual 445, 3) := by decide +kernel
theorem dX12_fits_21 : decode cX12_fits 21 = .ok (.aload_n 0, 1) := by decide +kernel
theorem dX12_fits_22 : decode cX12_fits 22 = .ok (.getfield 432, 3) := by decide +kernel
theorem dX12_fits_25 : decode cX12_fits 25 = .ok (.lreturn, 1) := by decide +kernel
theorem dX12_fitsOne_0 : decode cX12_fitsOne 0 = .ok (.iconst 0, 1) := by decide +kernel
theorem dX12_fitsOne_1 : decode cX12_fitsOne 1 = .ok (.istore_n 2, 1) := by decide +kernel
theorem dX12_fitsOne_2 : decode cX12_fitsOne 2 = .ok (.iconst 0, 1) := by decide +kernel
theorem dX12_fitsOne_3 : decode cX12_fitsOne 3 = .ok (.istore_n 3, 1) := by decide +kernel
theorem dX12_fitsOne_4 : decode cX12_fitsOne 4 = .ok (.iload_n 3, 1) := by decide +kernel
theorem dX12_fitsOne_5 : decode cX12_fitsOne 5 = .ok (.iload_n 1, 1) := by decide +kernel
theorem dX12_fitsOne_6 : decode cX12_fitsOne 6 = .ok (.if_icmp .ge 20, 3) := by decide +kernel
theorem dX12_fitsOne_26 : decode cX12_fitsOne 26 = .ok (.iconst 0, 1) := by decide +kernel
theorem dX12_fitsOne_27 : decode cX12_fitsOne 27 = .ok (.istore_n 3, 1) := by decide +kernel
theorem dX12_fitsOne_28 : decode cX12_fitsOne 28 = .ok (.iconst 0, 1) := by decide +kernel
theorem dX12_fitsOne_29 : decode cX12_fitsOne 29 = .ok (.istore 4, 2) := by decide +kernel
theorem dX12_fitsOne_31 : decode cX12_fitsOne 31 = .ok (.iload 4, 2) := by decide +kernel
theorem dX12_fitsOne_33 : decode cX12_fitsOne 33 = .ok (.aload_n 0, 1) := by decide +kernel
theorem dX12_fitsOne_34 : decode cX12_fitsOne 34 = .ok (.getfield 58, 3) := by decide +kernel
theorem dX12_fitsOne_37 : decode cX12_fitsOne 37 = .ok (.aload_n 0, 1) := by decide +kernel
theorem dX12_fitsOne_38 : decode cX12_fitsOne 38 = .ok (.getfield 222, 3) := by decide +kernel
theorem dX12_fitsOne_41 : decode cX12_fitsOne 41 = .ok (.iaload, 1) := by decide +kernel
theorem dX12_fitsOne_42 : decode cX12_fitsOne 42 = .ok (.if_icmp .ge 32, 3) := by decide +kernel
theorem dX12_fitsOne_74 : decode cX12_fitsOne 74 = .ok (.aload_n 0, 1) := by decide +kernel
theorem dX12_fitsOne_75 : decode cX12_fitsOne 75 = .ok (.aload_n 0, 1) := by decide +kernel
theorem dX12_fitsOne_76 : decode cX12_fitsOne 76 = .ok (.getfield 432, 3) := by decide +kernel
theorem dX12_fitsOne_79 : decode cX12_fitsOne 79 = .ok (.lconst 0, 1) := by decide +kernel
theorem dX12_fitsOne_80 : decode cX12_fitsOne 80 = .ok (.lcmp, 1) := by decide +kernel
theorem dX12_fitsOne_81 : decode cX12_fitsOne 81 = .ok (.ifCond .ne 7, 3) := by decide +kernel
theorem dX12_fitsOne_84 : decode cX12_fitsOne 84 = .ok (.iload_n 2, 1) := by decide +kernel
theorem dX12_fitsOne_85 : decode cX12_fitsOne 85 = .ok (.goto 9, 3) := by decide +kernel
theorem dX12_fitsOne_94 : decode cX12_fitsOne 94 = .ok (.putfield 436, 3) := by decide +kernel
theorem dX12_fitsOne_97 : decode cX12_fitsOne 97 = .ok (.aload_n 0, 1) := by decide +kernel
theorem dX12_fitsOne_98 : decode cX12_fitsOne 98 = .ok (.aload_n 0, 1) := by decide +kernel
theorem dX12_fitsOne_99 : decode cX12_fitsOne 99 = .ok (.getfield 432, 3) := by decide +kernel
theorem dX12_fitsOne_102 : decode cX12_fitsOne 102 = .ok (.lconst 0, 1) := by decide +kernel
theorem dX12_fitsOne_103 : decode cX12_fitsOne 103 = .ok (.lcmp, 1) := by decide +kernel
theorem dX12_fitsOne_104 : decode cX12_fitsOne 104 = .ok (.ifCond .ne 7, 3) := by decide +kernel
theorem dX12_fitsOne_107 : decode cX12_fitsOne 107 = .ok (.iload_n 3, 1) := by decide +kernel
theorem dX12_fitsOne_108 : decode cX12_fitsOne 108 = .ok (.goto 9, 3) := by decide +kernel
theorem dX12_fitsOne_117 : decode cX12_fitsOne 117 = .ok (.putfield 439, 3) := by decide +kernel
theorem dX12_fitsOne_120 : decode cX12_fitsOne 120 = .ok (.aload_n 0, 1) := by decide +kernel
theorem dX12_fitsOne_121 : decode cX12_fitsOne 121 = .ok (.dup, 1) := by decide +kernel
theorem dX12_fitsOne_122 : decode cX12_fitsOne 122 = .ok (.getfield 432, 3) := by decide +kernel
theorem dX12_fitsOne_125 : decode cX12_fitsOne 125 = .ok (.lconst 1, 1) := by decide +kernel
theorem dX12_fitsOne_126 : decode cX12_fitsOne 126 = .ok (.ladd, 1) := by decide +kernel
theorem dX12_fitsOne_127 : decode cX12_fitsOne 127 = .ok (.putfield 432, 3) := by decide +kernel
theorem dX12_fitsOne_130 : decode cX12_fitsOne 130 = .ok (.return_, 1) := by decide +kernel
theorem dX12_forward_0 : decode cX12_forward 0 = .ok (.iconst 0, 1) := by decide +kernel
theorem dX12_forward_1 : decode cX12_forward 1 = .ok (.istore_n 2, 1) := by decide +kernel
theorem dX12_forward_2 : decode cX12_forward 2 = .ok (.iload_n 2, 1) := by decide +kernel
theorem dX12_forward_3 : decode cX12_forward 3 = .ok (.iload_n 1, 1) := by decide +kernel
theorem dX12_forward_4 : decode cX12_forward 4 = .ok (.if_icmp .ge 122, 3) := by decide +kernel
theorem dX12_forward_7 : decode cX12_forward 7 = .ok (.aload_n 0, 1) := by decide +kernel
theorem dX12_forward_8 : decode cX12_forward 8 = .ok (.getfield 119, 3) := by decide +kernel
theorem dX12_forward_11 : decode cX12_forward 11 = .ok (.iconst 0, 1) := by decide +kernel
theorem dX12_forward_12 : decode cX12_forward 12 = .ok (.iaload, 1) := by decide +kernel
theorem dX12_forward_13 : decode cX12_forward 13 = .ok (.ldc_w 333, 3) := by decide +kernel
theorem dX12_forward_16 : decode cX12_forward 16 = .ok (.if_icmp .ge 110, 3) := by decide +kernel
theorem dX12_forward_19 : decode cX12_forward 19 = .ok (.aload_n 0, 1) := by decide +kernel
theorem dX12_forward_20 : decode cX12_forward 20 = .ok (.getfield 119, 3) := by decide +kernel
theorem dX12_forward_23 : decode cX12_forward 23 = .ok (.iconst 0, 1) := by decide +kernel
theorem dX12_forward_24 : decode cX12_forward 24 = .ok (.dup2, 1) := by decide +kernel
theorem dX12_forward_25 : decode cX12_forward 25 = .ok (.iaload, 1) := by decide +kernel
theorem dX12_forward_26 : decode cX12_forward 26 = .ok (.iconst 1, 1) := by decide +kernel
theorem dX12_forward_27 : decode cX12_forward 27 = .ok (.iadd, 1) := by decide +kernel
theorem dX12_forward_28 : decode cX12_forward 28 = .ok (.iastore, 1) := by decide +kernel
theorem dX12_forward_29 : decode cX12_forward 29 = .ok (.aload_n 0, 1) := by decide +kernel
theorem dX12_forward_30 : decode cX12_forward 30 = .ok (.getfield 119, 3) := by decide +kernel
theorem dX12_forward_33 : decode cX12_forward 33 = .ok (.iconst 0, 1) := by decide +kernel
theorem dX12_forward_34 : decode cX12_forward 34 = .ok (.iaload, 1) := by decide +kernel
theorem dX12_forward_35 : decode cX12_forward 35 = .ok (.aload_n 0, 1) := by decide +kernel
theorem dX12_forward_36 : decode cX12_forward 36 = .ok (.getfield 334, 3) := by decide +kernel
theorem dX12_forward_39 : decode cX12_forward 39 = .ok (.if_icmp .ne 8, 3) := by decide +kernel
theorem dX12_forward_47 : decode cX12_forward 47 = .ok (.iconst 0, 1) := by decide +kernel
theorem dX12_forward_48 : decode cX12_forward 48 = .ok (.istore_n 3, 1) := by decide +kernel
theorem dX12_forward_49 : decode cX12_forward 49 = .ok (.iload_n 3, 1) := by decide +kernel
theorem dX12_forward_50 : decode cX12_forward 50 = .ok (.aload_n 0, 1) := by decide +kernel
theorem dX12_forward_51 : decode cX12_forward 51 = .ok (.getfield 74, 3) := by decide +kernel
theorem dX12_forward_54 : decode cX12_forward 54 = .ok (.aload_n 0, 1) := by decide +kernel
theorem dX12_forward_55 : decode cX12_forward 55 = .ok (.getfield 222, 3) := by decide +kernel
theorem dX12_forward_58 : decode cX12_forward 58 = .ok (.iaload, 1) := by decide +kernel
theorem dX12_forward_59 : decode cX12_forward 59 = .ok (.if_icmp .ge 61, 3) := by decide +kernel
theorem dX12_forward_120 : decode cX12_forward 120 = .ok (.iinc 2 1, 3) := by decide +kernel
theorem dX12_forward_123 : decode cX12_forward 123 = .ok (.goto (-121), 3) := by decide +kernel
theorem dX12_forward_126 : decode cX12_forward 126 = .ok (.return_, 1) := by decide +kernel
theorem dX12_heardAll_0 : decode cX12_heardAll 0 = .ok (.iconst 0, 1) := by decide +kernel
theorem dX12_heardAll_1 : decode cX12_heardAll 1 = .ok (.istore_n 1, 1) := by decide +kernel
theorem dX12_heardAll_2 : decode cX12_heardAll 2 = .ok (.iconst 0, 1) := by decide +kernel
theorem dX12_heardAll_3 : decode cX12_heardAll 3 = .ok (.istore_n 2, 1) := by decide +kernel
theorem dX12_heardAll_4 : decode cX12_heardAll 4 = .ok (.iload_n 2, 1) := by decide +kernel
theorem dX12_heardAll_5 : decode cX12_heardAll 5 = .ok (.bipush 8, 2) := by decide +kernel
theorem dX12_heardAll_7 : decode cX12_heardAll 7 = .ok (.if_icmp .ge 20, 3) := by decide +kernel
theorem dX12_heardAll_10 : decode cX12_heardAll 10 = .ok (.iload_n 1, 1) := by decide +kernel
theorem dX12_heardAll_11 : decode cX12_heardAll 11 = .ok (.aload_n 0, 1) := by decide +kernel
theorem dX12_heardAll_12 : decode cX12_heardAll 12 = .ok (.getfield 119, 3) := by decide +kernel
theorem dX12_heardAll_15 : decode cX12_heardAll 15 = .ok (.iconst 4, 1) := by decide +kernel
theorem dX12_heardAll_16 : decode cX12_heardAll 16 = .ok (.iload_n 2, 1) := by decide +kernel
theorem dX12_heardAll_17 : decode cX12_heardAll 17 = .ok (.iadd, 1) := by decide +kernel
theorem dX12_heardAll_18 : decode cX12_heardAll 18 = .ok (.iaload, 1) := by decide +kernel
theorem dX12_heardAll_19 : decode cX12_heardAll 19 = .ok (.iadd, 1) := by decide +kernel
theorem dX12_heardAll_20 : decode cX12_heardAll 20 = .ok (.istore_n 1, 1) := by decide +kernel
theorem dX12_heardAll_21 : decode cX12_heardAll 21 = .ok (.iinc 2 1, 3) := by decide +kernel
theorem dX12_heardAll_24 : decode cX12_heardAll 24 = .ok (.goto (-20), 3) := by decide +kernel
theorem dX12_heardAll_27 : decode cX12_heardAll 27 = .ok (.iload_n 1, 1) := by decide +kernel
theorem dX12_heardAll_28 : decode cX12_heardAll 28 = .ok (.ireturn, 1) := by decide +kernel
theorem dX12_hearing_0 : decode cX12_hearing 0 = .ok (.aload_n 0, 1) := by decide +kernel
theorem dX12_hearing_1 : decode cX12_hearing 1 = .ok (.iload_n 1, 1) := by decide +kernel
theorem dX12_hearing_2 : decode cX12_hearing 2 = .ok (.invokevirtual 388, 3) := by decide +kernel
theorem dX12_hearing_5 : decode cX12_hearing 5 = .ok (.ifCond .ne 5, 3) := by decide +kernel
theorem dX12_hearing_8 : decode cX12_hearing 8 = .ok (.iconst (-1), 1) := by decide +kernel
theorem dX12_hearing_9 : decode cX12_hearing 9 = .ok (.ireturn, 1) := by decide +kernel
theorem dX12_hold_0 : decode cX12_hold 0 = .ok (.iload_n 1, 1) := by decide +kernel
theorem dX12_hold_1 : decode cX12_hold 1 = .ok (.iconst 0, 1) := by decide +kernel
theorem dX12_hold_2 : decode cX12_hold 2 = .ok (.iconst 2, 1) := by decide +kernel
theorem dX12_hold_3 : decode cX12_hold 3 = .ok (.invokestatic 323, 3) := by decide +kernel
theorem dX12_hold_6 : decode cX12_hold 6 = .ok (.ifCond .ne 5, 3) := by decide +kernel
theorem dX12_hold_9 : decode cX12_hold 9 = .ok (.iconst 0, 1) := by decide +kernel
theorem dX12_hold_10 : decode cX12_hold 10 = .ok (.ireturn, 1) := by decide +kernel
theorem dX12_hold_11 : decode cX12_hold 11 = .ok (.aload_n 0, 1) := by decide +kernel
theorem dX12_hold_12 : decode cX12_hold 12 = .ok (.getfield 144, 3) := by decide +kernel
theorem dX12_hold_15 : decode cX12_hold 15 = .ok (.iload_n 1, 1) := by decide +kernel
theorem dX12_hold_16 : decode cX12_hold 16 = .ok (.iconst 1, 1) := by decide +kernel
theorem dX12_hold_17 : decode cX12_hold 17 = .ok (.bastore, 1) := by decide +kernel
theorem dX12_hold_18 : decode cX12_hold 18 = .ok (.iconst 0, 1) := by decide +kernel
theorem dX12_hold_19 : decode cX12_hold 19 = .ok (.istore_n 2, 1) := by decide +kernel
theorem dX12_hold_20 : decode cX12_hold 20 = .ok (.iload_n 2, 1) := by decide +kernel
theorem dX12_hold_21 : decode cX12_hold 21 = .ok (.bipush 40, 2) := by decide +kernel
theorem dX12_hold_23 : decode cX12_hold 23 = .ok (.if_icmp .ge 26, 3) := by decide +kernel
theorem dX12_hold_26 : decode cX12_hold 26 = .ok (.aload_n 0, 1) := by decide +kernel
theorem dX12_hold_27 : decode cX12_hold 27 = .ok (.getfield 147, 3) := by decide +kernel
theorem dX12_hold_30 : decode cX12_hold 30 = .ok (.bipush 40, 2) := by decide +kernel
theorem dX12_hold_32 : decode cX12_hold 32 = .ok (.iload_n 1, 1) := by decide +kernel
theorem dX12_hold_33 : decode cX12_hold 33 = .ok (.imul, 1) := by decide +kernel
theorem dX12_hold_34 : decode cX12_hold 34 = .ok (.iload_n 2, 1) := by decide +kernel
theorem dX12_hold_35 : decode cX12_hold 35 = .ok (.iadd, 1) := by decide +kernel
theorem dX12_hold_36 : decode cX12_hold 36 = .ok (.aload_n 0, 1) := by decide +kernel
theorem dX12_hold_37 : decode cX12_hold 37 = .ok (.getfield 116, 3) := by decide +kernel
theorem dX12_hold_40 : decode cX12_hold 40 = .ok (.iload_n 2, 1) := by decide +kernel
theorem dX12_hold_41 : decode cX12_hold 41 = .ok (.iaload, 1) := by decide +kernel
theorem dX12_hold_42 : decode cX12_hold 42 = .ok (.iastore, 1) := by decide +kernel
theorem dX12_hold_43 : decode cX12_hold 43 = .ok (.iinc 2 1, 3) := by decide +kernel
theorem dX12_hold_46 : decode cX12_hold 46 = .ok (.goto (-26), 3) := by decide +kernel
theorem dX12_hold_49 : decode cX12_hold 49 = .ok (.iconst 1, 1) := by decide +kernel
theorem dX12_hold_50 : decode cX12_hold 50 = .ok (.ireturn, 1) := by decide +kernel
theorem dX12_in_0 : decode cX12_in 0 = .ok (.iload_n 0, 1) := by decide +kernel
theorem dX12_in_1 : decode cX12_in 1 = .ok (.iload_n 1, 1) := by decide +kernel
theorem dX12_in_2 : decode cX12_in 2 = .ok (.if_icmp .lt 12, 3) := by decide +kernel
theorem dX12_in_5 : decode cX12_in 5 = .ok (.iload_n 0, 1) := by decide +kernel
theorem dX12_in_6 : decode cX12_in 6 = .ok (.iload_n 2, 1) := by decide +kernel
theorem dX12_in_7 : decode cX12_in 7 = .ok (.if_icmp .gt 7, 3) := by decide +kernel
theorem dX12_in_10 : decode cX12_in 10 = .ok (.iconst 1, 1) := by decide +kernel
theorem dX12_in_11 : decode cX12_in 11 = .ok (.goto 4, 3) := by decide +kernel
theorem dX12_in_14 : decode cX12_in 14 = .ok (.iconst 0, 1) := by decide +kernel
theorem dX12_in_15 : decode cX12_in 15 = .ok (.ireturn, 1) := by decide +kernel
theorem dX12_init_0 : decode cX12_init 0 = .ok (.aload_n 0, 1) := by decide +kernel
theorem dX12_init_1 : decode cX12_init 1 = .ok (.invokespecial 7, 3) := by decide +kernel
theorem dX12_init_4 : decode cX12_init 4 = .ok (.aload_n 0, 1) := by decide +kernel
theorem dX12_init_5 : decode cX12_init 5 = .ok (.sipush 2000, 3) := by decide +kernel
theorem dX12_init_8 : decode cX12_init 8 = .ok (.newarray .byte, 2) := by decide +kernel
theorem dX12_init_10 : decode cX12_init 10 = .ok (.putfield 13, 3) := by decide +kernel
theorem dX12_init_13 : decode cX12_init 13 = .ok (.aload_n 0, 1) := by decide +kernel
theorem dX12_init_14 : decode cX12_init 14 = .ok (.sipush 2000, 3) := by decide +kernel
theorem dX12_init_17 : decode cX12_init 17 = .ok (.newarray .byte, 2) := by decide +kernel
theorem dX12_init_19 : decode cX12_init 19 = .ok (.putfield 17, 3) := by decide +kernel
theorem dX12_init_22 : decode cX12_init 22 = .ok (.aload_n 0, 1) := by decide +kernel
theorem dX12_init_23 : decode cX12_init 23 = .ok (.sipush 403, 3) := by decide +kernel
theorem dX12_init_26 : decode cX12_init 26 = .ok (.newarray .int, 2) := by decide +kernel
theorem dX12_init_28 : decode cX12_init 28 = .ok (.putfield 20, 3) := by decide +kernel
theorem dX12_init_31 : decode cX12_init 31 = .ok (.aload_n 0, 1) := by decide +kernel
theorem dX12_init_32 : decode cX12_init 32 = .ok (.sipush 403, 3) := by decide +kernel
theorem dX12_init_35 : decode cX12_init 35 = .ok (.newarray .int, 2) := by decide +kernel
theorem dX12_init_37 : decode cX12_init 37 = .ok (.putfield 24, 3) := by decide +kernel
theorem dX12_init_40 : decode cX12_init 40 = .ok (.aload_n 0, 1) := by decide +kernel
theorem dX12_init_41 : decode cX12_init 41 = .ok (.sipush 403, 3) := by decide +kernel
theorem dX12_init_44 : decode cX12_init 44 = .ok (.newarray .int, 2) := by decide +kernel
theorem dX12_init_46 : decode cX12_init 46 = .ok (.putfield 27, 3) := by decide +kernel
theorem dX12_init_49 : decode cX12_init 49 = .ok (.aload_n 0, 1) := by decide +kernel
theorem dX12_init_50 : decode cX12_init 50 = .ok (.sipush 403, 3) := by decide +kernel
theorem dX12_init_53 : decode cX12_init 53 = .ok (.newarray .long, 2) := by decide +kernel
theorem dX12_init_55 : decode cX12_init 55 = .ok (.putfield 30, 3) := by decide +kernel
theorem dX12_init_58 : decode cX12_init 58 = .ok (.aload_n 0, 1) := by decide +kernel
theorem dX12_init_59 : decode cX12_init 59 = .ok (.bipush 18, 2) := by decide +kernel
theorem dX12_init_61 : decode cX12_init 61 = .ok (.newarray .long, 2) := by decide +kernel
theorem dX12_init_63 : decode cX12_init 63 = .ok (.putfield 34, 3) := by decide +kernel
theorem dX12_init_66 : decode cX12_init 66 = .ok (.aload_n 0, 1) := by decide +kernel
theorem dX12_init_67 : decode cX12_init 67 = .ok (.iconst (-1), 1) := by decide +kernel
theorem dX12_init_68 : decode cX12_init 68 = .ok (.putfield 37, 3) := by decide +kernel
theorem dX12_init_71 : decode cX12_init 71 = .ok (.aload_n 0, 1) := by decide +kernel
theorem dX12_init_72 : decode cX12_init 72 = .ok (.bipush 24, 2) := by decide +kernel
theorem dX12_init_74 : decode cX12_init 74 = .ok (.newarray .long, 2) := by decide +kernel
theorem dX12_init_76 : decode cX12_init 76 = .ok (.putfield 40, 3) := by decide +kernel
theorem dX12_init_79 : decode cX12_init 79 = .ok (.aload_n 0, 1) := by decide +kernel
theorem dX12_init_80 : decode cX12_init 80 = .ok (.bipush 24, 2) := by decide +kernel
theorem dX12_init_82 : decode cX12_init 82 = .ok (.newarray .int, 2) := by decide +kernel
theorem dX12_init_84 : decode cX12_init 84 = .ok (.putfield 43, 3) := by decide +kernel
theorem dX12_init_87 : decode cX12_init 87 = .ok (.aload_n 0, 1) := by decide +kernel
theorem dX12_init_88 : decode cX12_init 88 = .ok (.bipush 24, 2) := by decide +kernel
theorem dX12_init_90 : decode cX12_init 90 = .ok (.newarray .int, 2) := by decide +kernel
theorem dX12_init_92 : decode cX12_init 92 = .ok (.putfield 46, 3) := by decide +kernel
theorem dX12_init_95 : decode cX12_init 95 = .ok (.aload_n 0, 1) := by decide +kernel
theorem dX12_init_96 : decode cX12_init 96 = .ok (.iconst 2, 1) := by decide +kernel
theorem dX12_init_97 : decode cX12_init 97 = .ok (.newarray .int, 2) := by decide +kernel
theorem dX12_init_99 : decode cX12_init 99 = .ok (.putfield 49, 3) := by decide +kernel
theorem dX12_init_102 : decode cX12_init 102 = .ok (.aload_n 0, 1) := by decide +kernel
theorem dX12_init_103 : decode cX12_init 103 = .ok (.iconst 2, 1) := by decide +kernel
theorem dX12_init_104 : decode cX12_init 104 = .ok (.newarray .int, 2) := by decide +kernel
theorem dX12_init_106 : decode cX12_init 106 = .ok (.putfield 52, 3) := by decide +kernel
theorem dX12_init_109 : decode cX12_init 109 = .ok (.aload_n 0, 1) := by decide +kernel
theorem dX12_init_110 : decode cX12_init 110 = .ok (.iconst 2, 1) := by decide +kernel
theorem dX12_init_111 : decode cX12_init 111 = .ok (.newarray .int, 2) := by decide +kernel
theorem dX12_init_113 : decode cX12_init 113 = .ok (.putfield 55, 3) := by decide +kernel
theorem dX12_init_116 : decode cX12_init 116 = .ok (.aload_n 0, 1) := by decide +kernel
theorem dX12_init_117 : decode cX12_init 117 = .ok (.iconst 2, 1) := by decide +kernel
theorem dX12_init_118 : decode cX12_init 118 = .ok (.newarray .int, 2) := by decide +kernel
theorem dX12_init_120 : decode cX12_init 120 = .ok (.putfield 58, 3) := by decide +kernel
theorem dX12_init_123 : decode cX12_init 123 = .ok (.aload_n 0, 1) := by decide +kernel
theorem dX12_init_124 : decode cX12_init 124 = .ok (.iconst 2, 1) := by decide +kernel
theorem dX12_init_125 : decode cX12_init 125 = .ok (.newarray .int, 2) := by decide +kernel
theorem dX12_init_127 : decode cX12_init 127 = .ok (.putfield 61, 3) := by decide +kernel
theorem dX12_init_130 : decode cX12_init 130 = .ok (.aload_n 0, 1) := by decide +kernel
theorem dX12_init_131 : decode cX12_init 131 = .ok (.bipush 32, 2) := by decide +kernel
theorem dX12_init_133 : decode cX12_init 133 = .ok (.newarray .int, 2) := by decide +kernel
theorem dX12_init_135 : decode cX12_init 135 = .ok (.putfield 64, 3) := by decide +kernel
theorem dX12_init_138 : decode cX12_init 138 = .ok (.aload_n 0, 1) := by decide +kernel
theorem dX12_init_139 : decode cX12_init 139 = .ok (.bipush 32, 2) := by decide +kernel
theorem dX12_init_141 : decode cX12_init 141 = .ok (.newarray .boolean, 2) := by decide +kernel
theorem dX12_init_143 : decode cX12_init 143 = .ok (.putfield 67, 3) := by decide +kernel
theorem dX12_init_146 : decode cX12_init 146 = .ok (.aload_n 0, 1) := by decide +kernel
theorem dX12_init_147 : decode cX12_init 147 = .ok (.bipush 32, 2) := by decide +kernel
theorem dX12_init_149 : decode cX12_init 149 = .ok (.newarray .long, 2) := by decide +kernel
theorem dX12_init_151 : decode cX12_init 151 = .ok (.putfield 71, 3) := by decide +kernel
theorem dX12_init_154 : decode cX12_init 154 = .ok (.aload_n 0, 1) := by decide +kernel
theorem dX12_init_155 : decode cX12_init 155 = .ok (.iconst 2, 1) := by decide +kernel
theorem dX12_init_156 : decode cX12_init 156 = .ok (.newarray .int, 2) := by decide +kernel
theorem dX12_init_158 : decode cX12_init 158 = .ok (.putfield 74, 3) := by decide +kernel
theorem dX12_init_161 : decode cX12_init 161 = .ok (.aload_n 0, 1) := by decide +kernel
theorem dX12_init_162 : decode cX12_init 162 = .ok (.bipush 16, 2) := by decide +kernel
theorem dX12_init_164 : decode cX12_init 164 = .ok (.newarray .int, 2) := by decide +kernel
theorem dX12_init_166 : decode cX12_init 166 = .ok (.putfield 77, 3) := by decide +kernel
theorem dX12_init_169 : decode cX12_init 169 = .ok (.aload_n 0, 1) := by decide +kernel
theorem dX12_init_170 : decode cX12_init 170 = .ok (.bipush 16, 2) := by decide +kernel
theorem dX12_init_172 : decode cX12_init 172 = .ok (.newarray .long, 2) := by decide +kernel
theorem dX12_init_174 : decode cX12_init 174 = .ok (.putfield 80, 3) := by decide +kernel
theorem dX12_init_177 : decode cX12_init 177 = .ok (.aload_n 0, 1) := by decide +kernel
theorem dX12_init_178 : decode cX12_init 178 = .ok (.iconst 4, 1) := by decide +kernel
theorem dX12_init_179 : decode cX12_init 179 = .ok (.newarray .int, 2) := by decide +kernel
theorem dX12_init_181 : decode cX12_init 181 = .ok (.putfield 83, 3) := by decide +kernel
theorem dX12_init_184 : decode cX12_init 184 = .ok (.aload_n 0, 1) := by decide +kernel
theorem dX12_init_185 : decode cX12_init 185 = .ok (.iconst 4, 1) := by decide +kernel
theorem dX12_init_186 : decode cX12_init 186 = .ok (.newarray .int, 2) := by decide +kernel
theorem dX12_init_188 : decode cX12_init 188 = .ok (.putfield 86, 3) := by decide +kernel
theorem dX12_init_191 : decode cX12_init 191 = .ok (.aload_n 0, 1) := by decide +kernel
theorem dX12_init_192 : decode cX12_init 192 = .ok (.iconst 2, 1) := by decide +kernel
theorem dX12_init_193 : decode cX12_init 193 = .ok (.newarray .int, 2) := by decide +kernel
theorem dX12_init_195 : decode cX12_init 195 = .ok (.putfield 89, 3) := by decide +kernel
theorem dX12_init_198 : decode cX12_init 198 = .ok (.aload_n 0, 1) := by decide +kernel
theorem dX12_init_199 : decode cX12_init 199 = .ok (.sipush 840, 3) := by decide +kernel
theorem dX12_init_202 : decode cX12_init 202 = .ok (.newarray .int, 2) := by decide +kernel
theorem dX12_init_204 : decode cX12_init 204 = .ok (.putfield 92, 3) := by decide +kernel
theorem dX12_init_207 : decode cX12_init 207 = .ok (.aload_n 0, 1) := by decide +kernel
theorem dX12_init_208 : decode cX12_init 208 = .ok (.sipush 840, 3) := by decide +kernel
theorem dX12_init_211 : decode cX12_init 211 = .ok (.newarray .int, 2) := by decide +kernel
theorem dX12_init_213 : decode cX12_init 213 = .ok (.putfield 95, 3) := by decide +kernel
theorem dX12_init_216 : decode cX12_init 216 = .ok (.aload_n 0, 1) := by decide +kernel
theorem dX12_init_217 : decode cX12_init 217 = .ok (.bipush 8, 2) := by decide +kernel
theorem dX12_init_219 : decode cX12_init 219 = .ok (.newarray .long, 2) := by decide +kernel
theorem dX12_init_221 : decode cX12_init 221 = .ok (.putfield 98, 3) := by decide +kernel
theorem dX12_init_224 : decode cX12_init 224 = .ok (.aload_n 0, 1) := by decide +kernel
theorem dX12_init_225 : decode cX12_init 225 = .ok (.bipush 8, 2) := by decide +kernel
theorem dX12_init_227 : decode cX12_init 227 = .ok (.newarray .long, 2) := by decide +kernel
theorem dX12_init_229 : decode cX12_init 229 = .ok (.putfield 101, 3) := by decide +kernel
theorem dX12_init_232 : decode cX12_init 232 = .ok (.aload_n 0, 1) := by decide +kernel
theorem dX12_init_233 : decode cX12_init 233 = .ok (.bipush 8, 2) := by decide +kernel
theorem dX12_init_235 : decode cX12_init 235 = .ok (.newarray .boolean, 2) := by decide +kernel
theorem dX12_init_237 : decode cX12_init 237 = .ok (.putfield 104, 3) := by decide +kernel
theorem dX12_init_240 : decode cX12_init 240 = .ok (.aload_n 0, 1) := by decide +kernel
theorem dX12_init_241 : decode cX12_init 241 = .ok (.bipush 64, 2) := by decide +kernel
theorem dX12_init_243 : decode cX12_init 243 = .ok (.newarray .int, 2) := by decide +kernel
theorem dX12_init_245 : decode cX12_init 245 = .ok (.putfield 107, 3) := by decide +kernel
theorem dX12_init_248 : decode cX12_init 248 = .ok (.aload_n 0, 1) := by decide +kernel
theorem dX12_init_249 : decode cX12_init 249 = .ok (.iconst 5, 1) := by decide +kernel
theorem dX12_init_250 : decode cX12_init 250 = .ok (.newarray .int, 2) := by decide +kernel
theorem dX12_init_252 : decode cX12_init 252 = .ok (.putfield 110, 3) := by decide +kernel
theorem dX12_init_255 : decode cX12_init 255 = .ok (.aload_n 0, 1) := by decide +kernel
theorem dX12_init_256 : decode cX12_init 256 = .ok (.sipush 400, 3) := by decide +kernel
theorem dX12_init_259 : decode cX12_init 259 = .ok (.newarray .int, 2) := by decide +kernel
theorem dX12_init_261 : decode cX12_init 261 = .ok (.putfield 113, 3) := by decide +kernel
theorem dX12_init_264 : decode cX12_init 264 = .ok (.aload_n 0, 1) := by decide +kernel
theorem dX12_init_265 : decode cX12_init 265 = .ok (.bipush 40, 2) := by decide +kernel
theorem dX12_init_267 : decode cX12_init 267 = .ok (.newarray .int, 2) := by decide +kernel
theorem dX12_init_269 : decode cX12_init 269 = .ok (.putfield 116, 3) := by decide +kernel
theorem dX12_init_272 : decode cX12_init 272 = .ok (.aload_n 0, 1) := by decide +kernel
theorem dX12_init_273 : decode cX12_init 273 = .ok (.bipush 40, 2) := by decide +kernel
theorem dX12_init_275 : decode cX12_init 275 = .ok (.newarray .int, 2) := by decide +kernel
theorem dX12_init_277 : decode cX12_init 277 = .ok (.putfield 119, 3) := by decide +kernel
theorem dX12_init_280 : decode cX12_init 280 = .ok (.aload_n 0, 1) := by decide +kernel
theorem dX12_init_281 : decode cX12_init 281 = .ok (.sipush 1600, 3) := by decide +kernel
theorem dX12_init_284 : decode cX12_init 284 = .ok (.newarray .int, 2) := by decide +kernel
theorem dX12_init_286 : decode cX12_init 286 = .ok (.putfield 122, 3) := by decide +kernel
theorem dX12_init_289 : decode cX12_init 289 = .ok (.aload_n 0, 1) := by decide +kernel
theorem dX12_init_290 : decode cX12_init 290 = .ok (.bipush 6, 2) := by decide +kernel
theorem dX12_init_292 : decode cX12_init 292 = .ok (.newarray .int, 2) := by decide +kernel
theorem dX12_init_294 : decode cX12_init 294 = .ok (.putfield 125, 3) := by decide +kernel
theorem dX12_init_297 : decode cX12_init 297 = .ok (.aload_n 0, 1) := by decide +kernel
theorem dX12_init_298 : decode cX12_init 298 = .ok (.bipush 6, 2) := by decide +kernel
theorem dX12_init_300 : decode cX12_init 300 = .ok (.newarray .int, 2) := by decide +kernel
theorem dX12_init_302 : decode cX12_init 302 = .ok (.putfield 128, 3) := by decide +kernel
theorem dX12_init_305 : decode cX12_init 305 = .ok (.aload_n 0, 1) := by decide +kernel
theorem dX12_init_306 : decode cX12_init 306 = .ok (.bipush 6, 2) := by decide +kernel
theorem dX12_init_308 : decode cX12_init 308 = .ok (.newarray .int, 2) := by decide +kernel
theorem dX12_init_310 : decode cX12_init 310 = .ok (.putfield 131, 3) := by decide +kernel
theorem dX12_init_313 : decode cX12_init 313 = .ok (.aload_n 0, 1) := by decide +kernel
theorem dX12_init_314 : decode cX12_init 314 = .ok (.ldc 134, 2) := by decide +kernel
theorem dX12_init_316 : decode cX12_init 316 = .ok (.newarray .long, 2) := by decide +kernel
theorem dX12_init_318 : decode cX12_init 318 = .ok (.putfield 135, 3) := by decide +kernel
theorem dX12_init_321 : decode cX12_init 321 = .ok (.aload_n 0, 1) := by decide +kernel
theorem dX12_init_322 : decode cX12_init 322 = .ok (.iconst 5, 1) := by decide +kernel
theorem dX12_init_323 : decode cX12_init 323 = .ok (.newarray .int, 2) := by decide +kernel
theorem dX12_init_325 : decode cX12_init 325 = .ok (.putfield 138, 3) := by decide +kernel
theorem dX12_init_328 : decode cX12_init 328 = .ok (.aload_n 0, 1) := by decide +kernel
theorem dX12_init_329 : decode cX12_init 329 = .ok (.sipush 240, 3) := by decide +kernel
theorem dX12_init_332 : decode cX12_init 332 = .ok (.newarray .int, 2) := by decide +kernel
theorem dX12_init_334 : decode cX12_init 334 = .ok (.putfield 141, 3) := by decide +kernel
theorem dX12_init_337 : decode cX12_init 337 = .ok (.aload_n 0, 1) := by decide +kernel
theorem dX12_init_338 : decode cX12_init 338 = .ok (.iconst 3, 1) := by decide +kernel
theorem dX12_init_339 : decode cX12_init 339 = .ok (.newarray .boolean, 2) := by decide +kernel
theorem dX12_init_341 : decode cX12_init 341 = .ok (.putfield 144, 3) := by decide +kernel
theorem dX12_init_344 : decode cX12_init 344 = .ok (.aload_n 0, 1) := by decide +kernel
theorem dX12_init_345 : decode cX12_init 345 = .ok (.bipush 120, 2) := by decide +kernel
theorem dX12_init_347 : decode cX12_init 347 = .ok (.newarray .int, 2) := by decide +kernel
theorem dX12_init_349 : decode cX12_init 349 = .ok (.putfield 147, 3) := by decide +kernel
theorem dX12_init_352 : decode cX12_init 352 = .ok (.aload_n 0, 1) := by decide +kernel
theorem dX12_init_353 : decode cX12_init 353 = .ok (.getfield 34, 3) := by decide +kernel
theorem dX12_init_356 : decode cX12_init 356 = .ok (.iconst 0, 1) := by decide +kernel
theorem dX12_init_357 : decode cX12_init 357 = .ok (.bipush 102, 2) := by decide +kernel
theorem dX12_init_359 : decode cX12_init 359 = .ok (.bipush 97, 2) := by decide +kernel
theorem dX12_init_361 : decode cX12_init 361 = .ok (.bipush 99, 2) := by decide +kernel
theorem dX12_init_363 : decode cX12_init 363 = .ok (.bipush 116, 2) := by decide +kernel
theorem dX12_init_365 : decode cX12_init 365 = .ok (.iconst 0, 1) := by decide +kernel
theorem dX12_init_366 : decode cX12_init 366 = .ok (.iconst 0, 1) := by decide +kernel
theorem dX12_init_367 : decode cX12_init 367 = .ok (.iconst 0, 1) := by decide +kernel
theorem dX12_init_368 : decode cX12_init 368 = .ok (.invokestatic 150, 3) := by decide +kernel
theorem dX12_init_371 : decode cX12_init 371 = .ok (.lastore, 1) := by decide +kernel
theorem dX12_init_372 : decode cX12_init 372 = .ok (.aload_n 0, 1) := by decide +kernel
theorem dX12_init_373 : decode cX12_init 373 = .ok (.getfield 34, 3) := by decide +kernel
theorem dX12_init_376 : decode cX12_init 376 = .ok (.iconst 1, 1) := by decide +kernel
theorem dX12_init_377 : decode cX12_init 377 = .ok (.bipush 121, 2) := by decide +kernel
theorem dX12_init_379 : decode cX12_init 379 = .ok (.bipush 101, 2) := by decide +kernel
theorem dX12_init_381 : decode cX12_init 381 = .ok (.bipush 115, 2) := by decide +kernel
theorem dX12_init_383 : decode cX12_init 383 = .ok (.iconst 0, 1) := by decide +kernel
theorem dX12_init_384 : decode cX12_init 384 = .ok (.iconst 0, 1) := by decide +kernel
theorem dX12_init_385 : decode cX12_init 385 = .ok (.iconst 0, 1) := by decide +kernel
theorem dX12_init_386 : decode cX12_init 386 = .ok (.iconst 0, 1) := by decide +kernel
theorem dX12_init_387 : decode cX12_init 387 = .ok (.invokestatic 150, 3) := by decide +kernel
theorem dX12_init_390 : decode cX12_init 390 = .ok (.lastore, 1) := by decide +kernel
theorem dX12_init_391 : decode cX12_init 391 = .ok (.aload_n 0, 1) := by decide +kernel
theorem dX12_init_392 : decode cX12_init 392 = .ok (.getfield 34, 3) := by decide +kernel
theorem dX12_init_395 : decode cX12_init 395 = .ok (.iconst 2, 1) := by decide +kernel
theorem dX12_init_396 : decode cX12_init 396 = .ok (.bipush 110, 2) := by decide +kernel
theorem dX12_init_398 : decode cX12_init 398 = .ok (.bipush 111, 2) := by decide +kernel
theorem dX12_init_400 : decode cX12_init 400 = .ok (.iconst 0, 1) := by decide +kernel
theorem dX12_init_401 : decode cX12_init 401 = .ok (.iconst 0, 1) := by decide +kernel
theorem dX12_init_402 : decode cX12_init 402 = .ok (.iconst 0, 1) := by decide +kernel
theorem dX12_init_403 : decode cX12_init 403 = .ok (.iconst 0, 1) := by decide +kernel
theorem dX12_init_404 : decode cX12_init 404 = .ok (.iconst 0, 1) := by decide +kernel
theorem dX12_init_405 : decode cX12_init 405 = .ok (.invokestatic 150, 3) := by decide +kernel
theorem dX12_init_408 : decode cX12_init 408 = .ok (.lastore, 1) := by decide +kernel
theorem dX12_init_409 : decode cX12_init 409 = .ok (.aload_n 0, 1) := by decide +kernel
theorem dX12_init_410 : decode cX12_init 410 = .ok (.getfield 34, 3) := by decide +kernel
theorem dX12_init_413 : decode cX12_init 413 = .ok (.iconst 3, 1) := by decide +kernel
theorem dX12_init_414 : decode cX12_init 414 = .ok (.bipush 111, 2) := by decide +kernel
theorem dX12_init_416 : decode cX12_init 416 = .ok (.bipush 112, 2) := by decide +kernel
theorem dX12_init_418 : decode cX12_init 418 = .ok (.bipush 101, 2) := by decide +kernel
theorem dX12_init_420 : decode cX12_init 420 = .ok (.bipush 110, 2) := by decide +kernel
theorem dX12_init_422 : decode cX12_init 422 = .ok (.iconst 0, 1) := by decide +kernel
theorem dX12_init_423 : decode cX12_init 423 = .ok (.iconst 0, 1) := by decide +kernel
theorem dX12_init_424 : decode cX12_init 424 = .ok (.iconst 0, 1) := by decide +kernel
theorem dX12_init_425 : decode cX12_init 425 = .ok (.invokestatic 150, 3) := by decide +kernel
theorem dX12_init_428 : decode cX12_init 428 = .ok (.lastore, 1) := by decide +kernel
theorem dX12_init_429 : decode cX12_init 429 = .ok (.aload_n 0, 1) := by decide +kernel
theorem dX12_init_430 : decode cX12_init 430 = .ok (.getfield 34, 3) := by decide +kernel
theorem dX12_init_433 : decode cX12_init 433 = .ok (.iconst 4, 1) := by decide +kernel
theorem dX12_init_434 : decode cX12_init 434 = .ok (.bipush 119, 2) := by decide +kernel
theorem dX12_init_436 : decode cX12_init 436 = .ok (.bipush 105, 2) := by decide +kernel
theorem dX12_init_438 : decode cX12_init 438 = .ok (.bipush 116, 2) := by decide +kernel
theorem dX12_init_440 : decode cX12_init 440 = .ok (.bipush 110, 2) := by decide +kernel
theorem dX12_init_442 : decode cX12_init 442 = .ok (.bipush 101, 2) := by decide +kernel
theorem dX12_init_444 : decode cX12_init 444 = .ok (.bipush 115, 2) := by decide +kernel
theorem dX12_init_446 : decode cX12_init 446 = .ok (.bipush 115, 2) := by decide +kernel
theorem dX12_init_448 : decode cX12_init 448 = .ok (.invokestatic 150, 3) := by decide +kernel
theorem dX12_init_451 : decode cX12_init 451 = .ok (.lastore, 1) := by decide +kernel
theorem dX12_init_452 : decode cX12_init 452 = .ok (.aload_n 0, 1) := by decide +kernel
theorem dX12_init_453 : decode cX12_init 453 = .ok (.getfield 34, 3) := by decide +kernel
theorem dX12_init_456 : decode cX12_init 456 = .ok (.iconst 5, 1) := by decide +kernel
theorem dX12_init_457 : decode cX12_init 457 = .ok (.bipush 119, 2) := by decide +kernel
theorem dX12_init_459 : decode cX12_init 459 = .ok (.bipush 111, 2) := by decide +kernel
theorem dX12_init_461 : decode cX12_init 461 = .ok (.bipush 114, 2) := by decide +kernel
theorem dX12_init_463 : decode cX12_init 463 = .ok (.bipush 100, 2) := by decide +kernel
theorem dX12_init_465 : decode cX12_init 465 = .ok (.iconst 0, 1) := by decide +kernel
theorem dX12_init_466 : decode cX12_init 466 = .ok (.iconst 0, 1) := by decide +kernel
theorem dX12_init_467 : decode cX12_init 467 = .ok (.iconst 0, 1) := by decide +kernel
theorem dX12_init_468 : decode cX12_init 468 = .ok (.invokestatic 150, 3) := by decide +kernel
theorem dX12_init_471 : decode cX12_init 471 = .ok (.lastore, 1) := by decide +kernel
theorem dX12_init_472 : decode cX12_init 472 = .ok (.aload_n 0, 1) := by decide +kernel
theorem dX12_init_473 : decode cX12_init 473 = .ok (.getfield 34, 3) := by decide +kernel
theorem dX12_init_476 : decode cX12_init 476 = .ok (.bipush 6, 2) := by decide +kernel
theorem dX12_init_478 : decode cX12_init 478 = .ok (.bipush 115, 2) := by decide +kernel
theorem dX12_init_480 : decode cX12_init 480 = .ok (.bipush 101, 2) := by decide +kernel
theorem dX12_init_482 : decode cX12_init 482 = .ok (.bipush 108, 2) := by decide +kernel
theorem dX12_init_484 : decode cX12_init 484 = .ok (.bipush 102, 2) := by decide +kernel
theorem dX12_init_486 : decode cX12_init 486 = .ok (.iconst 0, 1) := by decide +kernel
theorem dX12_init_487 : decode cX12_init 487 = .ok (.iconst 0, 1) := by decide +kernel
theorem dX12_init_488 : decode cX12_init 488 = .ok (.iconst 0, 1) := by decide +kernel
theorem dX12_init_489 : decode cX12_init 489 = .ok (.invokestatic 150, 3) := by decide +kernel
theorem dX12_init_492 : decode cX12_init 492 = .ok (.lastore, 1) := by decide +kernel
theorem dX12_init_493 : decode cX12_init 493 = .ok (.aload_n 0, 1) := by decide +kernel
theorem dX12_init_494 : decode cX12_init 494 = .ok (.getfield 34, 3) := by decide +kernel
theorem dX12_init_497 : decode cX12_init 497 = .ok (.bipush 7, 2) := by decide +kernel
theorem dX12_init_499 : decode cX12_init 499 = .ok (.bipush 99, 2) := by decide +kernel
theorem dX12_init_501 : decode cX12_init 501 = .ok (.bipush 97, 2) := by decide +kernel
theorem dX12_init_503 : decode cX12_init 503 = .ok (.bipush 115, 2) := by decide +kernel
theorem dX12_init_505 : decode cX12_init 505 = .ok (.bipush 101, 2) := by decide +kernel
theorem dX12_init_507 : decode cX12_init 507 = .ok (.iconst 0, 1) := by decide +kernel
theorem dX12_init_508 : decode cX12_init 508 = .ok (.iconst 0, 1) := by decide +kernel
theorem dX12_init_509 : decode cX12_init 509 = .ok (.iconst 0, 1) := by decide +kernel
theorem dX12_init_510 : decode cX12_init 510 = .ok (.invokestatic 150, 3) := by decide +kernel
theorem dX12_init_513 : decode cX12_init 513 = .ok (.lastore, 1) := by decide +kernel
theorem dX12_init_514 : decode cX12_init 514 = .ok (.aload_n 0, 1) := by decide +kernel
theorem dX12_init_515 : decode cX12_init 515 = .ok (.getfield 34, 3) := by decide +kernel
theorem dX12_init_518 : decode cX12_init 518 = .ok (.bipush 8, 2) := by decide +kernel
theorem dX12_init_520 : decode cX12_init 520 = .ok (.bipush 98, 2) := by decide +kernel
theorem dX12_init_522 : decode cX12_init 522 = .ok (.bipush 97, 2) := by decide +kernel
theorem dX12_init_524 : decode cX12_init 524 = .ok (.bipush 99, 2) := by decide +kernel
theorem dX12_init_526 : decode cX12_init 526 = .ok (.bipush 107, 2) := by decide +kernel
theorem dX12_init_528 : decode cX12_init 528 = .ok (.iconst 0, 1) := by decide +kernel
theorem dX12_init_529 : decode cX12_init 529 = .ok (.iconst 0, 1) := by decide +kernel
theorem dX12_init_530 : decode cX12_init 530 = .ok (.iconst 0, 1) := by decide +kernel
theorem dX12_init_531 : decode cX12_init 531 = .ok (.invokestatic 150, 3) := by decide +kernel
theorem dX12_init_534 : decode cX12_init 534 = .ok (.lastore, 1) := by decide +kernel
theorem dX12_init_535 : decode cX12_init 535 = .ok (.aload_n 0, 1) := by decide +kernel
theorem dX12_init_536 : decode cX12_init 536 = .ok (.getfield 34, 3) := by decide +kernel
theorem dX12_init_539 : decode cX12_init 539 = .ok (.bipush 9, 2) := by decide +kernel
theorem dX12_init_541 : decode cX12_init 541 = .ok (.bipush 102, 2) := by decide +kernel
theorem dX12_init_543 : decode cX12_init 543 = .ok (.bipush 111, 2) := by decide +kernel
theorem dX12_init_545 : decode cX12_init 545 = .ok (.bipush 114, 2) := by decide +kernel
theorem dX12_init_547 : decode cX12_init 547 = .ok (.bipush 116, 2) := by decide +kernel
theorem dX12_init_549 : decode cX12_init 549 = .ok (.bipush 104, 2) := by decide +kernel
theorem dX12_init_551 : decode cX12_init 551 = .ok (.iconst 0, 1) := by decide +kernel
theorem dX12_init_552 : decode cX12_init 552 = .ok (.iconst 0, 1) := by decide +kernel
theorem dX12_init_553 : decode cX12_init 553 = .ok (.invokestatic 150, 3) := by decide +kernel
theorem dX12_init_556 : decode cX12_init 556 = .ok (.lastore, 1) := by decide +kernel
theorem dX12_init_557 : decode cX12_init 557 = .ok (.aload_n 0, 1) := by decide +kernel
theorem dX12_init_558 : decode cX12_init 558 = .ok (.getfield 34, 3) := by decide +kernel
theorem dX12_init_561 : decode cX12_init 561 = .ok (.bipush 10, 2) := by decide +kernel
theorem dX12_init_563 : decode cX12_init 563 = .ok (.bipush 99, 2) := by decide +kernel
theorem dX12_init_565 : decode cX12_init 565 = .ok (.bipush 108, 2) := by decide +kernel
theorem dX12_init_567 : decode cX12_init 567 = .ok (.bipush 111, 2) := by decide +kernel
theorem dX12_init_569 : decode cX12_init 569 = .ok (.bipush 99, 2) := by decide +kernel
theorem dX12_init_571 : decode cX12_init 571 = .ok (.bipush 107, 2) := by decide +kernel
theorem dX12_init_573 : decode cX12_init 573 = .ok (.iconst 0, 1) := by decide +kernel
theorem dX12_init_574 : decode cX12_init 574 = .ok (.iconst 0, 1) := by decide +kernel
theorem dX12_init_575 : decode cX12_init 575 = .ok (.invokestatic 150, 3) := by decide +kernel
theorem dX12_init_578 : decode cX12_init 578 = .ok (.lastore, 1) := by decide +kernel
theorem dX12_init_579 : decode cX12_init 579 = .ok (.aload_n 0, 1) := by decide +kernel
theorem dX12_init_580 : decode cX12_init 580 = .ok (.getfield 34, 3) := by decide +kernel
theorem dX12_init_583 : decode cX12_init 583 = .ok (.bipush 11, 2) := by decide +kernel
theorem dX12_init_585 : decode cX12_init 585 = .ok (.bipush 111, 2) := by decide +kernel
theorem dX12_init_587 : decode cX12_init 587 = .ok (.bipush 114, 2) := by decide +kernel
theorem dX12_init_589 : decode cX12_init 589 = .ok (.iconst 0, 1) := by decide +kernel
theorem dX12_init_590 : decode cX12_init 590 = .ok (.iconst 0, 1) := by decide +kernel
theorem dX12_init_591 : decode cX12_init 591 = .ok (.iconst 0, 1) := by decide +kernel
theorem dX12_init_592 : decode cX12_init 592 = .ok (.iconst 0, 1) := by decide +kernel
theorem dX12_init_593 : decode cX12_init 593 = .ok (.iconst 0, 1) := by decide +kernel
theorem dX12_init_594 : decode cX12_init 594 = .ok (.invokestatic 150, 3) := by decide +kernel
theorem dX12_init_597 : decode cX12_init 597 = .ok (.lastore, 1) := by decide +kernel
theorem dX12_init_598 : decode cX12_init 598 = .ok (.aload_n 0, 1) := by decide +kernel
theorem dX12_init_599 : decode cX12_init 599 = .ok (.getfield 34, 3) := by decide +kernel
theorem dX12_init_602 : decode cX12_init 602 = .ok (.bipush 12, 2) := by decide +kernel
theorem dX12_init_604 : decode cX12_init 604 = .ok (.bipush 97, 2) := by decide +kernel
theorem dX12_init_606 : decode cX12_init 606 = .ok (.bipush 110, 2) := by decide +kernel
theorem dX12_init_608 : decode cX12_init 608 = .ok (.bipush 100, 2) := by decide +kernel
theorem dX12_init_610 : decode cX12_init 610 = .ok (.iconst 0, 1) := by decide +kernel
theorem dX12_init_611 : decode cX12_init 611 = .ok (.iconst 0, 1) := by decide +kernel
theorem dX12_init_612 : decode cX12_init 612 = .ok (.iconst 0, 1) := by decide +kernel
theorem dX12_init_613 : decode cX12_init 613 = .ok (.iconst 0, 1) := by decide +kernel
theorem dX12_init_614 : decode cX12_init 614 = .ok (.invokestatic 150, 3) := by decide +kernel
theorem dX12_init_617 : decode cX12_init 617 = .ok (.lastore, 1) := by decide +kernel
theorem dX12_init_618 : decode cX12_init 618 = .ok (.aload_n 0, 1) := by decide +kernel
theorem dX12_init_619 : decode cX12_init 619 = .ok (.getfield 34, 3) := by decide +kernel
theorem dX12_init_622 : decode cX12_init 622 = .ok (.bipush 13, 2) := by decide +kernel
theorem dX12_init_624 : decode cX12_init 624 = .ok (.bipush 110, 2) := by decide +kernel
theorem dX12_init_626 : decode cX12_init 626 = .ok (.bipush 111, 2) := by decide +kernel
theorem dX12_init_628 : decode cX12_init 628 = .ok (.bipush 116, 2) := by decide +kernel
theorem dX12_init_630 : decode cX12_init 630 = .ok (.iconst 0, 1) := by decide +kernel
theorem dX12_init_631 : decode cX12_init 631 = .ok (.iconst 0, 1) := by decide +kernel
theorem dX12_init_632 : decode cX12_init 632 = .ok (.iconst 0, 1) := by decide +kernel
theorem dX12_init_633 : decode cX12_init 633 = .ok (.iconst 0, 1) := by decide +kernel
theorem dX12_init_634 : decode cX12_init 634 = .ok (.invokestatic 150, 3) := by decide +kernel
theorem dX12_init_637 : decode cX12_init 637 = .ok (.lastore, 1) := by decide +kernel
theorem dX12_init_638 : decode cX12_init 638 = .ok (.aload_n 0, 1) := by decide +kernel
theorem dX12_init_639 : decode cX12_init 639 = .ok (.getfield 34, 3) := by decide +kernel
theorem dX12_init_642 : decode cX12_init 642 = .ok (.bipush 14, 2) := by decide +kernel
theorem dX12_init_644 : decode cX12_init 644 = .ok (.bipush 108, 2) := by decide +kernel
theorem dX12_init_646 : decode cX12_init 646 = .ok (.bipush 105, 2) := by decide +kernel
theorem dX12_init_648 : decode cX12_init 648 = .ok (.bipush 101, 2) := by decide +kernel
theorem dX12_init_650 : decode cX12_init 650 = .ok (.bipush 115, 2) := by decide +kernel
theorem dX12_init_652 : decode cX12_init 652 = .ok (.iconst 0, 1) := by decide +kernel
theorem dX12_init_653 : decode cX12_init 653 = .ok (.iconst 0, 1) := by decide +kernel
theorem dX12_init_654 : decode cX12_init 654 = .ok (.iconst 0, 1) := by decide +kernel
theorem dX12_init_655 : decode cX12_init 655 = .ok (.invokestatic 150, 3) := by decide +kernel
theorem dX12_init_658 : decode cX12_init 658 = .ok (.lastore, 1) := by decide +kernel
theorem dX12_init_659 : decode cX12_init 659 = .ok (.aload_n 0, 1) := by decide +kernel
theorem dX12_init_660 : decode cX12_init 660 = .ok (.getfield 34, 3) := by decide +kernel
theorem dX12_init_663 : decode cX12_init 663 = .ok (.bipush 15, 2) := by decide +kernel
theorem dX12_init_665 : decode cX12_init 665 = .ok (.bipush 115, 2) := by decide +kernel
theorem dX12_init_667 : decode cX12_init 667 = .ok (.bipush 97, 2) := by decide +kernel
theorem dX12_init_669 : decode cX12_init 669 = .ok (.bipush 105, 2) := by decide +kernel
theorem dX12_init_671 : decode cX12_init 671 = .ok (.bipush 100, 2) := by decide +kernel
theorem dX12_init_673 : decode cX12_init 673 = .ok (.iconst 0, 1) := by decide +kernel
theorem dX12_init_674 : decode cX12_init 674 = .ok (.iconst 0, 1) := by decide +kernel
theorem dX12_init_675 : decode cX12_init 675 = .ok (.iconst 0, 1) := by decide +kernel
theorem dX12_init_676 : decode cX12_init 676 = .ok (.invokestatic 150, 3) := by decide +kernel
theorem dX12_init_679 : decode cX12_init 679 = .ok (.lastore, 1) := by decide +kernel
theorem dX12_init_680 : decode cX12_init 680 = .ok (.aload_n 0, 1) := by decide +kernel
theorem dX12_init_681 : decode cX12_init 681 = .ok (.getfield 34, 3) := by decide +kernel
theorem dX12_init_684 : decode cX12_init 684 = .ok (.bipush 16, 2) := by decide +kernel
theorem dX12_init_686 : decode cX12_init 686 = .ok (.bipush 109, 2) := by decide +kernel
theorem dX12_init_688 : decode cX12_init 688 = .ok (.bipush 105, 2) := by decide +kernel
theorem dX12_init_690 : decode cX12_init 690 = .ok (.bipush 110, 2) := by decide +kernel
theorem dX12_init_692 : decode cX12_init 692 = .ok (.bipush 117, 2) := by decide +kernel
theorem dX12_init_694 : decode cX12_init 694 = .ok (.bipush 116, 2) := by decide +kernel
theorem dX12_init_696 : decode cX12_init 696 = .ok (.bipush 101, 2) := by decide +kernel
theorem dX12_init_698 : decode cX12_init 698 = .ok (.iconst 0, 1) := by decide +kernel
theorem dX12_init_699 : decode cX12_init 699 = .ok (.invokestatic 150, 3) := by decide +kernel
theorem dX12_init_702 : decode cX12_init 702 = .ok (.lastore, 1) := by decide +kernel
theorem dX12_init_703 : decode cX12_init 703 = .ok (.aload_n 0, 1) := by decide +kernel
theorem dX12_init_704 : decode cX12_init 704 = .ok (.getfield 34, 3) := by decide +kernel
theorem dX12_init_707 : decode cX12_init 707 = .ok (.bipush 17, 2) := by decide +kernel
theorem dX12_init_709 : decode cX12_init 709 = .ok (.bipush 104, 2) := by decide +kernel
theorem dX12_init_711 : decode cX12_init 711 = .ok (.bipush 101, 2) := by decide +kernel
theorem dX12_init_713 : decode cX12_init 713 = .ok (.bipush 97, 2) := by decide +kernel
theorem dX12_init_715 : decode cX12_init 715 = .ok (.bipush 114, 2) := by decide +kernel
theorem dX12_init_717 : decode cX12_init 717 = .ok (.bipush 100, 2) := by decide +kernel
theorem dX12_init_719 : decode cX12_init 719 = .ok (.iconst 0, 1) := by decide +kernel
theorem dX12_init_720 : decode cX12_init 720 = .ok (.iconst 0, 1) := by decide +kernel
theorem dX12_init_721 : decode cX12_init 721 = .ok (.invokestatic 150, 3) := by decide +kernel
theorem dX12_init_724 : decode cX12_init 724 = .ok (.lastore, 1) := by decide +kernel
theorem dX12_init_725 : decode cX12_init 725 = .ok (.return_, 1) := by decide +kernel
theorem dX12_is_0 : decode cX12_is 0 = .ok (.aload_n 0, 1) := by decide +kernel
theorem dX12_is_1 : decode cX12_is 1 = .ok (.getfield 192, 3) := by decide +kernel
theorem dX12_is_4 : decode cX12_is 4 = .ok (.ifCond .ne 20, 3) := by decide +kernel
theorem dX12_is_7 : decode cX12_is 7 = .ok (.aload_n 0, 1) := by decide +kernel
theorem dX12_is_8 : decode cX12_is 8 = .ok (.getfield 20, 3) := by decide +kernel
theorem dX12_is_11 : decode cX12_is 11 = .ok (.aload_n 0, 1) := by decide +kernel
theorem dX12_is_12 : decode cX12_is 12 = .ok (.getfield 195, 3) := by decide +kernel
theorem dX12_is_15 : decode cX12_is 15 = .ok (.iaload, 1) := by decide +kernel
theorem dX12_is_16 : decode cX12_is 16 = .ok (.iload_n 1, 1) := by decide +kernel
theorem dX12_is_17 : decode cX12_is 17 = .ok (.if_icmp .ne 7, 3) := by decide +kernel
theorem dX12_is_20 : decode cX12_is 20 = .ok (.iconst 1, 1) := by decide +kernel
theorem dX12_is_21 : decode cX12_is 21 = .ok (.goto 4, 3) := by decide +kernel
theorem dX12_is_25 : decode cX12_is 25 = .ok (.ireturn, 1) := by decide +kernel
theorem dX12_isCase_0 : decode cX12_isCase 0 = .ok (.iload_n 1, 1) := by decide +kernel
theorem dX12_isCase_1 : decode cX12_isCase 1 = .ok (.iconst 0, 1) := by decide +kernel
theorem dX12_isCase_2 : decode cX12_isCase 2 = .ok (.aload_n 0, 1) := by decide +kernel
theorem dX12_isCase_3 : decode cX12_isCase 3 = .ok (.getfield 74, 3) := by decide +kernel
theorem dX12_isCase_6 : decode cX12_isCase 6 = .ok (.aload_n 0, 1) := by decide +kernel
theorem dX12_isCase_7 : decode cX12_isCase 7 = .ok (.getfield 222, 3) := by decide +kernel
theorem dX12_isCase_10 : decode cX12_isCase 10 = .ok (.iaload, 1) := by decide +kernel
theorem dX12_isCase_11 : decode cX12_isCase 11 = .ok (.iconst 1, 1) := by decide +kernel
theorem dX12_isCase_12 : decode cX12_isCase 12 = .ok (.isub, 1) := by decide +kernel
theorem dX12_isCase_13 : decode cX12_isCase 13 = .ok (.invokestatic 323, 3) := by decide +kernel
theorem dX12_isCase_16 : decode cX12_isCase 16 = .ok (.ireturn, 1) := by decide +kernel
theorem dX12_isSet_0 : decode cX12_isSet 0 = .ok (.iload_n 1, 1) := by decide +kernel
theorem dX12_isSet_1 : decode cX12_isSet 1 = .ok (.iconst 0, 1) := by decide +kernel
theorem dX12_isSet_2 : decode cX12_isSet 2 = .ok (.iconst 1, 1) := by decide +kernel
theorem dX12_isSet_3 : decode cX12_isSet 3 = .ok (.aload_n 0, 1) := by decide +kernel
theorem dX12_isSet_4 : decode cX12_isSet 4 = .ok (.getfield 61, 3) := by decide +kernel
theorem dX12_isSet_7 : decode cX12_isSet 7 = .ok (.aload_n 0, 1) := by decide +kernel
theorem dX12_isSet_8 : decode cX12_isSet 8 = .ok (.getfield 222, 3) := by decide +kernel
theorem dX12_isSet_11 : decode cX12_isSet 11 = .ok (.iaload, 1) := by decide +kernel
theorem dX12_isSet_12 : decode cX12_isSet 12 = .ok (.ishl, 1) := by decide +kernel
theorem dX12_isSet_13 : decode cX12_isSet 13 = .ok (.iconst 1, 1) := by decide +kernel
theorem dX12_isSet_14 : decode cX12_isSet 14 = .ok (.isub, 1) := by decide +kernel
theorem dX12_isSet_15 : decode cX12_isSet 15 = .ok (.invokestatic 323, 3) := by decide +kernel
theorem dX12_isSet_18 : decode cX12_isSet 18 = .ok (.ireturn, 1) := by decide +kernel
theorem dX12_isWitness_0 : decode cX12_isWitness 0 = .ok (.iload_n 1, 1) := by decide +kernel
theorem dX12_isWitness_1 : decode cX12_isWitness 1 = .ok (.iconst 0, 1) := by decide +kernel
theorem dX12_isWitness_2 : decode cX12_isWitness 2 = .ok (.aload_n 0, 1) := by decide +kernel
theorem dX12_isWitness_3 : decode cX12_isWitness 3 = .ok (.getfield 58, 3) := by decide +kernel
theorem dX12_isWitness_6 : decode cX12_isWitness 6 = .ok (.aload_n 0, 1) := by decide +kernel
theorem dX12_isWitness_7 : decode cX12_isWitness 7 = .ok (.getfield 222, 3) := by decide +kernel
theorem dX12_isWitness_10 : decode cX12_isWitness 10 = .ok (.iaload, 1) := by decide +kernel
theorem dX12_isWitness_11 : decode cX12_isWitness 11 = .ok (.iconst 1, 1) := by decide +kernel
theorem dX12_isWitness_12 : decode cX12_isWitness 12 = .ok (.isub, 1) := by decide +kernel
theorem dX12_isWitness_13 : decode cX12_isWitness 13 = .ok (.invokestatic 323, 3) := by decide +kernel
theorem dX12_isWitness_16 : decode cX12_isWitness 16 = .ok (.ireturn, 1) := by decide +kernel
theorem dX12_isWord_0 : decode cX12_isWord 0 = .ok (.iload_n 1, 1) := by decide +kernel
theorem dX12_isWord_1 : decode cX12_isWord 1 = .ok (.iconst 0, 1) := by decide +kernel
theorem dX12_isWord_2 : decode cX12_isWord 2 = .ok (.aload_n 0, 1) := by decide +kernel
theorem dX12_isWord_3 : decode cX12_isWord 3 = .ok (.getfield 61, 3) := by decide +kernel
theorem dX12_isWord_6 : decode cX12_isWord 6 = .ok (.aload_n 0, 1) := by decide +kernel
theorem dX12_isWord_7 : decode cX12_isWord 7 = .ok (.getfield 222, 3) := by decide +kernel
theorem dX12_isWord_10 : decode cX12_isWord 10 = .ok (.iaload, 1) := by decide +kernel
theorem dX12_isWord_11 : decode cX12_isWord 11 = .ok (.iconst 1, 1) := by decide +kernel
theorem dX12_isWord_12 : decode cX12_isWord 12 = .ok (.isub, 1) := by decide +kernel
theorem dX12_isWord_13 : decode cX12_isWord 13 = .ok (.invokestatic 323, 3) := by decide +kernel
theorem dX12_isWord_16 : decode cX12_isWord 16 = .ok (.ireturn, 1) := by decide +kernel
theorem dX12_keeps_0 : decode cX12_keeps 0 = .ok (.aload_n 0, 1) := by decide +kernel
theorem dX12_keeps_1 : decode cX12_keeps 1 = .ok (.getfield 240, 3) := by decide +kernel
theorem dX12_keeps_4 : decode cX12_keeps 4 = .ok (.bipush 40, 2) := by decide +kernel
theorem dX12_keeps_6 : decode cX12_keeps 6 = .ok (.if_icmp .ne 43, 3) := by decide +kernel
theorem dX12_keeps_49 : decode cX12_keeps 49 = .ok (.iconst 0, 1) := by decide +kernel
theorem dX12_keeps_50 : decode cX12_keeps 50 = .ok (.istore_n 1, 1) := by decide +kernel
theorem dX12_keeps_51 : decode cX12_keeps 51 = .ok (.iload_n 1, 1) := by decide +kernel
theorem dX12_keeps_52 : decode cX12_keeps 52 = .ok (.bipush 40, 2) := by decide +kernel
theorem dX12_keeps_54 : decode cX12_keeps 54 = .ok (.if_icmp .ge 29, 3) := by decide +kernel
theorem dX12_keeps_57 : decode cX12_keeps 57 = .ok (.aload_n 0, 1) := by decide +kernel
theorem dX12_keeps_58 : decode cX12_keeps 58 = .ok (.getfield 122, 3) := by decide +kernel
theorem dX12_keeps_61 : decode cX12_keeps 61 = .ok (.bipush 40, 2) := by decide +kernel
theorem dX12_keeps_63 : decode cX12_keeps 63 = .ok (.aload_n 0, 1) := by decide +kernel
theorem dX12_keeps_64 : decode cX12_keeps 64 = .ok (.getfield 240, 3) := by decide +kernel
theorem dX12_keeps_67 : decode cX12_keeps 67 = .ok (.imul, 1) := by decide +kernel
theorem dX12_keeps_68 : decode cX12_keeps 68 = .ok (.iload_n 1, 1) := by decide +kernel
theorem dX12_keeps_69 : decode cX12_keeps 69 = .ok (.iadd, 1) := by decide +kernel
theorem dX12_keeps_70 : decode cX12_keeps 70 = .ok (.aload_n 0, 1) := by decide +kernel
theorem dX12_keeps_71 : decode cX12_keeps 71 = .ok (.getfield 116, 3) := by decide +kernel
theorem dX12_keeps_74 : decode cX12_keeps 74 = .ok (.iload_n 1, 1) := by decide +kernel
theorem dX12_keeps_75 : decode cX12_keeps 75 = .ok (.iaload, 1) := by decide +kernel
theorem dX12_keeps_76 : decode cX12_keeps 76 = .ok (.iastore, 1) := by decide +kernel
theorem dX12_keeps_77 : decode cX12_keeps 77 = .ok (.iinc 1 1, 3) := by decide +kernel
theorem dX12_keeps_80 : decode cX12_keeps 80 = .ok (.goto (-29), 3) := by decide +kernel
theorem dX12_keeps_83 : decode cX12_keeps 83 = .ok (.aload_n 0, 1) := by decide +kernel
theorem dX12_keeps_84 : decode cX12_keeps 84 = .ok (.dup, 1) := by decide +kernel
theorem dX12_keeps_85 : decode cX12_keeps 85 = .ok (.getfield 240, 3) := by decide +kernel
theorem dX12_keeps_88 : decode cX12_keeps 88 = .ok (.iconst 1, 1) := by decide +kernel
theorem dX12_keeps_89 : decode cX12_keeps 89 = .ok (.iadd, 1) := by decide +kernel
theorem dX12_keeps_90 : decode cX12_keeps 90 = .ok (.putfield 240, 3) := by decide +kernel
theorem dX12_keeps_93 : decode cX12_keeps 93 = .ok (.iconst 0, 1) := by decide +kernel
theorem dX12_keeps_94 : decode cX12_keeps 94 = .ok (.istore_n 1, 1) := by decide +kernel
theorem dX12_keeps_95 : decode cX12_keeps 95 = .ok (.iload_n 1, 1) := by decide +kernel
theorem dX12_keeps_96 : decode cX12_keeps 96 = .ok (.bipush 40, 2) := by decide +kernel
theorem dX12_keeps_98 : decode cX12_keeps 98 = .ok (.if_icmp .ge 21, 3) := by decide +kernel
theorem dX12_keeps_101 : decode cX12_keeps 101 = .ok (.aload_n 0, 1) := by decide +kernel
theorem dX12_keeps_102 : decode cX12_keeps 102 = .ok (.getfield 116, 3) := by decide +kernel
theorem dX12_keeps_105 : decode cX12_keeps 105 = .ok (.iload_n 1, 1) := by decide +kernel
theorem dX12_keeps_106 : decode cX12_keeps 106 = .ok (.aload_n 0, 1) := by decide +kernel
theorem dX12_keeps_107 : decode cX12_keeps 107 = .ok (.getfield 119, 3) := by decide +kernel
theorem dX12_keeps_110 : decode cX12_keeps 110 = .ok (.iload_n 1, 1) := by decide +kernel
theorem dX12_keeps_111 : decode cX12_keeps 111 = .ok (.iaload, 1) := by decide +kernel
theorem dX12_keeps_112 : decode cX12_keeps 112 = .ok (.iastore, 1) := by decide +kernel
theorem dX12_keeps_113 : decode cX12_keeps 113 = .ok (.iinc 1 1, 3) := by decide +kernel
theorem dX12_keeps_116 : decode cX12_keeps 116 = .ok (.goto (-21), 3) := by decide +kernel
theorem dX12_keeps_119 : decode cX12_keeps 119 = .ok (.return_, 1) := by decide +kernel
theorem dX12_liars_0 : decode cX12_liars 0 = .ok (.iload_n 1, 1) := by decide +kernel
theorem dX12_liars_1 : decode cX12_liars 1 = .ok (.iconst 0, 1) := by decide +kernel
theorem dX12_liars_2 : decode cX12_liars 2 = .ok (.aload_n 0, 1) := by decide +kernel
theorem dX12_liars_3 : decode cX12_liars 3 = .ok (.getfield 243, 3) := by decide +kernel
theorem dX12_liars_6 : decode cX12_liars 6 = .ok (.invokestatic 323, 3) := by decide +kernel
theorem dX12_liars_9 : decode cX12_liars 9 = .ok (.ifCond .ne 5, 3) := by decide +kernel
theorem dX12_liars_12 : decode cX12_liars 12 = .ok (.iconst (-1), 1) := by decide +kernel
theorem dX12_liars_13 : decode cX12_liars 13 = .ok (.ireturn, 1) := by decide +kernel
theorem dX12_liars_14 : decode cX12_liars 14 = .ok (.aload_n 0, 1) := by decide +kernel
theorem dX12_liars_15 : decode cX12_liars 15 = .ok (.iload_n 1, 1) := by decide +kernel
theorem dX12_liars_16 : decode cX12_liars 16 = .ok (.invokevirtual 445, 3) := by decide +kernel
theorem dX12_liars_19 : decode cX12_liars 19 = .ok (.aload_n 0, 1) := by decide +kernel
theorem dX12_liars_20 : decode cX12_liars 20 = .ok (.getfield 439, 3) := by decide +kernel
theorem dX12_liars_23 : decode cX12_liars 23 = .ok (.ireturn, 1) := by decide +kernel
theorem dX12_look_0 : decode cX12_look 0 = .ok (.iload_n 1, 1) := by decide +kernel
theorem dX12_look_1 : decode cX12_look 1 = .ok (.iconst 0, 1) := by decide +kernel
theorem dX12_look_2 : decode cX12_look 2 = .ok (.aload_n 0, 1) := by decide +kernel
theorem dX12_look_3 : decode cX12_look 3 = .ok (.getfield 49, 3) := by decide +kernel
theorem dX12_look_6 : decode cX12_look 6 = .ok (.aload_n 0, 1) := by decide +kernel
theorem dX12_look_7 : decode cX12_look 7 = .ok (.getfield 222, 3) := by decide +kernel
theorem dX12_look_10 : decode cX12_look 10 = .ok (.iaload, 1) := by decide +kernel
theorem dX12_look_11 : decode cX12_look 11 = .ok (.iconst 1, 1) := by decide +kernel
theorem dX12_look_12 : decode cX12_look 12 = .ok (.isub, 1) := by decide +kernel
theorem dX12_look_13 : decode cX12_look 13 = .ok (.invokestatic 323, 3) := by decide +kernel
theorem dX12_look_16 : decode cX12_look 16 = .ok (.ifCond .ne 5, 3) := by decide +kernel
theorem dX12_look_19 : decode cX12_look 19 = .ok (.iconst (-1), 1) := by decide +kernel
theorem dX12_look_20 : decode cX12_look 20 = .ok (.ireturn, 1) := by decide +kernel
theorem dX12_looks_0 : decode cX12_looks 0 = .ok (.aload_n 0, 1) := by decide +kernel
theorem dX12_looks_1 : decode cX12_looks 1 = .ok (.iload_n 1, 1) := by decide +kernel
theorem dX12_looks_2 : decode cX12_looks 2 = .ok (.invokevirtual 371, 3) := by decide +kernel
theorem dX12_looks_5 : decode cX12_looks 5 = .ok (.ifCond .ne 5, 3) := by decide +kernel
theorem dX12_looks_8 : decode cX12_looks 8 = .ok (.iconst (-1), 1) := by decide +kernel
theorem dX12_looks_9 : decode cX12_looks 9 = .ok (.ireturn, 1) := by decide +kernel
theorem dX12_many_0 : decode cX12_many 0 = .ok (.iconst 0, 1) := by decide +kernel
theorem dX12_many_1 : decode cX12_many 1 = .ok (.istore_n 2, 1) := by decide +kernel
theorem dX12_many_2 : decode cX12_many 2 = .ok (.iconst 0, 1) := by decide +kernel
theorem dX12_many_3 : decode cX12_many 3 = .ok (.istore_n 3, 1) := by decide +kernel
theorem dX12_many_4 : decode cX12_many 4 = .ok (.iload_n 3, 1) := by decide +kernel
theorem dX12_many_5 : decode cX12_many 5 = .ok (.bipush 64, 2) := by decide +kernel
theorem dX12_many_7 : decode cX12_many 7 = .ok (.if_icmp .ge 18, 3) := by decide +kernel
theorem dX12_many_10 : decode cX12_many 10 = .ok (.iload_n 2, 1) := by decide +kernel
theorem dX12_many_11 : decode cX12_many 11 = .ok (.lload_n 0, 1) := by decide +kernel
theorem dX12_many_12 : decode cX12_many 12 = .ok (.iload_n 3, 1) := by decide +kernel
theorem dX12_many_13 : decode cX12_many 13 = .ok (.lshr, 1) := by decide +kernel
theorem dX12_many_14 : decode cX12_many 14 = .ok (.lconst 1, 1) := by decide +kernel
theorem dX12_many_15 : decode cX12_many 15 = .ok (.land, 1) := by decide +kernel
theorem dX12_many_16 : decode cX12_many 16 = .ok (.l2i, 1) := by decide +kernel
theorem dX12_many_17 : decode cX12_many 17 = .ok (.iadd, 1) := by decide +kernel
theorem dX12_many_18 : decode cX12_many 18 = .ok (.istore_n 2, 1) := by decide +kernel
theorem dX12_many_19 : decode cX12_many 19 = .ok (.iinc 3 1, 3) := by decide +kernel
theorem dX12_many_22 : decode cX12_many 22 = .ok (.goto (-18), 3) := by decide +kernel
theorem dX12_many_25 : decode cX12_many 25 = .ok (.iload_n 2, 1) := by decide +kernel
theorem dX12_many_26 : decode cX12_many 26 = .ok (.ireturn, 1) := by decide +kernel
theorem dX12_mayBe_0 : decode cX12_mayBe 0 = .ok (.lconst 0, 1) := by decide +kernel
theorem dX12_mayBe_1 : decode cX12_mayBe 1 = .ok (.lstore_n 2, 1) := by decide +kernel
theorem dX12_mayBe_2 : decode cX12_mayBe 2 = .ok (.iconst 0, 1) := by decide +kernel
theorem dX12_mayBe_3 : decode cX12_mayBe 3 = .ok (.istore 4, 2) := by decide +kernel
