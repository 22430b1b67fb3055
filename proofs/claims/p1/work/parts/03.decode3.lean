theorem dX12_mayBe_5 : decode cX12_mayBe 5 = .ok (.iload 4, 2) := by decide +kernel
theorem dX12_mayBe_7 : decode cX12_mayBe 7 = .ok (.iconst 1, 1) := by decide +kernel
theorem dX12_mayBe_8 : decode cX12_mayBe 8 = .ok (.aload_n 0, 1) := by decide +kernel
theorem dX12_mayBe_9 : decode cX12_mayBe 9 = .ok (.getfield 49, 3) := by decide +kernel
theorem dX12_mayBe_12 : decode cX12_mayBe 12 = .ok (.aload_n 0, 1) := by decide +kernel
theorem dX12_mayBe_13 : decode cX12_mayBe 13 = .ok (.getfield 222, 3) := by decide +kernel
theorem dX12_mayBe_16 : decode cX12_mayBe 16 = .ok (.iaload, 1) := by decide +kernel
theorem dX12_mayBe_17 : decode cX12_mayBe 17 = .ok (.ishl, 1) := by decide +kernel
theorem dX12_mayBe_18 : decode cX12_mayBe 18 = .ok (.if_icmp .ge 33, 3) := by decide +kernel
theorem dX12_mayBe_21 : decode cX12_mayBe 21 = .ok (.iload 4, 2) := by decide +kernel
theorem dX12_mayBe_23 : decode cX12_mayBe 23 = .ok (.aload_n 0, 1) := by decide +kernel
theorem dX12_mayBe_24 : decode cX12_mayBe 24 = .ok (.getfield 52, 3) := by decide +kernel
theorem dX12_mayBe_27 : decode cX12_mayBe 27 = .ok (.aload_n 0, 1) := by decide +kernel
theorem dX12_mayBe_28 : decode cX12_mayBe 28 = .ok (.getfield 222, 3) := by decide +kernel
theorem dX12_mayBe_31 : decode cX12_mayBe 31 = .ok (.iaload, 1) := by decide +kernel
theorem dX12_mayBe_32 : decode cX12_mayBe 32 = .ok (.ixor, 1) := by decide +kernel
theorem dX12_mayBe_33 : decode cX12_mayBe 33 = .ok (.iload_n 1, 1) := by decide +kernel
theorem dX12_mayBe_34 : decode cX12_mayBe 34 = .ok (.iand, 1) := by decide +kernel
theorem dX12_mayBe_35 : decode cX12_mayBe 35 = .ok (.ifCond .ne 10, 3) := by decide +kernel
theorem dX12_mayBe_38 : decode cX12_mayBe 38 = .ok (.lload_n 2, 1) := by decide +kernel
theorem dX12_mayBe_39 : decode cX12_mayBe 39 = .ok (.lconst 1, 1) := by decide +kernel
theorem dX12_mayBe_40 : decode cX12_mayBe 40 = .ok (.iload 4, 2) := by decide +kernel
theorem dX12_mayBe_42 : decode cX12_mayBe 42 = .ok (.lshl, 1) := by decide +kernel
theorem dX12_mayBe_43 : decode cX12_mayBe 43 = .ok (.lor, 1) := by decide +kernel
theorem dX12_mayBe_44 : decode cX12_mayBe 44 = .ok (.lstore_n 2, 1) := by decide +kernel
theorem dX12_mayBe_45 : decode cX12_mayBe 45 = .ok (.iinc 4 1, 3) := by decide +kernel
theorem dX12_mayBe_48 : decode cX12_mayBe 48 = .ok (.goto (-43), 3) := by decide +kernel
theorem dX12_mayBe_51 : decode cX12_mayBe 51 = .ok (.lload_n 2, 1) := by decide +kernel
theorem dX12_mayBe_52 : decode cX12_mayBe 52 = .ok (.lreturn, 1) := by decide +kernel
theorem dX12_never_0 : decode cX12_never 0 = .ok (.aload_n 0, 1) := by decide +kernel
theorem dX12_never_1 : decode cX12_never 1 = .ok (.iload_n 1, 1) := by decide +kernel
theorem dX12_never_2 : decode cX12_never 2 = .ok (.invokevirtual 420, 3) := by decide +kernel
theorem dX12_never_5 : decode cX12_never 5 = .ok (.ifCond .eq 12, 3) := by decide +kernel
theorem dX12_never_8 : decode cX12_never 8 = .ok (.iload_n 1, 1) := by decide +kernel
theorem dX12_never_9 : decode cX12_never 9 = .ok (.invokestatic 346, 3) := by decide +kernel
theorem dX12_never_12 : decode cX12_never 12 = .ok (.bipush 6, 2) := by decide +kernel
theorem dX12_never_14 : decode cX12_never 14 = .ok (.if_icmp .le 5, 3) := by decide +kernel
theorem dX12_never_17 : decode cX12_never 17 = .ok (.iconst (-1), 1) := by decide +kernel
theorem dX12_never_18 : decode cX12_never 18 = .ok (.ireturn, 1) := by decide +kernel
theorem dX12_never_19 : decode cX12_never 19 = .ok (.aload_n 0, 1) := by decide +kernel
theorem dX12_never_20 : decode cX12_never 20 = .ok (.iload_n 1, 1) := by decide +kernel
theorem dX12_never_21 : decode cX12_never 21 = .ok (.invokevirtual 414, 3) := by decide +kernel
theorem dX12_never_24 : decode cX12_never 24 = .ok (.iconst 1, 1) := by decide +kernel
theorem dX12_never_25 : decode cX12_never 25 = .ok (.istore_n 3, 1) := by decide +kernel
theorem dX12_never_26 : decode cX12_never 26 = .ok (.iload_n 3, 1) := by decide +kernel
theorem dX12_never_27 : decode cX12_never 27 = .ok (.ifCond .eq 64, 3) := by decide +kernel
theorem dX12_never_30 : decode cX12_never 30 = .ok (.aload_n 0, 1) := by decide +kernel
theorem dX12_never_31 : decode cX12_never 31 = .ok (.invokevirtual 384, 3) := by decide +kernel
theorem dX12_never_34 : decode cX12_never 34 = .ok (.aload_n 0, 1) := by decide +kernel
theorem dX12_never_35 : decode cX12_never 35 = .ok (.iload_n 2, 1) := by decide +kernel
theorem dX12_never_36 : decode cX12_never 36 = .ok (.putfield 334, 3) := by decide +kernel
theorem dX12_never_39 : decode cX12_never 39 = .ok (.aload_n 0, 1) := by decide +kernel
theorem dX12_never_40 : decode cX12_never 40 = .ok (.iconst 0, 1) := by decide +kernel
theorem dX12_never_41 : decode cX12_never 41 = .ok (.putfield 337, 3) := by decide +kernel
theorem dX12_never_44 : decode cX12_never 44 = .ok (.iconst 0, 1) := by decide +kernel
theorem dX12_never_45 : decode cX12_never 45 = .ok (.istore 4, 2) := by decide +kernel
theorem dX12_never_47 : decode cX12_never 47 = .ok (.iload 4, 2) := by decide +kernel
theorem dX12_never_49 : decode cX12_never 49 = .ok (.aload_n 0, 1) := by decide +kernel
theorem dX12_never_50 : decode cX12_never 50 = .ok (.getfield 411, 3) := by decide +kernel
theorem dX12_never_53 : decode cX12_never 53 = .ok (.if_icmp .ge 21, 3) := by decide +kernel
theorem dX12_never_74 : decode cX12_never 74 = .ok (.aload_n 0, 1) := by decide +kernel
theorem dX12_never_75 : decode cX12_never 75 = .ok (.getfield 337, 3) := by decide +kernel
theorem dX12_never_78 : decode cX12_never 78 = .ok (.ifCond .ne 5, 3) := by decide +kernel
theorem dX12_never_81 : decode cX12_never 81 = .ok (.iconst 1, 1) := by decide +kernel
theorem dX12_never_82 : decode cX12_never 82 = .ok (.ireturn, 1) := by decide +kernel
theorem dX12_nextOrder_0 : decode cX12_nextOrder 0 = .ok (.aload_n 0, 1) := by decide +kernel
theorem dX12_nextOrder_1 : decode cX12_nextOrder 1 = .ok (.getfield 411, 3) := by decide +kernel
theorem dX12_nextOrder_4 : decode cX12_nextOrder 4 = .ok (.iconst 2, 1) := by decide +kernel
theorem dX12_nextOrder_5 : decode cX12_nextOrder 5 = .ok (.isub, 1) := by decide +kernel
theorem dX12_nextOrder_6 : decode cX12_nextOrder 6 = .ok (.istore_n 1, 1) := by decide +kernel
theorem dX12_nextOrder_7 : decode cX12_nextOrder 7 = .ok (.iload_n 1, 1) := by decide +kernel
theorem dX12_nextOrder_8 : decode cX12_nextOrder 8 = .ok (.ifCond .lt 26, 3) := by decide +kernel
theorem dX12_nextOrder_34 : decode cX12_nextOrder 34 = .ok (.iload_n 1, 1) := by decide +kernel
theorem dX12_nextOrder_35 : decode cX12_nextOrder 35 = .ok (.ifCond .ge 5, 3) := by decide +kernel
theorem dX12_nextOrder_38 : decode cX12_nextOrder 38 = .ok (.iconst 0, 1) := by decide +kernel
theorem dX12_nextOrder_39 : decode cX12_nextOrder 39 = .ok (.ireturn, 1) := by decide +kernel
theorem dX12_order_0 : decode cX12_order 0 = .ok (.aload_n 0, 1) := by decide +kernel
theorem dX12_order_1 : decode cX12_order 1 = .ok (.iload_n 1, 1) := by decide +kernel
theorem dX12_order_2 : decode cX12_order 2 = .ok (.invokevirtual 420, 3) := by decide +kernel
theorem dX12_order_5 : decode cX12_order 5 = .ok (.ifCond .eq 21, 3) := by decide +kernel
theorem dX12_order_8 : decode cX12_order 8 = .ok (.iload_n 1, 1) := by decide +kernel
theorem dX12_order_9 : decode cX12_order 9 = .ok (.invokestatic 346, 3) := by decide +kernel
theorem dX12_order_12 : decode cX12_order 12 = .ok (.bipush 7, 2) := by decide +kernel
theorem dX12_order_14 : decode cX12_order 14 = .ok (.if_icmp .ge 12, 3) := by decide +kernel
theorem dX12_order_17 : decode cX12_order 17 = .ok (.aload_n 0, 1) := by decide +kernel
theorem dX12_order_18 : decode cX12_order 18 = .ok (.iload_n 1, 1) := by decide +kernel
theorem dX12_order_19 : decode cX12_order 19 = .ok (.iload_n 2, 1) := by decide +kernel
theorem dX12_order_20 : decode cX12_order 20 = .ok (.invokevirtual 423, 3) := by decide +kernel
theorem dX12_order_23 : decode cX12_order 23 = .ok (.goto 6, 3) := by decide +kernel
theorem dX12_order_26 : decode cX12_order 26 = .ok (.ldc_w 387, 3) := by decide +kernel
theorem dX12_order_29 : decode cX12_order 29 = .ok (.ireturn, 1) := by decide +kernel
theorem dX12_orderAt_0 : decode cX12_orderAt 0 = .ok (.aload_n 0, 1) := by decide +kernel
theorem dX12_orderAt_1 : decode cX12_orderAt 1 = .ok (.iload_n 1, 1) := by decide +kernel
theorem dX12_orderAt_2 : decode cX12_orderAt 2 = .ok (.invokevirtual 420, 3) := by decide +kernel
theorem dX12_orderAt_5 : decode cX12_orderAt 5 = .ok (.ifCond .eq 26, 3) := by decide +kernel
theorem dX12_orderAt_8 : decode cX12_orderAt 8 = .ok (.iload_n 1, 1) := by decide +kernel
theorem dX12_orderAt_9 : decode cX12_orderAt 9 = .ok (.invokestatic 346, 3) := by decide +kernel
theorem dX12_orderAt_12 : decode cX12_orderAt 12 = .ok (.bipush 6, 2) := by decide +kernel
theorem dX12_orderAt_14 : decode cX12_orderAt 14 = .ok (.if_icmp .gt 17, 3) := by decide +kernel
theorem dX12_orderAt_17 : decode cX12_orderAt 17 = .ok (.iload_n 3, 1) := by decide +kernel
theorem dX12_orderAt_18 : decode cX12_orderAt 18 = .ok (.iconst 0, 1) := by decide +kernel
theorem dX12_orderAt_19 : decode cX12_orderAt 19 = .ok (.iload_n 1, 1) := by decide +kernel
theorem dX12_orderAt_20 : decode cX12_orderAt 20 = .ok (.invokestatic 346, 3) := by decide +kernel
theorem dX12_orderAt_23 : decode cX12_orderAt 23 = .ok (.iconst 1, 1) := by decide +kernel
theorem dX12_orderAt_24 : decode cX12_orderAt 24 = .ok (.isub, 1) := by decide +kernel
theorem dX12_orderAt_25 : decode cX12_orderAt 25 = .ok (.invokestatic 323, 3) := by decide +kernel
theorem dX12_orderAt_28 : decode cX12_orderAt 28 = .ok (.ifCond .ne 5, 3) := by decide +kernel
theorem dX12_orderAt_31 : decode cX12_orderAt 31 = .ok (.iconst (-1), 1) := by decide +kernel
theorem dX12_orderAt_32 : decode cX12_orderAt 32 = .ok (.ireturn, 1) := by decide +kernel
theorem dX12_orders_0 : decode cX12_orders 0 = .ok (.aload_n 0, 1) := by decide +kernel
theorem dX12_orders_1 : decode cX12_orders 1 = .ok (.iload_n 1, 1) := by decide +kernel
theorem dX12_orders_2 : decode cX12_orders 2 = .ok (.invokevirtual 414, 3) := by decide +kernel
theorem dX12_orders_5 : decode cX12_orders 5 = .ok (.iconst 0, 1) := by decide +kernel
theorem dX12_orders_6 : decode cX12_orders 6 = .ok (.istore_n 3, 1) := by decide +kernel
theorem dX12_orders_7 : decode cX12_orders 7 = .ok (.iconst 1, 1) := by decide +kernel
theorem dX12_orders_8 : decode cX12_orders 8 = .ok (.istore 4, 2) := by decide +kernel
theorem dX12_orders_10 : decode cX12_orders 10 = .ok (.iconst 1, 1) := by decide +kernel
theorem dX12_orders_11 : decode cX12_orders 11 = .ok (.istore 5, 2) := by decide +kernel
theorem dX12_orders_13 : decode cX12_orders 13 = .ok (.iload 5, 2) := by decide +kernel
theorem dX12_orders_15 : decode cX12_orders 15 = .ok (.ifCond .eq 120, 3) := by decide +kernel
theorem dX12_orders_18 : decode cX12_orders 18 = .ok (.aload_n 0, 1) := by decide +kernel
theorem dX12_orders_19 : decode cX12_orders 19 = .ok (.invokevirtual 384, 3) := by decide +kernel
theorem dX12_orders_22 : decode cX12_orders 22 = .ok (.iconst 0, 1) := by decide +kernel
theorem dX12_orders_23 : decode cX12_orders 23 = .ok (.istore 6, 2) := by decide +kernel
theorem dX12_orders_25 : decode cX12_orders 25 = .ok (.iload 6, 2) := by decide +kernel
theorem dX12_orders_27 : decode cX12_orders 27 = .ok (.aload_n 0, 1) := by decide +kernel
theorem dX12_orders_28 : decode cX12_orders 28 = .ok (.getfield 411, 3) := by decide +kernel
theorem dX12_orders_31 : decode cX12_orders 31 = .ok (.if_icmp .ge 21, 3) := by decide +kernel
theorem dX12_orders_52 : decode cX12_orders 52 = .ok (.iload 4, 2) := by decide +kernel
theorem dX12_orders_54 : decode cX12_orders 54 = .ok (.ifCond .ne 30, 3) := by decide +kernel
theorem dX12_orders_84 : decode cX12_orders 84 = .ok (.aload_n 0, 1) := by decide +kernel
theorem dX12_orders_85 : decode cX12_orders 85 = .ok (.getfield 119, 3) := by decide +kernel
theorem dX12_orders_88 : decode cX12_orders 88 = .ok (.iconst 0, 1) := by decide +kernel
theorem dX12_orders_89 : decode cX12_orders 89 = .ok (.iaload, 1) := by decide +kernel
theorem dX12_orders_90 : decode cX12_orders 90 = .ok (.istore_n 3, 1) := by decide +kernel
theorem dX12_orders_91 : decode cX12_orders 91 = .ok (.iconst 0, 1) := by decide +kernel
theorem dX12_orders_92 : decode cX12_orders 92 = .ok (.istore 6, 2) := by decide +kernel
theorem dX12_orders_94 : decode cX12_orders 94 = .ok (.iload 6, 2) := by decide +kernel
theorem dX12_orders_96 : decode cX12_orders 96 = .ok (.aload_n 0, 1) := by decide +kernel
theorem dX12_orders_97 : decode cX12_orders 97 = .ok (.getfield 411, 3) := by decide +kernel
theorem dX12_orders_100 : decode cX12_orders 100 = .ok (.if_icmp .ge 23, 3) := by decide +kernel
theorem dX12_orders_123 : decode cX12_orders 123 = .ok (.iconst 0, 1) := by decide +kernel
theorem dX12_orders_124 : decode cX12_orders 124 = .ok (.istore 4, 2) := by decide +kernel
theorem dX12_orders_126 : decode cX12_orders 126 = .ok (.aload_n 0, 1) := by decide +kernel
theorem dX12_orders_127 : decode cX12_orders 127 = .ok (.invokevirtual 417, 3) := by decide +kernel
theorem dX12_orders_130 : decode cX12_orders 130 = .ok (.istore 5, 2) := by decide +kernel
theorem dX12_orders_132 : decode cX12_orders 132 = .ok (.goto (-119), 3) := by decide +kernel
theorem dX12_orders_135 : decode cX12_orders 135 = .ok (.iload_n 3, 1) := by decide +kernel
theorem dX12_orders_136 : decode cX12_orders 136 = .ok (.ireturn, 1) := by decide +kernel
theorem dX12_pause_0 : decode cX12_pause 0 = .ok (.iload_n 1, 1) := by decide +kernel
theorem dX12_pause_1 : decode cX12_pause 1 = .ok (.iconst 0, 1) := by decide +kernel
theorem dX12_pause_2 : decode cX12_pause 2 = .ok (.sipush 3000, 3) := by decide +kernel
theorem dX12_pause_5 : decode cX12_pause 5 = .ok (.invokestatic 323, 3) := by decide +kernel
theorem dX12_pause_8 : decode cX12_pause 8 = .ok (.ifCond .ne 7, 3) := by decide +kernel
theorem dX12_pause_11 : decode cX12_pause 11 = .ok (.ldc_w 387, 3) := by decide +kernel
theorem dX12_pause_14 : decode cX12_pause 14 = .ok (.ireturn, 1) := by decide +kernel
theorem dX12_pause_15 : decode cX12_pause 15 = .ok (.iload_n 1, 1) := by decide +kernel
theorem dX12_pause_16 : decode cX12_pause 16 = .ok (.ifCond .ne 10, 3) := by decide +kernel
theorem dX12_pause_19 : decode cX12_pause 19 = .ok (.aload_n 0, 1) := by decide +kernel
theorem dX12_pause_20 : decode cX12_pause 20 = .ok (.getfield 116, 3) := by decide +kernel
theorem dX12_pause_23 : decode cX12_pause 23 = .ok (.iconst 0, 1) := by decide +kernel
theorem dX12_pause_24 : decode cX12_pause 24 = .ok (.iaload, 1) := by decide +kernel
theorem dX12_pause_25 : decode cX12_pause 25 = .ok (.ireturn, 1) := by decide +kernel
theorem dX12_pause_26 : decode cX12_pause 26 = .ok (.aload_n 0, 1) := by decide +kernel
theorem dX12_pause_27 : decode cX12_pause 27 = .ok (.invokevirtual 384, 3) := by decide +kernel
theorem dX12_pause_30 : decode cX12_pause 30 = .ok (.aload_n 0, 1) := by decide +kernel
theorem dX12_pause_31 : decode cX12_pause 31 = .ok (.iload_n 1, 1) := by decide +kernel
theorem dX12_pause_32 : decode cX12_pause 32 = .ok (.invokevirtual 365, 3) := by decide +kernel
theorem dX12_pause_35 : decode cX12_pause 35 = .ok (.aload_n 0, 1) := by decide +kernel
theorem dX12_pause_36 : decode cX12_pause 36 = .ok (.invokevirtual 394, 3) := by decide +kernel
theorem dX12_pause_39 : decode cX12_pause 39 = .ok (.aload_n 0, 1) := by decide +kernel
theorem dX12_pause_40 : decode cX12_pause 40 = .ok (.getfield 116, 3) := by decide +kernel
theorem dX12_pause_43 : decode cX12_pause 43 = .ok (.iconst 0, 1) := by decide +kernel
theorem dX12_pause_44 : decode cX12_pause 44 = .ok (.iaload, 1) := by decide +kernel
theorem dX12_pause_45 : decode cX12_pause 45 = .ok (.ireturn, 1) := by decide +kernel
theorem dX12_place_0 : decode cX12_place 0 = .ok (.aload_n 0, 1) := by decide +kernel
theorem dX12_place_1 : decode cX12_place 1 = .ok (.getfield 37, 3) := by decide +kernel
theorem dX12_place_4 : decode cX12_place 4 = .ok (.ireturn, 1) := by decide +kernel
theorem dX12_put_0 : decode cX12_put 0 = .ok (.bipush 24, 2) := by decide +kernel
theorem dX12_put_2 : decode cX12_put 2 = .ok (.istore_n 2, 1) := by decide +kernel
theorem dX12_put_3 : decode cX12_put 3 = .ok (.iload_n 2, 1) := by decide +kernel
theorem dX12_put_4 : decode cX12_put 4 = .ok (.ifCond .lt 32, 3) := by decide +kernel
theorem dX12_put_7 : decode cX12_put 7 = .ok (.aload_n 0, 1) := by decide +kernel
theorem dX12_put_8 : decode cX12_put 8 = .ok (.getfield 13, 3) := by decide +kernel
theorem dX12_put_11 : decode cX12_put 11 = .ok (.aload_n 0, 1) := by decide +kernel
theorem dX12_put_12 : decode cX12_put 12 = .ok (.getfield 154, 3) := by decide +kernel
theorem dX12_put_15 : decode cX12_put 15 = .ok (.iload_n 1, 1) := by decide +kernel
theorem dX12_put_16 : decode cX12_put 16 = .ok (.iload_n 2, 1) := by decide +kernel
theorem dX12_put_17 : decode cX12_put 17 = .ok (.ishr, 1) := by decide +kernel
theorem dX12_put_18 : decode cX12_put 18 = .ok (.i2b, 1) := by decide +kernel
theorem dX12_put_19 : decode cX12_put 19 = .ok (.bastore, 1) := by decide +kernel
theorem dX12_put_20 : decode cX12_put 20 = .ok (.aload_n 0, 1) := by decide +kernel
theorem dX12_put_21 : decode cX12_put 21 = .ok (.dup, 1) := by decide +kernel
theorem dX12_put_22 : decode cX12_put 22 = .ok (.getfield 154, 3) := by decide +kernel
theorem dX12_put_25 : decode cX12_put 25 = .ok (.iconst 1, 1) := by decide +kernel
theorem dX12_put_26 : decode cX12_put 26 = .ok (.iadd, 1) := by decide +kernel
theorem dX12_put_27 : decode cX12_put 27 = .ok (.putfield 154, 3) := by decide +kernel
theorem dX12_put_30 : decode cX12_put 30 = .ok (.iinc 2 (-8), 3) := by decide +kernel
theorem dX12_put_33 : decode cX12_put 33 = .ok (.goto (-30), 3) := by decide +kernel
theorem dX12_put_36 : decode cX12_put 36 = .ok (.return_, 1) := by decide +kernel
theorem dX12_read_0 : decode cX12_read 0 = .ok (.aload_n 0, 1) := by decide +kernel
theorem dX12_read_1 : decode cX12_read 1 = .ok (.aload_n 0, 1) := by decide +kernel
theorem dX12_read_2 : decode cX12_read 2 = .ok (.getfield 154, 3) := by decide +kernel
theorem dX12_read_5 : decode cX12_read 5 = .ok (.putfield 161, 3) := by decide +kernel
theorem dX12_read_8 : decode cX12_read 8 = .ok (.iconst 0, 1) := by decide +kernel
theorem dX12_read_9 : decode cX12_read 9 = .ok (.istore_n 1, 1) := by decide +kernel
theorem dX12_read_10 : decode cX12_read 10 = .ok (.iload_n 1, 1) := by decide +kernel
theorem dX12_read_11 : decode cX12_read 11 = .ok (.aload_n 0, 1) := by decide +kernel
theorem dX12_read_12 : decode cX12_read 12 = .ok (.getfield 161, 3) := by decide +kernel
theorem dX12_read_15 : decode cX12_read 15 = .ok (.if_icmp .ge 21, 3) := by decide +kernel
theorem dX12_read_36 : decode cX12_read 36 = .ok (.aload_n 0, 1) := by decide +kernel
theorem dX12_read_37 : decode cX12_read 37 = .ok (.iconst 0, 1) := by decide +kernel
theorem dX12_read_38 : decode cX12_read 38 = .ok (.putfield 154, 3) := by decide +kernel
theorem dX12_read_41 : decode cX12_read 41 = .ok (.aload_n 0, 1) := by decide +kernel
theorem dX12_read_42 : decode cX12_read 42 = .ok (.invokevirtual 216, 3) := by decide +kernel
theorem dX12_read_45 : decode cX12_read 45 = .ok (.aload_n 0, 1) := by decide +kernel
theorem dX12_read_46 : decode cX12_read 46 = .ok (.iconst 0, 1) := by decide +kernel
theorem dX12_read_47 : decode cX12_read 47 = .ok (.putfield 195, 3) := by decide +kernel
theorem dX12_read_50 : decode cX12_read 50 = .ok (.aload_n 0, 1) := by decide +kernel
theorem dX12_read_51 : decode cX12_read 51 = .ok (.iconst 0, 1) := by decide +kernel
theorem dX12_read_52 : decode cX12_read 52 = .ok (.putfield 219, 3) := by decide +kernel
theorem dX12_read_55 : decode cX12_read 55 = .ok (.aload_n 0, 1) := by decide +kernel
theorem dX12_read_56 : decode cX12_read 56 = .ok (.iconst 0, 1) := by decide +kernel
theorem dX12_read_57 : decode cX12_read 57 = .ok (.putfield 192, 3) := by decide +kernel
theorem dX12_read_60 : decode cX12_read 60 = .ok (.aload_n 0, 1) := by decide +kernel
theorem dX12_read_61 : decode cX12_read 61 = .ok (.iconst 0, 1) := by decide +kernel
theorem dX12_read_62 : decode cX12_read 62 = .ok (.putfield 201, 3) := by decide +kernel
theorem dX12_read_65 : decode cX12_read 65 = .ok (.aload_n 0, 1) := by decide +kernel
theorem dX12_read_66 : decode cX12_read 66 = .ok (.iconst 1, 1) := by decide +kernel
theorem dX12_read_67 : decode cX12_read 67 = .ok (.aload_n 0, 1) := by decide +kernel
theorem dX12_read_68 : decode cX12_read 68 = .ok (.getfield 222, 3) := by decide +kernel
theorem dX12_read_71 : decode cX12_read 71 = .ok (.isub, 1) := by decide +kernel
theorem dX12_read_72 : decode cX12_read 72 = .ok (.putfield 225, 3) := by decide +kernel
theorem dX12_read_75 : decode cX12_read 75 = .ok (.aload_n 0, 1) := by decide +kernel
theorem dX12_read_76 : decode cX12_read 76 = .ok (.iconst 0, 1) := by decide +kernel
theorem dX12_read_77 : decode cX12_read 77 = .ok (.putfield 228, 3) := by decide +kernel
theorem dX12_read_80 : decode cX12_read 80 = .ok (.aload_n 0, 1) := by decide +kernel
theorem dX12_read_81 : decode cX12_read 81 = .ok (.getfield 49, 3) := by decide +kernel
theorem dX12_read_84 : decode cX12_read 84 = .ok (.aload_n 0, 1) := by decide +kernel
theorem dX12_read_85 : decode cX12_read 85 = .ok (.getfield 225, 3) := by decide +kernel
theorem dX12_read_88 : decode cX12_read 88 = .ok (.iconst 0, 1) := by decide +kernel
theorem dX12_read_89 : decode cX12_read 89 = .ok (.iastore, 1) := by decide +kernel
theorem dX12_read_90 : decode cX12_read 90 = .ok (.aload_n 0, 1) := by decide +kernel
theorem dX12_read_91 : decode cX12_read 91 = .ok (.getfield 52, 3) := by decide +kernel
theorem dX12_read_94 : decode cX12_read 94 = .ok (.aload_n 0, 1) := by decide +kernel
theorem dX12_read_95 : decode cX12_read 95 = .ok (.getfield 225, 3) := by decide +kernel
theorem dX12_read_98 : decode cX12_read 98 = .ok (.iconst 0, 1) := by decide +kernel
theorem dX12_read_99 : decode cX12_read 99 = .ok (.iastore, 1) := by decide +kernel
theorem dX12_read_100 : decode cX12_read 100 = .ok (.aload_n 0, 1) := by decide +kernel
theorem dX12_read_101 : decode cX12_read 101 = .ok (.getfield 55, 3) := by decide +kernel
theorem dX12_read_104 : decode cX12_read 104 = .ok (.aload_n 0, 1) := by decide +kernel
theorem dX12_read_105 : decode cX12_read 105 = .ok (.getfield 225, 3) := by decide +kernel
theorem dX12_read_108 : decode cX12_read 108 = .ok (.iconst 0, 1) := by decide +kernel
theorem dX12_read_109 : decode cX12_read 109 = .ok (.iastore, 1) := by decide +kernel
theorem dX12_read_110 : decode cX12_read 110 = .ok (.aload_n 0, 1) := by decide +kernel
theorem dX12_read_111 : decode cX12_read 111 = .ok (.getfield 58, 3) := by decide +kernel
theorem dX12_read_114 : decode cX12_read 114 = .ok (.aload_n 0, 1) := by decide +kernel
theorem dX12_read_115 : decode cX12_read 115 = .ok (.getfield 225, 3) := by decide +kernel
theorem dX12_read_118 : decode cX12_read 118 = .ok (.iconst 0, 1) := by decide +kernel
theorem dX12_read_119 : decode cX12_read 119 = .ok (.iastore, 1) := by decide +kernel
theorem dX12_read_120 : decode cX12_read 120 = .ok (.aload_n 0, 1) := by decide +kernel
theorem dX12_read_121 : decode cX12_read 121 = .ok (.getfield 61, 3) := by decide +kernel
theorem dX12_read_124 : decode cX12_read 124 = .ok (.aload_n 0, 1) := by decide +kernel
theorem dX12_read_125 : decode cX12_read 125 = .ok (.getfield 225, 3) := by decide +kernel
theorem dX12_read_128 : decode cX12_read 128 = .ok (.iconst 0, 1) := by decide +kernel
theorem dX12_read_129 : decode cX12_read 129 = .ok (.iastore, 1) := by decide +kernel
theorem dX12_read_130 : decode cX12_read 130 = .ok (.aload_n 0, 1) := by decide +kernel
theorem dX12_read_131 : decode cX12_read 131 = .ok (.getfield 74, 3) := by decide +kernel
theorem dX12_read_134 : decode cX12_read 134 = .ok (.aload_n 0, 1) := by decide +kernel
theorem dX12_read_135 : decode cX12_read 135 = .ok (.getfield 225, 3) := by decide +kernel
theorem dX12_read_138 : decode cX12_read 138 = .ok (.iconst 0, 1) := by decide +kernel
theorem dX12_read_139 : decode cX12_read 139 = .ok (.iastore, 1) := by decide +kernel
theorem dX12_read_140 : decode cX12_read 140 = .ok (.aload_n 0, 1) := by decide +kernel
theorem dX12_read_141 : decode cX12_read 141 = .ok (.getfield 89, 3) := by decide +kernel
theorem dX12_read_144 : decode cX12_read 144 = .ok (.aload_n 0, 1) := by decide +kernel
theorem dX12_read_145 : decode cX12_read 145 = .ok (.getfield 225, 3) := by decide +kernel
theorem dX12_read_148 : decode cX12_read 148 = .ok (.iconst 0, 1) := by decide +kernel
theorem dX12_read_149 : decode cX12_read 149 = .ok (.iastore, 1) := by decide +kernel
theorem dX12_read_150 : decode cX12_read 150 = .ok (.aload_n 0, 1) := by decide +kernel
theorem dX12_read_151 : decode cX12_read 151 = .ok (.sipush 420, 3) := by decide +kernel
theorem dX12_read_154 : decode cX12_read 154 = .ok (.aload_n 0, 1) := by decide +kernel
theorem dX12_read_155 : decode cX12_read 155 = .ok (.getfield 225, 3) := by decide +kernel
theorem dX12_read_158 : decode cX12_read 158 = .ok (.imul, 1) := by decide +kernel
theorem dX12_read_159 : decode cX12_read 159 = .ok (.putfield 231, 3) := by decide +kernel
theorem dX12_read_162 : decode cX12_read 162 = .ok (.iconst 0, 1) := by decide +kernel
theorem dX12_read_163 : decode cX12_read 163 = .ok (.istore_n 1, 1) := by decide +kernel
theorem dX12_read_164 : decode cX12_read 164 = .ok (.iload_n 1, 1) := by decide +kernel
theorem dX12_read_165 : decode cX12_read 165 = .ok (.iconst 2, 1) := by decide +kernel
theorem dX12_read_166 : decode cX12_read 166 = .ok (.if_icmp .ge 37, 3) := by decide +kernel
theorem dX12_read_169 : decode cX12_read 169 = .ok (.aload_n 0, 1) := by decide +kernel
theorem dX12_read_170 : decode cX12_read 170 = .ok (.getfield 83, 3) := by decide +kernel
theorem dX12_read_173 : decode cX12_read 173 = .ok (.iconst 2, 1) := by decide +kernel
theorem dX12_read_174 : decode cX12_read 174 = .ok (.aload_n 0, 1) := by decide +kernel
theorem dX12_read_175 : decode cX12_read 175 = .ok (.getfield 225, 3) := by decide +kernel
theorem dX12_read_178 : decode cX12_read 178 = .ok (.imul, 1) := by decide +kernel
theorem dX12_read_179 : decode cX12_read 179 = .ok (.iload_n 1, 1) := by decide +kernel
theorem dX12_read_180 : decode cX12_read 180 = .ok (.iadd, 1) := by decide +kernel
theorem dX12_read_181 : decode cX12_read 181 = .ok (.iconst 0, 1) := by decide +kernel
theorem dX12_read_182 : decode cX12_read 182 = .ok (.iastore, 1) := by decide +kernel
theorem dX12_read_183 : decode cX12_read 183 = .ok (.aload_n 0, 1) := by decide +kernel
theorem dX12_read_184 : decode cX12_read 184 = .ok (.getfield 86, 3) := by decide +kernel
theorem dX12_read_187 : decode cX12_read 187 = .ok (.iconst 2, 1) := by decide +kernel
theorem dX12_read_188 : decode cX12_read 188 = .ok (.aload_n 0, 1) := by decide +kernel
theorem dX12_read_189 : decode cX12_read 189 = .ok (.getfield 225, 3) := by decide +kernel
theorem dX12_read_192 : decode cX12_read 192 = .ok (.imul, 1) := by decide +kernel
theorem dX12_read_193 : decode cX12_read 193 = .ok (.iload_n 1, 1) := by decide +kernel
theorem dX12_read_194 : decode cX12_read 194 = .ok (.iadd, 1) := by decide +kernel
theorem dX12_read_195 : decode cX12_read 195 = .ok (.iconst 0, 1) := by decide +kernel
theorem dX12_read_196 : decode cX12_read 196 = .ok (.iastore, 1) := by decide +kernel
theorem dX12_read_197 : decode cX12_read 197 = .ok (.iinc 1 1, 3) := by decide +kernel
theorem dX12_read_200 : decode cX12_read 200 = .ok (.goto (-36), 3) := by decide +kernel
theorem dX12_read_203 : decode cX12_read 203 = .ok (.aload_n 0, 1) := by decide +kernel
theorem dX12_read_204 : decode cX12_read 204 = .ok (.getfield 192, 3) := by decide +kernel
theorem dX12_read_207 : decode cX12_read 207 = .ok (.ifCond .ne 18, 3) := by decide +kernel
theorem dX12_read_210 : decode cX12_read 210 = .ok (.aload_n 0, 1) := by decide +kernel
theorem dX12_read_211 : decode cX12_read 211 = .ok (.iconst 0, 1) := by decide +kernel
theorem dX12_read_212 : decode cX12_read 212 = .ok (.invokevirtual 210, 3) := by decide +kernel
theorem dX12_read_215 : decode cX12_read 215 = .ok (.ifCond .ne 10, 3) := by decide +kernel
theorem dX12_read_225 : decode cX12_read 225 = .ok (.aload_n 0, 1) := by decide +kernel
theorem dX12_read_226 : decode cX12_read 226 = .ok (.aload_n 0, 1) := by decide +kernel
theorem dX12_read_227 : decode cX12_read 227 = .ok (.getfield 192, 3) := by decide +kernel
theorem dX12_read_230 : decode cX12_read 230 = .ok (.ifCond .le 10, 3) := by decide +kernel
theorem dX12_read_240 : decode cX12_read 240 = .ok (.aload_n 0, 1) := by decide +kernel
theorem dX12_read_241 : decode cX12_read 241 = .ok (.getfield 201, 3) := by decide +kernel
theorem dX12_read_244 : decode cX12_read 244 = .ok (.ifCond .le 10, 3) := by decide +kernel
theorem dX12_read_254 : decode cX12_read 254 = .ok (.iconst (-1), 1) := by decide +kernel
theorem dX12_read_255 : decode cX12_read 255 = .ok (.putfield 37, 3) := by decide +kernel
theorem dX12_read_258 : decode cX12_read 258 = .ok (.aload_n 0, 1) := by decide +kernel
theorem dX12_read_259 : decode cX12_read 259 = .ok (.getfield 192, 3) := by decide +kernel
theorem dX12_read_262 : decode cX12_read 262 = .ok (.ifCond .le 8, 3) := by decide +kernel
theorem dX12_read_270 : decode cX12_read 270 = .ok (.aload_n 0, 1) := by decide +kernel
theorem dX12_read_271 : decode cX12_read 271 = .ok (.getfield 201, 3) := by decide +kernel
theorem dX12_read_274 : decode cX12_read 274 = .ok (.ifCond .le 8, 3) := by decide +kernel
theorem dX12_read_282 : decode cX12_read 282 = .ok (.aload_n 0, 1) := by decide +kernel
theorem dX12_read_283 : decode cX12_read 283 = .ok (.aload_n 0, 1) := by decide +kernel
theorem dX12_read_284 : decode cX12_read 284 = .ok (.getfield 225, 3) := by decide +kernel
theorem dX12_read_287 : decode cX12_read 287 = .ok (.putfield 222, 3) := by decide +kernel
theorem dX12_read_290 : decode cX12_read 290 = .ok (.aload_n 0, 1) := by decide +kernel
theorem dX12_read_291 : decode cX12_read 291 = .ok (.invokevirtual 237, 3) := by decide +kernel
theorem dX12_read_294 : decode cX12_read 294 = .ok (.iconst 0, 1) := by decide +kernel
theorem dX12_read_295 : decode cX12_read 295 = .ok (.istore_n 1, 1) := by decide +kernel
theorem dX12_read_296 : decode cX12_read 296 = .ok (.iload_n 1, 1) := by decide +kernel
theorem dX12_read_297 : decode cX12_read 297 = .ok (.bipush 40, 2) := by decide +kernel
theorem dX12_read_299 : decode cX12_read 299 = .ok (.if_icmp .ge 21, 3) := by decide +kernel
theorem dX12_read_302 : decode cX12_read 302 = .ok (.aload_n 0, 1) := by decide +kernel
theorem dX12_read_303 : decode cX12_read 303 = .ok (.getfield 116, 3) := by decide +kernel
theorem dX12_read_306 : decode cX12_read 306 = .ok (.iload_n 1, 1) := by decide +kernel
theorem dX12_read_307 : decode cX12_read 307 = .ok (.aload_n 0, 1) := by decide +kernel
theorem dX12_read_308 : decode cX12_read 308 = .ok (.getfield 119, 3) := by decide +kernel
theorem dX12_read_311 : decode cX12_read 311 = .ok (.iload_n 1, 1) := by decide +kernel
theorem dX12_read_312 : decode cX12_read 312 = .ok (.iaload, 1) := by decide +kernel
theorem dX12_read_313 : decode cX12_read 313 = .ok (.iastore, 1) := by decide +kernel
theorem dX12_read_314 : decode cX12_read 314 = .ok (.iinc 1 1, 3) := by decide +kernel
theorem dX12_read_317 : decode cX12_read 317 = .ok (.goto (-21), 3) := by decide +kernel
theorem dX12_read_320 : decode cX12_read 320 = .ok (.aload_n 0, 1) := by decide +kernel
theorem dX12_read_321 : decode cX12_read 321 = .ok (.iconst 0, 1) := by decide +kernel
theorem dX12_read_322 : decode cX12_read 322 = .ok (.putfield 240, 3) := by decide +kernel
theorem dX12_read_325 : decode cX12_read 325 = .ok (.aload_n 0, 1) := by decide +kernel
theorem dX12_read_326 : decode cX12_read 326 = .ok (.iconst 0, 1) := by decide +kernel
theorem dX12_read_327 : decode cX12_read 327 = .ok (.putfield 243, 3) := by decide +kernel
theorem dX12_read_330 : decode cX12_read 330 = .ok (.iconst 0, 1) := by decide +kernel
theorem dX12_read_331 : decode cX12_read 331 = .ok (.istore_n 1, 1) := by decide +kernel
theorem dX12_read_332 : decode cX12_read 332 = .ok (.iload_n 1, 1) := by decide +kernel
theorem dX12_read_333 : decode cX12_read 333 = .ok (.iconst 3, 1) := by decide +kernel
theorem dX12_read_334 : decode cX12_read 334 = .ok (.if_icmp .ge 16, 3) := by decide +kernel
theorem dX12_read_337 : decode cX12_read 337 = .ok (.aload_n 0, 1) := by decide +kernel
theorem dX12_read_338 : decode cX12_read 338 = .ok (.getfield 144, 3) := by decide +kernel
theorem dX12_read_341 : decode cX12_read 341 = .ok (.iload_n 1, 1) := by decide +kernel
theorem dX12_read_342 : decode cX12_read 342 = .ok (.iconst 0, 1) := by decide +kernel
theorem dX12_read_343 : decode cX12_read 343 = .ok (.bastore, 1) := by decide +kernel
theorem dX12_read_344 : decode cX12_read 344 = .ok (.iinc 1 1, 3) := by decide +kernel
theorem dX12_read_347 : decode cX12_read 347 = .ok (.goto (-15), 3) := by decide +kernel
theorem dX12_read_350 : decode cX12_read 350 = .ok (.iconst 0, 1) := by decide +kernel
theorem dX12_read_351 : decode cX12_read 351 = .ok (.ireturn, 1) := by decide +kernel
theorem dX12_restore_0 : decode cX12_restore 0 = .ok (.iload_n 1, 1) := by decide +kernel
theorem dX12_restore_1 : decode cX12_restore 1 = .ok (.iconst 0, 1) := by decide +kernel
theorem dX12_restore_2 : decode cX12_restore 2 = .ok (.iconst 2, 1) := by decide +kernel
theorem dX12_restore_3 : decode cX12_restore 3 = .ok (.invokestatic 323, 3) := by decide +kernel
theorem dX12_restore_6 : decode cX12_restore 6 = .ok (.ifCond .eq 12, 3) := by decide +kernel
theorem dX12_restore_9 : decode cX12_restore 9 = .ok (.aload_n 0, 1) := by decide +kernel
theorem dX12_restore_10 : decode cX12_restore 10 = .ok (.getfield 144, 3) := by decide +kernel
theorem dX12_restore_13 : decode cX12_restore 13 = .ok (.iload_n 1, 1) := by decide +kernel
theorem dX12_restore_14 : decode cX12_restore 14 = .ok (.baload, 1) := by decide +kernel
theorem dX12_restore_15 : decode cX12_restore 15 = .ok (.ifCond .ne 5, 3) := by decide +kernel
theorem dX12_restore_18 : decode cX12_restore 18 = .ok (.iconst 0, 1) := by decide +kernel
theorem dX12_restore_19 : decode cX12_restore 19 = .ok (.ireturn, 1) := by decide +kernel
theorem dX12_say_0 : decode cX12_say 0 = .ok (.aload_n 0, 1) := by decide +kernel
theorem dX12_say_1 : decode cX12_say 1 = .ok (.iload_n 1, 1) := by decide +kernel
theorem dX12_say_2 : decode cX12_say 2 = .ok (.invokevirtual 371, 3) := by decide +kernel
theorem dX12_say_5 : decode cX12_say 5 = .ok (.ifCond .ne 5, 3) := by decide +kernel
theorem dX12_say_8 : decode cX12_say 8 = .ok (.iconst (-1), 1) := by decide +kernel
theorem dX12_say_9 : decode cX12_say 9 = .ok (.ireturn, 1) := by decide +kernel
theorem dX12_settled_0 : decode cX12_settled 0 = .ok (.aload_n 0, 1) := by decide +kernel
theorem dX12_settled_1 : decode cX12_settled 1 = .ok (.iload_n 1, 1) := by decide +kernel
theorem dX12_settled_2 : decode cX12_settled 2 = .ok (.invokevirtual 388, 3) := by decide +kernel
theorem dX12_settled_5 : decode cX12_settled 5 = .ok (.ifCond .ne 5, 3) := by decide +kernel
theorem dX12_settled_8 : decode cX12_settled 8 = .ok (.iconst (-1), 1) := by decide +kernel
theorem dX12_settled_9 : decode cX12_settled 9 = .ok (.ireturn, 1) := by decide +kernel
theorem dX12_share_0 : decode cX12_share 0 = .ok (.aload_n 0, 1) := by decide +kernel
theorem dX12_share_1 : decode cX12_share 1 = .ok (.iload_n 1, 1) := by decide +kernel
theorem dX12_share_2 : decode cX12_share 2 = .ok (.invokevirtual 381, 3) := by decide +kernel
theorem dX12_share_5 : decode cX12_share 5 = .ok (.ifCond .eq 15, 3) := by decide +kernel
theorem dX12_share_20 : decode cX12_share 20 = .ok (.ldc_w 387, 3) := by decide +kernel
theorem dX12_share_23 : decode cX12_share 23 = .ok (.ireturn, 1) := by decide +kernel
theorem dX12_smallest_0 : decode cX12_smallest 0 = .ok (.aload_n 0, 1) := by decide +kernel
theorem dX12_smallest_1 : decode cX12_smallest 1 = .ok (.ldc_w 428, 3) := by decide +kernel
theorem dX12_smallest_4 : decode cX12_smallest 4 = .ok (.invokevirtual 429, 3) := by decide +kernel
theorem dX12_smallest_7 : decode cX12_smallest 7 = .ok (.bipush (-2), 2) := by decide +kernel
theorem dX12_smallest_9 : decode cX12_smallest 9 = .ok (.istore_n 1, 1) := by decide +kernel
theorem dX12_smallest_10 : decode cX12_smallest 10 = .ok (.iconst 1, 1) := by decide +kernel
theorem dX12_smallest_11 : decode cX12_smallest 11 = .ok (.istore_n 2, 1) := by decide +kernel
theorem dX12_smallest_12 : decode cX12_smallest 12 = .ok (.iload_n 2, 1) := by decide +kernel
theorem dX12_smallest_13 : decode cX12_smallest 13 = .ok (.iconst 1, 1) := by decide +kernel
theorem dX12_smallest_14 : decode cX12_smallest 14 = .ok (.aload_n 0, 1) := by decide +kernel
theorem dX12_smallest_15 : decode cX12_smallest 15 = .ok (.getfield 61, 3) := by decide +kernel
theorem dX12_smallest_18 : decode cX12_smallest 18 = .ok (.aload_n 0, 1) := by decide +kernel
theorem dX12_smallest_19 : decode cX12_smallest 19 = .ok (.getfield 222, 3) := by decide +kernel
theorem dX12_smallest_22 : decode cX12_smallest 22 = .ok (.iaload, 1) := by decide +kernel
theorem dX12_smallest_23 : decode cX12_smallest 23 = .ok (.ishl, 1) := by decide +kernel
theorem dX12_smallest_24 : decode cX12_smallest 24 = .ok (.if_icmp .ge 37, 3) := by decide +kernel
theorem dX12_smallest_61 : decode cX12_smallest 61 = .ok (.iload_n 1, 1) := by decide +kernel
theorem dX12_smallest_62 : decode cX12_smallest 62 = .ok (.ireturn, 1) := by decide +kernel
theorem dX12_states_0 : decode cX12_states 0 = .ok (.aload_n 0, 1) := by decide +kernel
theorem dX12_states_1 : decode cX12_states 1 = .ok (.iload_n 1, 1) := by decide +kernel
theorem dX12_states_2 : decode cX12_states 2 = .ok (.invokevirtual 420, 3) := by decide +kernel
theorem dX12_states_5 : decode cX12_states 5 = .ok (.ifCond .ne 5, 3) := by decide +kernel
theorem dX12_states_8 : decode cX12_states 8 = .ok (.iconst (-1), 1) := by decide +kernel
theorem dX12_states_9 : decode cX12_states 9 = .ok (.ireturn, 1) := by decide +kernel
theorem dX12_states_10 : decode cX12_states 10 = .ok (.aload_n 0, 1) := by decide +kernel
theorem dX12_states_11 : decode cX12_states 11 = .ok (.aload_n 0, 1) := by decide +kernel
theorem dX12_states_12 : decode cX12_states 12 = .ok (.getfield 116, 3) := by decide +kernel
theorem dX12_states_15 : decode cX12_states 15 = .ok (.iconst 3, 1) := by decide +kernel
theorem dX12_states_16 : decode cX12_states 16 = .ok (.iaload, 1) := by decide +kernel
theorem dX12_states_17 : decode cX12_states 17 = .ok (.invokevirtual 330, 3) := by decide +kernel
theorem dX12_states_20 : decode cX12_states 20 = .ok (.lstore_n 2, 1) := by decide +kernel
theorem dX12_states_21 : decode cX12_states 21 = .ok (.iconst 0, 1) := by decide +kernel
theorem dX12_states_22 : decode cX12_states 22 = .ok (.istore 4, 2) := by decide +kernel
theorem dX12_states_24 : decode cX12_states 24 = .ok (.iload 4, 2) := by decide +kernel
theorem dX12_states_26 : decode cX12_states 26 = .ok (.aload_n 0, 1) := by decide +kernel
theorem dX12_states_27 : decode cX12_states 27 = .ok (.getfield 61, 3) := by decide +kernel
theorem dX12_states_30 : decode cX12_states 30 = .ok (.aload_n 0, 1) := by decide +kernel
theorem dX12_states_31 : decode cX12_states 31 = .ok (.getfield 222, 3) := by decide +kernel
theorem dX12_states_34 : decode cX12_states 34 = .ok (.iaload, 1) := by decide +kernel
theorem dX12_states_35 : decode cX12_states 35 = .ok (.if_icmp .ge 28, 3) := by decide +kernel
theorem dX12_states_63 : decode cX12_states 63 = .ok (.lload_n 2, 1) := by decide +kernel
theorem dX12_states_64 : decode cX12_states 64 = .ok (.invokestatic 377, 3) := by decide +kernel
theorem dX12_states_67 : decode cX12_states 67 = .ok (.ireturn, 1) := by decide +kernel
theorem dX12_surely_0 : decode cX12_surely 0 = .ok (.iload_n 1, 1) := by decide +kernel
theorem dX12_surely_1 : decode cX12_surely 1 = .ok (.iconst 0, 1) := by decide +kernel
theorem dX12_surely_2 : decode cX12_surely 2 = .ok (.aload_n 0, 1) := by decide +kernel
theorem dX12_surely_3 : decode cX12_surely 3 = .ok (.getfield 243, 3) := by decide +kernel
theorem dX12_surely_6 : decode cX12_surely 6 = .ok (.invokestatic 323, 3) := by decide +kernel
theorem dX12_surely_9 : decode cX12_surely 9 = .ok (.ifCond .ne 5, 3) := by decide +kernel
theorem dX12_surely_12 : decode cX12_surely 12 = .ok (.iconst (-1), 1) := by decide +kernel
theorem dX12_surely_13 : decode cX12_surely 13 = .ok (.ireturn, 1) := by decide +kernel
theorem dX12_surely_14 : decode cX12_surely 14 = .ok (.aload_n 0, 1) := by decide +kernel
theorem dX12_surely_15 : decode cX12_surely 15 = .ok (.iload_n 1, 1) := by decide +kernel
theorem dX12_surely_16 : decode cX12_surely 16 = .ok (.invokevirtual 445, 3) := by decide +kernel
theorem dX12_surely_19 : decode cX12_surely 19 = .ok (.aload_n 0, 1) := by decide +kernel
theorem dX12_surely_20 : decode cX12_surely 20 = .ok (.getfield 436, 3) := by decide +kernel
theorem dX12_surely_23 : decode cX12_surely 23 = .ok (.ireturn, 1) := by decide +kernel
theorem dX12_token_0 : decode cX12_token 0 = .ok (.aload_n 0, 1) := by decide +kernel
theorem dX12_token_1 : decode cX12_token 1 = .ok (.getfield 20, 3) := by decide +kernel
theorem dX12_token_4 : decode cX12_token 4 = .ok (.aload_n 0, 1) := by decide +kernel
theorem dX12_token_5 : decode cX12_token 5 = .ok (.getfield 170, 3) := by decide +kernel
theorem dX12_token_8 : decode cX12_token 8 = .ok (.iload_n 1, 1) := by decide +kernel
theorem dX12_token_9 : decode cX12_token 9 = .ok (.iastore, 1) := by decide +kernel
theorem dX12_token_10 : decode cX12_token 10 = .ok (.aload_n 0, 1) := by decide +kernel
theorem dX12_token_11 : decode cX12_token 11 = .ok (.getfield 24, 3) := by decide +kernel
theorem dX12_token_14 : decode cX12_token 14 = .ok (.aload_n 0, 1) := by decide +kernel
theorem dX12_token_15 : decode cX12_token 15 = .ok (.getfield 170, 3) := by decide +kernel
theorem dX12_token_18 : decode cX12_token 18 = .ok (.iload_n 2, 1) := by decide +kernel
theorem dX12_token_19 : decode cX12_token 19 = .ok (.iastore, 1) := by decide +kernel
theorem dX12_token_20 : decode cX12_token 20 = .ok (.aload_n 0, 1) := by decide +kernel
theorem dX12_token_21 : decode cX12_token 21 = .ok (.getfield 27, 3) := by decide +kernel
theorem dX12_token_24 : decode cX12_token 24 = .ok (.aload_n 0, 1) := by decide +kernel
theorem dX12_token_25 : decode cX12_token 25 = .ok (.getfield 170, 3) := by decide +kernel
theorem dX12_token_28 : decode cX12_token 28 = .ok (.iload_n 3, 1) := by decide +kernel
theorem dX12_token_29 : decode cX12_token 29 = .ok (.iastore, 1) := by decide +kernel
theorem dX12_token_30 : decode cX12_token 30 = .ok (.aload_n 0, 1) := by decide +kernel
theorem dX12_token_31 : decode cX12_token 31 = .ok (.getfield 30, 3) := by decide +kernel
theorem dX12_token_34 : decode cX12_token 34 = .ok (.aload_n 0, 1) := by decide +kernel
theorem dX12_token_35 : decode cX12_token 35 = .ok (.getfield 170, 3) := by decide +kernel
theorem dX12_token_38 : decode cX12_token 38 = .ok (.lload 4, 2) := by decide +kernel
theorem dX12_token_40 : decode cX12_token 40 = .ok (.lastore, 1) := by decide +kernel
theorem dX12_token_41 : decode cX12_token 41 = .ok (.aload_n 0, 1) := by decide +kernel
theorem dX12_token_42 : decode cX12_token 42 = .ok (.dup, 1) := by decide +kernel
theorem dX12_token_43 : decode cX12_token 43 = .ok (.getfield 170, 3) := by decide +kernel
theorem dX12_token_46 : decode cX12_token 46 = .ok (.iconst 1, 1) := by decide +kernel
theorem dX12_token_47 : decode cX12_token 47 = .ok (.iadd, 1) := by decide +kernel
theorem dX12_token_48 : decode cX12_token 48 = .ok (.putfield 170, 3) := by decide +kernel
theorem dX12_token_51 : decode cX12_token 51 = .ok (.return_, 1) := by decide +kernel
theorem dX12_undo_0 : decode cX12_undo 0 = .ok (.aload_n 0, 1) := by decide +kernel
theorem dX12_undo_1 : decode cX12_undo 1 = .ok (.getfield 240, 3) := by decide +kernel
theorem dX12_undo_4 : decode cX12_undo 4 = .ok (.ifCond .ne 5, 3) := by decide +kernel
theorem dX12_undo_7 : decode cX12_undo 7 = .ok (.iconst 0, 1) := by decide +kernel
theorem dX12_undo_8 : decode cX12_undo 8 = .ok (.ireturn, 1) := by decide +kernel
theorem dX12_witness_0 : decode cX12_witness 0 = .ok (.aload_n 0, 1) := by decide +kernel
theorem dX12_witness_1 : decode cX12_witness 1 = .ok (.iload_n 1, 1) := by decide +kernel
theorem dX12_witness_2 : decode cX12_witness 2 = .ok (.invokevirtual 381, 3) := by decide +kernel
theorem dX12_witness_5 : decode cX12_witness 5 = .ok (.ifCond .ne 5, 3) := by decide +kernel
theorem dX12_witness_8 : decode cX12_witness 8 = .ok (.iconst (-1), 1) := by decide +kernel
theorem dX12_witness_9 : decode cX12_witness 9 = .ok (.ireturn, 1) := by decide +kernel
theorem dX12_word_0 : decode cX12_word 0 = .ok (.lconst 0, 1) := by decide +kernel
theorem dX12_word_1 : decode cX12_word 1 = .ok (.iload_n 0, 1) := by decide +kernel
theorem dX12_word_2 : decode cX12_word 2 = .ok (.invokestatic 166, 3) := by decide +kernel
theorem dX12_word_5 : decode cX12_word 5 = .ok (.iload_n 1, 1) := by decide +kernel
theorem dX12_word_6 : decode cX12_word 6 = .ok (.invokestatic 166, 3) := by decide +kernel
theorem dX12_word_9 : decode cX12_word 9 = .ok (.iload_n 2, 1) := by decide +kernel
theorem dX12_word_10 : decode cX12_word 10 = .ok (.invokestatic 166, 3) := by decide +kernel
theorem dX12_word_13 : decode cX12_word 13 = .ok (.iload_n 3, 1) := by decide +kernel
theorem dX12_word_14 : decode cX12_word 14 = .ok (.invokestatic 166, 3) := by decide +kernel
theorem dX12_word_17 : decode cX12_word 17 = .ok (.iload 4, 2) := by decide +kernel
theorem dX12_word_19 : decode cX12_word 19 = .ok (.invokestatic 166, 3) := by decide +kernel
theorem dX12_word_22 : decode cX12_word 22 = .ok (.iload 5, 2) := by decide +kernel
theorem dX12_word_24 : decode cX12_word 24 = .ok (.invokestatic 166, 3) := by decide +kernel
theorem dX12_word_27 : decode cX12_word 27 = .ok (.iload 6, 2) := by decide +kernel
theorem dX12_word_29 : decode cX12_word 29 = .ok (.invokestatic 166, 3) := by decide +kernel
theorem dX12_word_32 : decode cX12_word 32 = .ok (.lreturn, 1) := by decide +kernel
theorem dX12_word__0 : decode cX12_word_ 0 = .ok (.aload_n 0, 1) := by decide +kernel
theorem dX12_word__1 : decode cX12_word_ 1 = .ok (.iload_n 1, 1) := by decide +kernel
theorem dX12_word__2 : decode cX12_word_ 2 = .ok (.invokevirtual 371, 3) := by decide +kernel
theorem dX12_word__5 : decode cX12_word_ 5 = .ok (.ifCond .ne 5, 3) := by decide +kernel
theorem dX12_word__8 : decode cX12_word_ 8 = .ok (.iconst (-1), 1) := by decide +kernel
theorem dX12_word__9 : decode cX12_word_ 9 = .ok (.ireturn, 1) := by decide +kernel
theorem dX12_would_0 : decode cX12_would 0 = .ok (.aload_n 0, 1) := by decide +kernel
theorem dX12_would_1 : decode cX12_would 1 = .ok (.iload_n 1, 1) := by decide +kernel
theorem dX12_would_2 : decode cX12_would 2 = .ok (.invokevirtual 371, 3) := by decide +kernel
theorem dX12_would_5 : decode cX12_would 5 = .ok (.ifCond .ne 7, 3) := by decide +kernel
theorem dX12_would_8 : decode cX12_would 8 = .ok (.ldc_w 387, 3) := by decide +kernel
theorem dX12_would_11 : decode cX12_would 11 = .ok (.ireturn, 1) := by decide +kernel
theorem dX12_write_0 : decode cX12_write 0 = .ok (.aload_n 0, 1) := by decide +kernel
theorem dX12_write_1 : decode cX12_write 1 = .ok (.getfield 243, 3) := by decide +kernel
theorem dX12_write_4 : decode cX12_write 4 = .ok (.iconst 5, 1) := by decide +kernel
theorem dX12_write_5 : decode cX12_write 5 = .ok (.if_icmp .eq 16, 3) := by decide +kernel
theorem dX12_write_8 : decode cX12_write 8 = .ok (.iload_n 1, 1) := by decide +kernel
theorem dX12_write_9 : decode cX12_write 9 = .ok (.ldc_w 364, 3) := by decide +kernel
theorem dX12_write_12 : decode cX12_write 12 = .ok (.ldc_w 333, 3) := by decide +kernel
theorem dX12_write_15 : decode cX12_write 15 = .ok (.invokestatic 323, 3) := by decide +kernel
theorem dX12_write_18 : decode cX12_write 18 = .ok (.ifCond .ne 5, 3) := by decide +kernel
theorem dX12_write_21 : decode cX12_write 21 = .ok (.iconst (-1), 1) := by decide +kernel
theorem dX12_write_22 : decode cX12_write 22 = .ok (.ireturn, 1) := by decide +kernel
theorem dX12_write_23 : decode cX12_write 23 = .ok (.aload_n 0, 1) := by decide +kernel
theorem dX12_write_24 : decode cX12_write 24 = .ok (.getfield 138, 3) := by decide +kernel
theorem dX12_write_27 : decode cX12_write 27 = .ok (.aload_n 0, 1) := by decide +kernel
theorem dX12_write_28 : decode cX12_write 28 = .ok (.getfield 243, 3) := by decide +kernel
theorem dX12_write_31 : decode cX12_write 31 = .ok (.iload_n 1, 1) := by decide +kernel
theorem dX12_write_32 : decode cX12_write 32 = .ok (.iastore, 1) := by decide +kernel
theorem dX12_write_33 : decode cX12_write 33 = .ok (.aload_n 0, 1) := by decide +kernel
theorem dX12_write_34 : decode cX12_write 34 = .ok (.dup, 1) := by decide +kernel
theorem dX12_write_35 : decode cX12_write 35 = .ok (.getfield 243, 3) := by decide +kernel
theorem dX12_write_38 : decode cX12_write 38 = .ok (.iconst 1, 1) := by decide +kernel
theorem dX12_write_39 : decode cX12_write 39 = .ok (.iadd, 1) := by decide +kernel
theorem dX12_write_40 : decode cX12_write 40 = .ok (.putfield 243, 3) := by decide +kernel
theorem dX12_write_43 : decode cX12_write 43 = .ok (.aload_n 0, 1) := by decide +kernel
theorem dX12_write_44 : decode cX12_write 44 = .ok (.getfield 243, 3) := by decide +kernel
theorem dX12_write_47 : decode cX12_write 47 = .ok (.iconst 1, 1) := by decide +kernel
theorem dX12_write_48 : decode cX12_write 48 = .ok (.isub, 1) := by decide +kernel
theorem dX12_write_49 : decode cX12_write 49 = .ok (.ireturn, 1) := by decide +kernel
theorem dX1_add_0 : decode cX1_add 0 = .ok (.aload_n 0, 1) := by decide +kernel
theorem dX1_add_1 : decode cX1_add 1 = .ok (.getfield 42, 3) := by decide +kernel
theorem dX1_add_4 : decode cX1_add 4 = .ok (.iconst 5, 1) := by decide +kernel
theorem dX1_add_5 : decode cX1_add 5 = .ok (.if_icmp .lt 5, 3) := by decide +kernel
theorem dX1_add_10 : decode cX1_add 10 = .ok (.aload_n 0, 1) := by decide +kernel
theorem dX1_add_11 : decode cX1_add 11 = .ok (.getfield 20, 3) := by decide +kernel
theorem dX1_add_14 : decode cX1_add 14 = .ok (.aload_n 0, 1) := by decide +kernel
theorem dX1_add_15 : decode cX1_add 15 = .ok (.getfield 42, 3) := by decide +kernel
theorem dX1_add_18 : decode cX1_add 18 = .ok (.iload_n 1, 1) := by decide +kernel
theorem dX1_add_19 : decode cX1_add 19 = .ok (.iastore, 1) := by decide +kernel
theorem dX1_add_20 : decode cX1_add 20 = .ok (.aload_n 0, 1) := by decide +kernel
theorem dX1_add_21 : decode cX1_add 21 = .ok (.dup, 1) := by decide +kernel
theorem dX1_add_22 : decode cX1_add 22 = .ok (.getfield 42, 3) := by decide +kernel
theorem dX1_add_25 : decode cX1_add 25 = .ok (.iconst 1, 1) := by decide +kernel
theorem dX1_add_26 : decode cX1_add 26 = .ok (.iadd, 1) := by decide +kernel
theorem dX1_add_27 : decode cX1_add 27 = .ok (.putfield 42, 3) := by decide +kernel
theorem dX1_add_30 : decode cX1_add 30 = .ok (.aload_n 0, 1) := by decide +kernel
theorem dX1_add_31 : decode cX1_add 31 = .ok (.getfield 42, 3) := by decide +kernel
theorem dX1_add_34 : decode cX1_add 34 = .ok (.iconst 1, 1) := by decide +kernel
theorem dX1_add_35 : decode cX1_add 35 = .ok (.isub, 1) := by decide +kernel
theorem dX1_add_36 : decode cX1_add 36 = .ok (.ireturn, 1) := by decide +kernel
theorem dX1_clear_0 : decode cX1_clear 0 = .ok (.aload_n 0, 1) := by decide +kernel
theorem dX1_clear_1 : decode cX1_clear 1 = .ok (.iconst 0, 1) := by decide +kernel
theorem dX1_clear_2 : decode cX1_clear 2 = .ok (.putfield 42, 3) := by decide +kernel
theorem dX1_clear_5 : decode cX1_clear 5 = .ok (.iconst 0, 1) := by decide +kernel
theorem dX1_clear_6 : decode cX1_clear 6 = .ok (.istore_n 1, 1) := by decide +kernel
theorem dX1_clear_7 : decode cX1_clear 7 = .ok (.iload_n 1, 1) := by decide +kernel
theorem dX1_clear_8 : decode cX1_clear 8 = .ok (.iconst 5, 1) := by decide +kernel
theorem dX1_clear_9 : decode cX1_clear 9 = .ok (.if_icmp .gt 16, 3) := by decide +kernel
theorem dX1_clear_12 : decode cX1_clear 12 = .ok (.aload_n 0, 1) := by decide +kernel
theorem dX1_clear_13 : decode cX1_clear 13 = .ok (.getfield 24, 3) := by decide +kernel
theorem dX1_clear_16 : decode cX1_clear 16 = .ok (.iload_n 1, 1) := by decide +kernel
theorem dX1_clear_17 : decode cX1_clear 17 = .ok (.iconst 0, 1) := by decide +kernel
theorem dX1_clear_18 : decode cX1_clear 18 = .ok (.bastore, 1) := by decide +kernel
theorem dX1_clear_19 : decode cX1_clear 19 = .ok (.iinc 1 1, 3) := by decide +kernel
theorem dX1_clear_22 : decode cX1_clear 22 = .ok (.goto (-15), 3) := by decide +kernel
theorem dX1_clear_25 : decode cX1_clear 25 = .ok (.return_, 1) := by decide +kernel
theorem dX1_find_0 : decode cX1_find 0 = .ok (.aload_n 0, 1) := by decide +kernel
theorem dX1_find_1 : decode cX1_find 1 = .ok (.getfield 24, 3) := by decide +kernel
theorem dX1_find_4 : decode cX1_find 4 = .ok (.iload_n 2, 1) := by decide +kernel
theorem dX1_find_5 : decode cX1_find 5 = .ok (.baload, 1) := by decide +kernel
theorem dX1_find_6 : decode cX1_find 6 = .ok (.ifCond .eq 4, 3) := by decide +kernel
theorem dX1_find_10 : decode cX1_find 10 = .ok (.aload_n 0, 1) := by decide +kernel
theorem dX1_find_11 : decode cX1_find 11 = .ok (.getfield 24, 3) := by decide +kernel
theorem dX1_find_14 : decode cX1_find 14 = .ok (.iload_n 2, 1) := by decide +kernel
theorem dX1_find_15 : decode cX1_find 15 = .ok (.iconst 1, 1) := by decide +kernel
theorem dX1_find_16 : decode cX1_find 16 = .ok (.bastore, 1) := by decide +kernel
theorem dX1_find_17 : decode cX1_find 17 = .ok (.aload_n 0, 1) := by decide +kernel
theorem dX1_find_18 : decode cX1_find 18 = .ok (.getfield 28, 3) := by decide +kernel
theorem dX1_find_21 : decode cX1_find 21 = .ok (.iload_n 2, 1) := by decide +kernel
theorem dX1_find_22 : decode cX1_find 22 = .ok (.iload_n 2, 1) := by decide +kernel
theorem dX1_find_23 : decode cX1_find 23 = .ok (.ifCond .ne 7, 3) := by decide +kernel
theorem dX1_find_26 : decode cX1_find 26 = .ok (.lconst 1, 1) := by decide +kernel
theorem dX1_find_27 : decode cX1_find 27 = .ok (.goto 4, 3) := by decide +kernel
theorem dX1_find_31 : decode cX1_find 31 = .ok (.lastore, 1) := by decide +kernel
theorem dX1_find_32 : decode cX1_find 32 = .ok (.aload_n 0, 1) := by decide +kernel
theorem dX1_find_33 : decode cX1_find 33 = .ok (.getfield 32, 3) := by decide +kernel
theorem dX1_find_36 : decode cX1_find 36 = .ok (.iload_n 2, 1) := by decide +kernel
theorem dX1_find_37 : decode cX1_find 37 = .ok (.iload_n 2, 1) := by decide +kernel
theorem dX1_find_38 : decode cX1_find 38 = .ok (.ifCond .ne 7, 3) := by decide +kernel
theorem dX1_find_41 : decode cX1_find 41 = .ok (.iconst 0, 1) := by decide +kernel
theorem dX1_find_42 : decode cX1_find 42 = .ok (.goto 11, 3) := by decide +kernel
theorem dX1_find_53 : decode cX1_find 53 = .ok (.iastore, 1) := by decide +kernel
theorem dX1_find_54 : decode cX1_find 54 = .ok (.aload_n 0, 1) := by decide +kernel
theorem dX1_find_55 : decode cX1_find 55 = .ok (.getfield 35, 3) := by decide +kernel
theorem dX1_find_58 : decode cX1_find 58 = .ok (.iload_n 2, 1) := by decide +kernel
theorem dX1_find_59 : decode cX1_find 59 = .ok (.iload_n 2, 1) := by decide +kernel
theorem dX1_find_60 : decode cX1_find 60 = .ok (.ifCond .ne 7, 3) := by decide +kernel
theorem dX1_find_63 : decode cX1_find 63 = .ok (.iconst 0, 1) := by decide +kernel
theorem dX1_find_64 : decode cX1_find 64 = .ok (.goto 11, 3) := by decide +kernel
theorem dX1_find_75 : decode cX1_find 75 = .ok (.iastore, 1) := by decide +kernel
theorem dX1_find_76 : decode cX1_find 76 = .ok (.aload_n 0, 1) := by decide +kernel
theorem dX1_find_77 : decode cX1_find 77 = .ok (.getfield 38, 3) := by decide +kernel
theorem dX1_find_80 : decode cX1_find 80 = .ok (.invokevirtual 54, 3) := by decide +kernel
theorem dX1_find_83 : decode cX1_find 83 = .ok (.aload_n 0, 1) := by decide +kernel
theorem dX1_find_84 : decode cX1_find 84 = .ok (.getfield 14, 3) := by decide +kernel
theorem dX1_find_87 : decode cX1_find 87 = .ok (.aload_n 1, 1) := by decide +kernel
theorem dX1_find_88 : decode cX1_find 88 = .ok (.invokevirtual 59, 3) := by decide +kernel
theorem dX1_find_91 : decode cX1_find 91 = .ok (.aload_n 0, 1) := by decide +kernel
theorem dX1_find_92 : decode cX1_find 92 = .ok (.getfield 38, 3) := by decide +kernel
theorem dX1_find_95 : decode cX1_find 95 = .ok (.aload_n 0, 1) := by decide +kernel
theorem dX1_find_96 : decode cX1_find 96 = .ok (.getfield 14, 3) := by decide +kernel
theorem dX1_find_99 : decode cX1_find 99 = .ok (.iconst 0, 1) := by decide +kernel
theorem dX1_find_100 : decode cX1_find 100 = .ok (.lconst 1, 1) := by decide +kernel
theorem dX1_find_101 : decode cX1_find 101 = .ok (.iconst 0, 1) := by decide +kernel
theorem dX1_find_102 : decode cX1_find 102 = .ok (.invokevirtual 63, 3) := by decide +kernel
theorem dX1_find_105 : decode cX1_find 105 = .ok (.iconst 0, 1) := by decide +kernel
theorem dX1_find_106 : decode cX1_find 106 = .ok (.istore_n 3, 1) := by decide +kernel
theorem dX1_find_107 : decode cX1_find 107 = .ok (.iconst 1, 1) := by decide +kernel
theorem dX1_find_108 : decode cX1_find 108 = .ok (.istore 4, 2) := by decide +kernel
theorem dX1_find_110 : decode cX1_find 110 = .ok (.iload 4, 2) := by decide +kernel
theorem dX1_find_112 : decode cX1_find 112 = .ok (.iload_n 2, 1) := by decide +kernel
theorem dX1_find_113 : decode cX1_find 113 = .ok (.if_icmp .gt 49, 3) := by decide +kernel
theorem dX1_find_162 : decode cX1_find 162 = .ok (.aload_n 0, 1) := by decide +kernel
theorem dX1_find_163 : decode cX1_find 163 = .ok (.getfield 28, 3) := by decide +kernel
theorem dX1_find_166 : decode cX1_find 166 = .ok (.iload_n 2, 1) := by decide +kernel
theorem dX1_find_167 : decode cX1_find 167 = .ok (.laload, 1) := by decide +kernel
theorem dX1_find_168 : decode cX1_find 168 = .ok (.lconst 0, 1) := by decide +kernel
theorem dX1_find_169 : decode cX1_find 169 = .ok (.lcmp, 1) := by decide +kernel
theorem dX1_find_170 : decode cX1_find 170 = .ok (.ifCond .ne 17, 3) := by decide +kernel
theorem dX1_find_187 : decode cX1_find 187 = .ok (.return_, 1) := by decide +kernel
theorem dX1_init_0 : decode cX1_init 0 = .ok (.aload_n 0, 1) := by decide +kernel
theorem dX1_init_1 : decode cX1_init 1 = .ok (.invokespecial 3, 3) := by decide +kernel
theorem dX1_init_4 : decode cX1_init 4 = .ok (.aload_n 0, 1) := by decide +kernel
theorem dX1_init_5 : decode cX1_init 5 = .ok (.new 9, 3) := by decide +kernel
theorem dX1_init_8 : decode cX1_init 8 = .ok (.dup, 1) := by decide +kernel
theorem dX1_init_9 : decode cX1_init 9 = .ok (.iconst 0, 1) := by decide +kernel
theorem dX1_init_10 : decode cX1_init 10 = .ok (.invokespecial 11, 3) := by decide +kernel
theorem dX1_init_13 : decode cX1_init 13 = .ok (.putfield 14, 3) := by decide +kernel
theorem dX1_init_16 : decode cX1_init 16 = .ok (.aload_n 0, 1) := by decide +kernel
theorem dX1_init_17 : decode cX1_init 17 = .ok (.iconst 5, 1) := by decide +kernel
theorem dX1_init_18 : decode cX1_init 18 = .ok (.newarray .int, 2) := by decide +kernel
theorem dX1_init_20 : decode cX1_init 20 = .ok (.putfield 20, 3) := by decide +kernel
theorem dX1_init_23 : decode cX1_init 23 = .ok (.aload_n 0, 1) := by decide +kernel
theorem dX1_init_24 : decode cX1_init 24 = .ok (.bipush 6, 2) := by decide +kernel
theorem dX1_init_26 : decode cX1_init 26 = .ok (.newarray .boolean, 2) := by decide +kernel
theorem dX1_init_28 : decode cX1_init 28 = .ok (.putfield 24, 3) := by decide +kernel
theorem dX1_init_31 : decode cX1_init 31 = .ok (.aload_n 0, 1) := by decide +kernel
theorem dX1_init_32 : decode cX1_init 32 = .ok (.bipush 6, 2) := by decide +kernel
theorem dX1_init_34 : decode cX1_init 34 = .ok (.newarray .long, 2) := by decide +kernel
theorem dX1_init_36 : decode cX1_init 36 = .ok (.putfield 28, 3) := by decide +kernel
theorem dX1_init_39 : decode cX1_init 39 = .ok (.aload_n 0, 1) := by decide +kernel
theorem dX1_init_40 : decode cX1_init 40 = .ok (.bipush 6, 2) := by decide +kernel
theorem dX1_init_42 : decode cX1_init 42 = .ok (.newarray .int, 2) := by decide +kernel
theorem dX1_init_44 : decode cX1_init 44 = .ok (.putfield 32, 3) := by decide +kernel
theorem dX1_init_47 : decode cX1_init 47 = .ok (.aload_n 0, 1) := by decide +kernel
theorem dX1_init_48 : decode cX1_init 48 = .ok (.bipush 6, 2) := by decide +kernel
theorem dX1_init_50 : decode cX1_init 50 = .ok (.newarray .int, 2) := by decide +kernel
theorem dX1_init_52 : decode cX1_init 52 = .ok (.putfield 35, 3) := by decide +kernel
theorem dX1_init_55 : decode cX1_init 55 = .ok (.aload_n 0, 1) := by decide +kernel
theorem dX1_init_56 : decode cX1_init 56 = .ok (.aload_n 1, 1) := by decide +kernel
theorem dX1_init_57 : decode cX1_init 57 = .ok (.putfield 38, 3) := by decide +kernel
theorem dX1_init_60 : decode cX1_init 60 = .ok (.return_, 1) := by decide +kernel
theorem dX2_add_0 : decode cX2_add 0 = .ok (.aload_n 0, 1) := by decide +kernel
theorem dX2_add_1 : decode cX2_add 1 = .ok (.getfield 18, 3) := by decide +kernel
theorem dX2_add_4 : decode cX2_add 4 = .ok (.sipush 400, 3) := by decide +kernel
theorem dX2_add_7 : decode cX2_add 7 = .ok (.if_icmp .ge 23, 3) := by decide +kernel
theorem dX2_add_10 : decode cX2_add 10 = .ok (.aload_n 0, 1) := by decide +kernel
theorem dX2_add_11 : decode cX2_add 11 = .ok (.getfield 9, 3) := by decide +kernel
theorem dX2_add_14 : decode cX2_add 14 = .ok (.aload_n 0, 1) := by decide +kernel
theorem dX2_add_15 : decode cX2_add 15 = .ok (.getfield 18, 3) := by decide +kernel
theorem dX2_add_18 : decode cX2_add 18 = .ok (.iload_n 1, 1) := by decide +kernel
theorem dX2_add_19 : decode cX2_add 19 = .ok (.iastore, 1) := by decide +kernel
theorem dX2_add_20 : decode cX2_add 20 = .ok (.aload_n 0, 1) := by decide +kernel
theorem dX2_add_21 : decode cX2_add 21 = .ok (.dup, 1) := by decide +kernel
theorem dX2_add_22 : decode cX2_add 22 = .ok (.getfield 18, 3) := by decide +kernel
theorem dX2_add_25 : decode cX2_add 25 = .ok (.iconst 1, 1) := by decide +kernel
theorem dX2_add_26 : decode cX2_add 26 = .ok (.iadd, 1) := by decide +kernel
theorem dX2_add_27 : decode cX2_add 27 = .ok (.putfield 18, 3) := by decide +kernel
theorem dX2_add_30 : decode cX2_add 30 = .ok (.return_, 1) := by decide +kernel
theorem dX2_clear_0 : decode cX2_clear 0 = .ok (.aload_n 0, 1) := by decide +kernel
theorem dX2_clear_1 : decode cX2_clear 1 = .ok (.iconst 0, 1) := by decide +kernel
theorem dX2_clear_2 : decode cX2_clear 2 = .ok (.putfield 18, 3) := by decide +kernel
theorem dX2_clear_5 : decode cX2_clear 5 = .ok (.return_, 1) := by decide +kernel
theorem dX2_init_0 : decode cX2_init 0 = .ok (.aload_n 0, 1) := by decide +kernel
theorem dX2_init_1 : decode cX2_init 1 = .ok (.invokespecial 3, 3) := by decide +kernel
theorem dX2_init_4 : decode cX2_init 4 = .ok (.aload_n 0, 1) := by decide +kernel
theorem dX2_init_5 : decode cX2_init 5 = .ok (.sipush 400, 3) := by decide +kernel
theorem dX2_init_8 : decode cX2_init 8 = .ok (.newarray .int, 2) := by decide +kernel
theorem dX2_init_10 : decode cX2_init 10 = .ok (.putfield 9, 3) := by decide +kernel
theorem dX2_init_13 : decode cX2_init 13 = .ok (.aload_n 0, 1) := by decide +kernel
theorem dX2_init_14 : decode cX2_init 14 = .ok (.bipush 32, 2) := by decide +kernel
theorem dX2_init_16 : decode cX2_init 16 = .ok (.newarray .int, 2) := by decide +kernel
theorem dX2_init_18 : decode cX2_init 18 = .ok (.putfield 15, 3) := by decide +kernel
theorem dX2_init_21 : decode cX2_init 21 = .ok (.return_, 1) := by decide +kernel
theorem dX3_add_0 : decode cX3_add 0 = .ok (.aload_n 0, 1) := by decide +kernel
theorem dX3_add_1 : decode cX3_add 1 = .ok (.aload_n 1, 1) := by decide +kernel
theorem dX3_add_2 : decode cX3_add 2 = .ok (.iload 5, 2) := by decide +kernel
theorem dX3_add_4 : decode cX3_add 4 = .ok (.invokevirtual 56, 3) := by decide +kernel
theorem dX3_add_7 : decode cX3_add 7 = .ok (.istore 6, 2) := by decide +kernel
theorem dX3_add_9 : decode cX3_add 9 = .ok (.iload 6, 2) := by decide +kernel
theorem dX3_add_11 : decode cX3_add 11 = .ok (.ifCond .lt 32, 3) := by decide +kernel
theorem dX3_add_14 : decode cX3_add 14 = .ok (.aload_n 0, 1) := by decide +kernel
theorem dX3_add_15 : decode cX3_add 15 = .ok (.getfield 28, 3) := by decide +kernel
theorem dX3_add_18 : decode cX3_add 18 = .ok (.iload 6, 2) := by decide +kernel
theorem dX3_add_20 : decode cX3_add 20 = .ok (.iaload, 1) := by decide +kernel
theorem dX3_add_21 : decode cX3_add 21 = .ok (.ifCond .le 22, 3) := by decide +kernel
theorem dX3_add_43 : decode cX3_add 43 = .ok (.aload_n 0, 1) := by decide +kernel
theorem dX3_add_44 : decode cX3_add 44 = .ok (.getfield 31, 3) := by decide +kernel
theorem dX3_add_47 : decode cX3_add 47 = .ok (.aload_n 0, 1) := by decide +kernel
theorem dX3_add_48 : decode cX3_add 48 = .ok (.getfield 11, 3) := by decide +kernel
theorem dX3_add_51 : decode cX3_add 51 = .ok (.arraylength, 1) := by decide +kernel
theorem dX3_add_52 : decode cX3_add 52 = .ok (.if_icmp .lt 16, 3) := by decide +kernel
theorem dX3_add_68 : decode cX3_add 68 = .ok (.iload 6, 2) := by decide +kernel
theorem dX3_add_70 : decode cX3_add 70 = .ok (.ifCond .lt 15, 3) := by decide +kernel
theorem dX3_add_73 : decode cX3_add 73 = .ok (.aload_n 0, 1) := by decide +kernel
theorem dX3_add_74 : decode cX3_add 74 = .ok (.getfield 31, 3) := by decide +kernel
theorem dX3_add_77 : decode cX3_add 77 = .ok (.aload_n 0, 1) := by decide +kernel
theorem dX3_add_78 : decode cX3_add 78 = .ok (.getfield 11, 3) := by decide +kernel
theorem dX3_add_81 : decode cX3_add 81 = .ok (.arraylength, 1) := by decide +kernel
theorem dX3_add_82 : decode cX3_add 82 = .ok (.if_icmp .lt 4, 3) := by decide +kernel
theorem dX3_add_86 : decode cX3_add 86 = .ok (.aload_n 0, 1) := by decide +kernel
theorem dX3_add_87 : decode cX3_add 87 = .ok (.getfield 11, 3) := by decide +kernel
theorem dX3_add_90 : decode cX3_add 90 = .ok (.aload_n 0, 1) := by decide +kernel
theorem dX3_add_91 : decode cX3_add 91 = .ok (.getfield 31, 3) := by decide +kernel
theorem dX3_add_94 : decode cX3_add 94 = .ok (.aload_n 1, 1) := by decide +kernel
theorem dX3_add_95 : decode cX3_add 95 = .ok (.invokestatic 63, 3) := by decide +kernel
theorem dX3_add_98 : decode cX3_add 98 = .ok (.iastore, 1) := by decide +kernel
theorem dX3_add_99 : decode cX3_add 99 = .ok (.aload_n 0, 1) := by decide +kernel
theorem dX3_add_100 : decode cX3_add 100 = .ok (.getfield 15, 3) := by decide +kernel
theorem dX3_add_103 : decode cX3_add 103 = .ok (.aload_n 0, 1) := by decide +kernel
theorem dX3_add_104 : decode cX3_add 104 = .ok (.getfield 31, 3) := by decide +kernel
theorem dX3_add_107 : decode cX3_add 107 = .ok (.aload_n 1, 1) := by decide +kernel
theorem dX3_add_108 : decode cX3_add 108 = .ok (.getfield 41, 3) := by decide +kernel
theorem dX3_add_111 : decode cX3_add 111 = .ok (.iastore, 1) := by decide +kernel
theorem dX3_add_112 : decode cX3_add 112 = .ok (.aload_n 0, 1) := by decide +kernel
theorem dX3_add_113 : decode cX3_add 113 = .ok (.getfield 18, 3) := by decide +kernel
theorem dX3_add_116 : decode cX3_add 116 = .ok (.aload_n 0, 1) := by decide +kernel
theorem dX3_add_117 : decode cX3_add 117 = .ok (.getfield 31, 3) := by decide +kernel
theorem dX3_add_120 : decode cX3_add 120 = .ok (.aload_n 1, 1) := by decide +kernel
theorem dX3_add_121 : decode cX3_add 121 = .ok (.getfield 53, 3) := by decide +kernel
theorem dX3_add_124 : decode cX3_add 124 = .ok (.iastore, 1) := by decide +kernel
theorem dX3_add_125 : decode cX3_add 125 = .ok (.aload_n 0, 1) := by decide +kernel
theorem dX3_add_126 : decode cX3_add 126 = .ok (.getfield 21, 3) := by decide +kernel
theorem dX3_add_129 : decode cX3_add 129 = .ok (.aload_n 0, 1) := by decide +kernel
theorem dX3_add_130 : decode cX3_add 130 = .ok (.getfield 31, 3) := by decide +kernel
theorem dX3_add_133 : decode cX3_add 133 = .ok (.iload_n 2, 1) := by decide +kernel
theorem dX3_add_134 : decode cX3_add 134 = .ok (.iastore, 1) := by decide +kernel
theorem dX3_add_135 : decode cX3_add 135 = .ok (.aload_n 0, 1) := by decide +kernel
theorem dX3_add_136 : decode cX3_add 136 = .ok (.getfield 24, 3) := by decide +kernel
theorem dX3_add_139 : decode cX3_add 139 = .ok (.aload_n 0, 1) := by decide +kernel
theorem dX3_add_140 : decode cX3_add 140 = .ok (.getfield 31, 3) := by decide +kernel
theorem dX3_add_143 : decode cX3_add 143 = .ok (.lload_n 3, 1) := by decide +kernel
theorem dX3_add_144 : decode cX3_add 144 = .ok (.lastore, 1) := by decide +kernel
theorem dX3_add_145 : decode cX3_add 145 = .ok (.aload_n 0, 1) := by decide +kernel
theorem dX3_add_146 : decode cX3_add 146 = .ok (.dup, 1) := by decide +kernel
theorem dX3_add_147 : decode cX3_add 147 = .ok (.getfield 31, 3) := by decide +kernel
theorem dX3_add_150 : decode cX3_add 150 = .ok (.iconst 1, 1) := by decide +kernel
theorem dX3_add_151 : decode cX3_add 151 = .ok (.iadd, 1) := by decide +kernel
theorem dX3_add_152 : decode cX3_add 152 = .ok (.putfield 31, 3) := by decide +kernel
theorem dX3_add_155 : decode cX3_add 155 = .ok (.aload_n 0, 1) := by decide +kernel
theorem dX3_add_156 : decode cX3_add 156 = .ok (.getfield 28, 3) := by decide +kernel
theorem dX3_add_159 : decode cX3_add 159 = .ok (.iload 6, 2) := by decide +kernel
theorem dX3_add_161 : decode cX3_add 161 = .ok (.aload_n 0, 1) := by decide +kernel
theorem dX3_add_162 : decode cX3_add 162 = .ok (.getfield 31, 3) := by decide +kernel
theorem dX3_add_165 : decode cX3_add 165 = .ok (.iastore, 1) := by decide +kernel
theorem dX3_add_166 : decode cX3_add 166 = .ok (.return_, 1) := by decide +kernel
theorem dX3_clear_0 : decode cX3_clear 0 = .ok (.aload_n 0, 1) := by decide +kernel
theorem dX3_clear_1 : decode cX3_clear 1 = .ok (.iconst 0, 1) := by decide +kernel
theorem dX3_clear_2 : decode cX3_clear 2 = .ok (.putfield 31, 3) := by decide +kernel
theorem dX3_clear_5 : decode cX3_clear 5 = .ok (.aload_n 0, 1) := by decide +kernel
theorem dX3_clear_6 : decode cX3_clear 6 = .ok (.getfield 28, 3) := by decide +kernel
theorem dX3_clear_9 : decode cX3_clear 9 = .ok (.iconst 0, 1) := by decide +kernel
theorem dX3_clear_10 : decode cX3_clear 10 = .ok (.invokestatic 35, 3) := by decide +kernel
theorem dX3_clear_13 : decode cX3_clear 13 = .ok (.return_, 1) := by decide +kernel
theorem dX3_hash_0 : decode cX3_hash 0 = .ok (.iload_n 0, 1) := by decide +kernel
theorem dX3_hash_1 : decode cX3_hash 1 = .ok (.ldc 67, 2) := by decide +kernel
theorem dX3_hash_3 : decode cX3_hash 3 = .ok (.imul, 1) := by decide +kernel
theorem dX3_hash_4 : decode cX3_hash 4 = .ok (.iload_n 1, 1) := by decide +kernel
theorem dX3_hash_5 : decode cX3_hash 5 = .ok (.ldc 68, 2) := by decide +kernel
theorem dX3_hash_7 : decode cX3_hash 7 = .ok (.imul, 1) := by decide +kernel
theorem dX3_hash_8 : decode cX3_hash 8 = .ok (.iadd, 1) := by decide +kernel
theorem dX3_hash_9 : decode cX3_hash 9 = .ok (.iload_n 2, 1) := by decide +kernel
theorem dX3_hash_10 : decode cX3_hash 10 = .ok (.ldc 69, 2) := by decide +kernel
theorem dX3_hash_12 : decode cX3_hash 12 = .ok (.imul, 1) := by decide +kernel
theorem dX3_hash_13 : decode cX3_hash 13 = .ok (.iadd, 1) := by decide +kernel
theorem dX3_hash_14 : decode cX3_hash 14 = .ok (.istore_n 3, 1) := by decide +kernel
theorem dX3_hash_15 : decode cX3_hash 15 = .ok (.iload_n 3, 1) := by decide +kernel
theorem dX3_hash_16 : decode cX3_hash 16 = .ok (.iload_n 3, 1) := by decide +kernel
theorem dX3_hash_17 : decode cX3_hash 17 = .ok (.bipush 15, 2) := by decide +kernel
theorem dX3_hash_19 : decode cX3_hash 19 = .ok (.iushr, 1) := by decide +kernel
theorem dX3_hash_20 : decode cX3_hash 20 = .ok (.ixor, 1) := by decide +kernel
theorem dX3_hash_21 : decode cX3_hash 21 = .ok (.ireturn, 1) := by decide +kernel
theorem dX3_init_0 : decode cX3_init 0 = .ok (.aload_n 0, 1) := by decide +kernel
theorem dX3_init_1 : decode cX3_init 1 = .ok (.invokespecial 3, 3) := by decide +kernel
theorem dX3_init_4 : decode cX3_init 4 = .ok (.aload_n 0, 1) := by decide +kernel
theorem dX3_init_5 : decode cX3_init 5 = .ok (.sipush 256, 3) := by decide +kernel
theorem dX3_init_8 : decode cX3_init 8 = .ok (.newarray .int, 2) := by decide +kernel
theorem dX3_init_10 : decode cX3_init 10 = .ok (.putfield 11, 3) := by decide +kernel
theorem dX3_init_13 : decode cX3_init 13 = .ok (.aload_n 0, 1) := by decide +kernel
theorem dX3_init_14 : decode cX3_init 14 = .ok (.sipush 256, 3) := by decide +kernel
theorem dX3_init_17 : decode cX3_init 17 = .ok (.newarray .int, 2) := by decide +kernel
theorem dX3_init_19 : decode cX3_init 19 = .ok (.putfield 15, 3) := by decide +kernel
theorem dX3_init_22 : decode cX3_init 22 = .ok (.aload_n 0, 1) := by decide +kernel
theorem dX3_init_23 : decode cX3_init 23 = .ok (.sipush 256, 3) := by decide +kernel
theorem dX3_init_26 : decode cX3_init 26 = .ok (.newarray .int, 2) := by decide +kernel
theorem dX3_init_28 : decode cX3_init 28 = .ok (.putfield 18, 3) := by decide +kernel
theorem dX3_init_31 : decode cX3_init 31 = .ok (.aload_n 0, 1) := by decide +kernel
theorem dX3_init_32 : decode cX3_init 32 = .ok (.sipush 256, 3) := by decide +kernel
theorem dX3_init_35 : decode cX3_init 35 = .ok (.newarray .int, 2) := by decide +kernel
theorem dX3_init_37 : decode cX3_init 37 = .ok (.putfield 21, 3) := by decide +kernel
theorem dX3_init_40 : decode cX3_init 40 = .ok (.aload_n 0, 1) := by decide +kernel
theorem dX3_init_41 : decode cX3_init 41 = .ok (.sipush 256, 3) := by decide +kernel
theorem dX3_init_44 : decode cX3_init 44 = .ok (.newarray .long, 2) := by decide +kernel
theorem dX3_init_46 : decode cX3_init 46 = .ok (.putfield 24, 3) := by decide +kernel
theorem dX3_init_49 : decode cX3_init 49 = .ok (.aload_n 0, 1) := by decide +kernel
theorem dX3_init_50 : decode cX3_init 50 = .ok (.sipush 512, 3) := by decide +kernel
theorem dX3_init_53 : decode cX3_init 53 = .ok (.newarray .int, 2) := by decide +kernel
theorem dX3_init_55 : decode cX3_init 55 = .ok (.putfield 28, 3) := by decide +kernel
theorem dX3_init_58 : decode cX3_init 58 = .ok (.return_, 1) := by decide +kernel
theorem dX3_packed_0 : decode cX3_packed 0 = .ok (.aload_n 0, 1) := by decide +kernel
theorem dX3_packed_1 : decode cX3_packed 1 = .ok (.getfield 47, 3) := by decide +kernel
theorem dX3_packed_4 : decode cX3_packed 4 = .ok (.aload_n 0, 1) := by decide +kernel
theorem dX3_packed_5 : decode cX3_packed 5 = .ok (.getfield 50, 3) := by decide +kernel
theorem dX3_packed_8 : decode cX3_packed 8 = .ok (.bipush 16, 2) := by decide +kernel
theorem dX3_packed_10 : decode cX3_packed 10 = .ok (.ishl, 1) := by decide +kernel
theorem dX3_packed_11 : decode cX3_packed 11 = .ok (.ior, 1) := by decide +kernel
theorem dX3_packed_12 : decode cX3_packed 12 = .ok (.ireturn, 1) := by decide +kernel
theorem dX3_slotOf_0 : decode cX3_slotOf 0 = .ok (.aload_n 1, 1) := by decide +kernel
theorem dX3_slotOf_1 : decode cX3_slotOf 1 = .ok (.invokestatic 63, 3) := by decide +kernel
theorem dX3_slotOf_4 : decode cX3_slotOf 4 = .ok (.istore_n 3, 1) := by decide +kernel
theorem dX3_slotOf_5 : decode cX3_slotOf 5 = .ok (.aload_n 0, 1) := by decide +kernel
theorem dX3_slotOf_6 : decode cX3_slotOf 6 = .ok (.getfield 28, 3) := by decide +kernel
theorem dX3_slotOf_9 : decode cX3_slotOf 9 = .ok (.arraylength, 1) := by decide +kernel
theorem dX3_slotOf_10 : decode cX3_slotOf 10 = .ok (.iconst 1, 1) := by decide +kernel
theorem dX3_slotOf_11 : decode cX3_slotOf 11 = .ok (.isub, 1) := by decide +kernel
theorem dX3_slotOf_12 : decode cX3_slotOf 12 = .ok (.istore 4, 2) := by decide +kernel
theorem dX3_slotOf_14 : decode cX3_slotOf 14 = .ok (.iload_n 3, 1) := by decide +kernel
theorem dX3_slotOf_15 : decode cX3_slotOf 15 = .ok (.aload_n 1, 1) := by decide +kernel
theorem dX3_slotOf_16 : decode cX3_slotOf 16 = .ok (.getfield 41, 3) := by decide +kernel
theorem dX3_slotOf_19 : decode cX3_slotOf 19 = .ok (.aload_n 1, 1) := by decide +kernel
theorem dX3_slotOf_20 : decode cX3_slotOf 20 = .ok (.getfield 53, 3) := by decide +kernel
theorem dX3_slotOf_23 : decode cX3_slotOf 23 = .ok (.invokestatic 70, 3) := by decide +kernel
theorem dX3_slotOf_26 : decode cX3_slotOf 26 = .ok (.istore 5, 2) := by decide +kernel
theorem dX3_slotOf_28 : decode cX3_slotOf 28 = .ok (.iconst 0, 1) := by decide +kernel
theorem dX3_slotOf_29 : decode cX3_slotOf 29 = .ok (.istore 6, 2) := by decide +kernel
theorem dX3_slotOf_31 : decode cX3_slotOf 31 = .ok (.iload 6, 2) := by decide +kernel
theorem dX3_slotOf_33 : decode cX3_slotOf 33 = .ok (.aload_n 0, 1) := by decide +kernel
theorem dX3_slotOf_34 : decode cX3_slotOf 34 = .ok (.getfield 28, 3) := by decide +kernel
theorem dX3_slotOf_37 : decode cX3_slotOf 37 = .ok (.arraylength, 1) := by decide +kernel
theorem dX3_slotOf_38 : decode cX3_slotOf 38 = .ok (.if_icmp .ge 83, 3) := by decide +kernel
theorem dX3_slotOf_41 : decode cX3_slotOf 41 = .ok (.iload 5, 2) := by decide +kernel
theorem dX3_slotOf_43 : decode cX3_slotOf 43 = .ok (.iload 6, 2) := by decide +kernel
theorem dX3_slotOf_45 : decode cX3_slotOf 45 = .ok (.iadd, 1) := by decide +kernel
theorem dX3_slotOf_46 : decode cX3_slotOf 46 = .ok (.iload 4, 2) := by decide +kernel
theorem dX3_slotOf_48 : decode cX3_slotOf 48 = .ok (.iand, 1) := by decide +kernel
theorem dX3_slotOf_49 : decode cX3_slotOf 49 = .ok (.istore 7, 2) := by decide +kernel
theorem dX3_slotOf_51 : decode cX3_slotOf 51 = .ok (.aload_n 0, 1) := by decide +kernel
theorem dX3_slotOf_52 : decode cX3_slotOf 52 = .ok (.getfield 28, 3) := by decide +kernel
theorem dX3_slotOf_55 : decode cX3_slotOf 55 = .ok (.iload 7, 2) := by decide +kernel
theorem dX3_slotOf_57 : decode cX3_slotOf 57 = .ok (.iaload, 1) := by decide +kernel
theorem dX3_slotOf_58 : decode cX3_slotOf 58 = .ok (.iconst 1, 1) := by decide +kernel
theorem dX3_slotOf_59 : decode cX3_slotOf 59 = .ok (.isub, 1) := by decide +kernel
theorem dX3_slotOf_60 : decode cX3_slotOf 60 = .ok (.istore 8, 2) := by decide +kernel
theorem dX3_slotOf_62 : decode cX3_slotOf 62 = .ok (.iload 8, 2) := by decide +kernel
theorem dX3_slotOf_64 : decode cX3_slotOf 64 = .ok (.ifCond .lt 48, 3) := by decide +kernel
theorem dX3_slotOf_112 : decode cX3_slotOf 112 = .ok (.iload 7, 2) := by decide +kernel
theorem dX3_slotOf_114 : decode cX3_slotOf 114 = .ok (.ireturn, 1) := by decide +kernel
theorem dX4_avoids_0 : decode cX4_avoids 0 = .ok (.iload_n 2, 1) := by decide +kernel
theorem dX4_avoids_1 : decode cX4_avoids 1 = .ok (.ifCond .eq 15, 3) := by decide +kernel
theorem dX4_avoids_16 : decode cX4_avoids 16 = .ok (.iconst 1, 1) := by decide +kernel
