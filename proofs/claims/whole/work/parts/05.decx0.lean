theorem dX0_init_0 : decode cX0_init 0 = .ok (.aload_n 0, 1) := by decide +kernel
theorem dX0_init_1 : decode cX0_init 1 = .ok (.invokespecial 1, 3) := by decide +kernel
theorem dX0_init_4 : decode cX0_init 4 = .ok (.aload_n 0, 1) := by decide +kernel
theorem dX0_init_5 : decode cX0_init 5 = .ok (.sipush 4096, 3) := by decide +kernel
theorem dX0_init_8 : decode cX0_init 8 = .ok (.newarray .byte, 2) := by decide +kernel
theorem dX0_init_10 : decode cX0_init 10 = .ok (.putfield 9, 3) := by decide +kernel
theorem dX0_init_13 : decode cX0_init 13 = .ok (.aload_n 0, 1) := by decide +kernel
theorem dX0_init_14 : decode cX0_init 14 = .ok (.iconst 0, 1) := by decide +kernel
theorem dX0_init_15 : decode cX0_init 15 = .ok (.putfield 13, 3) := by decide +kernel
theorem dX0_init_18 : decode cX0_init 18 = .ok (.aload_n 0, 1) := by decide +kernel
theorem dX0_init_19 : decode cX0_init 19 = .ok (.iconst 0, 1) := by decide +kernel
theorem dX0_init_20 : decode cX0_init 20 = .ok (.putfield 17, 3) := by decide +kernel
theorem dX0_init_23 : decode cX0_init 23 = .ok (.aload_n 0, 1) := by decide +kernel
theorem dX0_init_24 : decode cX0_init 24 = .ok (.iconst (-1), 1) := by decide +kernel
theorem dX0_init_25 : decode cX0_init 25 = .ok (.putfield 20, 3) := by decide +kernel
theorem dX0_init_28 : decode cX0_init 28 = .ok (.aload_n 0, 1) := by decide +kernel
theorem dX0_init_29 : decode cX0_init 29 = .ok (.bipush 100, 2) := by decide +kernel
theorem dX0_init_31 : decode cX0_init 31 = .ok (.newarray .long, 2) := by decide +kernel
theorem dX0_init_33 : decode cX0_init 33 = .ok (.putfield 23, 3) := by decide +kernel
theorem dX0_init_36 : decode cX0_init 36 = .ok (.aload_n 0, 1) := by decide +kernel
theorem dX0_init_37 : decode cX0_init 37 = .ok (.iconst 0, 1) := by decide +kernel
theorem dX0_init_38 : decode cX0_init 38 = .ok (.putfield 27, 3) := by decide +kernel
theorem dX0_init_41 : decode cX0_init 41 = .ok (.return_, 1) := by decide +kernel
theorem dX0_feed_0 : decode cX0_feed 0 = .ok (.iload_n 1, 1) := by decide +kernel
theorem dX0_feed_1 : decode cX0_feed 1 = .ok (.ifCond .lt 10, 3) := by decide +kernel
theorem dX0_feed_4 : decode cX0_feed 4 = .ok (.iload_n 1, 1) := by decide +kernel
theorem dX0_feed_5 : decode cX0_feed 5 = .ok (.sipush 255, 3) := by decide +kernel
theorem dX0_feed_8 : decode cX0_feed 8 = .ok (.if_icmp .le 13, 3) := by decide +kernel
theorem dX0_feed_11 : decode cX0_feed 11 = .ok (.new 30, 3) := by decide +kernel
theorem dX0_feed_14 : decode cX0_feed 14 = .ok (.dup, 1) := by decide +kernel
theorem dX0_feed_15 : decode cX0_feed 15 = .ok (.ldc 32, 2) := by decide +kernel
theorem dX0_feed_17 : decode cX0_feed 17 = .ok (.invokespecial 34, 3) := by decide +kernel
theorem dX0_feed_20 : decode cX0_feed 20 = .ok (.athrow, 1) := by decide +kernel
theorem dX0_feed_21 : decode cX0_feed 21 = .ok (.aload_n 0, 1) := by decide +kernel
theorem dX0_feed_22 : decode cX0_feed 22 = .ok (.iconst 1, 1) := by decide +kernel
theorem dX0_feed_23 : decode cX0_feed 23 = .ok (.invokevirtual 37, 3) := by decide +kernel
theorem dX0_feed_26 : decode cX0_feed 26 = .ok (.ifCond .ne 13, 3) := by decide +kernel
theorem dX0_feed_29 : decode cX0_feed 29 = .ok (.new 41, 3) := by decide +kernel
theorem dX0_feed_32 : decode cX0_feed 32 = .ok (.dup, 1) := by decide +kernel
theorem dX0_feed_33 : decode cX0_feed 33 = .ok (.ldc 43, 2) := by decide +kernel
theorem dX0_feed_35 : decode cX0_feed 35 = .ok (.invokespecial 45, 3) := by decide +kernel
theorem dX0_feed_38 : decode cX0_feed 38 = .ok (.athrow, 1) := by decide +kernel
theorem dX0_feed_39 : decode cX0_feed 39 = .ok (.aload_n 0, 1) := by decide +kernel
theorem dX0_feed_40 : decode cX0_feed 40 = .ok (.iload_n 1, 1) := by decide +kernel
theorem dX0_feed_41 : decode cX0_feed 41 = .ok (.i2l, 1) := by decide +kernel
theorem dX0_feed_42 : decode cX0_feed 42 = .ok (.iconst 1, 1) := by decide +kernel
theorem dX0_feed_43 : decode cX0_feed 43 = .ok (.invokevirtual 46, 3) := by decide +kernel
theorem dX0_feed_46 : decode cX0_feed 46 = .ok (.aload_n 0, 1) := by decide +kernel
theorem dX0_feed_47 : decode cX0_feed 47 = .ok (.getfield 13, 3) := by decide +kernel
theorem dX0_feed_50 : decode cX0_feed 50 = .ok (.ireturn, 1) := by decide +kernel
theorem dX0_put_0 : decode cX0_put 0 = .ok (.iload_n 3, 1) := by decide +kernel
theorem dX0_put_1 : decode cX0_put 1 = .ok (.iconst 1, 1) := by decide +kernel
theorem dX0_put_2 : decode cX0_put 2 = .ok (.if_icmp .lt 9, 3) := by decide +kernel
theorem dX0_put_5 : decode cX0_put 5 = .ok (.iload_n 3, 1) := by decide +kernel
theorem dX0_put_6 : decode cX0_put 6 = .ok (.bipush 8, 2) := by decide +kernel
theorem dX0_put_8 : decode cX0_put 8 = .ok (.if_icmp .le 13, 3) := by decide +kernel
theorem dX0_put_11 : decode cX0_put 11 = .ok (.new 30, 3) := by decide +kernel
theorem dX0_put_14 : decode cX0_put 14 = .ok (.dup, 1) := by decide +kernel
theorem dX0_put_15 : decode cX0_put 15 = .ok (.ldc 50, 2) := by decide +kernel
theorem dX0_put_17 : decode cX0_put 17 = .ok (.invokespecial 34, 3) := by decide +kernel
theorem dX0_put_20 : decode cX0_put 20 = .ok (.athrow, 1) := by decide +kernel
theorem dX0_put_21 : decode cX0_put 21 = .ok (.aload_n 0, 1) := by decide +kernel
theorem dX0_put_22 : decode cX0_put 22 = .ok (.iload_n 3, 1) := by decide +kernel
theorem dX0_put_23 : decode cX0_put 23 = .ok (.invokevirtual 37, 3) := by decide +kernel
theorem dX0_put_26 : decode cX0_put 26 = .ok (.ifCond .ne 13, 3) := by decide +kernel
theorem dX0_put_29 : decode cX0_put 29 = .ok (.new 41, 3) := by decide +kernel
theorem dX0_put_32 : decode cX0_put 32 = .ok (.dup, 1) := by decide +kernel
theorem dX0_put_33 : decode cX0_put 33 = .ok (.ldc 52, 2) := by decide +kernel
theorem dX0_put_35 : decode cX0_put 35 = .ok (.invokespecial 45, 3) := by decide +kernel
theorem dX0_put_38 : decode cX0_put 38 = .ok (.athrow, 1) := by decide +kernel
theorem dX0_put_39 : decode cX0_put 39 = .ok (.aload_n 0, 1) := by decide +kernel
theorem dX0_put_40 : decode cX0_put 40 = .ok (.lload_n 1, 1) := by decide +kernel
theorem dX0_put_41 : decode cX0_put 41 = .ok (.iload_n 3, 1) := by decide +kernel
theorem dX0_put_42 : decode cX0_put 42 = .ok (.invokevirtual 46, 3) := by decide +kernel
theorem dX0_put_45 : decode cX0_put 45 = .ok (.aload_n 0, 1) := by decide +kernel
theorem dX0_put_46 : decode cX0_put 46 = .ok (.getfield 13, 3) := by decide +kernel
theorem dX0_put_49 : decode cX0_put 49 = .ok (.ireturn, 1) := by decide +kernel
theorem dX0_cut_0 : decode cX0_cut 0 = .ok (.iload_n 1, 1) := by decide +kernel
theorem dX0_cut_1 : decode cX0_cut 1 = .ok (.ifCond .lt 16, 3) := by decide +kernel
theorem dX0_cut_4 : decode cX0_cut 4 = .ok (.iload_n 1, 1) := by decide +kernel
theorem dX0_cut_5 : decode cX0_cut 5 = .ok (.aload_n 0, 1) := by decide +kernel
theorem dX0_cut_6 : decode cX0_cut 6 = .ok (.getfield 13, 3) := by decide +kernel
theorem dX0_cut_9 : decode cX0_cut 9 = .ok (.aload_n 0, 1) := by decide +kernel
theorem dX0_cut_10 : decode cX0_cut 10 = .ok (.getfield 17, 3) := by decide +kernel
theorem dX0_cut_13 : decode cX0_cut 13 = .ok (.isub, 1) := by decide +kernel
theorem dX0_cut_14 : decode cX0_cut 14 = .ok (.if_icmp .le 13, 3) := by decide +kernel
theorem dX0_cut_17 : decode cX0_cut 17 = .ok (.new 30, 3) := by decide +kernel
theorem dX0_cut_20 : decode cX0_cut 20 = .ok (.dup, 1) := by decide +kernel
theorem dX0_cut_21 : decode cX0_cut 21 = .ok (.ldc 54, 2) := by decide +kernel
theorem dX0_cut_23 : decode cX0_cut 23 = .ok (.invokespecial 34, 3) := by decide +kernel
theorem dX0_cut_26 : decode cX0_cut 26 = .ok (.athrow, 1) := by decide +kernel
theorem dX0_cut_27 : decode cX0_cut 27 = .ok (.aload_n 0, 1) := by decide +kernel
theorem dX0_cut_28 : decode cX0_cut 28 = .ok (.dup, 1) := by decide +kernel
theorem dX0_cut_29 : decode cX0_cut 29 = .ok (.getfield 13, 3) := by decide +kernel
theorem dX0_cut_32 : decode cX0_cut 32 = .ok (.iload_n 1, 1) := by decide +kernel
theorem dX0_cut_33 : decode cX0_cut 33 = .ok (.isub, 1) := by decide +kernel
theorem dX0_cut_34 : decode cX0_cut 34 = .ok (.putfield 13, 3) := by decide +kernel
theorem dX0_cut_37 : decode cX0_cut 37 = .ok (.aload_n 0, 1) := by decide +kernel
theorem dX0_cut_38 : decode cX0_cut 38 = .ok (.getfield 13, 3) := by decide +kernel
theorem dX0_cut_41 : decode cX0_cut 41 = .ok (.ireturn, 1) := by decide +kernel
theorem dX0_byteAt_0 : decode cX0_byteAt 0 = .ok (.iload_n 1, 1) := by decide +kernel
theorem dX0_byteAt_1 : decode cX0_byteAt 1 = .ok (.ifCond .lt 11, 3) := by decide +kernel
theorem dX0_byteAt_4 : decode cX0_byteAt 4 = .ok (.iload_n 1, 1) := by decide +kernel
theorem dX0_byteAt_5 : decode cX0_byteAt 5 = .ok (.aload_n 0, 1) := by decide +kernel
theorem dX0_byteAt_6 : decode cX0_byteAt 6 = .ok (.getfield 13, 3) := by decide +kernel
theorem dX0_byteAt_9 : decode cX0_byteAt 9 = .ok (.if_icmp .lt 13, 3) := by decide +kernel
theorem dX0_byteAt_12 : decode cX0_byteAt 12 = .ok (.new 30, 3) := by decide +kernel
theorem dX0_byteAt_15 : decode cX0_byteAt 15 = .ok (.dup, 1) := by decide +kernel
theorem dX0_byteAt_16 : decode cX0_byteAt 16 = .ok (.ldc 56, 2) := by decide +kernel
theorem dX0_byteAt_18 : decode cX0_byteAt 18 = .ok (.invokespecial 34, 3) := by decide +kernel
theorem dX0_byteAt_21 : decode cX0_byteAt 21 = .ok (.athrow, 1) := by decide +kernel
theorem dX0_byteAt_22 : decode cX0_byteAt 22 = .ok (.aload_n 0, 1) := by decide +kernel
theorem dX0_byteAt_23 : decode cX0_byteAt 23 = .ok (.iload_n 1, 1) := by decide +kernel
theorem dX0_byteAt_24 : decode cX0_byteAt 24 = .ok (.invokevirtual 58, 3) := by decide +kernel
theorem dX0_byteAt_27 : decode cX0_byteAt 27 = .ok (.ireturn, 1) := by decide +kernel
theorem dX0_next_0 : decode cX0_next 0 = .ok (.aload_n 0, 1) := by decide +kernel
theorem dX0_next_1 : decode cX0_next 1 = .ok (.aload_n 0, 1) := by decide +kernel
theorem dX0_next_2 : decode cX0_next 2 = .ok (.getfield 17, 3) := by decide +kernel
theorem dX0_next_5 : decode cX0_next 5 = .ok (.invokevirtual 62, 3) := by decide +kernel
theorem dX0_next_8 : decode cX0_next 8 = .ok (.istore_n 1, 1) := by decide +kernel
theorem dX0_next_9 : decode cX0_next 9 = .ok (.iload_n 1, 1) := by decide +kernel
theorem dX0_next_10 : decode cX0_next 10 = .ok (.ifCond .ge 5, 3) := by decide +kernel
theorem dX0_next_13 : decode cX0_next 13 = .ok (.iload_n 1, 1) := by decide +kernel
theorem dX0_next_14 : decode cX0_next 14 = .ok (.ireturn, 1) := by decide +kernel
theorem dX0_next_15 : decode cX0_next 15 = .ok (.aload_n 0, 1) := by decide +kernel
theorem dX0_next_16 : decode cX0_next 16 = .ok (.aload_n 0, 1) := by decide +kernel
theorem dX0_next_17 : decode cX0_next 17 = .ok (.getfield 17, 3) := by decide +kernel
theorem dX0_next_20 : decode cX0_next 20 = .ok (.invokevirtual 65, 3) := by decide +kernel
theorem dX0_next_23 : decode cX0_next 23 = .ok (.lstore_n 2, 1) := by decide +kernel
theorem dX0_next_24 : decode cX0_next 24 = .ok (.lload_n 2, 1) := by decide +kernel
theorem dX0_next_25 : decode cX0_next 25 = .ok (.lconst 0, 1) := by decide +kernel
theorem dX0_next_26 : decode cX0_next 26 = .ok (.lcmp, 1) := by decide +kernel
theorem dX0_next_27 : decode cX0_next 27 = .ok (.ifCond .le 15, 3) := by decide +kernel
theorem dX0_next_30 : decode cX0_next 30 = .ok (.aload_n 0, 1) := by decide +kernel
theorem dX0_next_31 : decode cX0_next 31 = .ok (.getfield 27, 3) := by decide +kernel
theorem dX0_next_34 : decode cX0_next 34 = .ok (.bipush 100, 2) := by decide +kernel
theorem dX0_next_36 : decode cX0_next 36 = .ok (.if_icmp .ne 6, 3) := by decide +kernel
theorem dX0_next_39 : decode cX0_next 39 = .ok (.bipush (-5), 2) := by decide +kernel
theorem dX0_next_41 : decode cX0_next 41 = .ok (.ireturn, 1) := by decide +kernel
theorem dX0_next_42 : decode cX0_next 42 = .ok (.aload_n 0, 1) := by decide +kernel
theorem dX0_next_43 : decode cX0_next 43 = .ok (.invokevirtual 69, 3) := by decide +kernel
theorem dX0_next_46 : decode cX0_next 46 = .ok (.aload_n 0, 1) := by decide +kernel
theorem dX0_next_47 : decode cX0_next 47 = .ok (.lload_n 2, 1) := by decide +kernel
theorem dX0_next_48 : decode cX0_next 48 = .ok (.invokevirtual 72, 3) := by decide +kernel
theorem dX0_next_51 : decode cX0_next 51 = .ok (.aload_n 0, 1) := by decide +kernel
theorem dX0_next_52 : decode cX0_next 52 = .ok (.invokevirtual 76, 3) := by decide +kernel
theorem dX0_next_55 : decode cX0_next 55 = .ok (.aload_n 0, 1) := by decide +kernel
theorem dX0_next_56 : decode cX0_next 56 = .ok (.aload_n 0, 1) := by decide +kernel
theorem dX0_next_57 : decode cX0_next 57 = .ok (.getfield 17, 3) := by decide +kernel
theorem dX0_next_60 : decode cX0_next 60 = .ok (.invokevirtual 79, 3) := by decide +kernel
theorem dX0_next_63 : decode cX0_next 63 = .ok (.iload_n 1, 1) := by decide +kernel
theorem dX0_next_64 : decode cX0_next 64 = .ok (.ireturn, 1) := by decide +kernel
theorem dX0_skip_0 : decode cX0_skip 0 = .ok (.aload_n 0, 1) := by decide +kernel
theorem dX0_skip_1 : decode cX0_skip 1 = .ok (.aload_n 0, 1) := by decide +kernel
theorem dX0_skip_2 : decode cX0_skip 2 = .ok (.getfield 17, 3) := by decide +kernel
theorem dX0_skip_5 : decode cX0_skip 5 = .ok (.invokevirtual 83, 3) := by decide +kernel
theorem dX0_skip_8 : decode cX0_skip 8 = .ok (.istore_n 1, 1) := by decide +kernel
theorem dX0_skip_9 : decode cX0_skip 9 = .ok (.iload_n 1, 1) := by decide +kernel
theorem dX0_skip_10 : decode cX0_skip 10 = .ok (.ifCond .ge 5, 3) := by decide +kernel
theorem dX0_skip_13 : decode cX0_skip 13 = .ok (.iload_n 1, 1) := by decide +kernel
theorem dX0_skip_14 : decode cX0_skip 14 = .ok (.ireturn, 1) := by decide +kernel
theorem dX0_skip_15 : decode cX0_skip 15 = .ok (.aload_n 0, 1) := by decide +kernel
theorem dX0_skip_16 : decode cX0_skip 16 = .ok (.getfield 17, 3) := by decide +kernel
theorem dX0_skip_19 : decode cX0_skip 19 = .ok (.istore_n 2, 1) := by decide +kernel
theorem dX0_skip_20 : decode cX0_skip 20 = .ok (.aload_n 0, 1) := by decide +kernel
theorem dX0_skip_21 : decode cX0_skip 21 = .ok (.invokevirtual 69, 3) := by decide +kernel
theorem dX0_skip_24 : decode cX0_skip 24 = .ok (.aload_n 0, 1) := by decide +kernel
theorem dX0_skip_25 : decode cX0_skip 25 = .ok (.invokevirtual 76, 3) := by decide +kernel
theorem dX0_skip_28 : decode cX0_skip 28 = .ok (.aload_n 0, 1) := by decide +kernel
theorem dX0_skip_29 : decode cX0_skip 29 = .ok (.iload_n 1, 1) := by decide +kernel
theorem dX0_skip_30 : decode cX0_skip 30 = .ok (.invokevirtual 79, 3) := by decide +kernel
theorem dX0_skip_33 : decode cX0_skip 33 = .ok (.aload_n 0, 1) := by decide +kernel
theorem dX0_skip_34 : decode cX0_skip 34 = .ok (.getfield 17, 3) := by decide +kernel
theorem dX0_skip_37 : decode cX0_skip 37 = .ok (.iload_n 2, 1) := by decide +kernel
theorem dX0_skip_38 : decode cX0_skip 38 = .ok (.isub, 1) := by decide +kernel
theorem dX0_skip_39 : decode cX0_skip 39 = .ok (.ireturn, 1) := by decide +kernel
theorem dX0_kind_0 : decode cX0_kind 0 = .ok (.aload_n 0, 1) := by decide +kernel
theorem dX0_kind_1 : decode cX0_kind 1 = .ok (.getfield 20, 3) := by decide +kernel
theorem dX0_kind_4 : decode cX0_kind 4 = .ok (.ifCond .ge 7, 3) := by decide +kernel
theorem dX0_kind_7 : decode cX0_kind 7 = .ok (.iconst (-1), 1) := by decide +kernel
theorem dX0_kind_8 : decode cX0_kind 8 = .ok (.goto 11, 3) := by decide +kernel
theorem dX0_kind_11 : decode cX0_kind 11 = .ok (.aload_n 0, 1) := by decide +kernel
theorem dX0_kind_12 : decode cX0_kind 12 = .ok (.aload_n 0, 1) := by decide +kernel
theorem dX0_kind_13 : decode cX0_kind 13 = .ok (.getfield 20, 3) := by decide +kernel
theorem dX0_kind_16 : decode cX0_kind 16 = .ok (.invokevirtual 86, 3) := by decide +kernel
theorem dX0_kind_19 : decode cX0_kind 19 = .ok (.ireturn, 1) := by decide +kernel
theorem dX0_valueLow_0 : decode cX0_valueLow 0 = .ok (.aload_n 0, 1) := by decide +kernel
theorem dX0_valueLow_1 : decode cX0_valueLow 1 = .ok (.getfield 20, 3) := by decide +kernel
theorem dX0_valueLow_4 : decode cX0_valueLow 4 = .ok (.ifCond .ge 7, 3) := by decide +kernel
theorem dX0_valueLow_7 : decode cX0_valueLow 7 = .ok (.iconst 0, 1) := by decide +kernel
theorem dX0_valueLow_8 : decode cX0_valueLow 8 = .ok (.goto 12, 3) := by decide +kernel
theorem dX0_valueLow_11 : decode cX0_valueLow 11 = .ok (.aload_n 0, 1) := by decide +kernel
theorem dX0_valueLow_12 : decode cX0_valueLow 12 = .ok (.aload_n 0, 1) := by decide +kernel
theorem dX0_valueLow_13 : decode cX0_valueLow 13 = .ok (.getfield 20, 3) := by decide +kernel
theorem dX0_valueLow_16 : decode cX0_valueLow 16 = .ok (.invokevirtual 89, 3) := by decide +kernel
theorem dX0_valueLow_19 : decode cX0_valueLow 19 = .ok (.l2i, 1) := by decide +kernel
theorem dX0_valueLow_20 : decode cX0_valueLow 20 = .ok (.ireturn, 1) := by decide +kernel
theorem dX0_valueHigh_0 : decode cX0_valueHigh 0 = .ok (.aload_n 0, 1) := by decide +kernel
theorem dX0_valueHigh_1 : decode cX0_valueHigh 1 = .ok (.getfield 20, 3) := by decide +kernel
theorem dX0_valueHigh_4 : decode cX0_valueHigh 4 = .ok (.ifCond .ge 5, 3) := by decide +kernel
theorem dX0_valueHigh_7 : decode cX0_valueHigh 7 = .ok (.iconst 0, 1) := by decide +kernel
theorem dX0_valueHigh_8 : decode cX0_valueHigh 8 = .ok (.ireturn, 1) := by decide +kernel
theorem dX0_valueHigh_9 : decode cX0_valueHigh 9 = .ok (.aload_n 0, 1) := by decide +kernel
theorem dX0_valueHigh_10 : decode cX0_valueHigh 10 = .ok (.aload_n 0, 1) := by decide +kernel
theorem dX0_valueHigh_11 : decode cX0_valueHigh 11 = .ok (.getfield 20, 3) := by decide +kernel
theorem dX0_valueHigh_14 : decode cX0_valueHigh 14 = .ok (.invokevirtual 86, 3) := by decide +kernel
theorem dX0_valueHigh_17 : decode cX0_valueHigh 17 = .ok (.bipush 12, 2) := by decide +kernel
theorem dX0_valueHigh_19 : decode cX0_valueHigh 19 = .ok (.if_icmp .ne 12, 3) := by decide +kernel
theorem dX0_valueHigh_22 : decode cX0_valueHigh 22 = .ok (.aload_n 0, 1) := by decide +kernel
theorem dX0_valueHigh_23 : decode cX0_valueHigh 23 = .ok (.aload_n 0, 1) := by decide +kernel
theorem dX0_valueHigh_24 : decode cX0_valueHigh 24 = .ok (.getfield 20, 3) := by decide +kernel
theorem dX0_valueHigh_27 : decode cX0_valueHigh 27 = .ok (.invokevirtual 92, 3) := by decide +kernel
theorem dX0_valueHigh_30 : decode cX0_valueHigh 30 = .ok (.ireturn, 1) := by decide +kernel
theorem dX0_valueHigh_31 : decode cX0_valueHigh 31 = .ok (.aload_n 0, 1) := by decide +kernel
theorem dX0_valueHigh_32 : decode cX0_valueHigh 32 = .ok (.aload_n 0, 1) := by decide +kernel
theorem dX0_valueHigh_33 : decode cX0_valueHigh 33 = .ok (.getfield 20, 3) := by decide +kernel
theorem dX0_valueHigh_36 : decode cX0_valueHigh 36 = .ok (.invokevirtual 89, 3) := by decide +kernel
theorem dX0_valueHigh_39 : decode cX0_valueHigh 39 = .ok (.bipush 32, 2) := by decide +kernel
theorem dX0_valueHigh_41 : decode cX0_valueHigh 41 = .ok (.lushr, 1) := by decide +kernel
theorem dX0_valueHigh_42 : decode cX0_valueHigh 42 = .ok (.l2i, 1) := by decide +kernel
theorem dX0_valueHigh_43 : decode cX0_valueHigh 43 = .ok (.ireturn, 1) := by decide +kernel
theorem dX0_payload_0 : decode cX0_payload 0 = .ok (.aload_n 0, 1) := by decide +kernel
theorem dX0_payload_1 : decode cX0_payload 1 = .ok (.getfield 20, 3) := by decide +kernel
theorem dX0_payload_4 : decode cX0_payload 4 = .ok (.ifCond .lt 19, 3) := by decide +kernel
theorem dX0_payload_7 : decode cX0_payload 7 = .ok (.iload_n 1, 1) := by decide +kernel
theorem dX0_payload_8 : decode cX0_payload 8 = .ok (.ifCond .lt 15, 3) := by decide +kernel
theorem dX0_payload_11 : decode cX0_payload 11 = .ok (.iload_n 1, 1) := by decide +kernel
theorem dX0_payload_12 : decode cX0_payload 12 = .ok (.aload_n 0, 1) := by decide +kernel
theorem dX0_payload_13 : decode cX0_payload 13 = .ok (.aload_n 0, 1) := by decide +kernel
theorem dX0_payload_14 : decode cX0_payload 14 = .ok (.getfield 20, 3) := by decide +kernel
theorem dX0_payload_17 : decode cX0_payload 17 = .ok (.invokevirtual 95, 3) := by decide +kernel
theorem dX0_payload_20 : decode cX0_payload 20 = .ok (.if_icmp .lt 5, 3) := by decide +kernel
theorem dX0_payload_23 : decode cX0_payload 23 = .ok (.iconst (-1), 1) := by decide +kernel
theorem dX0_payload_24 : decode cX0_payload 24 = .ok (.ireturn, 1) := by decide +kernel
theorem dX0_payload_25 : decode cX0_payload 25 = .ok (.aload_n 0, 1) := by decide +kernel
theorem dX0_payload_26 : decode cX0_payload 26 = .ok (.aload_n 0, 1) := by decide +kernel
theorem dX0_payload_27 : decode cX0_payload 27 = .ok (.getfield 20, 3) := by decide +kernel
theorem dX0_payload_30 : decode cX0_payload 30 = .ok (.aload_n 0, 1) := by decide +kernel
theorem dX0_payload_31 : decode cX0_payload 31 = .ok (.aload_n 0, 1) := by decide +kernel
theorem dX0_payload_32 : decode cX0_payload 32 = .ok (.getfield 20, 3) := by decide +kernel
theorem dX0_payload_35 : decode cX0_payload 35 = .ok (.invokevirtual 98, 3) := by decide +kernel
theorem dX0_payload_38 : decode cX0_payload 38 = .ok (.iadd, 1) := by decide +kernel
theorem dX0_payload_39 : decode cX0_payload 39 = .ok (.iload_n 1, 1) := by decide +kernel
theorem dX0_payload_40 : decode cX0_payload 40 = .ok (.iadd, 1) := by decide +kernel
theorem dX0_payload_41 : decode cX0_payload 41 = .ok (.invokevirtual 58, 3) := by decide +kernel
theorem dX0_payload_44 : decode cX0_payload 44 = .ok (.ireturn, 1) := by decide +kernel
theorem dX0_level_0 : decode cX0_level 0 = .ok (.aload_n 0, 1) := by decide +kernel
theorem dX0_level_1 : decode cX0_level 1 = .ok (.getfield 27, 3) := by decide +kernel
theorem dX0_level_4 : decode cX0_level 4 = .ok (.ireturn, 1) := by decide +kernel
theorem dX0_remaining_0 : decode cX0_remaining 0 = .ok (.iload_n 1, 1) := by decide +kernel
theorem dX0_remaining_1 : decode cX0_remaining 1 = .ok (.ifCond .ge 13, 3) := by decide +kernel
theorem dX0_remaining_4 : decode cX0_remaining 4 = .ok (.new 30, 3) := by decide +kernel
theorem dX0_remaining_7 : decode cX0_remaining 7 = .ok (.dup, 1) := by decide +kernel
theorem dX0_remaining_8 : decode cX0_remaining 8 = .ok (.ldc 101, 2) := by decide +kernel
theorem dX0_remaining_10 : decode cX0_remaining 10 = .ok (.invokespecial 34, 3) := by decide +kernel
theorem dX0_remaining_13 : decode cX0_remaining 13 = .ok (.athrow, 1) := by decide +kernel
theorem dX0_remaining_14 : decode cX0_remaining 14 = .ok (.iload_n 1, 1) := by decide +kernel
theorem dX0_remaining_15 : decode cX0_remaining 15 = .ok (.aload_n 0, 1) := by decide +kernel
theorem dX0_remaining_16 : decode cX0_remaining 16 = .ok (.getfield 27, 3) := by decide +kernel
theorem dX0_remaining_19 : decode cX0_remaining 19 = .ok (.if_icmp .lt 9, 3) := by decide +kernel
theorem dX0_remaining_22 : decode cX0_remaining 22 = .ok (.ldc2_w 103, 3) := by decide +kernel
theorem dX0_remaining_25 : decode cX0_remaining 25 = .ok (.goto 16, 3) := by decide +kernel
theorem dX0_remaining_28 : decode cX0_remaining 28 = .ok (.aload_n 0, 1) := by decide +kernel
theorem dX0_remaining_29 : decode cX0_remaining 29 = .ok (.getfield 23, 3) := by decide +kernel
theorem dX0_remaining_32 : decode cX0_remaining 32 = .ok (.aload_n 0, 1) := by decide +kernel
theorem dX0_remaining_33 : decode cX0_remaining 33 = .ok (.getfield 27, 3) := by decide +kernel
theorem dX0_remaining_36 : decode cX0_remaining 36 = .ok (.iconst 1, 1) := by decide +kernel
theorem dX0_remaining_37 : decode cX0_remaining 37 = .ok (.isub, 1) := by decide +kernel
theorem dX0_remaining_38 : decode cX0_remaining 38 = .ok (.iload_n 1, 1) := by decide +kernel
theorem dX0_remaining_39 : decode cX0_remaining 39 = .ok (.isub, 1) := by decide +kernel
theorem dX0_remaining_40 : decode cX0_remaining 40 = .ok (.laload, 1) := by decide +kernel
theorem dX0_remaining_41 : decode cX0_remaining 41 = .ok (.lreturn, 1) := by decide +kernel
theorem dX0_consumed_0 : decode cX0_consumed 0 = .ok (.aload_n 0, 1) := by decide +kernel
theorem dX0_consumed_1 : decode cX0_consumed 1 = .ok (.getfield 17, 3) := by decide +kernel
theorem dX0_consumed_4 : decode cX0_consumed 4 = .ok (.ireturn, 1) := by decide +kernel
theorem dX0_whole_0 : decode cX0_whole 0 = .ok (.aload_n 0, 1) := by decide +kernel
theorem dX0_whole_1 : decode cX0_whole 1 = .ok (.getfield 17, 3) := by decide +kernel
theorem dX0_whole_4 : decode cX0_whole 4 = .ok (.istore_n 1, 1) := by decide +kernel
theorem dX0_whole_5 : decode cX0_whole 5 = .ok (.iconst 0, 1) := by decide +kernel
theorem dX0_whole_6 : decode cX0_whole 6 = .ok (.istore_n 2, 1) := by decide +kernel
theorem dX0_whole_7 : decode cX0_whole 7 = .ok (.iload_n 2, 1) := by decide +kernel
theorem dX0_whole_8 : decode cX0_whole 8 = .ok (.sipush 4096, 3) := by decide +kernel
theorem dX0_whole_11 : decode cX0_whole 11 = .ok (.if_icmp .ge 27, 3) := by decide +kernel
theorem dX0_whole_14 : decode cX0_whole 14 = .ok (.aload_n 0, 1) := by decide +kernel
theorem dX0_whole_15 : decode cX0_whole 15 = .ok (.iload_n 1, 1) := by decide +kernel
theorem dX0_whole_16 : decode cX0_whole 16 = .ok (.invokevirtual 83, 3) := by decide +kernel
theorem dX0_whole_19 : decode cX0_whole 19 = .ok (.istore_n 3, 1) := by decide +kernel
theorem dX0_whole_20 : decode cX0_whole 20 = .ok (.iload_n 3, 1) := by decide +kernel
theorem dX0_whole_21 : decode cX0_whole 21 = .ok (.ifCond .ge 5, 3) := by decide +kernel
theorem dX0_whole_24 : decode cX0_whole 24 = .ok (.iload_n 2, 1) := by decide +kernel
theorem dX0_whole_25 : decode cX0_whole 25 = .ok (.ireturn, 1) := by decide +kernel
theorem dX0_whole_26 : decode cX0_whole 26 = .ok (.aload_n 0, 1) := by decide +kernel
theorem dX0_whole_27 : decode cX0_whole 27 = .ok (.iload_n 3, 1) := by decide +kernel
theorem dX0_whole_28 : decode cX0_whole 28 = .ok (.invokevirtual 105, 3) := by decide +kernel
theorem dX0_whole_31 : decode cX0_whole 31 = .ok (.istore_n 1, 1) := by decide +kernel
theorem dX0_whole_32 : decode cX0_whole 32 = .ok (.iinc 2 1, 3) := by decide +kernel
theorem dX0_whole_35 : decode cX0_whole 35 = .ok (.goto (-28), 3) := by decide +kernel
theorem dX0_whole_38 : decode cX0_whole 38 = .ok (.sipush 4096, 3) := by decide +kernel
theorem dX0_whole_41 : decode cX0_whole 41 = .ok (.ireturn, 1) := by decide +kernel
theorem dX0_pack_0 : decode cX0_pack 0 = .ok (.iload_n 1, 1) := by decide +kernel
theorem dX0_pack_1 : decode cX0_pack 1 = .ok (.iconst 1, 1) := by decide +kernel
theorem dX0_pack_2 : decode cX0_pack 2 = .ok (.if_icmp .lt 9, 3) := by decide +kernel
theorem dX0_pack_5 : decode cX0_pack 5 = .ok (.iload_n 1, 1) := by decide +kernel
theorem dX0_pack_6 : decode cX0_pack 6 = .ok (.bipush 12, 2) := by decide +kernel
theorem dX0_pack_8 : decode cX0_pack 8 = .ok (.if_icmp .le 13, 3) := by decide +kernel
theorem dX0_pack_11 : decode cX0_pack 11 = .ok (.new 30, 3) := by decide +kernel
theorem dX0_pack_14 : decode cX0_pack 14 = .ok (.dup, 1) := by decide +kernel
theorem dX0_pack_15 : decode cX0_pack 15 = .ok (.ldc 108, 2) := by decide +kernel
theorem dX0_pack_17 : decode cX0_pack 17 = .ok (.invokespecial 34, 3) := by decide +kernel
theorem dX0_pack_20 : decode cX0_pack 20 = .ok (.athrow, 1) := by decide +kernel
theorem dX0_pack_21 : decode cX0_pack 21 = .ok (.iload_n 1, 1) := by decide +kernel
theorem dX0_pack_22 : decode cX0_pack 22 = .ok (.bipush 8, 2) := by decide +kernel
theorem dX0_pack_24 : decode cX0_pack 24 = .ok (.if_icmp .lt 17, 3) := by decide +kernel
theorem dX0_pack_27 : decode cX0_pack 27 = .ok (.iload_n 2, 1) := by decide +kernel
theorem dX0_pack_28 : decode cX0_pack 28 = .ok (.ifCond .ge 13, 3) := by decide +kernel
theorem dX0_pack_31 : decode cX0_pack 31 = .ok (.new 30, 3) := by decide +kernel
theorem dX0_pack_34 : decode cX0_pack 34 = .ok (.dup, 1) := by decide +kernel
theorem dX0_pack_35 : decode cX0_pack 35 = .ok (.ldc 110, 2) := by decide +kernel
theorem dX0_pack_37 : decode cX0_pack 37 = .ok (.invokespecial 34, 3) := by decide +kernel
theorem dX0_pack_40 : decode cX0_pack 40 = .ok (.athrow, 1) := by decide +kernel
theorem dX0_pack_41 : decode cX0_pack 41 = .ok (.iload_n 1, 1) := by decide +kernel
theorem dX0_pack_42 : decode cX0_pack 42 = .ok (.bipush 12, 2) := by decide +kernel
theorem dX0_pack_44 : decode cX0_pack 44 = .ok (.if_icmp .ne 25, 3) := by decide +kernel
theorem dX0_pack_47 : decode cX0_pack 47 = .ok (.iload_n 3, 1) := by decide +kernel
theorem dX0_pack_48 : decode cX0_pack 48 = .ok (.bipush (-128), 2) := by decide +kernel
theorem dX0_pack_50 : decode cX0_pack 50 = .ok (.if_icmp .lt 9, 3) := by decide +kernel
theorem dX0_pack_53 : decode cX0_pack 53 = .ok (.iload_n 3, 1) := by decide +kernel
theorem dX0_pack_54 : decode cX0_pack 54 = .ok (.bipush 127, 2) := by decide +kernel
theorem dX0_pack_56 : decode cX0_pack 56 = .ok (.if_icmp .le 13, 3) := by decide +kernel
theorem dX0_pack_59 : decode cX0_pack 59 = .ok (.new 30, 3) := by decide +kernel
theorem dX0_pack_62 : decode cX0_pack 62 = .ok (.dup, 1) := by decide +kernel
theorem dX0_pack_63 : decode cX0_pack 63 = .ok (.ldc 112, 2) := by decide +kernel
theorem dX0_pack_65 : decode cX0_pack 65 = .ok (.invokespecial 34, 3) := by decide +kernel
theorem dX0_pack_68 : decode cX0_pack 68 = .ok (.athrow, 1) := by decide +kernel
theorem dX0_pack_69 : decode cX0_pack 69 = .ok (.iload_n 1, 1) := by decide +kernel
theorem dX0_pack_70 : decode cX0_pack 70 = .ok (.iload_n 2, 1) := by decide +kernel
theorem dX0_pack_71 : decode cX0_pack 71 = .ok (.iload_n 3, 1) := by decide +kernel
theorem dX0_pack_72 : decode cX0_pack 72 = .ok (.invokestatic 114, 3) := by decide +kernel
theorem dX0_pack_75 : decode cX0_pack 75 = .ok (.lstore 4, 2) := by decide +kernel
theorem dX0_pack_77 : decode cX0_pack 77 = .ok (.iload_n 1, 1) := by decide +kernel
theorem dX0_pack_78 : decode cX0_pack 78 = .ok (.lload 4, 2) := by decide +kernel
theorem dX0_pack_80 : decode cX0_pack 80 = .ok (.invokestatic 118, 3) := by decide +kernel
theorem dX0_pack_83 : decode cX0_pack 83 = .ok (.istore 6, 2) := by decide +kernel
theorem dX0_pack_85 : decode cX0_pack 85 = .ok (.iload 6, 2) := by decide +kernel
theorem dX0_pack_87 : decode cX0_pack 87 = .ok (.invokestatic 122, 3) := by decide +kernel
theorem dX0_pack_90 : decode cX0_pack 90 = .ok (.istore 7, 2) := by decide +kernel
theorem dX0_pack_92 : decode cX0_pack 92 = .ok (.aload_n 0, 1) := by decide +kernel
theorem dX0_pack_93 : decode cX0_pack 93 = .ok (.iload 7, 2) := by decide +kernel
theorem dX0_pack_95 : decode cX0_pack 95 = .ok (.invokevirtual 37, 3) := by decide +kernel
theorem dX0_pack_98 : decode cX0_pack 98 = .ok (.ifCond .ne 13, 3) := by decide +kernel
theorem dX0_pack_101 : decode cX0_pack 101 = .ok (.new 41, 3) := by decide +kernel
theorem dX0_pack_104 : decode cX0_pack 104 = .ok (.dup, 1) := by decide +kernel
theorem dX0_pack_105 : decode cX0_pack 105 = .ok (.ldc 125, 2) := by decide +kernel
theorem dX0_pack_107 : decode cX0_pack 107 = .ok (.invokespecial 45, 3) := by decide +kernel
theorem dX0_pack_110 : decode cX0_pack 110 = .ok (.athrow, 1) := by decide +kernel
theorem dX0_pack_111 : decode cX0_pack 111 = .ok (.aload_n 0, 1) := by decide +kernel
theorem dX0_pack_112 : decode cX0_pack 112 = .ok (.iload 6, 2) := by decide +kernel
theorem dX0_pack_114 : decode cX0_pack 114 = .ok (.i2l, 1) := by decide +kernel
theorem dX0_pack_115 : decode cX0_pack 115 = .ok (.iconst 1, 1) := by decide +kernel
theorem dX0_pack_116 : decode cX0_pack 116 = .ok (.invokevirtual 46, 3) := by decide +kernel
theorem dX0_pack_119 : decode cX0_pack 119 = .ok (.aload_n 0, 1) := by decide +kernel
theorem dX0_pack_120 : decode cX0_pack 120 = .ok (.lload 4, 2) := by decide +kernel
theorem dX0_pack_122 : decode cX0_pack 122 = .ok (.iload 6, 2) := by decide +kernel
theorem dX0_pack_124 : decode cX0_pack 124 = .ok (.invokestatic 127, 3) := by decide +kernel
theorem dX0_pack_127 : decode cX0_pack 127 = .ok (.invokevirtual 46, 3) := by decide +kernel
theorem dX0_pack_130 : decode cX0_pack 130 = .ok (.aload_n 0, 1) := by decide +kernel
theorem dX0_pack_131 : decode cX0_pack 131 = .ok (.iload_n 3, 1) := by decide +kernel
theorem dX0_pack_132 : decode cX0_pack 132 = .ok (.i2l, 1) := by decide +kernel
theorem dX0_pack_133 : decode cX0_pack 133 = .ok (.iload 6, 2) := by decide +kernel
theorem dX0_pack_135 : decode cX0_pack 135 = .ok (.invokestatic 130, 3) := by decide +kernel
theorem dX0_pack_138 : decode cX0_pack 138 = .ok (.invokevirtual 46, 3) := by decide +kernel
theorem dX0_pack_141 : decode cX0_pack 141 = .ok (.iload 7, 2) := by decide +kernel
theorem dX0_pack_143 : decode cX0_pack 143 = .ok (.ireturn, 1) := by decide +kernel
theorem dX0_hasRoom_0 : decode cX0_hasRoom 0 = .ok (.iload_n 1, 1) := by decide +kernel
theorem dX0_hasRoom_1 : decode cX0_hasRoom 1 = .ok (.sipush 4096, 3) := by decide +kernel
theorem dX0_hasRoom_4 : decode cX0_hasRoom 4 = .ok (.aload_n 0, 1) := by decide +kernel
theorem dX0_hasRoom_5 : decode cX0_hasRoom 5 = .ok (.getfield 13, 3) := by decide +kernel
theorem dX0_hasRoom_8 : decode cX0_hasRoom 8 = .ok (.isub, 1) := by decide +kernel
theorem dX0_hasRoom_9 : decode cX0_hasRoom 9 = .ok (.if_icmp .gt 7, 3) := by decide +kernel
theorem dX0_hasRoom_12 : decode cX0_hasRoom 12 = .ok (.iconst 1, 1) := by decide +kernel
theorem dX0_hasRoom_13 : decode cX0_hasRoom 13 = .ok (.goto 4, 3) := by decide +kernel
theorem dX0_hasRoom_16 : decode cX0_hasRoom 16 = .ok (.iconst 0, 1) := by decide +kernel
theorem dX0_hasRoom_17 : decode cX0_hasRoom 17 = .ok (.ireturn, 1) := by decide +kernel
theorem dX0_append_0 : decode cX0_append 0 = .ok (.iload_n 3, 1) := by decide +kernel
theorem dX0_append_1 : decode cX0_append 1 = .ok (.iconst 1, 1) := by decide +kernel
theorem dX0_append_2 : decode cX0_append 2 = .ok (.isub, 1) := by decide +kernel
theorem dX0_append_3 : decode cX0_append 3 = .ok (.istore 4, 2) := by decide +kernel
theorem dX0_append_5 : decode cX0_append 5 = .ok (.iload 4, 2) := by decide +kernel
theorem dX0_append_7 : decode cX0_append 7 = .ok (.ifCond .lt 37, 3) := by decide +kernel
theorem dX0_append_10 : decode cX0_append 10 = .ok (.aload_n 0, 1) := by decide +kernel
theorem dX0_append_11 : decode cX0_append 11 = .ok (.getfield 9, 3) := by decide +kernel
theorem dX0_append_14 : decode cX0_append 14 = .ok (.aload_n 0, 1) := by decide +kernel
theorem dX0_append_15 : decode cX0_append 15 = .ok (.getfield 13, 3) := by decide +kernel
theorem dX0_append_18 : decode cX0_append 18 = .ok (.lload_n 1, 1) := by decide +kernel
theorem dX0_append_19 : decode cX0_append 19 = .ok (.bipush 8, 2) := by decide +kernel
theorem dX0_append_21 : decode cX0_append 21 = .ok (.iload 4, 2) := by decide +kernel
theorem dX0_append_23 : decode cX0_append 23 = .ok (.imul, 1) := by decide +kernel
theorem dX0_append_24 : decode cX0_append 24 = .ok (.lushr, 1) := by decide +kernel
theorem dX0_append_25 : decode cX0_append 25 = .ok (.l2i, 1) := by decide +kernel
theorem dX0_append_26 : decode cX0_append 26 = .ok (.i2b, 1) := by decide +kernel
theorem dX0_append_27 : decode cX0_append 27 = .ok (.bastore, 1) := by decide +kernel
theorem dX0_append_28 : decode cX0_append 28 = .ok (.aload_n 0, 1) := by decide +kernel
theorem dX0_append_29 : decode cX0_append 29 = .ok (.dup, 1) := by decide +kernel
theorem dX0_append_30 : decode cX0_append 30 = .ok (.getfield 13, 3) := by decide +kernel
theorem dX0_append_33 : decode cX0_append 33 = .ok (.iconst 1, 1) := by decide +kernel
theorem dX0_append_34 : decode cX0_append 34 = .ok (.iadd, 1) := by decide +kernel
theorem dX0_append_35 : decode cX0_append 35 = .ok (.putfield 13, 3) := by decide +kernel
theorem dX0_append_38 : decode cX0_append 38 = .ok (.iinc 4 (-1), 3) := by decide +kernel
theorem dX0_append_41 : decode cX0_append 41 = .ok (.goto (-36), 3) := by decide +kernel
theorem dX0_append_44 : decode cX0_append 44 = .ok (.return_, 1) := by decide +kernel
theorem dX0_storedByte_0 : decode cX0_storedByte 0 = .ok (.aload_n 0, 1) := by decide +kernel
theorem dX0_storedByte_1 : decode cX0_storedByte 1 = .ok (.getfield 9, 3) := by decide +kernel
theorem dX0_storedByte_4 : decode cX0_storedByte 4 = .ok (.iload_n 1, 1) := by decide +kernel
theorem dX0_storedByte_5 : decode cX0_storedByte 5 = .ok (.baload, 1) := by decide +kernel
theorem dX0_storedByte_6 : decode cX0_storedByte 6 = .ok (.sipush 255, 3) := by decide +kernel
theorem dX0_storedByte_9 : decode cX0_storedByte 9 = .ok (.iand, 1) := by decide +kernel
theorem dX0_storedByte_10 : decode cX0_storedByte 10 = .ok (.ireturn, 1) := by decide +kernel
theorem dX0_readNumber_0 : decode cX0_readNumber 0 = .ok (.lconst 0, 1) := by decide +kernel
theorem dX0_readNumber_1 : decode cX0_readNumber 1 = .ok (.lstore_n 3, 1) := by decide +kernel
theorem dX0_readNumber_2 : decode cX0_readNumber 2 = .ok (.iconst 0, 1) := by decide +kernel
theorem dX0_readNumber_3 : decode cX0_readNumber 3 = .ok (.istore 5, 2) := by decide +kernel
theorem dX0_readNumber_5 : decode cX0_readNumber 5 = .ok (.iload 5, 2) := by decide +kernel
theorem dX0_readNumber_7 : decode cX0_readNumber 7 = .ok (.iload_n 2, 1) := by decide +kernel
theorem dX0_readNumber_8 : decode cX0_readNumber 8 = .ok (.if_icmp .ge 24, 3) := by decide +kernel
theorem dX0_readNumber_11 : decode cX0_readNumber 11 = .ok (.lload_n 3, 1) := by decide +kernel
theorem dX0_readNumber_12 : decode cX0_readNumber 12 = .ok (.bipush 8, 2) := by decide +kernel
theorem dX0_readNumber_14 : decode cX0_readNumber 14 = .ok (.lshl, 1) := by decide +kernel
theorem dX0_readNumber_15 : decode cX0_readNumber 15 = .ok (.aload_n 0, 1) := by decide +kernel
theorem dX0_readNumber_16 : decode cX0_readNumber 16 = .ok (.iload_n 1, 1) := by decide +kernel
theorem dX0_readNumber_17 : decode cX0_readNumber 17 = .ok (.iload 5, 2) := by decide +kernel
theorem dX0_readNumber_19 : decode cX0_readNumber 19 = .ok (.iadd, 1) := by decide +kernel
theorem dX0_readNumber_20 : decode cX0_readNumber 20 = .ok (.invokevirtual 58, 3) := by decide +kernel
theorem dX0_readNumber_23 : decode cX0_readNumber 23 = .ok (.i2l, 1) := by decide +kernel
theorem dX0_readNumber_24 : decode cX0_readNumber 24 = .ok (.lor, 1) := by decide +kernel
theorem dX0_readNumber_25 : decode cX0_readNumber 25 = .ok (.lstore_n 3, 1) := by decide +kernel
theorem dX0_readNumber_26 : decode cX0_readNumber 26 = .ok (.iinc 5 1, 3) := by decide +kernel
theorem dX0_readNumber_29 : decode cX0_readNumber 29 = .ok (.goto (-24), 3) := by decide +kernel
theorem dX0_readNumber_32 : decode cX0_readNumber 32 = .ok (.lload_n 3, 1) := by decide +kernel
theorem dX0_readNumber_33 : decode cX0_readNumber 33 = .ok (.lreturn, 1) := by decide +kernel
theorem dX0_kindOf_0 : decode cX0_kindOf 0 = .ok (.iload_n 0, 1) := by decide +kernel
theorem dX0_kindOf_1 : decode cX0_kindOf 1 = .ok (.sipush 128, 3) := by decide +kernel
theorem dX0_kindOf_4 : decode cX0_kindOf 4 = .ok (.if_icmp .ge 5, 3) := by decide +kernel
theorem dX0_kindOf_7 : decode cX0_kindOf 7 = .ok (.iconst 4, 1) := by decide +kernel
theorem dX0_kindOf_8 : decode cX0_kindOf 8 = .ok (.ireturn, 1) := by decide +kernel
theorem dX0_kindOf_9 : decode cX0_kindOf 9 = .ok (.iload_n 0, 1) := by decide +kernel
theorem dX0_kindOf_10 : decode cX0_kindOf 10 = .ok (.sipush 144, 3) := by decide +kernel
theorem dX0_kindOf_13 : decode cX0_kindOf 13 = .ok (.if_icmp .ge 6, 3) := by decide +kernel
theorem dX0_kindOf_16 : decode cX0_kindOf 16 = .ok (.bipush 11, 2) := by decide +kernel
theorem dX0_kindOf_18 : decode cX0_kindOf 18 = .ok (.ireturn, 1) := by decide +kernel
theorem dX0_kindOf_19 : decode cX0_kindOf 19 = .ok (.iload_n 0, 1) := by decide +kernel
theorem dX0_kindOf_20 : decode cX0_kindOf 20 = .ok (.sipush 160, 3) := by decide +kernel
theorem dX0_kindOf_23 : decode cX0_kindOf 23 = .ok (.if_icmp .ge 6, 3) := by decide +kernel
theorem dX0_kindOf_26 : decode cX0_kindOf 26 = .ok (.bipush 10, 2) := by decide +kernel
theorem dX0_kindOf_28 : decode cX0_kindOf 28 = .ok (.ireturn, 1) := by decide +kernel
theorem dX0_kindOf_29 : decode cX0_kindOf 29 = .ok (.iload_n 0, 1) := by decide +kernel
theorem dX0_kindOf_30 : decode cX0_kindOf 30 = .ok (.sipush 192, 3) := by decide +kernel
theorem dX0_kindOf_33 : decode cX0_kindOf 33 = .ok (.if_icmp .ge 6, 3) := by decide +kernel
theorem dX0_kindOf_36 : decode cX0_kindOf 36 = .ok (.bipush 8, 2) := by decide +kernel
theorem dX0_kindOf_38 : decode cX0_kindOf 38 = .ok (.ireturn, 1) := by decide +kernel
theorem dX0_kindOf_39 : decode cX0_kindOf 39 = .ok (.iload_n 0, 1) := by decide +kernel
theorem dX0_kindOf_40 : decode cX0_kindOf 40 = .ok (.sipush 223, 3) := by decide +kernel
theorem dX0_kindOf_43 : decode cX0_kindOf 43 = .ok (.if_icmp .le 7, 3) := by decide +kernel
theorem dX0_kindOf_46 : decode cX0_kindOf 46 = .ok (.iconst 5, 1) := by decide +kernel
theorem dX0_kindOf_47 : decode cX0_kindOf 47 = .ok (.goto 12, 3) := by decide +kernel
theorem dX0_kindOf_50 : decode cX0_kindOf 50 = .ok (.getstatic 133, 3) := by decide +kernel
theorem dX0_kindOf_53 : decode cX0_kindOf 53 = .ok (.iload_n 0, 1) := by decide +kernel
theorem dX0_kindOf_54 : decode cX0_kindOf 54 = .ok (.sipush 192, 3) := by decide +kernel
theorem dX0_kindOf_57 : decode cX0_kindOf 57 = .ok (.isub, 1) := by decide +kernel
theorem dX0_kindOf_58 : decode cX0_kindOf 58 = .ok (.iaload, 1) := by decide +kernel
theorem dX0_kindOf_59 : decode cX0_kindOf 59 = .ok (.ireturn, 1) := by decide +kernel
theorem dX0_width_0 : decode cX0_width 0 = .ok (.iload_n 0, 1) := by decide +kernel
theorem dX0_width_1 : decode cX0_width 1 = .ok (.sipush 192, 3) := by decide +kernel
theorem dX0_width_4 : decode cX0_width 4 = .ok (.if_icmp .lt 10, 3) := by decide +kernel
theorem dX0_width_7 : decode cX0_width 7 = .ok (.iload_n 0, 1) := by decide +kernel
theorem dX0_width_8 : decode cX0_width 8 = .ok (.sipush 223, 3) := by decide +kernel
theorem dX0_width_11 : decode cX0_width 11 = .ok (.if_icmp .le 7, 3) := by decide +kernel
theorem dX0_width_14 : decode cX0_width 14 = .ok (.iconst 0, 1) := by decide +kernel
theorem dX0_width_15 : decode cX0_width 15 = .ok (.goto 12, 3) := by decide +kernel
theorem dX0_width_18 : decode cX0_width 18 = .ok (.getstatic 137, 3) := by decide +kernel
theorem dX0_width_21 : decode cX0_width 21 = .ok (.iload_n 0, 1) := by decide +kernel
theorem dX0_width_22 : decode cX0_width 22 = .ok (.sipush 192, 3) := by decide +kernel
theorem dX0_width_25 : decode cX0_width 25 = .ok (.isub, 1) := by decide +kernel
theorem dX0_width_26 : decode cX0_width 26 = .ok (.iaload, 1) := by decide +kernel
theorem dX0_width_27 : decode cX0_width 27 = .ok (.ireturn, 1) := by decide +kernel
theorem dX0_typeWidth_0 : decode cX0_typeWidth 0 = .ok (.iload_n 0, 1) := by decide +kernel
theorem dX0_typeWidth_1 : decode cX0_typeWidth 1 = .ok (.invokestatic 140, 3) := by decide +kernel
theorem dX0_typeWidth_4 : decode cX0_typeWidth 4 = .ok (.bipush 12, 2) := by decide +kernel
theorem dX0_typeWidth_6 : decode cX0_typeWidth 6 = .ok (.if_icmp .ne 7, 3) := by decide +kernel
theorem dX0_typeWidth_9 : decode cX0_typeWidth 9 = .ok (.iconst 1, 1) := by decide +kernel
theorem dX0_typeWidth_10 : decode cX0_typeWidth 10 = .ok (.goto 4, 3) := by decide +kernel
theorem dX0_typeWidth_13 : decode cX0_typeWidth 13 = .ok (.iconst 0, 1) := by decide +kernel
theorem dX0_typeWidth_14 : decode cX0_typeWidth 14 = .ok (.ireturn, 1) := by decide +kernel
theorem dX0_headLength_0 : decode cX0_headLength 0 = .ok (.iconst 1, 1) := by decide +kernel
theorem dX0_headLength_1 : decode cX0_headLength 1 = .ok (.iload_n 0, 1) := by decide +kernel
theorem dX0_headLength_2 : decode cX0_headLength 2 = .ok (.invokestatic 127, 3) := by decide +kernel
theorem dX0_headLength_5 : decode cX0_headLength 5 = .ok (.iadd, 1) := by decide +kernel
theorem dX0_headLength_6 : decode cX0_headLength 6 = .ok (.iload_n 0, 1) := by decide +kernel
theorem dX0_headLength_7 : decode cX0_headLength 7 = .ok (.invokestatic 130, 3) := by decide +kernel
theorem dX0_headLength_10 : decode cX0_headLength 10 = .ok (.iadd, 1) := by decide +kernel
theorem dX0_headLength_11 : decode cX0_headLength 11 = .ok (.ireturn, 1) := by decide +kernel
theorem dX0_numberInside_0 : decode cX0_numberInside 0 = .ok (.iload_n 0, 1) := by decide +kernel
theorem dX0_numberInside_1 : decode cX0_numberInside 1 = .ok (.invokestatic 140, 3) := by decide +kernel
theorem dX0_numberInside_4 : decode cX0_numberInside 4 = .ok (.tableswitch 91 4 12 #[52, 55, 91, 91, 76, 91, 69, 62, 83], 52) := by decide +kernel
theorem dX0_numberInside_56 : decode cX0_numberInside 56 = .ok (.iload_n 0, 1) := by decide +kernel
theorem dX0_numberInside_57 : decode cX0_numberInside 57 = .ok (.i2l, 1) := by decide +kernel
theorem dX0_numberInside_58 : decode cX0_numberInside 58 = .ok (.lreturn, 1) := by decide +kernel
theorem dX0_numberInside_59 : decode cX0_numberInside 59 = .ok (.iload_n 0, 1) := by decide +kernel
theorem dX0_numberInside_60 : decode cX0_numberInside 60 = .ok (.sipush 256, 3) := by decide +kernel
theorem dX0_numberInside_63 : decode cX0_numberInside 63 = .ok (.isub, 1) := by decide +kernel
theorem dX0_numberInside_64 : decode cX0_numberInside 64 = .ok (.i2l, 1) := by decide +kernel
theorem dX0_numberInside_65 : decode cX0_numberInside 65 = .ok (.lreturn, 1) := by decide +kernel
theorem dX0_numberInside_66 : decode cX0_numberInside 66 = .ok (.iload_n 0, 1) := by decide +kernel
theorem dX0_numberInside_67 : decode cX0_numberInside 67 = .ok (.sipush 128, 3) := by decide +kernel
theorem dX0_numberInside_70 : decode cX0_numberInside 70 = .ok (.isub, 1) := by decide +kernel
theorem dX0_numberInside_71 : decode cX0_numberInside 71 = .ok (.i2l, 1) := by decide +kernel
theorem dX0_numberInside_72 : decode cX0_numberInside 72 = .ok (.lreturn, 1) := by decide +kernel
theorem dX0_numberInside_73 : decode cX0_numberInside 73 = .ok (.iload_n 0, 1) := by decide +kernel
theorem dX0_numberInside_74 : decode cX0_numberInside 74 = .ok (.sipush 144, 3) := by decide +kernel
theorem dX0_numberInside_77 : decode cX0_numberInside 77 = .ok (.isub, 1) := by decide +kernel
theorem dX0_numberInside_78 : decode cX0_numberInside 78 = .ok (.i2l, 1) := by decide +kernel
theorem dX0_numberInside_79 : decode cX0_numberInside 79 = .ok (.lreturn, 1) := by decide +kernel
theorem dX0_numberInside_80 : decode cX0_numberInside 80 = .ok (.iload_n 0, 1) := by decide +kernel
theorem dX0_numberInside_81 : decode cX0_numberInside 81 = .ok (.sipush 160, 3) := by decide +kernel
theorem dX0_numberInside_84 : decode cX0_numberInside 84 = .ok (.isub, 1) := by decide +kernel
theorem dX0_numberInside_85 : decode cX0_numberInside 85 = .ok (.i2l, 1) := by decide +kernel
theorem dX0_numberInside_86 : decode cX0_numberInside 86 = .ok (.lreturn, 1) := by decide +kernel
theorem dX0_numberInside_87 : decode cX0_numberInside 87 = .ok (.lconst 1, 1) := by decide +kernel
theorem dX0_numberInside_88 : decode cX0_numberInside 88 = .ok (.iload_n 0, 1) := by decide +kernel
theorem dX0_numberInside_89 : decode cX0_numberInside 89 = .ok (.sipush 212, 3) := by decide +kernel
theorem dX0_numberInside_92 : decode cX0_numberInside 92 = .ok (.isub, 1) := by decide +kernel
theorem dX0_numberInside_93 : decode cX0_numberInside 93 = .ok (.lshl, 1) := by decide +kernel
theorem dX0_numberInside_94 : decode cX0_numberInside 94 = .ok (.lreturn, 1) := by decide +kernel
theorem dX0_numberInside_95 : decode cX0_numberInside 95 = .ok (.lconst 0, 1) := by decide +kernel
theorem dX0_numberInside_96 : decode cX0_numberInside 96 = .ok (.lreturn, 1) := by decide +kernel
theorem dX0_kindAt_0 : decode cX0_kindAt 0 = .ok (.aload_n 0, 1) := by decide +kernel
theorem dX0_kindAt_1 : decode cX0_kindAt 1 = .ok (.iload_n 1, 1) := by decide +kernel
theorem dX0_kindAt_2 : decode cX0_kindAt 2 = .ok (.invokevirtual 58, 3) := by decide +kernel
theorem dX0_kindAt_5 : decode cX0_kindAt 5 = .ok (.invokestatic 140, 3) := by decide +kernel
theorem dX0_kindAt_8 : decode cX0_kindAt 8 = .ok (.ireturn, 1) := by decide +kernel
theorem dX0_headLengthAt_0 : decode cX0_headLengthAt 0 = .ok (.aload_n 0, 1) := by decide +kernel
theorem dX0_headLengthAt_1 : decode cX0_headLengthAt 1 = .ok (.iload_n 1, 1) := by decide +kernel
theorem dX0_headLengthAt_2 : decode cX0_headLengthAt 2 = .ok (.invokevirtual 58, 3) := by decide +kernel
theorem dX0_headLengthAt_5 : decode cX0_headLengthAt 5 = .ok (.invokestatic 122, 3) := by decide +kernel
theorem dX0_headLengthAt_8 : decode cX0_headLengthAt 8 = .ok (.ireturn, 1) := by decide +kernel
theorem dX0_numberAt_0 : decode cX0_numberAt 0 = .ok (.aload_n 0, 1) := by decide +kernel
theorem dX0_numberAt_1 : decode cX0_numberAt 1 = .ok (.iload_n 1, 1) := by decide +kernel
theorem dX0_numberAt_2 : decode cX0_numberAt 2 = .ok (.invokevirtual 58, 3) := by decide +kernel
theorem dX0_numberAt_5 : decode cX0_numberAt 5 = .ok (.istore_n 2, 1) := by decide +kernel
theorem dX0_numberAt_6 : decode cX0_numberAt 6 = .ok (.iload_n 2, 1) := by decide +kernel
theorem dX0_numberAt_7 : decode cX0_numberAt 7 = .ok (.invokestatic 127, 3) := by decide +kernel
theorem dX0_numberAt_10 : decode cX0_numberAt 10 = .ok (.istore_n 3, 1) := by decide +kernel
theorem dX0_numberAt_11 : decode cX0_numberAt 11 = .ok (.iload_n 3, 1) := by decide +kernel
theorem dX0_numberAt_12 : decode cX0_numberAt 12 = .ok (.ifCond .ne 8, 3) := by decide +kernel
theorem dX0_numberAt_15 : decode cX0_numberAt 15 = .ok (.iload_n 2, 1) := by decide +kernel
theorem dX0_numberAt_16 : decode cX0_numberAt 16 = .ok (.invokestatic 143, 3) := by decide +kernel
theorem dX0_numberAt_19 : decode cX0_numberAt 19 = .ok (.lreturn, 1) := by decide +kernel
theorem dX0_numberAt_20 : decode cX0_numberAt 20 = .ok (.aload_n 0, 1) := by decide +kernel
theorem dX0_numberAt_21 : decode cX0_numberAt 21 = .ok (.iload_n 1, 1) := by decide +kernel
theorem dX0_numberAt_22 : decode cX0_numberAt 22 = .ok (.iconst 1, 1) := by decide +kernel
theorem dX0_numberAt_23 : decode cX0_numberAt 23 = .ok (.iadd, 1) := by decide +kernel
theorem dX0_numberAt_24 : decode cX0_numberAt 24 = .ok (.iload_n 3, 1) := by decide +kernel
theorem dX0_numberAt_25 : decode cX0_numberAt 25 = .ok (.invokevirtual 146, 3) := by decide +kernel
theorem dX0_numberAt_28 : decode cX0_numberAt 28 = .ok (.lstore 4, 2) := by decide +kernel
theorem dX0_numberAt_30 : decode cX0_numberAt 30 = .ok (.iload_n 2, 1) := by decide +kernel
theorem dX0_numberAt_31 : decode cX0_numberAt 31 = .ok (.invokestatic 140, 3) := by decide +kernel
theorem dX0_numberAt_34 : decode cX0_numberAt 34 = .ok (.iconst 5, 1) := by decide +kernel
theorem dX0_numberAt_35 : decode cX0_numberAt 35 = .ok (.if_icmp .ne 12, 3) := by decide +kernel
theorem dX0_numberAt_38 : decode cX0_numberAt 38 = .ok (.lload 4, 2) := by decide +kernel
theorem dX0_numberAt_40 : decode cX0_numberAt 40 = .ok (.iload_n 3, 1) := by decide +kernel
theorem dX0_numberAt_41 : decode cX0_numberAt 41 = .ok (.invokestatic 150, 3) := by decide +kernel
theorem dX0_numberAt_44 : decode cX0_numberAt 44 = .ok (.goto 5, 3) := by decide +kernel
theorem dX0_numberAt_47 : decode cX0_numberAt 47 = .ok (.lload 4, 2) := by decide +kernel
theorem dX0_numberAt_49 : decode cX0_numberAt 49 = .ok (.lreturn, 1) := by decide +kernel
theorem dX0_withSign_0 : decode cX0_withSign 0 = .ok (.bipush 64, 2) := by decide +kernel
theorem dX0_withSign_2 : decode cX0_withSign 2 = .ok (.bipush 8, 2) := by decide +kernel
theorem dX0_withSign_4 : decode cX0_withSign 4 = .ok (.iload_n 2, 1) := by decide +kernel
theorem dX0_withSign_5 : decode cX0_withSign 5 = .ok (.imul, 1) := by decide +kernel
theorem dX0_withSign_6 : decode cX0_withSign 6 = .ok (.isub, 1) := by decide +kernel
theorem dX0_withSign_7 : decode cX0_withSign 7 = .ok (.istore_n 3, 1) := by decide +kernel
theorem dX0_withSign_8 : decode cX0_withSign 8 = .ok (.lload_n 0, 1) := by decide +kernel
theorem dX0_withSign_9 : decode cX0_withSign 9 = .ok (.iload_n 3, 1) := by decide +kernel
theorem dX0_withSign_10 : decode cX0_withSign 10 = .ok (.lshl, 1) := by decide +kernel
theorem dX0_withSign_11 : decode cX0_withSign 11 = .ok (.iload_n 3, 1) := by decide +kernel
theorem dX0_withSign_12 : decode cX0_withSign 12 = .ok (.lshr, 1) := by decide +kernel
theorem dX0_withSign_13 : decode cX0_withSign 13 = .ok (.lreturn, 1) := by decide +kernel
theorem dX0_typeAt_0 : decode cX0_typeAt 0 = .ok (.aload_n 0, 1) := by decide +kernel
theorem dX0_typeAt_1 : decode cX0_typeAt 1 = .ok (.getfield 9, 3) := by decide +kernel
theorem dX0_typeAt_4 : decode cX0_typeAt 4 = .ok (.iload_n 1, 1) := by decide +kernel
theorem dX0_typeAt_5 : decode cX0_typeAt 5 = .ok (.aload_n 0, 1) := by decide +kernel
theorem dX0_typeAt_6 : decode cX0_typeAt 6 = .ok (.iload_n 1, 1) := by decide +kernel
theorem dX0_typeAt_7 : decode cX0_typeAt 7 = .ok (.invokevirtual 98, 3) := by decide +kernel
theorem dX0_typeAt_10 : decode cX0_typeAt 10 = .ok (.iadd, 1) := by decide +kernel
theorem dX0_typeAt_11 : decode cX0_typeAt 11 = .ok (.iconst 1, 1) := by decide +kernel
theorem dX0_typeAt_12 : decode cX0_typeAt 12 = .ok (.isub, 1) := by decide +kernel
theorem dX0_typeAt_13 : decode cX0_typeAt 13 = .ok (.baload, 1) := by decide +kernel
theorem dX0_typeAt_14 : decode cX0_typeAt 14 = .ok (.ireturn, 1) := by decide +kernel
theorem dX0_payloadLengthAt_0 : decode cX0_payloadLengthAt 0 = .ok (.aload_n 0, 1) := by decide +kernel
theorem dX0_payloadLengthAt_1 : decode cX0_payloadLengthAt 1 = .ok (.iload_n 1, 1) := by decide +kernel
theorem dX0_payloadLengthAt_2 : decode cX0_payloadLengthAt 2 = .ok (.invokevirtual 86, 3) := by decide +kernel
theorem dX0_payloadLengthAt_5 : decode cX0_payloadLengthAt 5 = .ok (.invokestatic 154, 3) := by decide +kernel
theorem dX0_payloadLengthAt_8 : decode cX0_payloadLengthAt 8 = .ok (.ifCond .eq 12, 3) := by decide +kernel
theorem dX0_payloadLengthAt_11 : decode cX0_payloadLengthAt 11 = .ok (.aload_n 0, 1) := by decide +kernel
theorem dX0_payloadLengthAt_12 : decode cX0_payloadLengthAt 12 = .ok (.iload_n 1, 1) := by decide +kernel
theorem dX0_payloadLengthAt_13 : decode cX0_payloadLengthAt 13 = .ok (.invokevirtual 89, 3) := by decide +kernel
theorem dX0_payloadLengthAt_16 : decode cX0_payloadLengthAt 16 = .ok (.l2i, 1) := by decide +kernel
theorem dX0_payloadLengthAt_17 : decode cX0_payloadLengthAt 17 = .ok (.goto 4, 3) := by decide +kernel
theorem dX0_payloadLengthAt_20 : decode cX0_payloadLengthAt 20 = .ok (.iconst 0, 1) := by decide +kernel
theorem dX0_payloadLengthAt_21 : decode cX0_payloadLengthAt 21 = .ok (.ireturn, 1) := by decide +kernel
theorem dX0_childrenAt_0 : decode cX0_childrenAt 0 = .ok (.aload_n 0, 1) := by decide +kernel
theorem dX0_childrenAt_1 : decode cX0_childrenAt 1 = .ok (.iload_n 1, 1) := by decide +kernel
theorem dX0_childrenAt_2 : decode cX0_childrenAt 2 = .ok (.invokevirtual 86, 3) := by decide +kernel
theorem dX0_childrenAt_5 : decode cX0_childrenAt 5 = .ok (.lookupswitch 43 #[(10, 27), (11, 33)], 27) := by decide +kernel
theorem dX0_childrenAt_32 : decode cX0_childrenAt 32 = .ok (.aload_n 0, 1) := by decide +kernel
theorem dX0_childrenAt_33 : decode cX0_childrenAt 33 = .ok (.iload_n 1, 1) := by decide +kernel
theorem dX0_childrenAt_34 : decode cX0_childrenAt 34 = .ok (.invokevirtual 89, 3) := by decide +kernel
theorem dX0_childrenAt_37 : decode cX0_childrenAt 37 = .ok (.lreturn, 1) := by decide +kernel
theorem dX0_childrenAt_38 : decode cX0_childrenAt 38 = .ok (.ldc2_w 157, 3) := by decide +kernel
theorem dX0_childrenAt_41 : decode cX0_childrenAt 41 = .ok (.aload_n 0, 1) := by decide +kernel
theorem dX0_childrenAt_42 : decode cX0_childrenAt 42 = .ok (.iload_n 1, 1) := by decide +kernel
theorem dX0_childrenAt_43 : decode cX0_childrenAt 43 = .ok (.invokevirtual 89, 3) := by decide +kernel
theorem dX0_childrenAt_46 : decode cX0_childrenAt 46 = .ok (.lmul, 1) := by decide +kernel
theorem dX0_childrenAt_47 : decode cX0_childrenAt 47 = .ok (.lreturn, 1) := by decide +kernel
theorem dX0_childrenAt_48 : decode cX0_childrenAt 48 = .ok (.lconst 0, 1) := by decide +kernel
theorem dX0_childrenAt_49 : decode cX0_childrenAt 49 = .ok (.lreturn, 1) := by decide +kernel
theorem dX0_endAt_0 : decode cX0_endAt 0 = .ok (.iload_n 1, 1) := by decide +kernel
theorem dX0_endAt_1 : decode cX0_endAt 1 = .ok (.aload_n 0, 1) := by decide +kernel
theorem dX0_endAt_2 : decode cX0_endAt 2 = .ok (.iload_n 1, 1) := by decide +kernel
theorem dX0_endAt_3 : decode cX0_endAt 3 = .ok (.invokevirtual 98, 3) := by decide +kernel
theorem dX0_endAt_6 : decode cX0_endAt 6 = .ok (.iadd, 1) := by decide +kernel
theorem dX0_endAt_7 : decode cX0_endAt 7 = .ok (.aload_n 0, 1) := by decide +kernel
theorem dX0_endAt_8 : decode cX0_endAt 8 = .ok (.iload_n 1, 1) := by decide +kernel
theorem dX0_endAt_9 : decode cX0_endAt 9 = .ok (.invokevirtual 95, 3) := by decide +kernel
theorem dX0_endAt_12 : decode cX0_endAt 12 = .ok (.iadd, 1) := by decide +kernel
theorem dX0_endAt_13 : decode cX0_endAt 13 = .ok (.ireturn, 1) := by decide +kernel
theorem dX0_hasPayload_0 : decode cX0_hasPayload 0 = .ok (.iload_n 0, 1) := by decide +kernel
theorem dX0_hasPayload_1 : decode cX0_hasPayload 1 = .ok (.bipush 8, 2) := by decide +kernel
theorem dX0_hasPayload_3 : decode cX0_hasPayload 3 = .ok (.if_icmp .eq 15, 3) := by decide +kernel
theorem dX0_hasPayload_6 : decode cX0_hasPayload 6 = .ok (.iload_n 0, 1) := by decide +kernel
theorem dX0_hasPayload_7 : decode cX0_hasPayload 7 = .ok (.bipush 9, 2) := by decide +kernel
theorem dX0_hasPayload_9 : decode cX0_hasPayload 9 = .ok (.if_icmp .eq 9, 3) := by decide +kernel
