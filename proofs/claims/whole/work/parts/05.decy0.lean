theorem dX1_init_0 : decode cX1_init 0 = .ok (.aload_n 0, 1) := by decide +kernel
theorem dX1_init_1 : decode cX1_init 1 = .ok (.invokespecial 1, 3) := by decide +kernel
theorem dX1_init_4 : decode cX1_init 4 = .ok (.aload_n 0, 1) := by decide +kernel
theorem dX1_init_5 : decode cX1_init 5 = .ok (.sipush 4096, 3) := by decide +kernel
theorem dX1_init_8 : decode cX1_init 8 = .ok (.newarray .int, 2) := by decide +kernel
theorem dX1_init_10 : decode cX1_init 10 = .ok (.putfield 7, 3) := by decide +kernel
theorem dX1_init_13 : decode cX1_init 13 = .ok (.aload_n 0, 1) := by decide +kernel
theorem dX1_init_14 : decode cX1_init 14 = .ok (.iconst (-1), 1) := by decide +kernel
theorem dX1_init_15 : decode cX1_init 15 = .ok (.putfield 13, 3) := by decide +kernel
theorem dX1_init_18 : decode cX1_init 18 = .ok (.aload_n 0, 1) := by decide +kernel
theorem dX1_init_19 : decode cX1_init 19 = .ok (.bipush 100, 2) := by decide +kernel
theorem dX1_init_21 : decode cX1_init 21 = .ok (.newarray .long, 2) := by decide +kernel
theorem dX1_init_23 : decode cX1_init 23 = .ok (.putfield 17, 3) := by decide +kernel
theorem dX1_init_26 : decode cX1_init 26 = .ok (.return_, 1) := by decide +kernel
theorem dX1_thrown_0 : decode cX1_thrown 0 = .ok (.aload_n 0, 1) := by decide +kernel
theorem dX1_thrown_1 : decode cX1_thrown 1 = .ok (.getfield 21, 3) := by decide +kernel
theorem dX1_thrown_4 : decode cX1_thrown 4 = .ok (.ireturn, 1) := by decide +kernel
theorem dX1_fails_0 : decode cX1_fails 0 = .ok (.aload_n 0, 1) := by decide +kernel
theorem dX1_fails_1 : decode cX1_fails 1 = .ok (.getfield 21, 3) := by decide +kernel
theorem dX1_fails_4 : decode cX1_fails 4 = .ok (.ifCond .ne 12, 3) := by decide +kernel
theorem dX1_fails_7 : decode cX1_fails 7 = .ok (.iload_n 1, 1) := by decide +kernel
theorem dX1_fails_8 : decode cX1_fails 8 = .ok (.ifCond .eq 8, 3) := by decide +kernel
theorem dX1_fails_11 : decode cX1_fails 11 = .ok (.aload_n 0, 1) := by decide +kernel
theorem dX1_fails_12 : decode cX1_fails 12 = .ok (.iload_n 2, 1) := by decide +kernel
theorem dX1_fails_13 : decode cX1_fails 13 = .ok (.putfield 21, 3) := by decide +kernel
theorem dX1_fails_16 : decode cX1_fails 16 = .ok (.aload_n 0, 1) := by decide +kernel
theorem dX1_fails_17 : decode cX1_fails 17 = .ok (.getfield 21, 3) := by decide +kernel
theorem dX1_fails_20 : decode cX1_fails 20 = .ok (.ifCond .le 7, 3) := by decide +kernel
theorem dX1_fails_23 : decode cX1_fails 23 = .ok (.iconst 1, 1) := by decide +kernel
theorem dX1_fails_24 : decode cX1_fails 24 = .ok (.goto 4, 3) := by decide +kernel
theorem dX1_fails_27 : decode cX1_fails 27 = .ok (.iconst 0, 1) := by decide +kernel
theorem dX1_fails_28 : decode cX1_fails 28 = .ok (.ireturn, 1) := by decide +kernel
theorem dX1_feed_0 : decode cX1_feed 0 = .ok (.aload_n 0, 1) := by decide +kernel
theorem dX1_feed_1 : decode cX1_feed 1 = .ok (.iconst 0, 1) := by decide +kernel
theorem dX1_feed_2 : decode cX1_feed 2 = .ok (.putfield 21, 3) := by decide +kernel
theorem dX1_feed_5 : decode cX1_feed 5 = .ok (.aload_n 0, 1) := by decide +kernel
theorem dX1_feed_6 : decode cX1_feed 6 = .ok (.iload_n 1, 1) := by decide +kernel
theorem dX1_feed_7 : decode cX1_feed 7 = .ok (.ifCond .lt 10, 3) := by decide +kernel
theorem dX1_feed_10 : decode cX1_feed 10 = .ok (.iload_n 1, 1) := by decide +kernel
theorem dX1_feed_11 : decode cX1_feed 11 = .ok (.sipush 255, 3) := by decide +kernel
theorem dX1_feed_14 : decode cX1_feed 14 = .ok (.if_icmp .le 7, 3) := by decide +kernel
theorem dX1_feed_17 : decode cX1_feed 17 = .ok (.iconst 1, 1) := by decide +kernel
theorem dX1_feed_18 : decode cX1_feed 18 = .ok (.goto 4, 3) := by decide +kernel
theorem dX1_feed_21 : decode cX1_feed 21 = .ok (.iconst 0, 1) := by decide +kernel
theorem dX1_feed_22 : decode cX1_feed 22 = .ok (.iconst 1, 1) := by decide +kernel
theorem dX1_feed_23 : decode cX1_feed 23 = .ok (.invokevirtual 24, 3) := by decide +kernel
theorem dX1_feed_26 : decode cX1_feed 26 = .ok (.pop, 1) := by decide +kernel
theorem dX1_feed_27 : decode cX1_feed 27 = .ok (.aload_n 0, 1) := by decide +kernel
theorem dX1_feed_28 : decode cX1_feed 28 = .ok (.aload_n 0, 1) := by decide +kernel
theorem dX1_feed_29 : decode cX1_feed 29 = .ok (.getfield 28, 3) := by decide +kernel
theorem dX1_feed_32 : decode cX1_feed 32 = .ok (.sipush 4096, 3) := by decide +kernel
theorem dX1_feed_35 : decode cX1_feed 35 = .ok (.if_icmp .ne 7, 3) := by decide +kernel
theorem dX1_feed_38 : decode cX1_feed 38 = .ok (.iconst 1, 1) := by decide +kernel
theorem dX1_feed_39 : decode cX1_feed 39 = .ok (.goto 4, 3) := by decide +kernel
theorem dX1_feed_42 : decode cX1_feed 42 = .ok (.iconst 0, 1) := by decide +kernel
theorem dX1_feed_43 : decode cX1_feed 43 = .ok (.iconst 2, 1) := by decide +kernel
theorem dX1_feed_44 : decode cX1_feed 44 = .ok (.invokevirtual 24, 3) := by decide +kernel
theorem dX1_feed_47 : decode cX1_feed 47 = .ok (.ifCond .eq 5, 3) := by decide +kernel
theorem dX1_feed_50 : decode cX1_feed 50 = .ok (.iconst 0, 1) := by decide +kernel
theorem dX1_feed_51 : decode cX1_feed 51 = .ok (.ireturn, 1) := by decide +kernel
theorem dX1_feed_52 : decode cX1_feed 52 = .ok (.aload_n 0, 1) := by decide +kernel
theorem dX1_feed_53 : decode cX1_feed 53 = .ok (.getfield 7, 3) := by decide +kernel
theorem dX1_feed_56 : decode cX1_feed 56 = .ok (.aload_n 0, 1) := by decide +kernel
theorem dX1_feed_57 : decode cX1_feed 57 = .ok (.getfield 28, 3) := by decide +kernel
theorem dX1_feed_60 : decode cX1_feed 60 = .ok (.iload_n 1, 1) := by decide +kernel
theorem dX1_feed_61 : decode cX1_feed 61 = .ok (.iastore, 1) := by decide +kernel
theorem dX1_feed_62 : decode cX1_feed 62 = .ok (.aload_n 0, 1) := by decide +kernel
theorem dX1_feed_63 : decode cX1_feed 63 = .ok (.dup, 1) := by decide +kernel
theorem dX1_feed_64 : decode cX1_feed 64 = .ok (.getfield 28, 3) := by decide +kernel
theorem dX1_feed_67 : decode cX1_feed 67 = .ok (.iconst 1, 1) := by decide +kernel
theorem dX1_feed_68 : decode cX1_feed 68 = .ok (.iadd, 1) := by decide +kernel
theorem dX1_feed_69 : decode cX1_feed 69 = .ok (.putfield 28, 3) := by decide +kernel
theorem dX1_feed_72 : decode cX1_feed 72 = .ok (.aload_n 0, 1) := by decide +kernel
theorem dX1_feed_73 : decode cX1_feed 73 = .ok (.getfield 28, 3) := by decide +kernel
theorem dX1_feed_76 : decode cX1_feed 76 = .ok (.ireturn, 1) := by decide +kernel
theorem dX1_write_0 : decode cX1_write 0 = .ok (.iload_n 3, 1) := by decide +kernel
theorem dX1_write_1 : decode cX1_write 1 = .ok (.iconst 1, 1) := by decide +kernel
theorem dX1_write_2 : decode cX1_write 2 = .ok (.isub, 1) := by decide +kernel
theorem dX1_write_3 : decode cX1_write 3 = .ok (.istore 4, 2) := by decide +kernel
theorem dX1_write_5 : decode cX1_write 5 = .ok (.iload 4, 2) := by decide +kernel
theorem dX1_write_7 : decode cX1_write 7 = .ok (.ifCond .lt 40, 3) := by decide +kernel
theorem dX1_write_10 : decode cX1_write 10 = .ok (.aload_n 0, 1) := by decide +kernel
theorem dX1_write_11 : decode cX1_write 11 = .ok (.getfield 7, 3) := by decide +kernel
theorem dX1_write_14 : decode cX1_write 14 = .ok (.aload_n 0, 1) := by decide +kernel
theorem dX1_write_15 : decode cX1_write 15 = .ok (.getfield 28, 3) := by decide +kernel
theorem dX1_write_18 : decode cX1_write 18 = .ok (.lload_n 1, 1) := by decide +kernel
theorem dX1_write_19 : decode cX1_write 19 = .ok (.bipush 8, 2) := by decide +kernel
theorem dX1_write_21 : decode cX1_write 21 = .ok (.iload 4, 2) := by decide +kernel
theorem dX1_write_23 : decode cX1_write 23 = .ok (.imul, 1) := by decide +kernel
theorem dX1_write_24 : decode cX1_write 24 = .ok (.lshr, 1) := by decide +kernel
theorem dX1_write_25 : decode cX1_write 25 = .ok (.ldc2_w 31, 3) := by decide +kernel
theorem dX1_write_28 : decode cX1_write 28 = .ok (.land, 1) := by decide +kernel
theorem dX1_write_29 : decode cX1_write 29 = .ok (.l2i, 1) := by decide +kernel
theorem dX1_write_30 : decode cX1_write 30 = .ok (.iastore, 1) := by decide +kernel
theorem dX1_write_31 : decode cX1_write 31 = .ok (.aload_n 0, 1) := by decide +kernel
theorem dX1_write_32 : decode cX1_write 32 = .ok (.dup, 1) := by decide +kernel
theorem dX1_write_33 : decode cX1_write 33 = .ok (.getfield 28, 3) := by decide +kernel
theorem dX1_write_36 : decode cX1_write 36 = .ok (.iconst 1, 1) := by decide +kernel
theorem dX1_write_37 : decode cX1_write 37 = .ok (.iadd, 1) := by decide +kernel
theorem dX1_write_38 : decode cX1_write 38 = .ok (.putfield 28, 3) := by decide +kernel
theorem dX1_write_41 : decode cX1_write 41 = .ok (.iinc 4 (-1), 3) := by decide +kernel
theorem dX1_write_44 : decode cX1_write 44 = .ok (.goto (-39), 3) := by decide +kernel
theorem dX1_write_47 : decode cX1_write 47 = .ok (.return_, 1) := by decide +kernel
theorem dX1_put_0 : decode cX1_put 0 = .ok (.aload_n 0, 1) := by decide +kernel
theorem dX1_put_1 : decode cX1_put 1 = .ok (.iconst 0, 1) := by decide +kernel
theorem dX1_put_2 : decode cX1_put 2 = .ok (.putfield 21, 3) := by decide +kernel
theorem dX1_put_5 : decode cX1_put 5 = .ok (.aload_n 0, 1) := by decide +kernel
theorem dX1_put_6 : decode cX1_put 6 = .ok (.iload_n 3, 1) := by decide +kernel
theorem dX1_put_7 : decode cX1_put 7 = .ok (.iconst 1, 1) := by decide +kernel
theorem dX1_put_8 : decode cX1_put 8 = .ok (.if_icmp .lt 9, 3) := by decide +kernel
theorem dX1_put_11 : decode cX1_put 11 = .ok (.iload_n 3, 1) := by decide +kernel
theorem dX1_put_12 : decode cX1_put 12 = .ok (.bipush 8, 2) := by decide +kernel
theorem dX1_put_14 : decode cX1_put 14 = .ok (.if_icmp .le 7, 3) := by decide +kernel
theorem dX1_put_17 : decode cX1_put 17 = .ok (.iconst 1, 1) := by decide +kernel
theorem dX1_put_18 : decode cX1_put 18 = .ok (.goto 4, 3) := by decide +kernel
theorem dX1_put_21 : decode cX1_put 21 = .ok (.iconst 0, 1) := by decide +kernel
theorem dX1_put_22 : decode cX1_put 22 = .ok (.iconst 1, 1) := by decide +kernel
theorem dX1_put_23 : decode cX1_put 23 = .ok (.invokevirtual 24, 3) := by decide +kernel
theorem dX1_put_26 : decode cX1_put 26 = .ok (.pop, 1) := by decide +kernel
theorem dX1_put_27 : decode cX1_put 27 = .ok (.aload_n 0, 1) := by decide +kernel
theorem dX1_put_28 : decode cX1_put 28 = .ok (.aload_n 0, 1) := by decide +kernel
theorem dX1_put_29 : decode cX1_put 29 = .ok (.getfield 28, 3) := by decide +kernel
theorem dX1_put_32 : decode cX1_put 32 = .ok (.iload_n 3, 1) := by decide +kernel
theorem dX1_put_33 : decode cX1_put 33 = .ok (.iadd, 1) := by decide +kernel
theorem dX1_put_34 : decode cX1_put 34 = .ok (.sipush 4096, 3) := by decide +kernel
theorem dX1_put_37 : decode cX1_put 37 = .ok (.if_icmp .le 7, 3) := by decide +kernel
theorem dX1_put_40 : decode cX1_put 40 = .ok (.iconst 1, 1) := by decide +kernel
theorem dX1_put_41 : decode cX1_put 41 = .ok (.goto 4, 3) := by decide +kernel
theorem dX1_put_44 : decode cX1_put 44 = .ok (.iconst 0, 1) := by decide +kernel
theorem dX1_put_45 : decode cX1_put 45 = .ok (.iconst 2, 1) := by decide +kernel
theorem dX1_put_46 : decode cX1_put 46 = .ok (.invokevirtual 24, 3) := by decide +kernel
theorem dX1_put_49 : decode cX1_put 49 = .ok (.ifCond .eq 5, 3) := by decide +kernel
theorem dX1_put_52 : decode cX1_put 52 = .ok (.iconst 0, 1) := by decide +kernel
theorem dX1_put_53 : decode cX1_put 53 = .ok (.ireturn, 1) := by decide +kernel
theorem dX1_put_54 : decode cX1_put 54 = .ok (.aload_n 0, 1) := by decide +kernel
theorem dX1_put_55 : decode cX1_put 55 = .ok (.lload_n 1, 1) := by decide +kernel
theorem dX1_put_56 : decode cX1_put 56 = .ok (.iload_n 3, 1) := by decide +kernel
theorem dX1_put_57 : decode cX1_put 57 = .ok (.invokevirtual 33, 3) := by decide +kernel
theorem dX1_put_60 : decode cX1_put 60 = .ok (.aload_n 0, 1) := by decide +kernel
theorem dX1_put_61 : decode cX1_put 61 = .ok (.getfield 28, 3) := by decide +kernel
theorem dX1_put_64 : decode cX1_put 64 = .ok (.ireturn, 1) := by decide +kernel
theorem dX1_cut_0 : decode cX1_cut 0 = .ok (.aload_n 0, 1) := by decide +kernel
theorem dX1_cut_1 : decode cX1_cut 1 = .ok (.iconst 0, 1) := by decide +kernel
theorem dX1_cut_2 : decode cX1_cut 2 = .ok (.putfield 21, 3) := by decide +kernel
theorem dX1_cut_5 : decode cX1_cut 5 = .ok (.aload_n 0, 1) := by decide +kernel
theorem dX1_cut_6 : decode cX1_cut 6 = .ok (.iload_n 1, 1) := by decide +kernel
theorem dX1_cut_7 : decode cX1_cut 7 = .ok (.ifCond .lt 16, 3) := by decide +kernel
theorem dX1_cut_10 : decode cX1_cut 10 = .ok (.iload_n 1, 1) := by decide +kernel
theorem dX1_cut_11 : decode cX1_cut 11 = .ok (.aload_n 0, 1) := by decide +kernel
theorem dX1_cut_12 : decode cX1_cut 12 = .ok (.getfield 28, 3) := by decide +kernel
theorem dX1_cut_15 : decode cX1_cut 15 = .ok (.aload_n 0, 1) := by decide +kernel
theorem dX1_cut_16 : decode cX1_cut 16 = .ok (.getfield 37, 3) := by decide +kernel
theorem dX1_cut_19 : decode cX1_cut 19 = .ok (.isub, 1) := by decide +kernel
theorem dX1_cut_20 : decode cX1_cut 20 = .ok (.if_icmp .le 7, 3) := by decide +kernel
theorem dX1_cut_23 : decode cX1_cut 23 = .ok (.iconst 1, 1) := by decide +kernel
theorem dX1_cut_24 : decode cX1_cut 24 = .ok (.goto 4, 3) := by decide +kernel
theorem dX1_cut_27 : decode cX1_cut 27 = .ok (.iconst 0, 1) := by decide +kernel
theorem dX1_cut_28 : decode cX1_cut 28 = .ok (.iconst 1, 1) := by decide +kernel
theorem dX1_cut_29 : decode cX1_cut 29 = .ok (.invokevirtual 24, 3) := by decide +kernel
theorem dX1_cut_32 : decode cX1_cut 32 = .ok (.ifCond .eq 5, 3) := by decide +kernel
theorem dX1_cut_35 : decode cX1_cut 35 = .ok (.iconst 0, 1) := by decide +kernel
theorem dX1_cut_36 : decode cX1_cut 36 = .ok (.ireturn, 1) := by decide +kernel
theorem dX1_cut_37 : decode cX1_cut 37 = .ok (.aload_n 0, 1) := by decide +kernel
theorem dX1_cut_38 : decode cX1_cut 38 = .ok (.dup, 1) := by decide +kernel
theorem dX1_cut_39 : decode cX1_cut 39 = .ok (.getfield 28, 3) := by decide +kernel
theorem dX1_cut_42 : decode cX1_cut 42 = .ok (.iload_n 1, 1) := by decide +kernel
theorem dX1_cut_43 : decode cX1_cut 43 = .ok (.isub, 1) := by decide +kernel
theorem dX1_cut_44 : decode cX1_cut 44 = .ok (.putfield 28, 3) := by decide +kernel
theorem dX1_cut_47 : decode cX1_cut 47 = .ok (.aload_n 0, 1) := by decide +kernel
theorem dX1_cut_48 : decode cX1_cut 48 = .ok (.getfield 28, 3) := by decide +kernel
theorem dX1_cut_51 : decode cX1_cut 51 = .ok (.ireturn, 1) := by decide +kernel
theorem dX1_byteAt_0 : decode cX1_byteAt 0 = .ok (.aload_n 0, 1) := by decide +kernel
theorem dX1_byteAt_1 : decode cX1_byteAt 1 = .ok (.iconst 0, 1) := by decide +kernel
theorem dX1_byteAt_2 : decode cX1_byteAt 2 = .ok (.putfield 21, 3) := by decide +kernel
theorem dX1_byteAt_5 : decode cX1_byteAt 5 = .ok (.aload_n 0, 1) := by decide +kernel
theorem dX1_byteAt_6 : decode cX1_byteAt 6 = .ok (.iload_n 1, 1) := by decide +kernel
theorem dX1_byteAt_7 : decode cX1_byteAt 7 = .ok (.ifCond .lt 11, 3) := by decide +kernel
theorem dX1_byteAt_10 : decode cX1_byteAt 10 = .ok (.iload_n 1, 1) := by decide +kernel
theorem dX1_byteAt_11 : decode cX1_byteAt 11 = .ok (.aload_n 0, 1) := by decide +kernel
theorem dX1_byteAt_12 : decode cX1_byteAt 12 = .ok (.getfield 28, 3) := by decide +kernel
theorem dX1_byteAt_15 : decode cX1_byteAt 15 = .ok (.if_icmp .lt 7, 3) := by decide +kernel
theorem dX1_byteAt_18 : decode cX1_byteAt 18 = .ok (.iconst 1, 1) := by decide +kernel
theorem dX1_byteAt_19 : decode cX1_byteAt 19 = .ok (.goto 4, 3) := by decide +kernel
theorem dX1_byteAt_22 : decode cX1_byteAt 22 = .ok (.iconst 0, 1) := by decide +kernel
theorem dX1_byteAt_23 : decode cX1_byteAt 23 = .ok (.iconst 1, 1) := by decide +kernel
theorem dX1_byteAt_24 : decode cX1_byteAt 24 = .ok (.invokevirtual 24, 3) := by decide +kernel
theorem dX1_byteAt_27 : decode cX1_byteAt 27 = .ok (.ifCond .eq 7, 3) := by decide +kernel
theorem dX1_byteAt_30 : decode cX1_byteAt 30 = .ok (.iconst 0, 1) := by decide +kernel
theorem dX1_byteAt_31 : decode cX1_byteAt 31 = .ok (.goto 9, 3) := by decide +kernel
theorem dX1_byteAt_34 : decode cX1_byteAt 34 = .ok (.aload_n 0, 1) := by decide +kernel
theorem dX1_byteAt_35 : decode cX1_byteAt 35 = .ok (.getfield 7, 3) := by decide +kernel
theorem dX1_byteAt_38 : decode cX1_byteAt 38 = .ok (.iload_n 1, 1) := by decide +kernel
theorem dX1_byteAt_39 : decode cX1_byteAt 39 = .ok (.iaload, 1) := by decide +kernel
theorem dX1_byteAt_40 : decode cX1_byteAt 40 = .ok (.ireturn, 1) := by decide +kernel
theorem dX1_numberAt_0 : decode cX1_numberAt 0 = .ok (.lconst 0, 1) := by decide +kernel
theorem dX1_numberAt_1 : decode cX1_numberAt 1 = .ok (.lstore_n 3, 1) := by decide +kernel
theorem dX1_numberAt_2 : decode cX1_numberAt 2 = .ok (.iconst 0, 1) := by decide +kernel
theorem dX1_numberAt_3 : decode cX1_numberAt 3 = .ok (.istore 5, 2) := by decide +kernel
theorem dX1_numberAt_5 : decode cX1_numberAt 5 = .ok (.iload 5, 2) := by decide +kernel
theorem dX1_numberAt_7 : decode cX1_numberAt 7 = .ok (.iload_n 2, 1) := by decide +kernel
theorem dX1_numberAt_8 : decode cX1_numberAt 8 = .ok (.if_icmp .ge 25, 3) := by decide +kernel
theorem dX1_numberAt_11 : decode cX1_numberAt 11 = .ok (.lload_n 3, 1) := by decide +kernel
theorem dX1_numberAt_12 : decode cX1_numberAt 12 = .ok (.bipush 8, 2) := by decide +kernel
theorem dX1_numberAt_14 : decode cX1_numberAt 14 = .ok (.lshl, 1) := by decide +kernel
theorem dX1_numberAt_15 : decode cX1_numberAt 15 = .ok (.aload_n 0, 1) := by decide +kernel
theorem dX1_numberAt_16 : decode cX1_numberAt 16 = .ok (.getfield 7, 3) := by decide +kernel
theorem dX1_numberAt_19 : decode cX1_numberAt 19 = .ok (.iload_n 1, 1) := by decide +kernel
theorem dX1_numberAt_20 : decode cX1_numberAt 20 = .ok (.iload 5, 2) := by decide +kernel
theorem dX1_numberAt_22 : decode cX1_numberAt 22 = .ok (.iadd, 1) := by decide +kernel
theorem dX1_numberAt_23 : decode cX1_numberAt 23 = .ok (.iaload, 1) := by decide +kernel
theorem dX1_numberAt_24 : decode cX1_numberAt 24 = .ok (.i2l, 1) := by decide +kernel
theorem dX1_numberAt_25 : decode cX1_numberAt 25 = .ok (.lor, 1) := by decide +kernel
theorem dX1_numberAt_26 : decode cX1_numberAt 26 = .ok (.lstore_n 3, 1) := by decide +kernel
theorem dX1_numberAt_27 : decode cX1_numberAt 27 = .ok (.iinc 5 1, 3) := by decide +kernel
theorem dX1_numberAt_30 : decode cX1_numberAt 30 = .ok (.goto (-25), 3) := by decide +kernel
theorem dX1_numberAt_33 : decode cX1_numberAt 33 = .ok (.lload_n 3, 1) := by decide +kernel
theorem dX1_numberAt_34 : decode cX1_numberAt 34 = .ok (.lreturn, 1) := by decide +kernel
theorem dX1_widthOf_0 : decode cX1_widthOf 0 = .ok (.iload_n 0, 1) := by decide +kernel
theorem dX1_widthOf_1 : decode cX1_widthOf 1 = .ok (.tableswitch 136 196 223 #[127, 129, 131, 127, 129, 131, 131, 133, 127, 129, 131, 133, 127, 129, 131, 133, 136, 136, 136, 136, 136, 127, 129, 131, 129, 131, 129, 131], 127) := by decide +kernel
theorem dX1_widthOf_128 : decode cX1_widthOf 128 = .ok (.iconst 1, 1) := by decide +kernel
theorem dX1_widthOf_129 : decode cX1_widthOf 129 = .ok (.ireturn, 1) := by decide +kernel
theorem dX1_widthOf_130 : decode cX1_widthOf 130 = .ok (.iconst 2, 1) := by decide +kernel
theorem dX1_widthOf_131 : decode cX1_widthOf 131 = .ok (.ireturn, 1) := by decide +kernel
theorem dX1_widthOf_132 : decode cX1_widthOf 132 = .ok (.iconst 4, 1) := by decide +kernel
theorem dX1_widthOf_133 : decode cX1_widthOf 133 = .ok (.ireturn, 1) := by decide +kernel
theorem dX1_widthOf_134 : decode cX1_widthOf 134 = .ok (.bipush 8, 2) := by decide +kernel
theorem dX1_widthOf_136 : decode cX1_widthOf 136 = .ok (.ireturn, 1) := by decide +kernel
theorem dX1_widthOf_137 : decode cX1_widthOf 137 = .ok (.iconst 0, 1) := by decide +kernel
theorem dX1_widthOf_138 : decode cX1_widthOf 138 = .ok (.ireturn, 1) := by decide +kernel
theorem dX1_kindOf_0 : decode cX1_kindOf 0 = .ok (.iload_n 0, 1) := by decide +kernel
theorem dX1_kindOf_1 : decode cX1_kindOf 1 = .ok (.sipush 128, 3) := by decide +kernel
theorem dX1_kindOf_4 : decode cX1_kindOf 4 = .ok (.if_icmp .ge 5, 3) := by decide +kernel
theorem dX1_kindOf_7 : decode cX1_kindOf 7 = .ok (.iconst 4, 1) := by decide +kernel
theorem dX1_kindOf_8 : decode cX1_kindOf 8 = .ok (.ireturn, 1) := by decide +kernel
theorem dX1_kindOf_9 : decode cX1_kindOf 9 = .ok (.iload_n 0, 1) := by decide +kernel
theorem dX1_kindOf_10 : decode cX1_kindOf 10 = .ok (.sipush 144, 3) := by decide +kernel
theorem dX1_kindOf_13 : decode cX1_kindOf 13 = .ok (.if_icmp .ge 6, 3) := by decide +kernel
theorem dX1_kindOf_16 : decode cX1_kindOf 16 = .ok (.bipush 11, 2) := by decide +kernel
theorem dX1_kindOf_18 : decode cX1_kindOf 18 = .ok (.ireturn, 1) := by decide +kernel
theorem dX1_kindOf_19 : decode cX1_kindOf 19 = .ok (.iload_n 0, 1) := by decide +kernel
theorem dX1_kindOf_20 : decode cX1_kindOf 20 = .ok (.sipush 160, 3) := by decide +kernel
theorem dX1_kindOf_23 : decode cX1_kindOf 23 = .ok (.if_icmp .ge 6, 3) := by decide +kernel
theorem dX1_kindOf_26 : decode cX1_kindOf 26 = .ok (.bipush 10, 2) := by decide +kernel
theorem dX1_kindOf_28 : decode cX1_kindOf 28 = .ok (.ireturn, 1) := by decide +kernel
theorem dX1_kindOf_29 : decode cX1_kindOf 29 = .ok (.iload_n 0, 1) := by decide +kernel
theorem dX1_kindOf_30 : decode cX1_kindOf 30 = .ok (.sipush 192, 3) := by decide +kernel
theorem dX1_kindOf_33 : decode cX1_kindOf 33 = .ok (.if_icmp .ge 6, 3) := by decide +kernel
theorem dX1_kindOf_36 : decode cX1_kindOf 36 = .ok (.bipush 8, 2) := by decide +kernel
theorem dX1_kindOf_38 : decode cX1_kindOf 38 = .ok (.ireturn, 1) := by decide +kernel
theorem dX1_kindOf_39 : decode cX1_kindOf 39 = .ok (.iload_n 0, 1) := by decide +kernel
theorem dX1_kindOf_40 : decode cX1_kindOf 40 = .ok (.sipush 223, 3) := by decide +kernel
theorem dX1_kindOf_43 : decode cX1_kindOf 43 = .ok (.if_icmp .le 5, 3) := by decide +kernel
theorem dX1_kindOf_46 : decode cX1_kindOf 46 = .ok (.iconst 5, 1) := by decide +kernel
theorem dX1_kindOf_47 : decode cX1_kindOf 47 = .ok (.ireturn, 1) := by decide +kernel
theorem dX1_kindOf_48 : decode cX1_kindOf 48 = .ok (.iload_n 0, 1) := by decide +kernel
theorem dX1_kindOf_49 : decode cX1_kindOf 49 = .ok (.tableswitch 171 192 223 #[143, 171, 145, 147, 149, 149, 149, 171, 171, 171, 152, 155, 158, 158, 158, 158, 160, 160, 160, 160, 171, 171, 171, 171, 171, 162, 162, 162, 165, 165, 168, 168], 143) := by decide +kernel
theorem dX1_kindOf_192 : decode cX1_kindOf 192 = .ok (.iconst 1, 1) := by decide +kernel
theorem dX1_kindOf_193 : decode cX1_kindOf 193 = .ok (.ireturn, 1) := by decide +kernel
theorem dX1_kindOf_194 : decode cX1_kindOf 194 = .ok (.iconst 2, 1) := by decide +kernel
theorem dX1_kindOf_195 : decode cX1_kindOf 195 = .ok (.ireturn, 1) := by decide +kernel
theorem dX1_kindOf_196 : decode cX1_kindOf 196 = .ok (.iconst 3, 1) := by decide +kernel
theorem dX1_kindOf_197 : decode cX1_kindOf 197 = .ok (.ireturn, 1) := by decide +kernel
theorem dX1_kindOf_198 : decode cX1_kindOf 198 = .ok (.bipush 9, 2) := by decide +kernel
theorem dX1_kindOf_200 : decode cX1_kindOf 200 = .ok (.ireturn, 1) := by decide +kernel
theorem dX1_kindOf_201 : decode cX1_kindOf 201 = .ok (.bipush 6, 2) := by decide +kernel
theorem dX1_kindOf_203 : decode cX1_kindOf 203 = .ok (.ireturn, 1) := by decide +kernel
theorem dX1_kindOf_204 : decode cX1_kindOf 204 = .ok (.bipush 7, 2) := by decide +kernel
theorem dX1_kindOf_206 : decode cX1_kindOf 206 = .ok (.ireturn, 1) := by decide +kernel
theorem dX1_kindOf_207 : decode cX1_kindOf 207 = .ok (.iconst 4, 1) := by decide +kernel
theorem dX1_kindOf_208 : decode cX1_kindOf 208 = .ok (.ireturn, 1) := by decide +kernel
theorem dX1_kindOf_209 : decode cX1_kindOf 209 = .ok (.iconst 5, 1) := by decide +kernel
theorem dX1_kindOf_210 : decode cX1_kindOf 210 = .ok (.ireturn, 1) := by decide +kernel
theorem dX1_kindOf_211 : decode cX1_kindOf 211 = .ok (.bipush 8, 2) := by decide +kernel
theorem dX1_kindOf_213 : decode cX1_kindOf 213 = .ok (.ireturn, 1) := by decide +kernel
theorem dX1_kindOf_214 : decode cX1_kindOf 214 = .ok (.bipush 10, 2) := by decide +kernel
theorem dX1_kindOf_216 : decode cX1_kindOf 216 = .ok (.ireturn, 1) := by decide +kernel
theorem dX1_kindOf_217 : decode cX1_kindOf 217 = .ok (.bipush 11, 2) := by decide +kernel
theorem dX1_kindOf_219 : decode cX1_kindOf 219 = .ok (.ireturn, 1) := by decide +kernel
theorem dX1_kindOf_220 : decode cX1_kindOf 220 = .ok (.bipush 12, 2) := by decide +kernel
theorem dX1_kindOf_222 : decode cX1_kindOf 222 = .ok (.ireturn, 1) := by decide +kernel
theorem dX1_ownNumber_0 : decode cX1_ownNumber 0 = .ok (.iload_n 0, 1) := by decide +kernel
theorem dX1_ownNumber_1 : decode cX1_ownNumber 1 = .ok (.sipush 128, 3) := by decide +kernel
theorem dX1_ownNumber_4 : decode cX1_ownNumber 4 = .ok (.if_icmp .ge 6, 3) := by decide +kernel
theorem dX1_ownNumber_7 : decode cX1_ownNumber 7 = .ok (.iload_n 0, 1) := by decide +kernel
theorem dX1_ownNumber_8 : decode cX1_ownNumber 8 = .ok (.i2l, 1) := by decide +kernel
theorem dX1_ownNumber_9 : decode cX1_ownNumber 9 = .ok (.lreturn, 1) := by decide +kernel
theorem dX1_ownNumber_10 : decode cX1_ownNumber 10 = .ok (.iload_n 0, 1) := by decide +kernel
theorem dX1_ownNumber_11 : decode cX1_ownNumber 11 = .ok (.sipush 144, 3) := by decide +kernel
theorem dX1_ownNumber_14 : decode cX1_ownNumber 14 = .ok (.if_icmp .ge 10, 3) := by decide +kernel
theorem dX1_ownNumber_17 : decode cX1_ownNumber 17 = .ok (.iload_n 0, 1) := by decide +kernel
theorem dX1_ownNumber_18 : decode cX1_ownNumber 18 = .ok (.sipush 128, 3) := by decide +kernel
theorem dX1_ownNumber_21 : decode cX1_ownNumber 21 = .ok (.isub, 1) := by decide +kernel
theorem dX1_ownNumber_22 : decode cX1_ownNumber 22 = .ok (.i2l, 1) := by decide +kernel
theorem dX1_ownNumber_23 : decode cX1_ownNumber 23 = .ok (.lreturn, 1) := by decide +kernel
theorem dX1_ownNumber_24 : decode cX1_ownNumber 24 = .ok (.iload_n 0, 1) := by decide +kernel
theorem dX1_ownNumber_25 : decode cX1_ownNumber 25 = .ok (.sipush 160, 3) := by decide +kernel
theorem dX1_ownNumber_28 : decode cX1_ownNumber 28 = .ok (.if_icmp .ge 10, 3) := by decide +kernel
theorem dX1_ownNumber_31 : decode cX1_ownNumber 31 = .ok (.iload_n 0, 1) := by decide +kernel
theorem dX1_ownNumber_32 : decode cX1_ownNumber 32 = .ok (.sipush 144, 3) := by decide +kernel
theorem dX1_ownNumber_35 : decode cX1_ownNumber 35 = .ok (.isub, 1) := by decide +kernel
theorem dX1_ownNumber_36 : decode cX1_ownNumber 36 = .ok (.i2l, 1) := by decide +kernel
theorem dX1_ownNumber_37 : decode cX1_ownNumber 37 = .ok (.lreturn, 1) := by decide +kernel
theorem dX1_ownNumber_38 : decode cX1_ownNumber 38 = .ok (.iload_n 0, 1) := by decide +kernel
theorem dX1_ownNumber_39 : decode cX1_ownNumber 39 = .ok (.sipush 192, 3) := by decide +kernel
theorem dX1_ownNumber_42 : decode cX1_ownNumber 42 = .ok (.if_icmp .ge 10, 3) := by decide +kernel
theorem dX1_ownNumber_45 : decode cX1_ownNumber 45 = .ok (.iload_n 0, 1) := by decide +kernel
theorem dX1_ownNumber_46 : decode cX1_ownNumber 46 = .ok (.sipush 160, 3) := by decide +kernel
theorem dX1_ownNumber_49 : decode cX1_ownNumber 49 = .ok (.isub, 1) := by decide +kernel
theorem dX1_ownNumber_50 : decode cX1_ownNumber 50 = .ok (.i2l, 1) := by decide +kernel
theorem dX1_ownNumber_51 : decode cX1_ownNumber 51 = .ok (.lreturn, 1) := by decide +kernel
theorem dX1_ownNumber_52 : decode cX1_ownNumber 52 = .ok (.iload_n 0, 1) := by decide +kernel
theorem dX1_ownNumber_53 : decode cX1_ownNumber 53 = .ok (.sipush 223, 3) := by decide +kernel
theorem dX1_ownNumber_56 : decode cX1_ownNumber 56 = .ok (.if_icmp .le 12, 3) := by decide +kernel
theorem dX1_ownNumber_59 : decode cX1_ownNumber 59 = .ok (.iload_n 0, 1) := by decide +kernel
theorem dX1_ownNumber_60 : decode cX1_ownNumber 60 = .ok (.sipush 256, 3) := by decide +kernel
theorem dX1_ownNumber_63 : decode cX1_ownNumber 63 = .ok (.isub, 1) := by decide +kernel
theorem dX1_ownNumber_64 : decode cX1_ownNumber 64 = .ok (.i2l, 1) := by decide +kernel
theorem dX1_ownNumber_65 : decode cX1_ownNumber 65 = .ok (.goto 28, 3) := by decide +kernel
theorem dX1_ownNumber_68 : decode cX1_ownNumber 68 = .ok (.iload_n 0, 1) := by decide +kernel
theorem dX1_ownNumber_69 : decode cX1_ownNumber 69 = .ok (.sipush 211, 3) := by decide +kernel
theorem dX1_ownNumber_72 : decode cX1_ownNumber 72 = .ok (.if_icmp .le 20, 3) := by decide +kernel
theorem dX1_ownNumber_75 : decode cX1_ownNumber 75 = .ok (.iload_n 0, 1) := by decide +kernel
theorem dX1_ownNumber_76 : decode cX1_ownNumber 76 = .ok (.sipush 217, 3) := by decide +kernel
theorem dX1_ownNumber_79 : decode cX1_ownNumber 79 = .ok (.if_icmp .ge 13, 3) := by decide +kernel
theorem dX1_ownNumber_82 : decode cX1_ownNumber 82 = .ok (.lconst 1, 1) := by decide +kernel
theorem dX1_ownNumber_83 : decode cX1_ownNumber 83 = .ok (.iload_n 0, 1) := by decide +kernel
theorem dX1_ownNumber_84 : decode cX1_ownNumber 84 = .ok (.sipush 212, 3) := by decide +kernel
theorem dX1_ownNumber_87 : decode cX1_ownNumber 87 = .ok (.isub, 1) := by decide +kernel
theorem dX1_ownNumber_88 : decode cX1_ownNumber 88 = .ok (.lshl, 1) := by decide +kernel
theorem dX1_ownNumber_89 : decode cX1_ownNumber 89 = .ok (.goto 4, 3) := by decide +kernel
theorem dX1_ownNumber_92 : decode cX1_ownNumber 92 = .ok (.lconst 0, 1) := by decide +kernel
theorem dX1_ownNumber_93 : decode cX1_ownNumber 93 = .ok (.lreturn, 1) := by decide +kernel
theorem dX1_look_0 : decode cX1_look 0 = .ok (.iload_n 1, 1) := by decide +kernel
theorem dX1_look_1 : decode cX1_look 1 = .ok (.aload_n 0, 1) := by decide +kernel
theorem dX1_look_2 : decode cX1_look 2 = .ok (.getfield 28, 3) := by decide +kernel
theorem dX1_look_5 : decode cX1_look 5 = .ok (.if_icmp .lt 6, 3) := by decide +kernel
theorem dX1_look_8 : decode cX1_look 8 = .ok (.bipush (-2), 2) := by decide +kernel
theorem dX1_look_10 : decode cX1_look 10 = .ok (.ireturn, 1) := by decide +kernel
theorem dX1_look_11 : decode cX1_look 11 = .ok (.aload_n 0, 1) := by decide +kernel
theorem dX1_look_12 : decode cX1_look 12 = .ok (.getfield 7, 3) := by decide +kernel
theorem dX1_look_15 : decode cX1_look 15 = .ok (.iload_n 1, 1) := by decide +kernel
theorem dX1_look_16 : decode cX1_look 16 = .ok (.iaload, 1) := by decide +kernel
theorem dX1_look_17 : decode cX1_look 17 = .ok (.istore_n 2, 1) := by decide +kernel
theorem dX1_look_18 : decode cX1_look 18 = .ok (.iload_n 2, 1) := by decide +kernel
theorem dX1_look_19 : decode cX1_look 19 = .ok (.sipush 193, 3) := by decide +kernel
theorem dX1_look_22 : decode cX1_look 22 = .ok (.if_icmp .ne 6, 3) := by decide +kernel
theorem dX1_look_25 : decode cX1_look 25 = .ok (.bipush (-3), 2) := by decide +kernel
theorem dX1_look_27 : decode cX1_look 27 = .ok (.ireturn, 1) := by decide +kernel
theorem dX1_look_28 : decode cX1_look 28 = .ok (.iload_n 2, 1) := by decide +kernel
theorem dX1_look_29 : decode cX1_look 29 = .ok (.invokestatic 40, 3) := by decide +kernel
theorem dX1_look_32 : decode cX1_look 32 = .ok (.istore_n 3, 1) := by decide +kernel
theorem dX1_look_33 : decode cX1_look 33 = .ok (.aload_n 0, 1) := by decide +kernel
theorem dX1_look_34 : decode cX1_look 34 = .ok (.iload_n 2, 1) := by decide +kernel
theorem dX1_look_35 : decode cX1_look 35 = .ok (.invokestatic 44, 3) := by decide +kernel
theorem dX1_look_38 : decode cX1_look 38 = .ok (.putfield 47, 3) := by decide +kernel
theorem dX1_look_41 : decode cX1_look 41 = .ok (.aload_n 0, 1) := by decide +kernel
theorem dX1_look_42 : decode cX1_look 42 = .ok (.iconst 1, 1) := by decide +kernel
theorem dX1_look_43 : decode cX1_look 43 = .ok (.iload_n 3, 1) := by decide +kernel
theorem dX1_look_44 : decode cX1_look 44 = .ok (.iadd, 1) := by decide +kernel
theorem dX1_look_45 : decode cX1_look 45 = .ok (.aload_n 0, 1) := by decide +kernel
theorem dX1_look_46 : decode cX1_look 46 = .ok (.getfield 47, 3) := by decide +kernel
theorem dX1_look_49 : decode cX1_look 49 = .ok (.bipush 12, 2) := by decide +kernel
theorem dX1_look_51 : decode cX1_look 51 = .ok (.if_icmp .ne 7, 3) := by decide +kernel
theorem dX1_look_54 : decode cX1_look 54 = .ok (.iconst 1, 1) := by decide +kernel
theorem dX1_look_55 : decode cX1_look 55 = .ok (.goto 4, 3) := by decide +kernel
theorem dX1_look_58 : decode cX1_look 58 = .ok (.iconst 0, 1) := by decide +kernel
theorem dX1_look_59 : decode cX1_look 59 = .ok (.iadd, 1) := by decide +kernel
theorem dX1_look_60 : decode cX1_look 60 = .ok (.putfield 50, 3) := by decide +kernel
theorem dX1_look_63 : decode cX1_look 63 = .ok (.iload_n 1, 1) := by decide +kernel
theorem dX1_look_64 : decode cX1_look 64 = .ok (.aload_n 0, 1) := by decide +kernel
theorem dX1_look_65 : decode cX1_look 65 = .ok (.getfield 50, 3) := by decide +kernel
theorem dX1_look_68 : decode cX1_look 68 = .ok (.iadd, 1) := by decide +kernel
theorem dX1_look_69 : decode cX1_look 69 = .ok (.aload_n 0, 1) := by decide +kernel
theorem dX1_look_70 : decode cX1_look 70 = .ok (.getfield 28, 3) := by decide +kernel
theorem dX1_look_73 : decode cX1_look 73 = .ok (.if_icmp .le 6, 3) := by decide +kernel
theorem dX1_look_76 : decode cX1_look 76 = .ok (.bipush (-2), 2) := by decide +kernel
theorem dX1_look_78 : decode cX1_look 78 = .ok (.ireturn, 1) := by decide +kernel
theorem dX1_look_79 : decode cX1_look 79 = .ok (.aload_n 0, 1) := by decide +kernel
theorem dX1_look_80 : decode cX1_look 80 = .ok (.iload_n 3, 1) := by decide +kernel
theorem dX1_look_81 : decode cX1_look 81 = .ok (.ifCond .ne 10, 3) := by decide +kernel
theorem dX1_look_84 : decode cX1_look 84 = .ok (.iload_n 2, 1) := by decide +kernel
theorem dX1_look_85 : decode cX1_look 85 = .ok (.invokestatic 53, 3) := by decide +kernel
theorem dX1_look_88 : decode cX1_look 88 = .ok (.goto 11, 3) := by decide +kernel
theorem dX1_look_91 : decode cX1_look 91 = .ok (.aload_n 0, 1) := by decide +kernel
theorem dX1_look_92 : decode cX1_look 92 = .ok (.iload_n 1, 1) := by decide +kernel
theorem dX1_look_93 : decode cX1_look 93 = .ok (.iconst 1, 1) := by decide +kernel
theorem dX1_look_94 : decode cX1_look 94 = .ok (.iadd, 1) := by decide +kernel
theorem dX1_look_95 : decode cX1_look 95 = .ok (.iload_n 3, 1) := by decide +kernel
theorem dX1_look_96 : decode cX1_look 96 = .ok (.invokevirtual 57, 3) := by decide +kernel
theorem dX1_look_99 : decode cX1_look 99 = .ok (.putfield 61, 3) := by decide +kernel
theorem dX1_look_102 : decode cX1_look 102 = .ok (.aload_n 0, 1) := by decide +kernel
theorem dX1_look_103 : decode cX1_look 103 = .ok (.getfield 47, 3) := by decide +kernel
theorem dX1_look_106 : decode cX1_look 106 = .ok (.iconst 5, 1) := by decide +kernel
theorem dX1_look_107 : decode cX1_look 107 = .ok (.if_icmp .ne 31, 3) := by decide +kernel
theorem dX1_look_110 : decode cX1_look 110 = .ok (.iload_n 3, 1) := by decide +kernel
theorem dX1_look_111 : decode cX1_look 111 = .ok (.ifCond .le 27, 3) := by decide +kernel
theorem dX1_look_114 : decode cX1_look 114 = .ok (.aload_n 0, 1) := by decide +kernel
theorem dX1_look_115 : decode cX1_look 115 = .ok (.aload_n 0, 1) := by decide +kernel
theorem dX1_look_116 : decode cX1_look 116 = .ok (.getfield 61, 3) := by decide +kernel
theorem dX1_look_119 : decode cX1_look 119 = .ok (.bipush 64, 2) := by decide +kernel
theorem dX1_look_121 : decode cX1_look 121 = .ok (.bipush 8, 2) := by decide +kernel
theorem dX1_look_123 : decode cX1_look 123 = .ok (.iload_n 3, 1) := by decide +kernel
theorem dX1_look_124 : decode cX1_look 124 = .ok (.imul, 1) := by decide +kernel
theorem dX1_look_125 : decode cX1_look 125 = .ok (.isub, 1) := by decide +kernel
theorem dX1_look_126 : decode cX1_look 126 = .ok (.lshl, 1) := by decide +kernel
theorem dX1_look_127 : decode cX1_look 127 = .ok (.bipush 64, 2) := by decide +kernel
theorem dX1_look_129 : decode cX1_look 129 = .ok (.bipush 8, 2) := by decide +kernel
theorem dX1_look_131 : decode cX1_look 131 = .ok (.iload_n 3, 1) := by decide +kernel
theorem dX1_look_132 : decode cX1_look 132 = .ok (.imul, 1) := by decide +kernel
theorem dX1_look_133 : decode cX1_look 133 = .ok (.isub, 1) := by decide +kernel
theorem dX1_look_134 : decode cX1_look 134 = .ok (.lshr, 1) := by decide +kernel
theorem dX1_look_135 : decode cX1_look 135 = .ok (.putfield 61, 3) := by decide +kernel
theorem dX1_look_138 : decode cX1_look 138 = .ok (.aload_n 0, 1) := by decide +kernel
theorem dX1_look_139 : decode cX1_look 139 = .ok (.getfield 47, 3) := by decide +kernel
theorem dX1_look_142 : decode cX1_look 142 = .ok (.bipush 12, 2) := by decide +kernel
theorem dX1_look_144 : decode cX1_look 144 = .ok (.if_icmp .ne 19, 3) := by decide +kernel
theorem dX1_look_147 : decode cX1_look 147 = .ok (.aload_n 0, 1) := by decide +kernel
theorem dX1_look_148 : decode cX1_look 148 = .ok (.getfield 7, 3) := by decide +kernel
theorem dX1_look_151 : decode cX1_look 151 = .ok (.iload_n 1, 1) := by decide +kernel
theorem dX1_look_152 : decode cX1_look 152 = .ok (.aload_n 0, 1) := by decide +kernel
theorem dX1_look_153 : decode cX1_look 153 = .ok (.getfield 50, 3) := by decide +kernel
theorem dX1_look_156 : decode cX1_look 156 = .ok (.iadd, 1) := by decide +kernel
theorem dX1_look_157 : decode cX1_look 157 = .ok (.iconst 1, 1) := by decide +kernel
theorem dX1_look_158 : decode cX1_look 158 = .ok (.isub, 1) := by decide +kernel
theorem dX1_look_159 : decode cX1_look 159 = .ok (.iaload, 1) := by decide +kernel
theorem dX1_look_160 : decode cX1_look 160 = .ok (.goto 4, 3) := by decide +kernel
theorem dX1_look_163 : decode cX1_look 163 = .ok (.iconst 0, 1) := by decide +kernel
theorem dX1_look_164 : decode cX1_look 164 = .ok (.istore 4, 2) := by decide +kernel
theorem dX1_look_166 : decode cX1_look 166 = .ok (.aload_n 0, 1) := by decide +kernel
theorem dX1_look_167 : decode cX1_look 167 = .ok (.iload 4, 2) := by decide +kernel
theorem dX1_look_169 : decode cX1_look 169 = .ok (.bipush 127, 2) := by decide +kernel
theorem dX1_look_171 : decode cX1_look 171 = .ok (.if_icmp .le 12, 3) := by decide +kernel
theorem dX1_look_174 : decode cX1_look 174 = .ok (.iload 4, 2) := by decide +kernel
theorem dX1_look_176 : decode cX1_look 176 = .ok (.sipush 256, 3) := by decide +kernel
theorem dX1_look_179 : decode cX1_look 179 = .ok (.isub, 1) := by decide +kernel
theorem dX1_look_180 : decode cX1_look 180 = .ok (.goto 5, 3) := by decide +kernel
theorem dX1_look_183 : decode cX1_look 183 = .ok (.iload 4, 2) := by decide +kernel
theorem dX1_look_185 : decode cX1_look 185 = .ok (.putfield 65, 3) := by decide +kernel
theorem dX1_look_188 : decode cX1_look 188 = .ok (.aload_n 0, 1) := by decide +kernel
theorem dX1_look_189 : decode cX1_look 189 = .ok (.lconst 0, 1) := by decide +kernel
theorem dX1_look_190 : decode cX1_look 190 = .ok (.putfield 68, 3) := by decide +kernel
theorem dX1_look_193 : decode cX1_look 193 = .ok (.aload_n 0, 1) := by decide +kernel
theorem dX1_look_194 : decode cX1_look 194 = .ok (.lconst 0, 1) := by decide +kernel
theorem dX1_look_195 : decode cX1_look 195 = .ok (.putfield 71, 3) := by decide +kernel
theorem dX1_look_198 : decode cX1_look 198 = .ok (.aload_n 0, 1) := by decide +kernel
theorem dX1_look_199 : decode cX1_look 199 = .ok (.getfield 47, 3) := by decide +kernel
theorem dX1_look_202 : decode cX1_look 202 = .ok (.bipush 7, 2) := by decide +kernel
theorem dX1_look_204 : decode cX1_look 204 = .ok (.if_icmp .le 17, 3) := by decide +kernel
theorem dX1_look_207 : decode cX1_look 207 = .ok (.aload_n 0, 1) := by decide +kernel
theorem dX1_look_208 : decode cX1_look 208 = .ok (.getfield 61, 3) := by decide +kernel
theorem dX1_look_211 : decode cX1_look 211 = .ok (.ldc2_w 74, 3) := by decide +kernel
theorem dX1_look_214 : decode cX1_look 214 = .ok (.lcmp, 1) := by decide +kernel
theorem dX1_look_215 : decode cX1_look 215 = .ok (.ifCond .le 6, 3) := by decide +kernel
theorem dX1_look_218 : decode cX1_look 218 = .ok (.bipush (-4), 2) := by decide +kernel
theorem dX1_look_220 : decode cX1_look 220 = .ok (.ireturn, 1) := by decide +kernel
theorem dX1_look_221 : decode cX1_look 221 = .ok (.aload_n 0, 1) := by decide +kernel
theorem dX1_look_222 : decode cX1_look 222 = .ok (.getfield 47, 3) := by decide +kernel
theorem dX1_look_225 : decode cX1_look 225 = .ok (.bipush 8, 2) := by decide +kernel
theorem dX1_look_227 : decode cX1_look 227 = .ok (.if_icmp .eq 21, 3) := by decide +kernel
theorem dX1_look_230 : decode cX1_look 230 = .ok (.aload_n 0, 1) := by decide +kernel
theorem dX1_look_231 : decode cX1_look 231 = .ok (.getfield 47, 3) := by decide +kernel
theorem dX1_look_234 : decode cX1_look 234 = .ok (.bipush 9, 2) := by decide +kernel
theorem dX1_look_236 : decode cX1_look 236 = .ok (.if_icmp .eq 12, 3) := by decide +kernel
theorem dX1_look_239 : decode cX1_look 239 = .ok (.aload_n 0, 1) := by decide +kernel
theorem dX1_look_240 : decode cX1_look 240 = .ok (.getfield 47, 3) := by decide +kernel
theorem dX1_look_243 : decode cX1_look 243 = .ok (.bipush 12, 2) := by decide +kernel
theorem dX1_look_245 : decode cX1_look 245 = .ok (.if_icmp .ne 11, 3) := by decide +kernel
theorem dX1_look_248 : decode cX1_look 248 = .ok (.aload_n 0, 1) := by decide +kernel
theorem dX1_look_249 : decode cX1_look 249 = .ok (.aload_n 0, 1) := by decide +kernel
theorem dX1_look_250 : decode cX1_look 250 = .ok (.getfield 61, 3) := by decide +kernel
theorem dX1_look_253 : decode cX1_look 253 = .ok (.putfield 68, 3) := by decide +kernel
theorem dX1_look_256 : decode cX1_look 256 = .ok (.aload_n 0, 1) := by decide +kernel
theorem dX1_look_257 : decode cX1_look 257 = .ok (.getfield 47, 3) := by decide +kernel
theorem dX1_look_260 : decode cX1_look 260 = .ok (.bipush 10, 2) := by decide +kernel
theorem dX1_look_262 : decode cX1_look 262 = .ok (.if_icmp .ne 11, 3) := by decide +kernel
theorem dX1_look_265 : decode cX1_look 265 = .ok (.aload_n 0, 1) := by decide +kernel
theorem dX1_look_266 : decode cX1_look 266 = .ok (.aload_n 0, 1) := by decide +kernel
theorem dX1_look_267 : decode cX1_look 267 = .ok (.getfield 61, 3) := by decide +kernel
theorem dX1_look_270 : decode cX1_look 270 = .ok (.putfield 71, 3) := by decide +kernel
theorem dX1_look_273 : decode cX1_look 273 = .ok (.aload_n 0, 1) := by decide +kernel
theorem dX1_look_274 : decode cX1_look 274 = .ok (.getfield 47, 3) := by decide +kernel
theorem dX1_look_277 : decode cX1_look 277 = .ok (.bipush 11, 2) := by decide +kernel
theorem dX1_look_279 : decode cX1_look 279 = .ok (.if_icmp .ne 15, 3) := by decide +kernel
theorem dX1_look_282 : decode cX1_look 282 = .ok (.aload_n 0, 1) := by decide +kernel
theorem dX1_look_283 : decode cX1_look 283 = .ok (.ldc2_w 76, 3) := by decide +kernel
theorem dX1_look_286 : decode cX1_look 286 = .ok (.aload_n 0, 1) := by decide +kernel
theorem dX1_look_287 : decode cX1_look 287 = .ok (.getfield 61, 3) := by decide +kernel
theorem dX1_look_290 : decode cX1_look 290 = .ok (.lmul, 1) := by decide +kernel
theorem dX1_look_291 : decode cX1_look 291 = .ok (.putfield 71, 3) := by decide +kernel
theorem dX1_look_294 : decode cX1_look 294 = .ok (.iload_n 1, 1) := by decide +kernel
theorem dX1_look_295 : decode cX1_look 295 = .ok (.aload_n 0, 1) := by decide +kernel
theorem dX1_look_296 : decode cX1_look 296 = .ok (.getfield 50, 3) := by decide +kernel
theorem dX1_look_299 : decode cX1_look 299 = .ok (.iadd, 1) := by decide +kernel
theorem dX1_look_300 : decode cX1_look 300 = .ok (.i2l, 1) := by decide +kernel
theorem dX1_look_301 : decode cX1_look 301 = .ok (.aload_n 0, 1) := by decide +kernel
theorem dX1_look_302 : decode cX1_look 302 = .ok (.getfield 68, 3) := by decide +kernel
theorem dX1_look_305 : decode cX1_look 305 = .ok (.ladd, 1) := by decide +kernel
theorem dX1_look_306 : decode cX1_look 306 = .ok (.aload_n 0, 1) := by decide +kernel
theorem dX1_look_307 : decode cX1_look 307 = .ok (.getfield 28, 3) := by decide +kernel
theorem dX1_look_310 : decode cX1_look 310 = .ok (.i2l, 1) := by decide +kernel
theorem dX1_look_311 : decode cX1_look 311 = .ok (.lcmp, 1) := by decide +kernel
theorem dX1_look_312 : decode cX1_look 312 = .ok (.ifCond .le 8, 3) := by decide +kernel
theorem dX1_look_315 : decode cX1_look 315 = .ok (.bipush (-2), 2) := by decide +kernel
theorem dX1_look_317 : decode cX1_look 317 = .ok (.goto 4, 3) := by decide +kernel
theorem dX1_look_320 : decode cX1_look 320 = .ok (.iconst 0, 1) := by decide +kernel
theorem dX1_look_321 : decode cX1_look 321 = .ok (.ireturn, 1) := by decide +kernel
theorem dX1_give_0 : decode cX1_give 0 = .ok (.aload_n 0, 1) := by decide +kernel
theorem dX1_give_1 : decode cX1_give 1 = .ok (.aload_n 0, 1) := by decide +kernel
theorem dX1_give_2 : decode cX1_give 2 = .ok (.getfield 47, 3) := by decide +kernel
theorem dX1_give_5 : decode cX1_give 5 = .ok (.putfield 13, 3) := by decide +kernel
theorem dX1_give_8 : decode cX1_give 8 = .ok (.aload_n 0, 1) := by decide +kernel
theorem dX1_give_9 : decode cX1_give 9 = .ok (.aload_n 0, 1) := by decide +kernel
theorem dX1_give_10 : decode cX1_give 10 = .ok (.getfield 61, 3) := by decide +kernel
theorem dX1_give_13 : decode cX1_give 13 = .ok (.l2i, 1) := by decide +kernel
theorem dX1_give_14 : decode cX1_give 14 = .ok (.putfield 78, 3) := by decide +kernel
theorem dX1_give_17 : decode cX1_give 17 = .ok (.aload_n 0, 1) := by decide +kernel
theorem dX1_give_18 : decode cX1_give 18 = .ok (.aload_n 0, 1) := by decide +kernel
theorem dX1_give_19 : decode cX1_give 19 = .ok (.getfield 47, 3) := by decide +kernel
theorem dX1_give_22 : decode cX1_give 22 = .ok (.bipush 12, 2) := by decide +kernel
theorem dX1_give_24 : decode cX1_give 24 = .ok (.if_icmp .ne 10, 3) := by decide +kernel
theorem dX1_give_27 : decode cX1_give 27 = .ok (.aload_n 0, 1) := by decide +kernel
theorem dX1_give_28 : decode cX1_give 28 = .ok (.getfield 65, 3) := by decide +kernel
theorem dX1_give_31 : decode cX1_give 31 = .ok (.goto 40, 3) := by decide +kernel
theorem dX1_give_34 : decode cX1_give 34 = .ok (.aload_n 0, 1) := by decide +kernel
theorem dX1_give_35 : decode cX1_give 35 = .ok (.getfield 47, 3) := by decide +kernel
theorem dX1_give_38 : decode cX1_give 38 = .ok (.iconst 4, 1) := by decide +kernel
theorem dX1_give_39 : decode cX1_give 39 = .ok (.if_icmp .eq 20, 3) := by decide +kernel
theorem dX1_give_42 : decode cX1_give 42 = .ok (.aload_n 0, 1) := by decide +kernel
theorem dX1_give_43 : decode cX1_give 43 = .ok (.getfield 47, 3) := by decide +kernel
theorem dX1_give_46 : decode cX1_give 46 = .ok (.iconst 5, 1) := by decide +kernel
theorem dX1_give_47 : decode cX1_give 47 = .ok (.if_icmp .eq 12, 3) := by decide +kernel
theorem dX1_give_50 : decode cX1_give 50 = .ok (.aload_n 0, 1) := by decide +kernel
theorem dX1_give_51 : decode cX1_give 51 = .ok (.getfield 47, 3) := by decide +kernel
theorem dX1_give_54 : decode cX1_give 54 = .ok (.bipush 7, 2) := by decide +kernel
theorem dX1_give_56 : decode cX1_give 56 = .ok (.if_icmp .ne 14, 3) := by decide +kernel
theorem dX1_give_59 : decode cX1_give 59 = .ok (.aload_n 0, 1) := by decide +kernel
theorem dX1_give_60 : decode cX1_give 60 = .ok (.getfield 61, 3) := by decide +kernel
theorem dX1_give_63 : decode cX1_give 63 = .ok (.bipush 32, 2) := by decide +kernel
theorem dX1_give_65 : decode cX1_give 65 = .ok (.lshr, 1) := by decide +kernel
theorem dX1_give_66 : decode cX1_give 66 = .ok (.l2i, 1) := by decide +kernel
theorem dX1_give_67 : decode cX1_give 67 = .ok (.goto 4, 3) := by decide +kernel
theorem dX1_give_70 : decode cX1_give 70 = .ok (.iconst 0, 1) := by decide +kernel
theorem dX1_give_71 : decode cX1_give 71 = .ok (.putfield 81, 3) := by decide +kernel
theorem dX1_give_74 : decode cX1_give 74 = .ok (.aload_n 0, 1) := by decide +kernel
theorem dX1_give_75 : decode cX1_give 75 = .ok (.iload_n 1, 1) := by decide +kernel
theorem dX1_give_76 : decode cX1_give 76 = .ok (.putfield 84, 3) := by decide +kernel
theorem dX1_give_79 : decode cX1_give 79 = .ok (.aload_n 0, 1) := by decide +kernel
theorem dX1_give_80 : decode cX1_give 80 = .ok (.aload_n 0, 1) := by decide +kernel
theorem dX1_give_81 : decode cX1_give 81 = .ok (.getfield 68, 3) := by decide +kernel
theorem dX1_give_84 : decode cX1_give 84 = .ok (.l2i, 1) := by decide +kernel
theorem dX1_give_85 : decode cX1_give 85 = .ok (.putfield 87, 3) := by decide +kernel
theorem dX1_give_88 : decode cX1_give 88 = .ok (.return_, 1) := by decide +kernel
theorem dX1_closeDone_0 : decode cX1_closeDone 0 = .ok (.aload_n 0, 1) := by decide +kernel
theorem dX1_closeDone_1 : decode cX1_closeDone 1 = .ok (.getfield 90, 3) := by decide +kernel
theorem dX1_closeDone_4 : decode cX1_closeDone 4 = .ok (.ifCond .le 32, 3) := by decide +kernel
theorem dX1_closeDone_7 : decode cX1_closeDone 7 = .ok (.aload_n 0, 1) := by decide +kernel
theorem dX1_closeDone_8 : decode cX1_closeDone 8 = .ok (.getfield 17, 3) := by decide +kernel
theorem dX1_closeDone_11 : decode cX1_closeDone 11 = .ok (.aload_n 0, 1) := by decide +kernel
theorem dX1_closeDone_12 : decode cX1_closeDone 12 = .ok (.getfield 90, 3) := by decide +kernel
theorem dX1_closeDone_15 : decode cX1_closeDone 15 = .ok (.iconst 1, 1) := by decide +kernel
theorem dX1_closeDone_16 : decode cX1_closeDone 16 = .ok (.isub, 1) := by decide +kernel
theorem dX1_closeDone_17 : decode cX1_closeDone 17 = .ok (.laload, 1) := by decide +kernel
theorem dX1_closeDone_18 : decode cX1_closeDone 18 = .ok (.lconst 0, 1) := by decide +kernel
theorem dX1_closeDone_19 : decode cX1_closeDone 19 = .ok (.lcmp, 1) := by decide +kernel
theorem dX1_closeDone_20 : decode cX1_closeDone 20 = .ok (.ifCond .ne 16, 3) := by decide +kernel
theorem dX1_closeDone_23 : decode cX1_closeDone 23 = .ok (.aload_n 0, 1) := by decide +kernel
theorem dX1_closeDone_24 : decode cX1_closeDone 24 = .ok (.dup, 1) := by decide +kernel
theorem dX1_closeDone_25 : decode cX1_closeDone 25 = .ok (.getfield 90, 3) := by decide +kernel
theorem dX1_closeDone_28 : decode cX1_closeDone 28 = .ok (.iconst 1, 1) := by decide +kernel
theorem dX1_closeDone_29 : decode cX1_closeDone 29 = .ok (.isub, 1) := by decide +kernel
theorem dX1_closeDone_30 : decode cX1_closeDone 30 = .ok (.putfield 90, 3) := by decide +kernel
theorem dX1_closeDone_33 : decode cX1_closeDone 33 = .ok (.goto (-33), 3) := by decide +kernel
theorem dX1_closeDone_36 : decode cX1_closeDone 36 = .ok (.return_, 1) := by decide +kernel
theorem dX1_next_0 : decode cX1_next 0 = .ok (.aload_n 0, 1) := by decide +kernel
theorem dX1_next_1 : decode cX1_next 1 = .ok (.iconst 0, 1) := by decide +kernel
theorem dX1_next_2 : decode cX1_next 2 = .ok (.putfield 21, 3) := by decide +kernel
theorem dX1_next_5 : decode cX1_next 5 = .ok (.aload_n 0, 1) := by decide +kernel
theorem dX1_next_6 : decode cX1_next 6 = .ok (.aload_n 0, 1) := by decide +kernel
theorem dX1_next_7 : decode cX1_next 7 = .ok (.getfield 37, 3) := by decide +kernel
theorem dX1_next_10 : decode cX1_next 10 = .ok (.invokevirtual 93, 3) := by decide +kernel
theorem dX1_next_13 : decode cX1_next 13 = .ok (.istore_n 1, 1) := by decide +kernel
theorem dX1_next_14 : decode cX1_next 14 = .ok (.iload_n 1, 1) := by decide +kernel
theorem dX1_next_15 : decode cX1_next 15 = .ok (.ifCond .eq 5, 3) := by decide +kernel
theorem dX1_next_18 : decode cX1_next 18 = .ok (.iload_n 1, 1) := by decide +kernel
theorem dX1_next_19 : decode cX1_next 19 = .ok (.ireturn, 1) := by decide +kernel
theorem dX1_next_20 : decode cX1_next 20 = .ok (.aload_n 0, 1) := by decide +kernel
theorem dX1_next_21 : decode cX1_next 21 = .ok (.getfield 71, 3) := by decide +kernel
theorem dX1_next_24 : decode cX1_next 24 = .ok (.lconst 0, 1) := by decide +kernel
theorem dX1_next_25 : decode cX1_next 25 = .ok (.lcmp, 1) := by decide +kernel
theorem dX1_next_26 : decode cX1_next 26 = .ok (.ifCond .le 15, 3) := by decide +kernel
theorem dX1_next_29 : decode cX1_next 29 = .ok (.aload_n 0, 1) := by decide +kernel
theorem dX1_next_30 : decode cX1_next 30 = .ok (.getfield 90, 3) := by decide +kernel
theorem dX1_next_33 : decode cX1_next 33 = .ok (.bipush 100, 2) := by decide +kernel
theorem dX1_next_35 : decode cX1_next 35 = .ok (.if_icmp .ne 6, 3) := by decide +kernel
theorem dX1_next_38 : decode cX1_next 38 = .ok (.bipush (-5), 2) := by decide +kernel
theorem dX1_next_40 : decode cX1_next 40 = .ok (.ireturn, 1) := by decide +kernel
theorem dX1_next_41 : decode cX1_next 41 = .ok (.aload_n 0, 1) := by decide +kernel
theorem dX1_next_42 : decode cX1_next 42 = .ok (.aload_n 0, 1) := by decide +kernel
theorem dX1_next_43 : decode cX1_next 43 = .ok (.getfield 37, 3) := by decide +kernel
theorem dX1_next_46 : decode cX1_next 46 = .ok (.aload_n 0, 1) := by decide +kernel
theorem dX1_next_47 : decode cX1_next 47 = .ok (.getfield 50, 3) := by decide +kernel
theorem dX1_next_50 : decode cX1_next 50 = .ok (.iadd, 1) := by decide +kernel
theorem dX1_next_51 : decode cX1_next 51 = .ok (.invokevirtual 96, 3) := by decide +kernel
theorem dX1_next_54 : decode cX1_next 54 = .ok (.aload_n 0, 1) := by decide +kernel
theorem dX1_next_55 : decode cX1_next 55 = .ok (.dup, 1) := by decide +kernel
theorem dX1_next_56 : decode cX1_next 56 = .ok (.getfield 37, 3) := by decide +kernel
theorem dX1_next_59 : decode cX1_next 59 = .ok (.aload_n 0, 1) := by decide +kernel
theorem dX1_next_60 : decode cX1_next 60 = .ok (.getfield 50, 3) := by decide +kernel
theorem dX1_next_63 : decode cX1_next 63 = .ok (.aload_n 0, 1) := by decide +kernel
theorem dX1_next_64 : decode cX1_next 64 = .ok (.getfield 68, 3) := by decide +kernel
theorem dX1_next_67 : decode cX1_next 67 = .ok (.l2i, 1) := by decide +kernel
theorem dX1_next_68 : decode cX1_next 68 = .ok (.iadd, 1) := by decide +kernel
theorem dX1_next_69 : decode cX1_next 69 = .ok (.iadd, 1) := by decide +kernel
theorem dX1_next_70 : decode cX1_next 70 = .ok (.putfield 37, 3) := by decide +kernel
theorem dX1_next_73 : decode cX1_next 73 = .ok (.aload_n 0, 1) := by decide +kernel
theorem dX1_next_74 : decode cX1_next 74 = .ok (.getfield 90, 3) := by decide +kernel
theorem dX1_next_77 : decode cX1_next 77 = .ok (.ifCond .le 18, 3) := by decide +kernel
theorem dX1_next_80 : decode cX1_next 80 = .ok (.aload_n 0, 1) := by decide +kernel
theorem dX1_next_81 : decode cX1_next 81 = .ok (.getfield 17, 3) := by decide +kernel
theorem dX1_next_84 : decode cX1_next 84 = .ok (.aload_n 0, 1) := by decide +kernel
theorem dX1_next_85 : decode cX1_next 85 = .ok (.getfield 90, 3) := by decide +kernel
theorem dX1_next_88 : decode cX1_next 88 = .ok (.iconst 1, 1) := by decide +kernel
theorem dX1_next_89 : decode cX1_next 89 = .ok (.isub, 1) := by decide +kernel
theorem dX1_next_90 : decode cX1_next 90 = .ok (.dup2, 1) := by decide +kernel
theorem dX1_next_91 : decode cX1_next 91 = .ok (.laload, 1) := by decide +kernel
theorem dX1_next_92 : decode cX1_next 92 = .ok (.lconst 1, 1) := by decide +kernel
theorem dX1_next_93 : decode cX1_next 93 = .ok (.lsub, 1) := by decide +kernel
theorem dX1_next_94 : decode cX1_next 94 = .ok (.lastore, 1) := by decide +kernel
theorem dX1_next_95 : decode cX1_next 95 = .ok (.aload_n 0, 1) := by decide +kernel
theorem dX1_next_96 : decode cX1_next 96 = .ok (.getfield 71, 3) := by decide +kernel
theorem dX1_next_99 : decode cX1_next 99 = .ok (.lconst 0, 1) := by decide +kernel
theorem dX1_next_100 : decode cX1_next 100 = .ok (.lcmp, 1) := by decide +kernel
theorem dX1_next_101 : decode cX1_next 101 = .ok (.ifCond .le 26, 3) := by decide +kernel
theorem dX1_next_104 : decode cX1_next 104 = .ok (.aload_n 0, 1) := by decide +kernel
theorem dX1_next_105 : decode cX1_next 105 = .ok (.getfield 17, 3) := by decide +kernel
theorem dX1_next_108 : decode cX1_next 108 = .ok (.aload_n 0, 1) := by decide +kernel
theorem dX1_next_109 : decode cX1_next 109 = .ok (.getfield 90, 3) := by decide +kernel
theorem dX1_next_112 : decode cX1_next 112 = .ok (.aload_n 0, 1) := by decide +kernel
theorem dX1_next_113 : decode cX1_next 113 = .ok (.getfield 71, 3) := by decide +kernel
theorem dX1_next_116 : decode cX1_next 116 = .ok (.lastore, 1) := by decide +kernel
