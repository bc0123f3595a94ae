theorem dX1_next_117 : decode cX1_next 117 = .ok (.aload_n 0, 1) := by decide +kernel
theorem dX1_next_118 : decode cX1_next 118 = .ok (.dup, 1) := by decide +kernel
theorem dX1_next_119 : decode cX1_next 119 = .ok (.getfield 90, 3) := by decide +kernel
theorem dX1_next_122 : decode cX1_next 122 = .ok (.iconst 1, 1) := by decide +kernel
theorem dX1_next_123 : decode cX1_next 123 = .ok (.iadd, 1) := by decide +kernel
theorem dX1_next_124 : decode cX1_next 124 = .ok (.putfield 90, 3) := by decide +kernel
theorem dX1_next_127 : decode cX1_next 127 = .ok (.aload_n 0, 1) := by decide +kernel
theorem dX1_next_128 : decode cX1_next 128 = .ok (.invokevirtual 100, 3) := by decide +kernel
theorem dX1_next_131 : decode cX1_next 131 = .ok (.aload_n 0, 1) := by decide +kernel
theorem dX1_next_132 : decode cX1_next 132 = .ok (.getfield 47, 3) := by decide +kernel
theorem dX1_next_135 : decode cX1_next 135 = .ok (.ireturn, 1) := by decide +kernel
theorem dX1_end_0 : decode cX1_end 0 = .ok (.iload_n 1, 1) := by decide +kernel
theorem dX1_end_1 : decode cX1_end 1 = .ok (.istore_n 2, 1) := by decide +kernel
theorem dX1_end_2 : decode cX1_end 2 = .ok (.lconst 1, 1) := by decide +kernel
theorem dX1_end_3 : decode cX1_end 3 = .ok (.lstore_n 3, 1) := by decide +kernel
theorem dX1_end_4 : decode cX1_end 4 = .ok (.lload_n 3, 1) := by decide +kernel
theorem dX1_end_5 : decode cX1_end 5 = .ok (.lconst 0, 1) := by decide +kernel
theorem dX1_end_6 : decode cX1_end 6 = .ok (.lcmp, 1) := by decide +kernel
theorem dX1_end_7 : decode cX1_end 7 = .ok (.ifCond .le 43, 3) := by decide +kernel
theorem dX1_end_10 : decode cX1_end 10 = .ok (.aload_n 0, 1) := by decide +kernel
theorem dX1_end_11 : decode cX1_end 11 = .ok (.iload_n 2, 1) := by decide +kernel
theorem dX1_end_12 : decode cX1_end 12 = .ok (.invokevirtual 93, 3) := by decide +kernel
theorem dX1_end_15 : decode cX1_end 15 = .ok (.istore 5, 2) := by decide +kernel
theorem dX1_end_17 : decode cX1_end 17 = .ok (.iload 5, 2) := by decide +kernel
theorem dX1_end_19 : decode cX1_end 19 = .ok (.ifCond .eq 6, 3) := by decide +kernel
theorem dX1_end_22 : decode cX1_end 22 = .ok (.iload 5, 2) := by decide +kernel
theorem dX1_end_24 : decode cX1_end 24 = .ok (.ireturn, 1) := by decide +kernel
theorem dX1_end_25 : decode cX1_end 25 = .ok (.iload_n 2, 1) := by decide +kernel
theorem dX1_end_26 : decode cX1_end 26 = .ok (.aload_n 0, 1) := by decide +kernel
theorem dX1_end_27 : decode cX1_end 27 = .ok (.getfield 50, 3) := by decide +kernel
theorem dX1_end_30 : decode cX1_end 30 = .ok (.aload_n 0, 1) := by decide +kernel
theorem dX1_end_31 : decode cX1_end 31 = .ok (.getfield 68, 3) := by decide +kernel
theorem dX1_end_34 : decode cX1_end 34 = .ok (.l2i, 1) := by decide +kernel
theorem dX1_end_35 : decode cX1_end 35 = .ok (.iadd, 1) := by decide +kernel
theorem dX1_end_36 : decode cX1_end 36 = .ok (.iadd, 1) := by decide +kernel
theorem dX1_end_37 : decode cX1_end 37 = .ok (.istore_n 2, 1) := by decide +kernel
theorem dX1_end_38 : decode cX1_end 38 = .ok (.lload_n 3, 1) := by decide +kernel
theorem dX1_end_39 : decode cX1_end 39 = .ok (.aload_n 0, 1) := by decide +kernel
theorem dX1_end_40 : decode cX1_end 40 = .ok (.getfield 71, 3) := by decide +kernel
theorem dX1_end_43 : decode cX1_end 43 = .ok (.lconst 1, 1) := by decide +kernel
theorem dX1_end_44 : decode cX1_end 44 = .ok (.lsub, 1) := by decide +kernel
theorem dX1_end_45 : decode cX1_end 45 = .ok (.ladd, 1) := by decide +kernel
theorem dX1_end_46 : decode cX1_end 46 = .ok (.lstore_n 3, 1) := by decide +kernel
theorem dX1_end_47 : decode cX1_end 47 = .ok (.goto (-43), 3) := by decide +kernel
theorem dX1_end_50 : decode cX1_end 50 = .ok (.iload_n 2, 1) := by decide +kernel
theorem dX1_end_51 : decode cX1_end 51 = .ok (.ireturn, 1) := by decide +kernel
theorem dX1_skip_0 : decode cX1_skip 0 = .ok (.aload_n 0, 1) := by decide +kernel
theorem dX1_skip_1 : decode cX1_skip 1 = .ok (.iconst 0, 1) := by decide +kernel
theorem dX1_skip_2 : decode cX1_skip 2 = .ok (.putfield 21, 3) := by decide +kernel
theorem dX1_skip_5 : decode cX1_skip 5 = .ok (.aload_n 0, 1) := by decide +kernel
theorem dX1_skip_6 : decode cX1_skip 6 = .ok (.aload_n 0, 1) := by decide +kernel
theorem dX1_skip_7 : decode cX1_skip 7 = .ok (.getfield 37, 3) := by decide +kernel
theorem dX1_skip_10 : decode cX1_skip 10 = .ok (.invokevirtual 103, 3) := by decide +kernel
theorem dX1_skip_13 : decode cX1_skip 13 = .ok (.istore_n 1, 1) := by decide +kernel
theorem dX1_skip_14 : decode cX1_skip 14 = .ok (.iload_n 1, 1) := by decide +kernel
theorem dX1_skip_15 : decode cX1_skip 15 = .ok (.ifCond .ge 5, 3) := by decide +kernel
theorem dX1_skip_18 : decode cX1_skip 18 = .ok (.iload_n 1, 1) := by decide +kernel
theorem dX1_skip_19 : decode cX1_skip 19 = .ok (.ireturn, 1) := by decide +kernel
theorem dX1_skip_20 : decode cX1_skip 20 = .ok (.aload_n 0, 1) := by decide +kernel
theorem dX1_skip_21 : decode cX1_skip 21 = .ok (.iload_n 1, 1) := by decide +kernel
theorem dX1_skip_22 : decode cX1_skip 22 = .ok (.aload_n 0, 1) := by decide +kernel
theorem dX1_skip_23 : decode cX1_skip 23 = .ok (.getfield 68, 3) := by decide +kernel
theorem dX1_skip_26 : decode cX1_skip 26 = .ok (.l2i, 1) := by decide +kernel
theorem dX1_skip_27 : decode cX1_skip 27 = .ok (.isub, 1) := by decide +kernel
theorem dX1_skip_28 : decode cX1_skip 28 = .ok (.invokevirtual 96, 3) := by decide +kernel
theorem dX1_skip_31 : decode cX1_skip 31 = .ok (.iload_n 1, 1) := by decide +kernel
theorem dX1_skip_32 : decode cX1_skip 32 = .ok (.aload_n 0, 1) := by decide +kernel
theorem dX1_skip_33 : decode cX1_skip 33 = .ok (.getfield 37, 3) := by decide +kernel
theorem dX1_skip_36 : decode cX1_skip 36 = .ok (.isub, 1) := by decide +kernel
theorem dX1_skip_37 : decode cX1_skip 37 = .ok (.istore_n 2, 1) := by decide +kernel
theorem dX1_skip_38 : decode cX1_skip 38 = .ok (.aload_n 0, 1) := by decide +kernel
theorem dX1_skip_39 : decode cX1_skip 39 = .ok (.iload_n 1, 1) := by decide +kernel
theorem dX1_skip_40 : decode cX1_skip 40 = .ok (.putfield 37, 3) := by decide +kernel
theorem dX1_skip_43 : decode cX1_skip 43 = .ok (.aload_n 0, 1) := by decide +kernel
theorem dX1_skip_44 : decode cX1_skip 44 = .ok (.getfield 90, 3) := by decide +kernel
theorem dX1_skip_47 : decode cX1_skip 47 = .ok (.ifCond .le 18, 3) := by decide +kernel
theorem dX1_skip_50 : decode cX1_skip 50 = .ok (.aload_n 0, 1) := by decide +kernel
theorem dX1_skip_51 : decode cX1_skip 51 = .ok (.getfield 17, 3) := by decide +kernel
theorem dX1_skip_54 : decode cX1_skip 54 = .ok (.aload_n 0, 1) := by decide +kernel
theorem dX1_skip_55 : decode cX1_skip 55 = .ok (.getfield 90, 3) := by decide +kernel
theorem dX1_skip_58 : decode cX1_skip 58 = .ok (.iconst 1, 1) := by decide +kernel
theorem dX1_skip_59 : decode cX1_skip 59 = .ok (.isub, 1) := by decide +kernel
theorem dX1_skip_60 : decode cX1_skip 60 = .ok (.dup2, 1) := by decide +kernel
theorem dX1_skip_61 : decode cX1_skip 61 = .ok (.laload, 1) := by decide +kernel
theorem dX1_skip_62 : decode cX1_skip 62 = .ok (.lconst 1, 1) := by decide +kernel
theorem dX1_skip_63 : decode cX1_skip 63 = .ok (.lsub, 1) := by decide +kernel
theorem dX1_skip_64 : decode cX1_skip 64 = .ok (.lastore, 1) := by decide +kernel
theorem dX1_skip_65 : decode cX1_skip 65 = .ok (.aload_n 0, 1) := by decide +kernel
theorem dX1_skip_66 : decode cX1_skip 66 = .ok (.invokevirtual 100, 3) := by decide +kernel
theorem dX1_skip_69 : decode cX1_skip 69 = .ok (.iload_n 2, 1) := by decide +kernel
theorem dX1_skip_70 : decode cX1_skip 70 = .ok (.ireturn, 1) := by decide +kernel
theorem dX1_kind_0 : decode cX1_kind 0 = .ok (.aload_n 0, 1) := by decide +kernel
theorem dX1_kind_1 : decode cX1_kind 1 = .ok (.iconst 0, 1) := by decide +kernel
theorem dX1_kind_2 : decode cX1_kind 2 = .ok (.putfield 21, 3) := by decide +kernel
theorem dX1_kind_5 : decode cX1_kind 5 = .ok (.aload_n 0, 1) := by decide +kernel
theorem dX1_kind_6 : decode cX1_kind 6 = .ok (.getfield 13, 3) := by decide +kernel
theorem dX1_kind_9 : decode cX1_kind 9 = .ok (.ireturn, 1) := by decide +kernel
theorem dX1_valueLow_0 : decode cX1_valueLow 0 = .ok (.aload_n 0, 1) := by decide +kernel
theorem dX1_valueLow_1 : decode cX1_valueLow 1 = .ok (.iconst 0, 1) := by decide +kernel
theorem dX1_valueLow_2 : decode cX1_valueLow 2 = .ok (.putfield 21, 3) := by decide +kernel
theorem dX1_valueLow_5 : decode cX1_valueLow 5 = .ok (.aload_n 0, 1) := by decide +kernel
theorem dX1_valueLow_6 : decode cX1_valueLow 6 = .ok (.getfield 78, 3) := by decide +kernel
theorem dX1_valueLow_9 : decode cX1_valueLow 9 = .ok (.ireturn, 1) := by decide +kernel
theorem dX1_valueHigh_0 : decode cX1_valueHigh 0 = .ok (.aload_n 0, 1) := by decide +kernel
theorem dX1_valueHigh_1 : decode cX1_valueHigh 1 = .ok (.iconst 0, 1) := by decide +kernel
theorem dX1_valueHigh_2 : decode cX1_valueHigh 2 = .ok (.putfield 21, 3) := by decide +kernel
theorem dX1_valueHigh_5 : decode cX1_valueHigh 5 = .ok (.aload_n 0, 1) := by decide +kernel
theorem dX1_valueHigh_6 : decode cX1_valueHigh 6 = .ok (.getfield 81, 3) := by decide +kernel
theorem dX1_valueHigh_9 : decode cX1_valueHigh 9 = .ok (.ireturn, 1) := by decide +kernel
theorem dX1_payload_0 : decode cX1_payload 0 = .ok (.aload_n 0, 1) := by decide +kernel
theorem dX1_payload_1 : decode cX1_payload 1 = .ok (.iconst 0, 1) := by decide +kernel
theorem dX1_payload_2 : decode cX1_payload 2 = .ok (.putfield 21, 3) := by decide +kernel
theorem dX1_payload_5 : decode cX1_payload 5 = .ok (.iload_n 1, 1) := by decide +kernel
theorem dX1_payload_6 : decode cX1_payload 6 = .ok (.ifCond .lt 11, 3) := by decide +kernel
theorem dX1_payload_9 : decode cX1_payload 9 = .ok (.iload_n 1, 1) := by decide +kernel
theorem dX1_payload_10 : decode cX1_payload 10 = .ok (.aload_n 0, 1) := by decide +kernel
theorem dX1_payload_11 : decode cX1_payload 11 = .ok (.getfield 87, 3) := by decide +kernel
theorem dX1_payload_14 : decode cX1_payload 14 = .ok (.if_icmp .lt 7, 3) := by decide +kernel
theorem dX1_payload_17 : decode cX1_payload 17 = .ok (.iconst (-1), 1) := by decide +kernel
theorem dX1_payload_18 : decode cX1_payload 18 = .ok (.goto 14, 3) := by decide +kernel
theorem dX1_payload_21 : decode cX1_payload 21 = .ok (.aload_n 0, 1) := by decide +kernel
theorem dX1_payload_22 : decode cX1_payload 22 = .ok (.getfield 7, 3) := by decide +kernel
theorem dX1_payload_25 : decode cX1_payload 25 = .ok (.aload_n 0, 1) := by decide +kernel
theorem dX1_payload_26 : decode cX1_payload 26 = .ok (.getfield 84, 3) := by decide +kernel
theorem dX1_payload_29 : decode cX1_payload 29 = .ok (.iload_n 1, 1) := by decide +kernel
theorem dX1_payload_30 : decode cX1_payload 30 = .ok (.iadd, 1) := by decide +kernel
theorem dX1_payload_31 : decode cX1_payload 31 = .ok (.iaload, 1) := by decide +kernel
theorem dX1_payload_32 : decode cX1_payload 32 = .ok (.ireturn, 1) := by decide +kernel
theorem dX1_level_0 : decode cX1_level 0 = .ok (.aload_n 0, 1) := by decide +kernel
theorem dX1_level_1 : decode cX1_level 1 = .ok (.iconst 0, 1) := by decide +kernel
theorem dX1_level_2 : decode cX1_level 2 = .ok (.putfield 21, 3) := by decide +kernel
theorem dX1_level_5 : decode cX1_level 5 = .ok (.aload_n 0, 1) := by decide +kernel
theorem dX1_level_6 : decode cX1_level 6 = .ok (.getfield 90, 3) := by decide +kernel
theorem dX1_level_9 : decode cX1_level 9 = .ok (.ireturn, 1) := by decide +kernel
theorem dX1_remaining_0 : decode cX1_remaining 0 = .ok (.aload_n 0, 1) := by decide +kernel
theorem dX1_remaining_1 : decode cX1_remaining 1 = .ok (.iconst 0, 1) := by decide +kernel
theorem dX1_remaining_2 : decode cX1_remaining 2 = .ok (.putfield 21, 3) := by decide +kernel
theorem dX1_remaining_5 : decode cX1_remaining 5 = .ok (.aload_n 0, 1) := by decide +kernel
theorem dX1_remaining_6 : decode cX1_remaining 6 = .ok (.iload_n 1, 1) := by decide +kernel
theorem dX1_remaining_7 : decode cX1_remaining 7 = .ok (.ifCond .ge 7, 3) := by decide +kernel
theorem dX1_remaining_10 : decode cX1_remaining 10 = .ok (.iconst 1, 1) := by decide +kernel
theorem dX1_remaining_11 : decode cX1_remaining 11 = .ok (.goto 4, 3) := by decide +kernel
theorem dX1_remaining_14 : decode cX1_remaining 14 = .ok (.iconst 0, 1) := by decide +kernel
theorem dX1_remaining_15 : decode cX1_remaining 15 = .ok (.iconst 1, 1) := by decide +kernel
theorem dX1_remaining_16 : decode cX1_remaining 16 = .ok (.invokevirtual 24, 3) := by decide +kernel
theorem dX1_remaining_19 : decode cX1_remaining 19 = .ok (.ifCond .eq 5, 3) := by decide +kernel
theorem dX1_remaining_22 : decode cX1_remaining 22 = .ok (.lconst 0, 1) := by decide +kernel
theorem dX1_remaining_23 : decode cX1_remaining 23 = .ok (.lreturn, 1) := by decide +kernel
theorem dX1_remaining_24 : decode cX1_remaining 24 = .ok (.iload_n 1, 1) := by decide +kernel
theorem dX1_remaining_25 : decode cX1_remaining 25 = .ok (.aload_n 0, 1) := by decide +kernel
theorem dX1_remaining_26 : decode cX1_remaining 26 = .ok (.getfield 90, 3) := by decide +kernel
theorem dX1_remaining_29 : decode cX1_remaining 29 = .ok (.if_icmp .lt 9, 3) := by decide +kernel
theorem dX1_remaining_32 : decode cX1_remaining 32 = .ok (.ldc2_w 106, 3) := by decide +kernel
theorem dX1_remaining_35 : decode cX1_remaining 35 = .ok (.goto 16, 3) := by decide +kernel
theorem dX1_remaining_38 : decode cX1_remaining 38 = .ok (.aload_n 0, 1) := by decide +kernel
theorem dX1_remaining_39 : decode cX1_remaining 39 = .ok (.getfield 17, 3) := by decide +kernel
theorem dX1_remaining_42 : decode cX1_remaining 42 = .ok (.aload_n 0, 1) := by decide +kernel
theorem dX1_remaining_43 : decode cX1_remaining 43 = .ok (.getfield 90, 3) := by decide +kernel
theorem dX1_remaining_46 : decode cX1_remaining 46 = .ok (.iconst 1, 1) := by decide +kernel
theorem dX1_remaining_47 : decode cX1_remaining 47 = .ok (.isub, 1) := by decide +kernel
theorem dX1_remaining_48 : decode cX1_remaining 48 = .ok (.iload_n 1, 1) := by decide +kernel
theorem dX1_remaining_49 : decode cX1_remaining 49 = .ok (.isub, 1) := by decide +kernel
theorem dX1_remaining_50 : decode cX1_remaining 50 = .ok (.laload, 1) := by decide +kernel
theorem dX1_remaining_51 : decode cX1_remaining 51 = .ok (.lreturn, 1) := by decide +kernel
theorem dX1_consumed_0 : decode cX1_consumed 0 = .ok (.aload_n 0, 1) := by decide +kernel
theorem dX1_consumed_1 : decode cX1_consumed 1 = .ok (.iconst 0, 1) := by decide +kernel
theorem dX1_consumed_2 : decode cX1_consumed 2 = .ok (.putfield 21, 3) := by decide +kernel
theorem dX1_consumed_5 : decode cX1_consumed 5 = .ok (.aload_n 0, 1) := by decide +kernel
theorem dX1_consumed_6 : decode cX1_consumed 6 = .ok (.getfield 37, 3) := by decide +kernel
theorem dX1_consumed_9 : decode cX1_consumed 9 = .ok (.ireturn, 1) := by decide +kernel
theorem dX1_whole_0 : decode cX1_whole 0 = .ok (.aload_n 0, 1) := by decide +kernel
theorem dX1_whole_1 : decode cX1_whole 1 = .ok (.iconst 0, 1) := by decide +kernel
theorem dX1_whole_2 : decode cX1_whole 2 = .ok (.putfield 21, 3) := by decide +kernel
theorem dX1_whole_5 : decode cX1_whole 5 = .ok (.iconst 0, 1) := by decide +kernel
theorem dX1_whole_6 : decode cX1_whole 6 = .ok (.istore_n 1, 1) := by decide +kernel
theorem dX1_whole_7 : decode cX1_whole 7 = .ok (.aload_n 0, 1) := by decide +kernel
theorem dX1_whole_8 : decode cX1_whole 8 = .ok (.aload_n 0, 1) := by decide +kernel
theorem dX1_whole_9 : decode cX1_whole 9 = .ok (.getfield 37, 3) := by decide +kernel
theorem dX1_whole_12 : decode cX1_whole 12 = .ok (.invokevirtual 103, 3) := by decide +kernel
theorem dX1_whole_15 : decode cX1_whole 15 = .ok (.istore_n 2, 1) := by decide +kernel
theorem dX1_whole_16 : decode cX1_whole 16 = .ok (.iload_n 2, 1) := by decide +kernel
theorem dX1_whole_17 : decode cX1_whole 17 = .ok (.ifCond .lt 15, 3) := by decide +kernel
theorem dX1_whole_20 : decode cX1_whole 20 = .ok (.iinc 1 1, 3) := by decide +kernel
theorem dX1_whole_23 : decode cX1_whole 23 = .ok (.aload_n 0, 1) := by decide +kernel
theorem dX1_whole_24 : decode cX1_whole 24 = .ok (.iload_n 2, 1) := by decide +kernel
theorem dX1_whole_25 : decode cX1_whole 25 = .ok (.invokevirtual 103, 3) := by decide +kernel
theorem dX1_whole_28 : decode cX1_whole 28 = .ok (.istore_n 2, 1) := by decide +kernel
theorem dX1_whole_29 : decode cX1_whole 29 = .ok (.goto (-13), 3) := by decide +kernel
theorem dX1_whole_32 : decode cX1_whole 32 = .ok (.iload_n 1, 1) := by decide +kernel
theorem dX1_whole_33 : decode cX1_whole 33 = .ok (.ireturn, 1) := by decide +kernel
theorem dX1_packHead_0 : decode cX1_packHead 0 = .ok (.aload_n 0, 1) := by decide +kernel
theorem dX1_packHead_1 : decode cX1_packHead 1 = .ok (.aload_n 0, 1) := by decide +kernel
theorem dX1_packHead_2 : decode cX1_packHead 2 = .ok (.getfield 28, 3) := by decide +kernel
theorem dX1_packHead_5 : decode cX1_packHead 5 = .ok (.iconst 1, 1) := by decide +kernel
theorem dX1_packHead_6 : decode cX1_packHead 6 = .ok (.iadd, 1) := by decide +kernel
theorem dX1_packHead_7 : decode cX1_packHead 7 = .ok (.iload_n 2, 1) := by decide +kernel
theorem dX1_packHead_8 : decode cX1_packHead 8 = .ok (.iadd, 1) := by decide +kernel
theorem dX1_packHead_9 : decode cX1_packHead 9 = .ok (.iload 5, 2) := by decide +kernel
theorem dX1_packHead_11 : decode cX1_packHead 11 = .ok (.iconst (-1), 1) := by decide +kernel
theorem dX1_packHead_12 : decode cX1_packHead 12 = .ok (.if_icmp .le 7, 3) := by decide +kernel
theorem dX1_packHead_15 : decode cX1_packHead 15 = .ok (.iconst 1, 1) := by decide +kernel
theorem dX1_packHead_16 : decode cX1_packHead 16 = .ok (.goto 4, 3) := by decide +kernel
theorem dX1_packHead_19 : decode cX1_packHead 19 = .ok (.iconst 0, 1) := by decide +kernel
theorem dX1_packHead_20 : decode cX1_packHead 20 = .ok (.iadd, 1) := by decide +kernel
theorem dX1_packHead_21 : decode cX1_packHead 21 = .ok (.sipush 4096, 3) := by decide +kernel
theorem dX1_packHead_24 : decode cX1_packHead 24 = .ok (.if_icmp .le 7, 3) := by decide +kernel
theorem dX1_packHead_27 : decode cX1_packHead 27 = .ok (.iconst 1, 1) := by decide +kernel
theorem dX1_packHead_28 : decode cX1_packHead 28 = .ok (.goto 4, 3) := by decide +kernel
theorem dX1_packHead_31 : decode cX1_packHead 31 = .ok (.iconst 0, 1) := by decide +kernel
theorem dX1_packHead_32 : decode cX1_packHead 32 = .ok (.iconst 2, 1) := by decide +kernel
theorem dX1_packHead_33 : decode cX1_packHead 33 = .ok (.invokevirtual 24, 3) := by decide +kernel
theorem dX1_packHead_36 : decode cX1_packHead 36 = .ok (.ifCond .eq 5, 3) := by decide +kernel
theorem dX1_packHead_39 : decode cX1_packHead 39 = .ok (.iconst 0, 1) := by decide +kernel
theorem dX1_packHead_40 : decode cX1_packHead 40 = .ok (.ireturn, 1) := by decide +kernel
theorem dX1_packHead_41 : decode cX1_packHead 41 = .ok (.aload_n 0, 1) := by decide +kernel
theorem dX1_packHead_42 : decode cX1_packHead 42 = .ok (.getfield 7, 3) := by decide +kernel
theorem dX1_packHead_45 : decode cX1_packHead 45 = .ok (.aload_n 0, 1) := by decide +kernel
theorem dX1_packHead_46 : decode cX1_packHead 46 = .ok (.getfield 28, 3) := by decide +kernel
theorem dX1_packHead_49 : decode cX1_packHead 49 = .ok (.iload_n 1, 1) := by decide +kernel
theorem dX1_packHead_50 : decode cX1_packHead 50 = .ok (.iastore, 1) := by decide +kernel
theorem dX1_packHead_51 : decode cX1_packHead 51 = .ok (.aload_n 0, 1) := by decide +kernel
theorem dX1_packHead_52 : decode cX1_packHead 52 = .ok (.dup, 1) := by decide +kernel
theorem dX1_packHead_53 : decode cX1_packHead 53 = .ok (.getfield 28, 3) := by decide +kernel
theorem dX1_packHead_56 : decode cX1_packHead 56 = .ok (.iconst 1, 1) := by decide +kernel
theorem dX1_packHead_57 : decode cX1_packHead 57 = .ok (.iadd, 1) := by decide +kernel
theorem dX1_packHead_58 : decode cX1_packHead 58 = .ok (.putfield 28, 3) := by decide +kernel
theorem dX1_packHead_61 : decode cX1_packHead 61 = .ok (.aload_n 0, 1) := by decide +kernel
theorem dX1_packHead_62 : decode cX1_packHead 62 = .ok (.lload_n 3, 1) := by decide +kernel
theorem dX1_packHead_63 : decode cX1_packHead 63 = .ok (.iload_n 2, 1) := by decide +kernel
theorem dX1_packHead_64 : decode cX1_packHead 64 = .ok (.invokevirtual 33, 3) := by decide +kernel
theorem dX1_packHead_67 : decode cX1_packHead 67 = .ok (.iload 5, 2) := by decide +kernel
theorem dX1_packHead_69 : decode cX1_packHead 69 = .ok (.iconst (-1), 1) := by decide +kernel
theorem dX1_packHead_70 : decode cX1_packHead 70 = .ok (.if_icmp .le 11, 3) := by decide +kernel
theorem dX1_packHead_73 : decode cX1_packHead 73 = .ok (.aload_n 0, 1) := by decide +kernel
theorem dX1_packHead_74 : decode cX1_packHead 74 = .ok (.iload 5, 2) := by decide +kernel
theorem dX1_packHead_76 : decode cX1_packHead 76 = .ok (.i2l, 1) := by decide +kernel
theorem dX1_packHead_77 : decode cX1_packHead 77 = .ok (.iconst 1, 1) := by decide +kernel
theorem dX1_packHead_78 : decode cX1_packHead 78 = .ok (.invokevirtual 33, 3) := by decide +kernel
theorem dX1_packHead_81 : decode cX1_packHead 81 = .ok (.iconst 1, 1) := by decide +kernel
theorem dX1_packHead_82 : decode cX1_packHead 82 = .ok (.iload_n 2, 1) := by decide +kernel
theorem dX1_packHead_83 : decode cX1_packHead 83 = .ok (.iadd, 1) := by decide +kernel
theorem dX1_packHead_84 : decode cX1_packHead 84 = .ok (.iload 5, 2) := by decide +kernel
theorem dX1_packHead_86 : decode cX1_packHead 86 = .ok (.iconst (-1), 1) := by decide +kernel
theorem dX1_packHead_87 : decode cX1_packHead 87 = .ok (.if_icmp .le 7, 3) := by decide +kernel
theorem dX1_packHead_90 : decode cX1_packHead 90 = .ok (.iconst 1, 1) := by decide +kernel
theorem dX1_packHead_91 : decode cX1_packHead 91 = .ok (.goto 4, 3) := by decide +kernel
theorem dX1_packHead_94 : decode cX1_packHead 94 = .ok (.iconst 0, 1) := by decide +kernel
theorem dX1_packHead_95 : decode cX1_packHead 95 = .ok (.iadd, 1) := by decide +kernel
theorem dX1_packHead_96 : decode cX1_packHead 96 = .ok (.ireturn, 1) := by decide +kernel
theorem dX1_log_0 : decode cX1_log 0 = .ok (.iload_n 0, 1) := by decide +kernel
theorem dX1_log_1 : decode cX1_log 1 = .ok (.iconst 1, 1) := by decide +kernel
theorem dX1_log_2 : decode cX1_log 2 = .ok (.if_icmp .ne 7, 3) := by decide +kernel
theorem dX1_log_5 : decode cX1_log 5 = .ok (.iconst 0, 1) := by decide +kernel
theorem dX1_log_6 : decode cX1_log 6 = .ok (.goto 22, 3) := by decide +kernel
theorem dX1_log_9 : decode cX1_log 9 = .ok (.iload_n 0, 1) := by decide +kernel
theorem dX1_log_10 : decode cX1_log 10 = .ok (.iconst 2, 1) := by decide +kernel
theorem dX1_log_11 : decode cX1_log 11 = .ok (.if_icmp .ne 7, 3) := by decide +kernel
theorem dX1_log_14 : decode cX1_log 14 = .ok (.iconst 1, 1) := by decide +kernel
theorem dX1_log_15 : decode cX1_log 15 = .ok (.goto 13, 3) := by decide +kernel
theorem dX1_log_18 : decode cX1_log 18 = .ok (.iload_n 0, 1) := by decide +kernel
theorem dX1_log_19 : decode cX1_log 19 = .ok (.iconst 4, 1) := by decide +kernel
theorem dX1_log_20 : decode cX1_log 20 = .ok (.if_icmp .ne 7, 3) := by decide +kernel
theorem dX1_log_23 : decode cX1_log 23 = .ok (.iconst 2, 1) := by decide +kernel
theorem dX1_log_24 : decode cX1_log 24 = .ok (.goto 4, 3) := by decide +kernel
theorem dX1_log_27 : decode cX1_log 27 = .ok (.iconst 3, 1) := by decide +kernel
theorem dX1_log_28 : decode cX1_log 28 = .ok (.ireturn, 1) := by decide +kernel
theorem dX1_needs_0 : decode cX1_needs 0 = .ok (.lload_n 0, 1) := by decide +kernel
theorem dX1_needs_1 : decode cX1_needs 1 = .ok (.bipush 8, 2) := by decide +kernel
theorem dX1_needs_3 : decode cX1_needs 3 = .ok (.lushr, 1) := by decide +kernel
theorem dX1_needs_4 : decode cX1_needs 4 = .ok (.lconst 0, 1) := by decide +kernel
theorem dX1_needs_5 : decode cX1_needs 5 = .ok (.lcmp, 1) := by decide +kernel
theorem dX1_needs_6 : decode cX1_needs 6 = .ok (.ifCond .ne 7, 3) := by decide +kernel
theorem dX1_needs_9 : decode cX1_needs 9 = .ok (.iconst 1, 1) := by decide +kernel
theorem dX1_needs_10 : decode cX1_needs 10 = .ok (.goto 31, 3) := by decide +kernel
theorem dX1_needs_13 : decode cX1_needs 13 = .ok (.lload_n 0, 1) := by decide +kernel
theorem dX1_needs_14 : decode cX1_needs 14 = .ok (.bipush 16, 2) := by decide +kernel
theorem dX1_needs_16 : decode cX1_needs 16 = .ok (.lushr, 1) := by decide +kernel
theorem dX1_needs_17 : decode cX1_needs 17 = .ok (.lconst 0, 1) := by decide +kernel
theorem dX1_needs_18 : decode cX1_needs 18 = .ok (.lcmp, 1) := by decide +kernel
theorem dX1_needs_19 : decode cX1_needs 19 = .ok (.ifCond .ne 7, 3) := by decide +kernel
theorem dX1_needs_22 : decode cX1_needs 22 = .ok (.iconst 2, 1) := by decide +kernel
theorem dX1_needs_23 : decode cX1_needs 23 = .ok (.goto 18, 3) := by decide +kernel
theorem dX1_needs_26 : decode cX1_needs 26 = .ok (.lload_n 0, 1) := by decide +kernel
theorem dX1_needs_27 : decode cX1_needs 27 = .ok (.bipush 32, 2) := by decide +kernel
theorem dX1_needs_29 : decode cX1_needs 29 = .ok (.lushr, 1) := by decide +kernel
theorem dX1_needs_30 : decode cX1_needs 30 = .ok (.lconst 0, 1) := by decide +kernel
theorem dX1_needs_31 : decode cX1_needs 31 = .ok (.lcmp, 1) := by decide +kernel
theorem dX1_needs_32 : decode cX1_needs 32 = .ok (.ifCond .ne 7, 3) := by decide +kernel
theorem dX1_needs_35 : decode cX1_needs 35 = .ok (.iconst 4, 1) := by decide +kernel
theorem dX1_needs_36 : decode cX1_needs 36 = .ok (.goto 5, 3) := by decide +kernel
theorem dX1_needs_39 : decode cX1_needs 39 = .ok (.bipush 8, 2) := by decide +kernel
theorem dX1_needs_41 : decode cX1_needs 41 = .ok (.ireturn, 1) := by decide +kernel
theorem dX1_needsSigned_0 : decode cX1_needsSigned 0 = .ok (.lload_n 0, 1) := by decide +kernel
theorem dX1_needsSigned_1 : decode cX1_needsSigned 1 = .ok (.ldc2_w 108, 3) := by decide +kernel
theorem dX1_needsSigned_4 : decode cX1_needsSigned 4 = .ok (.lcmp, 1) := by decide +kernel
theorem dX1_needsSigned_5 : decode cX1_needsSigned 5 = .ok (.ifCond .lt 15, 3) := by decide +kernel
theorem dX1_needsSigned_8 : decode cX1_needsSigned 8 = .ok (.lload_n 0, 1) := by decide +kernel
theorem dX1_needsSigned_9 : decode cX1_needsSigned 9 = .ok (.ldc2_w 110, 3) := by decide +kernel
theorem dX1_needsSigned_12 : decode cX1_needsSigned 12 = .ok (.lcmp, 1) := by decide +kernel
theorem dX1_needsSigned_13 : decode cX1_needsSigned 13 = .ok (.ifCond .ge 7, 3) := by decide +kernel
theorem dX1_needsSigned_16 : decode cX1_needsSigned 16 = .ok (.iconst 1, 1) := by decide +kernel
theorem dX1_needsSigned_17 : decode cX1_needsSigned 17 = .ok (.goto 45, 3) := by decide +kernel
theorem dX1_needsSigned_20 : decode cX1_needsSigned 20 = .ok (.lload_n 0, 1) := by decide +kernel
theorem dX1_needsSigned_21 : decode cX1_needsSigned 21 = .ok (.ldc2_w 112, 3) := by decide +kernel
theorem dX1_needsSigned_24 : decode cX1_needsSigned 24 = .ok (.lcmp, 1) := by decide +kernel
theorem dX1_needsSigned_25 : decode cX1_needsSigned 25 = .ok (.ifCond .lt 15, 3) := by decide +kernel
theorem dX1_needsSigned_28 : decode cX1_needsSigned 28 = .ok (.lload_n 0, 1) := by decide +kernel
theorem dX1_needsSigned_29 : decode cX1_needsSigned 29 = .ok (.ldc2_w 114, 3) := by decide +kernel
theorem dX1_needsSigned_32 : decode cX1_needsSigned 32 = .ok (.lcmp, 1) := by decide +kernel
theorem dX1_needsSigned_33 : decode cX1_needsSigned 33 = .ok (.ifCond .ge 7, 3) := by decide +kernel
theorem dX1_needsSigned_36 : decode cX1_needsSigned 36 = .ok (.iconst 2, 1) := by decide +kernel
theorem dX1_needsSigned_37 : decode cX1_needsSigned 37 = .ok (.goto 25, 3) := by decide +kernel
theorem dX1_needsSigned_40 : decode cX1_needsSigned 40 = .ok (.lload_n 0, 1) := by decide +kernel
theorem dX1_needsSigned_41 : decode cX1_needsSigned 41 = .ok (.ldc2_w 116, 3) := by decide +kernel
theorem dX1_needsSigned_44 : decode cX1_needsSigned 44 = .ok (.lcmp, 1) := by decide +kernel
theorem dX1_needsSigned_45 : decode cX1_needsSigned 45 = .ok (.ifCond .lt 15, 3) := by decide +kernel
theorem dX1_needsSigned_48 : decode cX1_needsSigned 48 = .ok (.lload_n 0, 1) := by decide +kernel
theorem dX1_needsSigned_49 : decode cX1_needsSigned 49 = .ok (.ldc2_w 74, 3) := by decide +kernel
theorem dX1_needsSigned_52 : decode cX1_needsSigned 52 = .ok (.lcmp, 1) := by decide +kernel
theorem dX1_needsSigned_53 : decode cX1_needsSigned 53 = .ok (.ifCond .gt 7, 3) := by decide +kernel
theorem dX1_needsSigned_56 : decode cX1_needsSigned 56 = .ok (.iconst 4, 1) := by decide +kernel
theorem dX1_needsSigned_57 : decode cX1_needsSigned 57 = .ok (.goto 5, 3) := by decide +kernel
theorem dX1_needsSigned_60 : decode cX1_needsSigned 60 = .ok (.bipush 8, 2) := by decide +kernel
theorem dX1_needsSigned_62 : decode cX1_needsSigned 62 = .ok (.ireturn, 1) := by decide +kernel
theorem dX1_pack_0 : decode cX1_pack 0 = .ok (.aload_n 0, 1) := by decide +kernel
theorem dX1_pack_1 : decode cX1_pack 1 = .ok (.iconst 0, 1) := by decide +kernel
theorem dX1_pack_2 : decode cX1_pack 2 = .ok (.putfield 21, 3) := by decide +kernel
theorem dX1_pack_5 : decode cX1_pack 5 = .ok (.iload_n 1, 1) := by decide +kernel
theorem dX1_pack_6 : decode cX1_pack 6 = .ok (.ifCond .le 41, 3) := by decide +kernel
theorem dX1_pack_9 : decode cX1_pack 9 = .ok (.iload_n 1, 1) := by decide +kernel
theorem dX1_pack_10 : decode cX1_pack 10 = .ok (.bipush 13, 2) := by decide +kernel
theorem dX1_pack_12 : decode cX1_pack 12 = .ok (.if_icmp .ge 35, 3) := by decide +kernel
theorem dX1_pack_15 : decode cX1_pack 15 = .ok (.iload_n 1, 1) := by decide +kernel
theorem dX1_pack_16 : decode cX1_pack 16 = .ok (.bipush 8, 2) := by decide +kernel
theorem dX1_pack_18 : decode cX1_pack 18 = .ok (.if_icmp .lt 7, 3) := by decide +kernel
theorem dX1_pack_21 : decode cX1_pack 21 = .ok (.iload_n 2, 1) := by decide +kernel
theorem dX1_pack_22 : decode cX1_pack 22 = .ok (.ifCond .lt 25, 3) := by decide +kernel
theorem dX1_pack_25 : decode cX1_pack 25 = .ok (.iload_n 1, 1) := by decide +kernel
theorem dX1_pack_26 : decode cX1_pack 26 = .ok (.bipush 12, 2) := by decide +kernel
theorem dX1_pack_28 : decode cX1_pack 28 = .ok (.if_icmp .ne 15, 3) := by decide +kernel
theorem dX1_pack_31 : decode cX1_pack 31 = .ok (.iload_n 3, 1) := by decide +kernel
theorem dX1_pack_32 : decode cX1_pack 32 = .ok (.bipush (-128), 2) := by decide +kernel
theorem dX1_pack_34 : decode cX1_pack 34 = .ok (.if_icmp .lt 13, 3) := by decide +kernel
theorem dX1_pack_37 : decode cX1_pack 37 = .ok (.iload_n 3, 1) := by decide +kernel
theorem dX1_pack_38 : decode cX1_pack 38 = .ok (.bipush 127, 2) := by decide +kernel
theorem dX1_pack_40 : decode cX1_pack 40 = .ok (.if_icmp .gt 7, 3) := by decide +kernel
theorem dX1_pack_43 : decode cX1_pack 43 = .ok (.iconst 1, 1) := by decide +kernel
theorem dX1_pack_44 : decode cX1_pack 44 = .ok (.goto 4, 3) := by decide +kernel
theorem dX1_pack_47 : decode cX1_pack 47 = .ok (.iconst 0, 1) := by decide +kernel
theorem dX1_pack_48 : decode cX1_pack 48 = .ok (.istore 4, 2) := by decide +kernel
theorem dX1_pack_50 : decode cX1_pack 50 = .ok (.aload_n 0, 1) := by decide +kernel
theorem dX1_pack_51 : decode cX1_pack 51 = .ok (.iload 4, 2) := by decide +kernel
theorem dX1_pack_53 : decode cX1_pack 53 = .ok (.ifCond .ne 7, 3) := by decide +kernel
theorem dX1_pack_56 : decode cX1_pack 56 = .ok (.iconst 1, 1) := by decide +kernel
theorem dX1_pack_57 : decode cX1_pack 57 = .ok (.goto 4, 3) := by decide +kernel
theorem dX1_pack_60 : decode cX1_pack 60 = .ok (.iconst 0, 1) := by decide +kernel
theorem dX1_pack_61 : decode cX1_pack 61 = .ok (.iconst 1, 1) := by decide +kernel
theorem dX1_pack_62 : decode cX1_pack 62 = .ok (.invokevirtual 24, 3) := by decide +kernel
theorem dX1_pack_65 : decode cX1_pack 65 = .ok (.ifCond .eq 5, 3) := by decide +kernel
theorem dX1_pack_68 : decode cX1_pack 68 = .ok (.iconst 0, 1) := by decide +kernel
theorem dX1_pack_69 : decode cX1_pack 69 = .ok (.ireturn, 1) := by decide +kernel
theorem dX1_pack_70 : decode cX1_pack 70 = .ok (.iload_n 3, 1) := by decide +kernel
theorem dX1_pack_71 : decode cX1_pack 71 = .ok (.i2l, 1) := by decide +kernel
theorem dX1_pack_72 : decode cX1_pack 72 = .ok (.bipush 32, 2) := by decide +kernel
theorem dX1_pack_74 : decode cX1_pack 74 = .ok (.lshl, 1) := by decide +kernel
theorem dX1_pack_75 : decode cX1_pack 75 = .ok (.iload_n 2, 1) := by decide +kernel
theorem dX1_pack_76 : decode cX1_pack 76 = .ok (.i2l, 1) := by decide +kernel
theorem dX1_pack_77 : decode cX1_pack 77 = .ok (.ldc2_w 118, 3) := by decide +kernel
theorem dX1_pack_80 : decode cX1_pack 80 = .ok (.land, 1) := by decide +kernel
theorem dX1_pack_81 : decode cX1_pack 81 = .ok (.lor, 1) := by decide +kernel
theorem dX1_pack_82 : decode cX1_pack 82 = .ok (.lstore 5, 2) := by decide +kernel
theorem dX1_pack_84 : decode cX1_pack 84 = .ok (.iload_n 1, 1) := by decide +kernel
theorem dX1_pack_85 : decode cX1_pack 85 = .ok (.bipush 7, 2) := by decide +kernel
theorem dX1_pack_87 : decode cX1_pack 87 = .ok (.if_icmp .le 11, 3) := by decide +kernel
theorem dX1_pack_90 : decode cX1_pack 90 = .ok (.iload_n 2, 1) := by decide +kernel
theorem dX1_pack_91 : decode cX1_pack 91 = .ok (.i2l, 1) := by decide +kernel
theorem dX1_pack_92 : decode cX1_pack 92 = .ok (.invokestatic 120, 3) := by decide +kernel
theorem dX1_pack_95 : decode cX1_pack 95 = .ok (.goto 4, 3) := by decide +kernel
theorem dX1_pack_98 : decode cX1_pack 98 = .ok (.iconst 0, 1) := by decide +kernel
theorem dX1_pack_99 : decode cX1_pack 99 = .ok (.istore 7, 2) := by decide +kernel
theorem dX1_pack_101 : decode cX1_pack 101 = .ok (.iload_n 1, 1) := by decide +kernel
theorem dX1_pack_102 : decode cX1_pack 102 = .ok (.tableswitch 352 1 11 #[58, 69, 69, 82, 126, 182, 194, 207, 247, 266, 266], 58) := by decide +kernel
theorem dX1_pack_160 : decode cX1_pack 160 = .ok (.aload_n 0, 1) := by decide +kernel
theorem dX1_pack_161 : decode cX1_pack 161 = .ok (.sipush 192, 3) := by decide +kernel
theorem dX1_pack_164 : decode cX1_pack 164 = .ok (.iconst 0, 1) := by decide +kernel
theorem dX1_pack_165 : decode cX1_pack 165 = .ok (.lconst 0, 1) := by decide +kernel
theorem dX1_pack_166 : decode cX1_pack 166 = .ok (.iconst (-1), 1) := by decide +kernel
theorem dX1_pack_167 : decode cX1_pack 167 = .ok (.invokevirtual 124, 3) := by decide +kernel
theorem dX1_pack_170 : decode cX1_pack 170 = .ok (.ireturn, 1) := by decide +kernel
theorem dX1_pack_171 : decode cX1_pack 171 = .ok (.aload_n 0, 1) := by decide +kernel
theorem dX1_pack_172 : decode cX1_pack 172 = .ok (.sipush 192, 3) := by decide +kernel
theorem dX1_pack_175 : decode cX1_pack 175 = .ok (.iload_n 1, 1) := by decide +kernel
theorem dX1_pack_176 : decode cX1_pack 176 = .ok (.iadd, 1) := by decide +kernel
theorem dX1_pack_177 : decode cX1_pack 177 = .ok (.iconst 0, 1) := by decide +kernel
theorem dX1_pack_178 : decode cX1_pack 178 = .ok (.lconst 0, 1) := by decide +kernel
theorem dX1_pack_179 : decode cX1_pack 179 = .ok (.iconst (-1), 1) := by decide +kernel
theorem dX1_pack_180 : decode cX1_pack 180 = .ok (.invokevirtual 124, 3) := by decide +kernel
theorem dX1_pack_183 : decode cX1_pack 183 = .ok (.ireturn, 1) := by decide +kernel
theorem dX1_pack_184 : decode cX1_pack 184 = .ok (.lload 5, 2) := by decide +kernel
theorem dX1_pack_186 : decode cX1_pack 186 = .ok (.bipush 7, 2) := by decide +kernel
theorem dX1_pack_188 : decode cX1_pack 188 = .ok (.lushr, 1) := by decide +kernel
theorem dX1_pack_189 : decode cX1_pack 189 = .ok (.lconst 0, 1) := by decide +kernel
theorem dX1_pack_190 : decode cX1_pack 190 = .ok (.lcmp, 1) := by decide +kernel
theorem dX1_pack_191 : decode cX1_pack 191 = .ok (.ifCond .ne 12, 3) := by decide +kernel
theorem dX1_pack_194 : decode cX1_pack 194 = .ok (.aload_n 0, 1) := by decide +kernel
theorem dX1_pack_195 : decode cX1_pack 195 = .ok (.iload_n 2, 1) := by decide +kernel
theorem dX1_pack_196 : decode cX1_pack 196 = .ok (.iconst 0, 1) := by decide +kernel
theorem dX1_pack_197 : decode cX1_pack 197 = .ok (.lconst 0, 1) := by decide +kernel
theorem dX1_pack_198 : decode cX1_pack 198 = .ok (.iconst (-1), 1) := by decide +kernel
theorem dX1_pack_199 : decode cX1_pack 199 = .ok (.invokevirtual 124, 3) := by decide +kernel
theorem dX1_pack_202 : decode cX1_pack 202 = .ok (.ireturn, 1) := by decide +kernel
theorem dX1_pack_203 : decode cX1_pack 203 = .ok (.aload_n 0, 1) := by decide +kernel
theorem dX1_pack_204 : decode cX1_pack 204 = .ok (.sipush 204, 3) := by decide +kernel
theorem dX1_pack_207 : decode cX1_pack 207 = .ok (.lload 5, 2) := by decide +kernel
theorem dX1_pack_209 : decode cX1_pack 209 = .ok (.invokestatic 120, 3) := by decide +kernel
theorem dX1_pack_212 : decode cX1_pack 212 = .ok (.invokestatic 128, 3) := by decide +kernel
theorem dX1_pack_215 : decode cX1_pack 215 = .ok (.iadd, 1) := by decide +kernel
theorem dX1_pack_216 : decode cX1_pack 216 = .ok (.lload 5, 2) := by decide +kernel
theorem dX1_pack_218 : decode cX1_pack 218 = .ok (.invokestatic 120, 3) := by decide +kernel
theorem dX1_pack_221 : decode cX1_pack 221 = .ok (.lload 5, 2) := by decide +kernel
theorem dX1_pack_223 : decode cX1_pack 223 = .ok (.iconst (-1), 1) := by decide +kernel
theorem dX1_pack_224 : decode cX1_pack 224 = .ok (.invokevirtual 124, 3) := by decide +kernel
theorem dX1_pack_227 : decode cX1_pack 227 = .ok (.ireturn, 1) := by decide +kernel
theorem dX1_pack_228 : decode cX1_pack 228 = .ok (.lload 5, 2) := by decide +kernel
theorem dX1_pack_230 : decode cX1_pack 230 = .ok (.ldc2_w 131, 3) := by decide +kernel
theorem dX1_pack_233 : decode cX1_pack 233 = .ok (.lcmp, 1) := by decide +kernel
theorem dX1_pack_234 : decode cX1_pack 234 = .ok (.ifCond .lt 25, 3) := by decide +kernel
theorem dX1_pack_237 : decode cX1_pack 237 = .ok (.lload 5, 2) := by decide +kernel
theorem dX1_pack_239 : decode cX1_pack 239 = .ok (.lconst 0, 1) := by decide +kernel
theorem dX1_pack_240 : decode cX1_pack 240 = .ok (.lcmp, 1) := by decide +kernel
theorem dX1_pack_241 : decode cX1_pack 241 = .ok (.ifCond .ge 18, 3) := by decide +kernel
theorem dX1_pack_244 : decode cX1_pack 244 = .ok (.aload_n 0, 1) := by decide +kernel
theorem dX1_pack_245 : decode cX1_pack 245 = .ok (.lload 5, 2) := by decide +kernel
theorem dX1_pack_247 : decode cX1_pack 247 = .ok (.l2i, 1) := by decide +kernel
theorem dX1_pack_248 : decode cX1_pack 248 = .ok (.sipush 256, 3) := by decide +kernel
theorem dX1_pack_251 : decode cX1_pack 251 = .ok (.iadd, 1) := by decide +kernel
theorem dX1_pack_252 : decode cX1_pack 252 = .ok (.iconst 0, 1) := by decide +kernel
theorem dX1_pack_253 : decode cX1_pack 253 = .ok (.lconst 0, 1) := by decide +kernel
theorem dX1_pack_254 : decode cX1_pack 254 = .ok (.iconst (-1), 1) := by decide +kernel
theorem dX1_pack_255 : decode cX1_pack 255 = .ok (.invokevirtual 124, 3) := by decide +kernel
theorem dX1_pack_258 : decode cX1_pack 258 = .ok (.ireturn, 1) := by decide +kernel
theorem dX1_pack_259 : decode cX1_pack 259 = .ok (.aload_n 0, 1) := by decide +kernel
theorem dX1_pack_260 : decode cX1_pack 260 = .ok (.sipush 208, 3) := by decide +kernel
theorem dX1_pack_263 : decode cX1_pack 263 = .ok (.lload 5, 2) := by decide +kernel
theorem dX1_pack_265 : decode cX1_pack 265 = .ok (.invokestatic 133, 3) := by decide +kernel
theorem dX1_pack_268 : decode cX1_pack 268 = .ok (.invokestatic 128, 3) := by decide +kernel
theorem dX1_pack_271 : decode cX1_pack 271 = .ok (.iadd, 1) := by decide +kernel
theorem dX1_pack_272 : decode cX1_pack 272 = .ok (.lload 5, 2) := by decide +kernel
theorem dX1_pack_274 : decode cX1_pack 274 = .ok (.invokestatic 133, 3) := by decide +kernel
theorem dX1_pack_277 : decode cX1_pack 277 = .ok (.lload 5, 2) := by decide +kernel
theorem dX1_pack_279 : decode cX1_pack 279 = .ok (.iconst (-1), 1) := by decide +kernel
theorem dX1_pack_280 : decode cX1_pack 280 = .ok (.invokevirtual 124, 3) := by decide +kernel
theorem dX1_pack_283 : decode cX1_pack 283 = .ok (.ireturn, 1) := by decide +kernel
theorem dX1_pack_284 : decode cX1_pack 284 = .ok (.aload_n 0, 1) := by decide +kernel
theorem dX1_pack_285 : decode cX1_pack 285 = .ok (.sipush 202, 3) := by decide +kernel
theorem dX1_pack_288 : decode cX1_pack 288 = .ok (.iconst 4, 1) := by decide +kernel
theorem dX1_pack_289 : decode cX1_pack 289 = .ok (.iload_n 2, 1) := by decide +kernel
theorem dX1_pack_290 : decode cX1_pack 290 = .ok (.i2l, 1) := by decide +kernel
theorem dX1_pack_291 : decode cX1_pack 291 = .ok (.iconst (-1), 1) := by decide +kernel
theorem dX1_pack_292 : decode cX1_pack 292 = .ok (.invokevirtual 124, 3) := by decide +kernel
theorem dX1_pack_295 : decode cX1_pack 295 = .ok (.ireturn, 1) := by decide +kernel
theorem dX1_pack_296 : decode cX1_pack 296 = .ok (.aload_n 0, 1) := by decide +kernel
theorem dX1_pack_297 : decode cX1_pack 297 = .ok (.sipush 203, 3) := by decide +kernel
theorem dX1_pack_300 : decode cX1_pack 300 = .ok (.bipush 8, 2) := by decide +kernel
theorem dX1_pack_302 : decode cX1_pack 302 = .ok (.lload 5, 2) := by decide +kernel
theorem dX1_pack_304 : decode cX1_pack 304 = .ok (.iconst (-1), 1) := by decide +kernel
theorem dX1_pack_305 : decode cX1_pack 305 = .ok (.invokevirtual 124, 3) := by decide +kernel
theorem dX1_pack_308 : decode cX1_pack 308 = .ok (.ireturn, 1) := by decide +kernel
theorem dX1_pack_309 : decode cX1_pack 309 = .ok (.iload_n 2, 1) := by decide +kernel
theorem dX1_pack_310 : decode cX1_pack 310 = .ok (.bipush 32, 2) := by decide +kernel
theorem dX1_pack_312 : decode cX1_pack 312 = .ok (.if_icmp .ge 18, 3) := by decide +kernel
theorem dX1_pack_315 : decode cX1_pack 315 = .ok (.aload_n 0, 1) := by decide +kernel
theorem dX1_pack_316 : decode cX1_pack 316 = .ok (.sipush 160, 3) := by decide +kernel
theorem dX1_pack_319 : decode cX1_pack 319 = .ok (.iload_n 2, 1) := by decide +kernel
theorem dX1_pack_320 : decode cX1_pack 320 = .ok (.iadd, 1) := by decide +kernel
theorem dX1_pack_321 : decode cX1_pack 321 = .ok (.iconst 0, 1) := by decide +kernel
theorem dX1_pack_322 : decode cX1_pack 322 = .ok (.lconst 0, 1) := by decide +kernel
theorem dX1_pack_323 : decode cX1_pack 323 = .ok (.iconst (-1), 1) := by decide +kernel
theorem dX1_pack_324 : decode cX1_pack 324 = .ok (.invokevirtual 124, 3) := by decide +kernel
theorem dX1_pack_327 : decode cX1_pack 327 = .ok (.goto 21, 3) := by decide +kernel
theorem dX1_pack_330 : decode cX1_pack 330 = .ok (.aload_n 0, 1) := by decide +kernel
theorem dX1_pack_331 : decode cX1_pack 331 = .ok (.sipush 217, 3) := by decide +kernel
theorem dX1_pack_334 : decode cX1_pack 334 = .ok (.iload 7, 2) := by decide +kernel
theorem dX1_pack_336 : decode cX1_pack 336 = .ok (.invokestatic 128, 3) := by decide +kernel
theorem dX1_pack_339 : decode cX1_pack 339 = .ok (.iadd, 1) := by decide +kernel
theorem dX1_pack_340 : decode cX1_pack 340 = .ok (.iload 7, 2) := by decide +kernel
theorem dX1_pack_342 : decode cX1_pack 342 = .ok (.iload_n 2, 1) := by decide +kernel
theorem dX1_pack_343 : decode cX1_pack 343 = .ok (.i2l, 1) := by decide +kernel
theorem dX1_pack_344 : decode cX1_pack 344 = .ok (.iconst (-1), 1) := by decide +kernel
theorem dX1_pack_345 : decode cX1_pack 345 = .ok (.invokevirtual 124, 3) := by decide +kernel
theorem dX1_pack_348 : decode cX1_pack 348 = .ok (.ireturn, 1) := by decide +kernel
theorem dX1_pack_349 : decode cX1_pack 349 = .ok (.aload_n 0, 1) := by decide +kernel
theorem dX1_pack_350 : decode cX1_pack 350 = .ok (.sipush 196, 3) := by decide +kernel
theorem dX1_pack_353 : decode cX1_pack 353 = .ok (.iload 7, 2) := by decide +kernel
theorem dX1_pack_355 : decode cX1_pack 355 = .ok (.invokestatic 128, 3) := by decide +kernel
theorem dX1_pack_358 : decode cX1_pack 358 = .ok (.iadd, 1) := by decide +kernel
theorem dX1_pack_359 : decode cX1_pack 359 = .ok (.iload 7, 2) := by decide +kernel
theorem dX1_pack_361 : decode cX1_pack 361 = .ok (.iload_n 2, 1) := by decide +kernel
theorem dX1_pack_362 : decode cX1_pack 362 = .ok (.i2l, 1) := by decide +kernel
theorem dX1_pack_363 : decode cX1_pack 363 = .ok (.iconst (-1), 1) := by decide +kernel
theorem dX1_pack_364 : decode cX1_pack 364 = .ok (.invokevirtual 124, 3) := by decide +kernel
theorem dX1_pack_367 : decode cX1_pack 367 = .ok (.ireturn, 1) := by decide +kernel
theorem dX1_pack_368 : decode cX1_pack 368 = .ok (.iload_n 1, 1) := by decide +kernel
theorem dX1_pack_369 : decode cX1_pack 369 = .ok (.bipush 10, 2) := by decide +kernel
theorem dX1_pack_371 : decode cX1_pack 371 = .ok (.if_icmp .ne 9, 3) := by decide +kernel
theorem dX1_pack_374 : decode cX1_pack 374 = .ok (.sipush 144, 3) := by decide +kernel
theorem dX1_pack_377 : decode cX1_pack 377 = .ok (.goto 6, 3) := by decide +kernel
theorem dX1_pack_380 : decode cX1_pack 380 = .ok (.sipush 128, 3) := by decide +kernel
theorem dX1_pack_383 : decode cX1_pack 383 = .ok (.istore 8, 2) := by decide +kernel
theorem dX1_pack_385 : decode cX1_pack 385 = .ok (.iload_n 1, 1) := by decide +kernel
theorem dX1_pack_386 : decode cX1_pack 386 = .ok (.bipush 10, 2) := by decide +kernel
theorem dX1_pack_388 : decode cX1_pack 388 = .ok (.if_icmp .ne 9, 3) := by decide +kernel
theorem dX1_pack_391 : decode cX1_pack 391 = .ok (.sipush 220, 3) := by decide +kernel
theorem dX1_pack_394 : decode cX1_pack 394 = .ok (.goto 6, 3) := by decide +kernel
theorem dX1_pack_397 : decode cX1_pack 397 = .ok (.sipush 222, 3) := by decide +kernel
theorem dX1_pack_400 : decode cX1_pack 400 = .ok (.istore 9, 2) := by decide +kernel
theorem dX1_pack_402 : decode cX1_pack 402 = .ok (.iload_n 2, 1) := by decide +kernel
theorem dX1_pack_403 : decode cX1_pack 403 = .ok (.bipush 16, 2) := by decide +kernel
theorem dX1_pack_405 : decode cX1_pack 405 = .ok (.if_icmp .ge 17, 3) := by decide +kernel
theorem dX1_pack_408 : decode cX1_pack 408 = .ok (.aload_n 0, 1) := by decide +kernel
theorem dX1_pack_409 : decode cX1_pack 409 = .ok (.iload 8, 2) := by decide +kernel
theorem dX1_pack_411 : decode cX1_pack 411 = .ok (.iload_n 2, 1) := by decide +kernel
theorem dX1_pack_412 : decode cX1_pack 412 = .ok (.iadd, 1) := by decide +kernel
theorem dX1_pack_413 : decode cX1_pack 413 = .ok (.iconst 0, 1) := by decide +kernel
theorem dX1_pack_414 : decode cX1_pack 414 = .ok (.lconst 0, 1) := by decide +kernel
theorem dX1_pack_415 : decode cX1_pack 415 = .ok (.iconst (-1), 1) := by decide +kernel
theorem dX1_pack_416 : decode cX1_pack 416 = .ok (.invokevirtual 124, 3) := by decide +kernel
theorem dX1_pack_419 : decode cX1_pack 419 = .ok (.goto 34, 3) := by decide +kernel
theorem dX1_pack_422 : decode cX1_pack 422 = .ok (.iload_n 2, 1) := by decide +kernel
theorem dX1_pack_423 : decode cX1_pack 423 = .ok (.ldc 136, 2) := by decide +kernel
theorem dX1_pack_425 : decode cX1_pack 425 = .ok (.if_icmp .ge 16, 3) := by decide +kernel
theorem dX1_pack_428 : decode cX1_pack 428 = .ok (.aload_n 0, 1) := by decide +kernel
theorem dX1_pack_429 : decode cX1_pack 429 = .ok (.iload 9, 2) := by decide +kernel
theorem dX1_pack_431 : decode cX1_pack 431 = .ok (.iconst 2, 1) := by decide +kernel
theorem dX1_pack_432 : decode cX1_pack 432 = .ok (.iload_n 2, 1) := by decide +kernel
theorem dX1_pack_433 : decode cX1_pack 433 = .ok (.i2l, 1) := by decide +kernel
theorem dX1_pack_434 : decode cX1_pack 434 = .ok (.iconst (-1), 1) := by decide +kernel
theorem dX1_pack_435 : decode cX1_pack 435 = .ok (.invokevirtual 124, 3) := by decide +kernel
theorem dX1_pack_438 : decode cX1_pack 438 = .ok (.goto 15, 3) := by decide +kernel
theorem dX1_pack_441 : decode cX1_pack 441 = .ok (.aload_n 0, 1) := by decide +kernel
theorem dX1_pack_442 : decode cX1_pack 442 = .ok (.iload 9, 2) := by decide +kernel
theorem dX1_pack_444 : decode cX1_pack 444 = .ok (.iconst 1, 1) := by decide +kernel
theorem dX1_pack_445 : decode cX1_pack 445 = .ok (.iadd, 1) := by decide +kernel
theorem dX1_pack_446 : decode cX1_pack 446 = .ok (.iconst 4, 1) := by decide +kernel
theorem dX1_pack_447 : decode cX1_pack 447 = .ok (.iload_n 2, 1) := by decide +kernel
theorem dX1_pack_448 : decode cX1_pack 448 = .ok (.i2l, 1) := by decide +kernel
theorem dX1_pack_449 : decode cX1_pack 449 = .ok (.iconst (-1), 1) := by decide +kernel
theorem dX1_pack_450 : decode cX1_pack 450 = .ok (.invokevirtual 124, 3) := by decide +kernel
theorem dX1_pack_453 : decode cX1_pack 453 = .ok (.ireturn, 1) := by decide +kernel
theorem dX1_pack_454 : decode cX1_pack 454 = .ok (.iload_n 2, 1) := by decide +kernel
theorem dX1_pack_455 : decode cX1_pack 455 = .ok (.iconst 1, 1) := by decide +kernel
theorem dX1_pack_456 : decode cX1_pack 456 = .ok (.if_icmp .eq 25, 3) := by decide +kernel
theorem dX1_pack_459 : decode cX1_pack 459 = .ok (.iload_n 2, 1) := by decide +kernel
theorem dX1_pack_460 : decode cX1_pack 460 = .ok (.iconst 2, 1) := by decide +kernel
theorem dX1_pack_461 : decode cX1_pack 461 = .ok (.if_icmp .eq 20, 3) := by decide +kernel
theorem dX1_pack_464 : decode cX1_pack 464 = .ok (.iload_n 2, 1) := by decide +kernel
theorem dX1_pack_465 : decode cX1_pack 465 = .ok (.iconst 4, 1) := by decide +kernel
theorem dX1_pack_466 : decode cX1_pack 466 = .ok (.if_icmp .eq 15, 3) := by decide +kernel
theorem dX1_pack_469 : decode cX1_pack 469 = .ok (.iload_n 2, 1) := by decide +kernel
theorem dX1_pack_470 : decode cX1_pack 470 = .ok (.bipush 8, 2) := by decide +kernel
theorem dX1_pack_472 : decode cX1_pack 472 = .ok (.if_icmp .eq 9, 3) := by decide +kernel
theorem dX1_pack_475 : decode cX1_pack 475 = .ok (.iload_n 2, 1) := by decide +kernel
theorem dX1_pack_476 : decode cX1_pack 476 = .ok (.bipush 16, 2) := by decide +kernel
theorem dX1_pack_478 : decode cX1_pack 478 = .ok (.if_icmp .ne 7, 3) := by decide +kernel
theorem dX1_pack_481 : decode cX1_pack 481 = .ok (.iconst 1, 1) := by decide +kernel
theorem dX1_pack_482 : decode cX1_pack 482 = .ok (.goto 4, 3) := by decide +kernel
theorem dX1_pack_485 : decode cX1_pack 485 = .ok (.iconst 0, 1) := by decide +kernel
theorem dX1_pack_486 : decode cX1_pack 486 = .ok (.istore 10, 2) := by decide +kernel
theorem dX1_pack_488 : decode cX1_pack 488 = .ok (.iload 10, 2) := by decide +kernel
theorem dX1_pack_490 : decode cX1_pack 490 = .ok (.ifCond .eq 33, 3) := by decide +kernel
theorem dX1_pack_493 : decode cX1_pack 493 = .ok (.aload_n 0, 1) := by decide +kernel
theorem dX1_pack_494 : decode cX1_pack 494 = .ok (.sipush 212, 3) := by decide +kernel
theorem dX1_pack_497 : decode cX1_pack 497 = .ok (.iload_n 2, 1) := by decide +kernel
theorem dX1_pack_498 : decode cX1_pack 498 = .ok (.bipush 16, 2) := by decide +kernel
theorem dX1_pack_500 : decode cX1_pack 500 = .ok (.if_icmp .ne 7, 3) := by decide +kernel
theorem dX1_pack_503 : decode cX1_pack 503 = .ok (.iconst 4, 1) := by decide +kernel
theorem dX1_pack_504 : decode cX1_pack 504 = .ok (.goto 7, 3) := by decide +kernel
theorem dX1_pack_507 : decode cX1_pack 507 = .ok (.iload_n 2, 1) := by decide +kernel
theorem dX1_pack_508 : decode cX1_pack 508 = .ok (.invokestatic 128, 3) := by decide +kernel
theorem dX1_pack_511 : decode cX1_pack 511 = .ok (.iadd, 1) := by decide +kernel
theorem dX1_pack_512 : decode cX1_pack 512 = .ok (.iconst 0, 1) := by decide +kernel
theorem dX1_pack_513 : decode cX1_pack 513 = .ok (.lconst 0, 1) := by decide +kernel
theorem dX1_pack_514 : decode cX1_pack 514 = .ok (.iload_n 3, 1) := by decide +kernel
theorem dX1_pack_515 : decode cX1_pack 515 = .ok (.sipush 255, 3) := by decide +kernel
theorem dX1_pack_518 : decode cX1_pack 518 = .ok (.iand, 1) := by decide +kernel
theorem dX1_pack_519 : decode cX1_pack 519 = .ok (.invokevirtual 124, 3) := by decide +kernel
theorem dX1_pack_522 : decode cX1_pack 522 = .ok (.ireturn, 1) := by decide +kernel
theorem dX1_pack_523 : decode cX1_pack 523 = .ok (.aload_n 0, 1) := by decide +kernel
theorem dX1_pack_524 : decode cX1_pack 524 = .ok (.sipush 199, 3) := by decide +kernel
theorem dX1_pack_527 : decode cX1_pack 527 = .ok (.iload 7, 2) := by decide +kernel
theorem dX1_pack_529 : decode cX1_pack 529 = .ok (.invokestatic 128, 3) := by decide +kernel
theorem dX1_pack_532 : decode cX1_pack 532 = .ok (.iadd, 1) := by decide +kernel
theorem dX1_pack_533 : decode cX1_pack 533 = .ok (.iload 7, 2) := by decide +kernel
theorem dX1_pack_535 : decode cX1_pack 535 = .ok (.iload_n 2, 1) := by decide +kernel
theorem dX1_pack_536 : decode cX1_pack 536 = .ok (.i2l, 1) := by decide +kernel
theorem dX1_pack_537 : decode cX1_pack 537 = .ok (.iload_n 3, 1) := by decide +kernel
theorem dX1_pack_538 : decode cX1_pack 538 = .ok (.sipush 255, 3) := by decide +kernel
theorem dX1_pack_541 : decode cX1_pack 541 = .ok (.iand, 1) := by decide +kernel
theorem dX1_pack_542 : decode cX1_pack 542 = .ok (.invokevirtual 124, 3) := by decide +kernel
theorem dX1_pack_545 : decode cX1_pack 545 = .ok (.ireturn, 1) := by decide +kernel
