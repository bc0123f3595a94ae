theorem dX0_hasPayload_12 : decode cX0_hasPayload 12 = .ok (.iload_n 0, 1) := by decide +kernel
theorem dX0_hasPayload_13 : decode cX0_hasPayload 13 = .ok (.bipush 12, 2) := by decide +kernel
theorem dX0_hasPayload_15 : decode cX0_hasPayload 15 = .ok (.if_icmp .ne 7, 3) := by decide +kernel
theorem dX0_hasPayload_18 : decode cX0_hasPayload 18 = .ok (.iconst 1, 1) := by decide +kernel
theorem dX0_hasPayload_19 : decode cX0_hasPayload 19 = .ok (.goto 4, 3) := by decide +kernel
theorem dX0_hasPayload_22 : decode cX0_hasPayload 22 = .ok (.iconst 0, 1) := by decide +kernel
theorem dX0_hasPayload_23 : decode cX0_hasPayload 23 = .ok (.ireturn, 1) := by decide +kernel
theorem dX0_lookAt_0 : decode cX0_lookAt 0 = .ok (.iload_n 1, 1) := by decide +kernel
theorem dX0_lookAt_1 : decode cX0_lookAt 1 = .ok (.aload_n 0, 1) := by decide +kernel
theorem dX0_lookAt_2 : decode cX0_lookAt 2 = .ok (.getfield 13, 3) := by decide +kernel
theorem dX0_lookAt_5 : decode cX0_lookAt 5 = .ok (.if_icmp .lt 6, 3) := by decide +kernel
theorem dX0_lookAt_8 : decode cX0_lookAt 8 = .ok (.bipush (-2), 2) := by decide +kernel
theorem dX0_lookAt_10 : decode cX0_lookAt 10 = .ok (.ireturn, 1) := by decide +kernel
theorem dX0_lookAt_11 : decode cX0_lookAt 11 = .ok (.aload_n 0, 1) := by decide +kernel
theorem dX0_lookAt_12 : decode cX0_lookAt 12 = .ok (.iload_n 1, 1) := by decide +kernel
theorem dX0_lookAt_13 : decode cX0_lookAt 13 = .ok (.invokevirtual 58, 3) := by decide +kernel
theorem dX0_lookAt_16 : decode cX0_lookAt 16 = .ok (.istore_n 2, 1) := by decide +kernel
theorem dX0_lookAt_17 : decode cX0_lookAt 17 = .ok (.iload_n 2, 1) := by decide +kernel
theorem dX0_lookAt_18 : decode cX0_lookAt 18 = .ok (.sipush 193, 3) := by decide +kernel
theorem dX0_lookAt_21 : decode cX0_lookAt 21 = .ok (.if_icmp .ne 6, 3) := by decide +kernel
theorem dX0_lookAt_24 : decode cX0_lookAt 24 = .ok (.bipush (-3), 2) := by decide +kernel
theorem dX0_lookAt_26 : decode cX0_lookAt 26 = .ok (.ireturn, 1) := by decide +kernel
theorem dX0_lookAt_27 : decode cX0_lookAt 27 = .ok (.aload_n 0, 1) := by decide +kernel
theorem dX0_lookAt_28 : decode cX0_lookAt 28 = .ok (.getfield 13, 3) := by decide +kernel
theorem dX0_lookAt_31 : decode cX0_lookAt 31 = .ok (.iload_n 1, 1) := by decide +kernel
theorem dX0_lookAt_32 : decode cX0_lookAt 32 = .ok (.isub, 1) := by decide +kernel
theorem dX0_lookAt_33 : decode cX0_lookAt 33 = .ok (.iload_n 2, 1) := by decide +kernel
theorem dX0_lookAt_34 : decode cX0_lookAt 34 = .ok (.invokestatic 122, 3) := by decide +kernel
theorem dX0_lookAt_37 : decode cX0_lookAt 37 = .ok (.isub, 1) := by decide +kernel
theorem dX0_lookAt_38 : decode cX0_lookAt 38 = .ok (.istore_n 3, 1) := by decide +kernel
theorem dX0_lookAt_39 : decode cX0_lookAt 39 = .ok (.iload_n 3, 1) := by decide +kernel
theorem dX0_lookAt_40 : decode cX0_lookAt 40 = .ok (.ifCond .ge 6, 3) := by decide +kernel
theorem dX0_lookAt_43 : decode cX0_lookAt 43 = .ok (.bipush (-2), 2) := by decide +kernel
theorem dX0_lookAt_45 : decode cX0_lookAt 45 = .ok (.ireturn, 1) := by decide +kernel
theorem dX0_lookAt_46 : decode cX0_lookAt 46 = .ok (.iload_n 2, 1) := by decide +kernel
theorem dX0_lookAt_47 : decode cX0_lookAt 47 = .ok (.invokestatic 140, 3) := by decide +kernel
theorem dX0_lookAt_50 : decode cX0_lookAt 50 = .ok (.istore 4, 2) := by decide +kernel
theorem dX0_lookAt_52 : decode cX0_lookAt 52 = .ok (.iload 4, 2) := by decide +kernel
theorem dX0_lookAt_54 : decode cX0_lookAt 54 = .ok (.bipush 8, 2) := by decide +kernel
theorem dX0_lookAt_56 : decode cX0_lookAt 56 = .ok (.if_icmp .lt 18, 3) := by decide +kernel
theorem dX0_lookAt_59 : decode cX0_lookAt 59 = .ok (.aload_n 0, 1) := by decide +kernel
theorem dX0_lookAt_60 : decode cX0_lookAt 60 = .ok (.iload_n 1, 1) := by decide +kernel
theorem dX0_lookAt_61 : decode cX0_lookAt 61 = .ok (.invokevirtual 89, 3) := by decide +kernel
theorem dX0_lookAt_64 : decode cX0_lookAt 64 = .ok (.ldc2_w 159, 3) := by decide +kernel
theorem dX0_lookAt_67 : decode cX0_lookAt 67 = .ok (.lcmp, 1) := by decide +kernel
theorem dX0_lookAt_68 : decode cX0_lookAt 68 = .ok (.ifCond .le 6, 3) := by decide +kernel
theorem dX0_lookAt_71 : decode cX0_lookAt 71 = .ok (.bipush (-4), 2) := by decide +kernel
theorem dX0_lookAt_73 : decode cX0_lookAt 73 = .ok (.ireturn, 1) := by decide +kernel
theorem dX0_lookAt_74 : decode cX0_lookAt 74 = .ok (.aload_n 0, 1) := by decide +kernel
theorem dX0_lookAt_75 : decode cX0_lookAt 75 = .ok (.iload_n 1, 1) := by decide +kernel
theorem dX0_lookAt_76 : decode cX0_lookAt 76 = .ok (.invokevirtual 95, 3) := by decide +kernel
theorem dX0_lookAt_79 : decode cX0_lookAt 79 = .ok (.iload_n 3, 1) := by decide +kernel
theorem dX0_lookAt_80 : decode cX0_lookAt 80 = .ok (.if_icmp .le 8, 3) := by decide +kernel
theorem dX0_lookAt_83 : decode cX0_lookAt 83 = .ok (.bipush (-2), 2) := by decide +kernel
theorem dX0_lookAt_85 : decode cX0_lookAt 85 = .ok (.goto 5, 3) := by decide +kernel
theorem dX0_lookAt_88 : decode cX0_lookAt 88 = .ok (.iload 4, 2) := by decide +kernel
theorem dX0_lookAt_90 : decode cX0_lookAt 90 = .ok (.ireturn, 1) := by decide +kernel
theorem dX0_lastHeadFrom_0 : decode cX0_lastHeadFrom 0 = .ok (.iload_n 1, 1) := by decide +kernel
theorem dX0_lastHeadFrom_1 : decode cX0_lastHeadFrom 1 = .ok (.istore_n 2, 1) := by decide +kernel
theorem dX0_lastHeadFrom_2 : decode cX0_lastHeadFrom 2 = .ok (.lconst 1, 1) := by decide +kernel
theorem dX0_lastHeadFrom_3 : decode cX0_lastHeadFrom 3 = .ok (.lstore_n 3, 1) := by decide +kernel
theorem dX0_lastHeadFrom_4 : decode cX0_lastHeadFrom 4 = .ok (.iconst 0, 1) := by decide +kernel
theorem dX0_lastHeadFrom_5 : decode cX0_lastHeadFrom 5 = .ok (.istore 5, 2) := by decide +kernel
theorem dX0_lastHeadFrom_7 : decode cX0_lastHeadFrom 7 = .ok (.iload 5, 2) := by decide +kernel
theorem dX0_lastHeadFrom_9 : decode cX0_lastHeadFrom 9 = .ok (.sipush 4096, 3) := by decide +kernel
theorem dX0_lastHeadFrom_12 : decode cX0_lastHeadFrom 12 = .ok (.if_icmp .gt 48, 3) := by decide +kernel
theorem dX0_lastHeadFrom_15 : decode cX0_lastHeadFrom 15 = .ok (.aload_n 0, 1) := by decide +kernel
theorem dX0_lastHeadFrom_16 : decode cX0_lastHeadFrom 16 = .ok (.iload_n 2, 1) := by decide +kernel
theorem dX0_lastHeadFrom_17 : decode cX0_lastHeadFrom 17 = .ok (.invokevirtual 62, 3) := by decide +kernel
theorem dX0_lastHeadFrom_20 : decode cX0_lastHeadFrom 20 = .ok (.istore 6, 2) := by decide +kernel
theorem dX0_lastHeadFrom_22 : decode cX0_lastHeadFrom 22 = .ok (.iload 6, 2) := by decide +kernel
theorem dX0_lastHeadFrom_24 : decode cX0_lastHeadFrom 24 = .ok (.ifCond .ge 6, 3) := by decide +kernel
theorem dX0_lastHeadFrom_27 : decode cX0_lastHeadFrom 27 = .ok (.iload 6, 2) := by decide +kernel
theorem dX0_lastHeadFrom_29 : decode cX0_lastHeadFrom 29 = .ok (.ireturn, 1) := by decide +kernel
theorem dX0_lastHeadFrom_30 : decode cX0_lastHeadFrom 30 = .ok (.lload_n 3, 1) := by decide +kernel
theorem dX0_lastHeadFrom_31 : decode cX0_lastHeadFrom 31 = .ok (.aload_n 0, 1) := by decide +kernel
theorem dX0_lastHeadFrom_32 : decode cX0_lastHeadFrom 32 = .ok (.iload_n 2, 1) := by decide +kernel
theorem dX0_lastHeadFrom_33 : decode cX0_lastHeadFrom 33 = .ok (.invokevirtual 65, 3) := by decide +kernel
theorem dX0_lastHeadFrom_36 : decode cX0_lastHeadFrom 36 = .ok (.lconst 1, 1) := by decide +kernel
theorem dX0_lastHeadFrom_37 : decode cX0_lastHeadFrom 37 = .ok (.lsub, 1) := by decide +kernel
theorem dX0_lastHeadFrom_38 : decode cX0_lastHeadFrom 38 = .ok (.ladd, 1) := by decide +kernel
theorem dX0_lastHeadFrom_39 : decode cX0_lastHeadFrom 39 = .ok (.lstore_n 3, 1) := by decide +kernel
theorem dX0_lastHeadFrom_40 : decode cX0_lastHeadFrom 40 = .ok (.lload_n 3, 1) := by decide +kernel
theorem dX0_lastHeadFrom_41 : decode cX0_lastHeadFrom 41 = .ok (.lconst 0, 1) := by decide +kernel
theorem dX0_lastHeadFrom_42 : decode cX0_lastHeadFrom 42 = .ok (.lcmp, 1) := by decide +kernel
theorem dX0_lastHeadFrom_43 : decode cX0_lastHeadFrom 43 = .ok (.ifCond .ne 5, 3) := by decide +kernel
theorem dX0_lastHeadFrom_46 : decode cX0_lastHeadFrom 46 = .ok (.iload_n 2, 1) := by decide +kernel
theorem dX0_lastHeadFrom_47 : decode cX0_lastHeadFrom 47 = .ok (.ireturn, 1) := by decide +kernel
theorem dX0_lastHeadFrom_48 : decode cX0_lastHeadFrom 48 = .ok (.aload_n 0, 1) := by decide +kernel
theorem dX0_lastHeadFrom_49 : decode cX0_lastHeadFrom 49 = .ok (.iload_n 2, 1) := by decide +kernel
theorem dX0_lastHeadFrom_50 : decode cX0_lastHeadFrom 50 = .ok (.invokevirtual 105, 3) := by decide +kernel
theorem dX0_lastHeadFrom_53 : decode cX0_lastHeadFrom 53 = .ok (.istore_n 2, 1) := by decide +kernel
theorem dX0_lastHeadFrom_54 : decode cX0_lastHeadFrom 54 = .ok (.iinc 5 1, 3) := by decide +kernel
theorem dX0_lastHeadFrom_57 : decode cX0_lastHeadFrom 57 = .ok (.goto (-50), 3) := by decide +kernel
theorem dX0_lastHeadFrom_60 : decode cX0_lastHeadFrom 60 = .ok (.bipush (-2), 2) := by decide +kernel
theorem dX0_lastHeadFrom_62 : decode cX0_lastHeadFrom 62 = .ok (.ireturn, 1) := by decide +kernel
theorem dX0_consume_0 : decode cX0_consume 0 = .ok (.aload_n 0, 1) := by decide +kernel
theorem dX0_consume_1 : decode cX0_consume 1 = .ok (.iload_n 1, 1) := by decide +kernel
theorem dX0_consume_2 : decode cX0_consume 2 = .ok (.putfield 20, 3) := by decide +kernel
theorem dX0_consume_5 : decode cX0_consume 5 = .ok (.aload_n 0, 1) := by decide +kernel
theorem dX0_consume_6 : decode cX0_consume 6 = .ok (.aload_n 0, 1) := by decide +kernel
theorem dX0_consume_7 : decode cX0_consume 7 = .ok (.iload_n 1, 1) := by decide +kernel
theorem dX0_consume_8 : decode cX0_consume 8 = .ok (.invokevirtual 105, 3) := by decide +kernel
theorem dX0_consume_11 : decode cX0_consume 11 = .ok (.putfield 17, 3) := by decide +kernel
theorem dX0_consume_14 : decode cX0_consume 14 = .ok (.return_, 1) := by decide +kernel
theorem dX0_countChild_0 : decode cX0_countChild 0 = .ok (.aload_n 0, 1) := by decide +kernel
theorem dX0_countChild_1 : decode cX0_countChild 1 = .ok (.getfield 27, 3) := by decide +kernel
theorem dX0_countChild_4 : decode cX0_countChild 4 = .ok (.ifCond .le 18, 3) := by decide +kernel
theorem dX0_countChild_7 : decode cX0_countChild 7 = .ok (.aload_n 0, 1) := by decide +kernel
theorem dX0_countChild_8 : decode cX0_countChild 8 = .ok (.getfield 23, 3) := by decide +kernel
theorem dX0_countChild_11 : decode cX0_countChild 11 = .ok (.aload_n 0, 1) := by decide +kernel
theorem dX0_countChild_12 : decode cX0_countChild 12 = .ok (.getfield 27, 3) := by decide +kernel
theorem dX0_countChild_15 : decode cX0_countChild 15 = .ok (.iconst 1, 1) := by decide +kernel
theorem dX0_countChild_16 : decode cX0_countChild 16 = .ok (.isub, 1) := by decide +kernel
theorem dX0_countChild_17 : decode cX0_countChild 17 = .ok (.dup2, 1) := by decide +kernel
theorem dX0_countChild_18 : decode cX0_countChild 18 = .ok (.laload, 1) := by decide +kernel
theorem dX0_countChild_19 : decode cX0_countChild 19 = .ok (.lconst 1, 1) := by decide +kernel
theorem dX0_countChild_20 : decode cX0_countChild 20 = .ok (.lsub, 1) := by decide +kernel
theorem dX0_countChild_21 : decode cX0_countChild 21 = .ok (.lastore, 1) := by decide +kernel
theorem dX0_countChild_22 : decode cX0_countChild 22 = .ok (.return_, 1) := by decide +kernel
theorem dX0_openContainer_0 : decode cX0_openContainer 0 = .ok (.lload_n 1, 1) := by decide +kernel
theorem dX0_openContainer_1 : decode cX0_openContainer 1 = .ok (.lconst 0, 1) := by decide +kernel
theorem dX0_openContainer_2 : decode cX0_openContainer 2 = .ok (.lcmp, 1) := by decide +kernel
theorem dX0_openContainer_3 : decode cX0_openContainer 3 = .ok (.ifCond .le 32, 3) := by decide +kernel
theorem dX0_openContainer_6 : decode cX0_openContainer 6 = .ok (.aload_n 0, 1) := by decide +kernel
theorem dX0_openContainer_7 : decode cX0_openContainer 7 = .ok (.getfield 27, 3) := by decide +kernel
theorem dX0_openContainer_10 : decode cX0_openContainer 10 = .ok (.bipush 100, 2) := by decide +kernel
theorem dX0_openContainer_12 : decode cX0_openContainer 12 = .ok (.if_icmp .ge 23, 3) := by decide +kernel
theorem dX0_openContainer_15 : decode cX0_openContainer 15 = .ok (.aload_n 0, 1) := by decide +kernel
theorem dX0_openContainer_16 : decode cX0_openContainer 16 = .ok (.getfield 23, 3) := by decide +kernel
theorem dX0_openContainer_19 : decode cX0_openContainer 19 = .ok (.aload_n 0, 1) := by decide +kernel
theorem dX0_openContainer_20 : decode cX0_openContainer 20 = .ok (.getfield 27, 3) := by decide +kernel
theorem dX0_openContainer_23 : decode cX0_openContainer 23 = .ok (.lload_n 1, 1) := by decide +kernel
theorem dX0_openContainer_24 : decode cX0_openContainer 24 = .ok (.lastore, 1) := by decide +kernel
theorem dX0_openContainer_25 : decode cX0_openContainer 25 = .ok (.aload_n 0, 1) := by decide +kernel
theorem dX0_openContainer_26 : decode cX0_openContainer 26 = .ok (.dup, 1) := by decide +kernel
theorem dX0_openContainer_27 : decode cX0_openContainer 27 = .ok (.getfield 27, 3) := by decide +kernel
theorem dX0_openContainer_30 : decode cX0_openContainer 30 = .ok (.iconst 1, 1) := by decide +kernel
theorem dX0_openContainer_31 : decode cX0_openContainer 31 = .ok (.iadd, 1) := by decide +kernel
theorem dX0_openContainer_32 : decode cX0_openContainer 32 = .ok (.putfield 27, 3) := by decide +kernel
theorem dX0_openContainer_35 : decode cX0_openContainer 35 = .ok (.return_, 1) := by decide +kernel
theorem dX0_closeFinished_0 : decode cX0_closeFinished 0 = .ok (.aload_n 0, 1) := by decide +kernel
theorem dX0_closeFinished_1 : decode cX0_closeFinished 1 = .ok (.getfield 27, 3) := by decide +kernel
theorem dX0_closeFinished_4 : decode cX0_closeFinished 4 = .ok (.ifCond .le 32, 3) := by decide +kernel
theorem dX0_closeFinished_7 : decode cX0_closeFinished 7 = .ok (.aload_n 0, 1) := by decide +kernel
theorem dX0_closeFinished_8 : decode cX0_closeFinished 8 = .ok (.getfield 23, 3) := by decide +kernel
theorem dX0_closeFinished_11 : decode cX0_closeFinished 11 = .ok (.aload_n 0, 1) := by decide +kernel
theorem dX0_closeFinished_12 : decode cX0_closeFinished 12 = .ok (.getfield 27, 3) := by decide +kernel
theorem dX0_closeFinished_15 : decode cX0_closeFinished 15 = .ok (.iconst 1, 1) := by decide +kernel
theorem dX0_closeFinished_16 : decode cX0_closeFinished 16 = .ok (.isub, 1) := by decide +kernel
theorem dX0_closeFinished_17 : decode cX0_closeFinished 17 = .ok (.laload, 1) := by decide +kernel
theorem dX0_closeFinished_18 : decode cX0_closeFinished 18 = .ok (.lconst 0, 1) := by decide +kernel
theorem dX0_closeFinished_19 : decode cX0_closeFinished 19 = .ok (.lcmp, 1) := by decide +kernel
theorem dX0_closeFinished_20 : decode cX0_closeFinished 20 = .ok (.ifCond .ne 16, 3) := by decide +kernel
theorem dX0_closeFinished_23 : decode cX0_closeFinished 23 = .ok (.aload_n 0, 1) := by decide +kernel
theorem dX0_closeFinished_24 : decode cX0_closeFinished 24 = .ok (.dup, 1) := by decide +kernel
theorem dX0_closeFinished_25 : decode cX0_closeFinished 25 = .ok (.getfield 27, 3) := by decide +kernel
theorem dX0_closeFinished_28 : decode cX0_closeFinished 28 = .ok (.iconst 1, 1) := by decide +kernel
theorem dX0_closeFinished_29 : decode cX0_closeFinished 29 = .ok (.isub, 1) := by decide +kernel
theorem dX0_closeFinished_30 : decode cX0_closeFinished 30 = .ok (.putfield 27, 3) := by decide +kernel
theorem dX0_closeFinished_33 : decode cX0_closeFinished 33 = .ok (.goto (-33), 3) := by decide +kernel
theorem dX0_closeFinished_36 : decode cX0_closeFinished 36 = .ok (.return_, 1) := by decide +kernel
theorem dX0_numberOf_0 : decode cX0_numberOf 0 = .ok (.iload_n 0, 1) := by decide +kernel
theorem dX0_numberOf_1 : decode cX0_numberOf 1 = .ok (.iconst 5, 1) := by decide +kernel
theorem dX0_numberOf_2 : decode cX0_numberOf 2 = .ok (.if_icmp .le 9, 3) := by decide +kernel
theorem dX0_numberOf_5 : decode cX0_numberOf 5 = .ok (.iload_n 0, 1) := by decide +kernel
theorem dX0_numberOf_6 : decode cX0_numberOf 6 = .ok (.bipush 7, 2) := by decide +kernel
theorem dX0_numberOf_8 : decode cX0_numberOf 8 = .ok (.if_icmp .ne 7, 3) := by decide +kernel
theorem dX0_numberOf_11 : decode cX0_numberOf 11 = .ok (.iconst 1, 1) := by decide +kernel
theorem dX0_numberOf_12 : decode cX0_numberOf 12 = .ok (.goto 4, 3) := by decide +kernel
theorem dX0_numberOf_15 : decode cX0_numberOf 15 = .ok (.iconst 0, 1) := by decide +kernel
theorem dX0_numberOf_16 : decode cX0_numberOf 16 = .ok (.istore_n 3, 1) := by decide +kernel
theorem dX0_numberOf_17 : decode cX0_numberOf 17 = .ok (.iload_n 1, 1) := by decide +kernel
theorem dX0_numberOf_18 : decode cX0_numberOf 18 = .ok (.i2l, 1) := by decide +kernel
theorem dX0_numberOf_19 : decode cX0_numberOf 19 = .ok (.ldc2_w 161, 3) := by decide +kernel
theorem dX0_numberOf_22 : decode cX0_numberOf 22 = .ok (.land, 1) := by decide +kernel
theorem dX0_numberOf_23 : decode cX0_numberOf 23 = .ok (.lstore 4, 2) := by decide +kernel
theorem dX0_numberOf_25 : decode cX0_numberOf 25 = .ok (.iload_n 3, 1) := by decide +kernel
theorem dX0_numberOf_26 : decode cX0_numberOf 26 = .ok (.ifCond .eq 14, 3) := by decide +kernel
theorem dX0_numberOf_29 : decode cX0_numberOf 29 = .ok (.iload_n 2, 1) := by decide +kernel
theorem dX0_numberOf_30 : decode cX0_numberOf 30 = .ok (.i2l, 1) := by decide +kernel
theorem dX0_numberOf_31 : decode cX0_numberOf 31 = .ok (.bipush 32, 2) := by decide +kernel
theorem dX0_numberOf_33 : decode cX0_numberOf 33 = .ok (.lshl, 1) := by decide +kernel
theorem dX0_numberOf_34 : decode cX0_numberOf 34 = .ok (.lload 4, 2) := by decide +kernel
theorem dX0_numberOf_36 : decode cX0_numberOf 36 = .ok (.lor, 1) := by decide +kernel
theorem dX0_numberOf_37 : decode cX0_numberOf 37 = .ok (.goto 5, 3) := by decide +kernel
theorem dX0_numberOf_40 : decode cX0_numberOf 40 = .ok (.lload 4, 2) := by decide +kernel
theorem dX0_numberOf_42 : decode cX0_numberOf 42 = .ok (.lreturn, 1) := by decide +kernel
theorem dX0_shortestForm_0 : decode cX0_shortestForm 0 = .ok (.iload_n 0, 1) := by decide +kernel
theorem dX0_shortestForm_1 : decode cX0_shortestForm 1 = .ok (.tableswitch 226 1 11 #[59, 63, 67, 71, 99, 131, 135, 139, 165, 174, 200], 59) := by decide +kernel
theorem dX0_shortestForm_60 : decode cX0_shortestForm 60 = .ok (.sipush 192, 3) := by decide +kernel
theorem dX0_shortestForm_63 : decode cX0_shortestForm 63 = .ok (.ireturn, 1) := by decide +kernel
theorem dX0_shortestForm_64 : decode cX0_shortestForm 64 = .ok (.sipush 194, 3) := by decide +kernel
theorem dX0_shortestForm_67 : decode cX0_shortestForm 67 = .ok (.ireturn, 1) := by decide +kernel
theorem dX0_shortestForm_68 : decode cX0_shortestForm 68 = .ok (.sipush 195, 3) := by decide +kernel
theorem dX0_shortestForm_71 : decode cX0_shortestForm 71 = .ok (.ireturn, 1) := by decide +kernel
theorem dX0_shortestForm_72 : decode cX0_shortestForm 72 = .ok (.lload_n 1, 1) := by decide +kernel
theorem dX0_shortestForm_73 : decode cX0_shortestForm 73 = .ok (.lconst 0, 1) := by decide +kernel
theorem dX0_shortestForm_74 : decode cX0_shortestForm 74 = .ok (.lcmp, 1) := by decide +kernel
theorem dX0_shortestForm_75 : decode cX0_shortestForm 75 = .ok (.ifCond .lt 16, 3) := by decide +kernel
theorem dX0_shortestForm_78 : decode cX0_shortestForm 78 = .ok (.lload_n 1, 1) := by decide +kernel
theorem dX0_shortestForm_79 : decode cX0_shortestForm 79 = .ok (.ldc2_w 163, 3) := by decide +kernel
theorem dX0_shortestForm_82 : decode cX0_shortestForm 82 = .ok (.lcmp, 1) := by decide +kernel
theorem dX0_shortestForm_83 : decode cX0_shortestForm 83 = .ok (.ifCond .ge 8, 3) := by decide +kernel
theorem dX0_shortestForm_86 : decode cX0_shortestForm 86 = .ok (.lload_n 1, 1) := by decide +kernel
theorem dX0_shortestForm_87 : decode cX0_shortestForm 87 = .ok (.l2i, 1) := by decide +kernel
theorem dX0_shortestForm_88 : decode cX0_shortestForm 88 = .ok (.goto 11, 3) := by decide +kernel
theorem dX0_shortestForm_91 : decode cX0_shortestForm 91 = .ok (.sipush 204, 3) := by decide +kernel
theorem dX0_shortestForm_94 : decode cX0_shortestForm 94 = .ok (.lload_n 1, 1) := by decide +kernel
theorem dX0_shortestForm_95 : decode cX0_shortestForm 95 = .ok (.invokestatic 165, 3) := by decide +kernel
theorem dX0_shortestForm_98 : decode cX0_shortestForm 98 = .ok (.iadd, 1) := by decide +kernel
theorem dX0_shortestForm_99 : decode cX0_shortestForm 99 = .ok (.ireturn, 1) := by decide +kernel
theorem dX0_shortestForm_100 : decode cX0_shortestForm 100 = .ok (.lload_n 1, 1) := by decide +kernel
theorem dX0_shortestForm_101 : decode cX0_shortestForm 101 = .ok (.ldc2_w 169, 3) := by decide +kernel
theorem dX0_shortestForm_104 : decode cX0_shortestForm 104 = .ok (.lcmp, 1) := by decide +kernel
theorem dX0_shortestForm_105 : decode cX0_shortestForm 105 = .ok (.ifCond .lt 18, 3) := by decide +kernel
theorem dX0_shortestForm_108 : decode cX0_shortestForm 108 = .ok (.lload_n 1, 1) := by decide +kernel
theorem dX0_shortestForm_109 : decode cX0_shortestForm 109 = .ok (.lconst 0, 1) := by decide +kernel
theorem dX0_shortestForm_110 : decode cX0_shortestForm 110 = .ok (.lcmp, 1) := by decide +kernel
theorem dX0_shortestForm_111 : decode cX0_shortestForm 111 = .ok (.ifCond .ge 12, 3) := by decide +kernel
theorem dX0_shortestForm_114 : decode cX0_shortestForm 114 = .ok (.sipush 256, 3) := by decide +kernel
theorem dX0_shortestForm_117 : decode cX0_shortestForm 117 = .ok (.lload_n 1, 1) := by decide +kernel
theorem dX0_shortestForm_118 : decode cX0_shortestForm 118 = .ok (.l2i, 1) := by decide +kernel
theorem dX0_shortestForm_119 : decode cX0_shortestForm 119 = .ok (.iadd, 1) := by decide +kernel
theorem dX0_shortestForm_120 : decode cX0_shortestForm 120 = .ok (.goto 11, 3) := by decide +kernel
theorem dX0_shortestForm_123 : decode cX0_shortestForm 123 = .ok (.sipush 208, 3) := by decide +kernel
theorem dX0_shortestForm_126 : decode cX0_shortestForm 126 = .ok (.lload_n 1, 1) := by decide +kernel
theorem dX0_shortestForm_127 : decode cX0_shortestForm 127 = .ok (.invokestatic 171, 3) := by decide +kernel
theorem dX0_shortestForm_130 : decode cX0_shortestForm 130 = .ok (.iadd, 1) := by decide +kernel
theorem dX0_shortestForm_131 : decode cX0_shortestForm 131 = .ok (.ireturn, 1) := by decide +kernel
theorem dX0_shortestForm_132 : decode cX0_shortestForm 132 = .ok (.sipush 202, 3) := by decide +kernel
theorem dX0_shortestForm_135 : decode cX0_shortestForm 135 = .ok (.ireturn, 1) := by decide +kernel
theorem dX0_shortestForm_136 : decode cX0_shortestForm 136 = .ok (.sipush 203, 3) := by decide +kernel
theorem dX0_shortestForm_139 : decode cX0_shortestForm 139 = .ok (.ireturn, 1) := by decide +kernel
theorem dX0_shortestForm_140 : decode cX0_shortestForm 140 = .ok (.lload_n 1, 1) := by decide +kernel
theorem dX0_shortestForm_141 : decode cX0_shortestForm 141 = .ok (.ldc2_w 174, 3) := by decide +kernel
theorem dX0_shortestForm_144 : decode cX0_shortestForm 144 = .ok (.lcmp, 1) := by decide +kernel
theorem dX0_shortestForm_145 : decode cX0_shortestForm 145 = .ok (.ifCond .ge 12, 3) := by decide +kernel
theorem dX0_shortestForm_148 : decode cX0_shortestForm 148 = .ok (.sipush 160, 3) := by decide +kernel
theorem dX0_shortestForm_151 : decode cX0_shortestForm 151 = .ok (.lload_n 1, 1) := by decide +kernel
theorem dX0_shortestForm_152 : decode cX0_shortestForm 152 = .ok (.l2i, 1) := by decide +kernel
theorem dX0_shortestForm_153 : decode cX0_shortestForm 153 = .ok (.iadd, 1) := by decide +kernel
theorem dX0_shortestForm_154 : decode cX0_shortestForm 154 = .ok (.goto 11, 3) := by decide +kernel
theorem dX0_shortestForm_157 : decode cX0_shortestForm 157 = .ok (.sipush 217, 3) := by decide +kernel
theorem dX0_shortestForm_160 : decode cX0_shortestForm 160 = .ok (.lload_n 1, 1) := by decide +kernel
theorem dX0_shortestForm_161 : decode cX0_shortestForm 161 = .ok (.invokestatic 165, 3) := by decide +kernel
theorem dX0_shortestForm_164 : decode cX0_shortestForm 164 = .ok (.iadd, 1) := by decide +kernel
theorem dX0_shortestForm_165 : decode cX0_shortestForm 165 = .ok (.ireturn, 1) := by decide +kernel
theorem dX0_shortestForm_166 : decode cX0_shortestForm 166 = .ok (.sipush 196, 3) := by decide +kernel
theorem dX0_shortestForm_169 : decode cX0_shortestForm 169 = .ok (.lload_n 1, 1) := by decide +kernel
theorem dX0_shortestForm_170 : decode cX0_shortestForm 170 = .ok (.invokestatic 165, 3) := by decide +kernel
theorem dX0_shortestForm_173 : decode cX0_shortestForm 173 = .ok (.iadd, 1) := by decide +kernel
theorem dX0_shortestForm_174 : decode cX0_shortestForm 174 = .ok (.ireturn, 1) := by decide +kernel
theorem dX0_shortestForm_175 : decode cX0_shortestForm 175 = .ok (.lload_n 1, 1) := by decide +kernel
theorem dX0_shortestForm_176 : decode cX0_shortestForm 176 = .ok (.ldc2_w 176, 3) := by decide +kernel
theorem dX0_shortestForm_179 : decode cX0_shortestForm 179 = .ok (.lcmp, 1) := by decide +kernel
theorem dX0_shortestForm_180 : decode cX0_shortestForm 180 = .ok (.ifCond .ge 12, 3) := by decide +kernel
theorem dX0_shortestForm_183 : decode cX0_shortestForm 183 = .ok (.sipush 144, 3) := by decide +kernel
theorem dX0_shortestForm_186 : decode cX0_shortestForm 186 = .ok (.lload_n 1, 1) := by decide +kernel
theorem dX0_shortestForm_187 : decode cX0_shortestForm 187 = .ok (.l2i, 1) := by decide +kernel
theorem dX0_shortestForm_188 : decode cX0_shortestForm 188 = .ok (.iadd, 1) := by decide +kernel
theorem dX0_shortestForm_189 : decode cX0_shortestForm 189 = .ok (.goto 11, 3) := by decide +kernel
theorem dX0_shortestForm_192 : decode cX0_shortestForm 192 = .ok (.sipush 220, 3) := by decide +kernel
theorem dX0_shortestForm_195 : decode cX0_shortestForm 195 = .ok (.lload_n 1, 1) := by decide +kernel
theorem dX0_shortestForm_196 : decode cX0_shortestForm 196 = .ok (.invokestatic 178, 3) := by decide +kernel
theorem dX0_shortestForm_199 : decode cX0_shortestForm 199 = .ok (.iadd, 1) := by decide +kernel
theorem dX0_shortestForm_200 : decode cX0_shortestForm 200 = .ok (.ireturn, 1) := by decide +kernel
theorem dX0_shortestForm_201 : decode cX0_shortestForm 201 = .ok (.lload_n 1, 1) := by decide +kernel
theorem dX0_shortestForm_202 : decode cX0_shortestForm 202 = .ok (.ldc2_w 176, 3) := by decide +kernel
theorem dX0_shortestForm_205 : decode cX0_shortestForm 205 = .ok (.lcmp, 1) := by decide +kernel
theorem dX0_shortestForm_206 : decode cX0_shortestForm 206 = .ok (.ifCond .ge 12, 3) := by decide +kernel
theorem dX0_shortestForm_209 : decode cX0_shortestForm 209 = .ok (.sipush 128, 3) := by decide +kernel
theorem dX0_shortestForm_212 : decode cX0_shortestForm 212 = .ok (.lload_n 1, 1) := by decide +kernel
theorem dX0_shortestForm_213 : decode cX0_shortestForm 213 = .ok (.l2i, 1) := by decide +kernel
theorem dX0_shortestForm_214 : decode cX0_shortestForm 214 = .ok (.iadd, 1) := by decide +kernel
theorem dX0_shortestForm_215 : decode cX0_shortestForm 215 = .ok (.goto 11, 3) := by decide +kernel
theorem dX0_shortestForm_218 : decode cX0_shortestForm 218 = .ok (.sipush 222, 3) := by decide +kernel
theorem dX0_shortestForm_221 : decode cX0_shortestForm 221 = .ok (.lload_n 1, 1) := by decide +kernel
theorem dX0_shortestForm_222 : decode cX0_shortestForm 222 = .ok (.invokestatic 178, 3) := by decide +kernel
theorem dX0_shortestForm_225 : decode cX0_shortestForm 225 = .ok (.iadd, 1) := by decide +kernel
theorem dX0_shortestForm_226 : decode cX0_shortestForm 226 = .ok (.ireturn, 1) := by decide +kernel
theorem dX0_shortestForm_227 : decode cX0_shortestForm 227 = .ok (.lload_n 1, 1) := by decide +kernel
theorem dX0_shortestForm_228 : decode cX0_shortestForm 228 = .ok (.invokestatic 181, 3) := by decide +kernel
theorem dX0_shortestForm_231 : decode cX0_shortestForm 231 = .ok (.ireturn, 1) := by decide +kernel
theorem dX0_extensionForm_0 : decode cX0_extensionForm 0 = .ok (.iconst 0, 1) := by decide +kernel
theorem dX0_extensionForm_1 : decode cX0_extensionForm 1 = .ok (.istore_n 2, 1) := by decide +kernel
theorem dX0_extensionForm_2 : decode cX0_extensionForm 2 = .ok (.iload_n 2, 1) := by decide +kernel
theorem dX0_extensionForm_3 : decode cX0_extensionForm 3 = .ok (.iconst 5, 1) := by decide +kernel
theorem dX0_extensionForm_4 : decode cX0_extensionForm 4 = .ok (.if_icmp .ge 23, 3) := by decide +kernel
theorem dX0_extensionForm_7 : decode cX0_extensionForm 7 = .ok (.lload_n 0, 1) := by decide +kernel
theorem dX0_extensionForm_8 : decode cX0_extensionForm 8 = .ok (.lconst 1, 1) := by decide +kernel
theorem dX0_extensionForm_9 : decode cX0_extensionForm 9 = .ok (.iload_n 2, 1) := by decide +kernel
theorem dX0_extensionForm_10 : decode cX0_extensionForm 10 = .ok (.lshl, 1) := by decide +kernel
theorem dX0_extensionForm_11 : decode cX0_extensionForm 11 = .ok (.lcmp, 1) := by decide +kernel
theorem dX0_extensionForm_12 : decode cX0_extensionForm 12 = .ok (.ifCond .ne 9, 3) := by decide +kernel
theorem dX0_extensionForm_15 : decode cX0_extensionForm 15 = .ok (.sipush 212, 3) := by decide +kernel
theorem dX0_extensionForm_18 : decode cX0_extensionForm 18 = .ok (.iload_n 2, 1) := by decide +kernel
theorem dX0_extensionForm_19 : decode cX0_extensionForm 19 = .ok (.iadd, 1) := by decide +kernel
theorem dX0_extensionForm_20 : decode cX0_extensionForm 20 = .ok (.ireturn, 1) := by decide +kernel
theorem dX0_extensionForm_21 : decode cX0_extensionForm 21 = .ok (.iinc 2 1, 3) := by decide +kernel
theorem dX0_extensionForm_24 : decode cX0_extensionForm 24 = .ok (.goto (-22), 3) := by decide +kernel
theorem dX0_extensionForm_27 : decode cX0_extensionForm 27 = .ok (.sipush 199, 3) := by decide +kernel
theorem dX0_extensionForm_30 : decode cX0_extensionForm 30 = .ok (.lload_n 0, 1) := by decide +kernel
theorem dX0_extensionForm_31 : decode cX0_extensionForm 31 = .ok (.invokestatic 165, 3) := by decide +kernel
theorem dX0_extensionForm_34 : decode cX0_extensionForm 34 = .ok (.iadd, 1) := by decide +kernel
theorem dX0_extensionForm_35 : decode cX0_extensionForm 35 = .ok (.ireturn, 1) := by decide +kernel
theorem dX0_unsignedStep_0 : decode cX0_unsignedStep 0 = .ok (.lload_n 0, 1) := by decide +kernel
theorem dX0_unsignedStep_1 : decode cX0_unsignedStep 1 = .ok (.bipush 8, 2) := by decide +kernel
theorem dX0_unsignedStep_3 : decode cX0_unsignedStep 3 = .ok (.lushr, 1) := by decide +kernel
theorem dX0_unsignedStep_4 : decode cX0_unsignedStep 4 = .ok (.lconst 0, 1) := by decide +kernel
theorem dX0_unsignedStep_5 : decode cX0_unsignedStep 5 = .ok (.lcmp, 1) := by decide +kernel
theorem dX0_unsignedStep_6 : decode cX0_unsignedStep 6 = .ok (.ifCond .ne 5, 3) := by decide +kernel
theorem dX0_unsignedStep_9 : decode cX0_unsignedStep 9 = .ok (.iconst 0, 1) := by decide +kernel
theorem dX0_unsignedStep_10 : decode cX0_unsignedStep 10 = .ok (.ireturn, 1) := by decide +kernel
theorem dX0_unsignedStep_11 : decode cX0_unsignedStep 11 = .ok (.lload_n 0, 1) := by decide +kernel
theorem dX0_unsignedStep_12 : decode cX0_unsignedStep 12 = .ok (.bipush 16, 2) := by decide +kernel
theorem dX0_unsignedStep_14 : decode cX0_unsignedStep 14 = .ok (.lushr, 1) := by decide +kernel
theorem dX0_unsignedStep_15 : decode cX0_unsignedStep 15 = .ok (.lconst 0, 1) := by decide +kernel
theorem dX0_unsignedStep_16 : decode cX0_unsignedStep 16 = .ok (.lcmp, 1) := by decide +kernel
theorem dX0_unsignedStep_17 : decode cX0_unsignedStep 17 = .ok (.ifCond .ne 5, 3) := by decide +kernel
theorem dX0_unsignedStep_20 : decode cX0_unsignedStep 20 = .ok (.iconst 1, 1) := by decide +kernel
theorem dX0_unsignedStep_21 : decode cX0_unsignedStep 21 = .ok (.ireturn, 1) := by decide +kernel
theorem dX0_unsignedStep_22 : decode cX0_unsignedStep 22 = .ok (.lload_n 0, 1) := by decide +kernel
theorem dX0_unsignedStep_23 : decode cX0_unsignedStep 23 = .ok (.bipush 32, 2) := by decide +kernel
theorem dX0_unsignedStep_25 : decode cX0_unsignedStep 25 = .ok (.lushr, 1) := by decide +kernel
theorem dX0_unsignedStep_26 : decode cX0_unsignedStep 26 = .ok (.lconst 0, 1) := by decide +kernel
theorem dX0_unsignedStep_27 : decode cX0_unsignedStep 27 = .ok (.lcmp, 1) := by decide +kernel
theorem dX0_unsignedStep_28 : decode cX0_unsignedStep 28 = .ok (.ifCond .ne 7, 3) := by decide +kernel
theorem dX0_unsignedStep_31 : decode cX0_unsignedStep 31 = .ok (.iconst 2, 1) := by decide +kernel
theorem dX0_unsignedStep_32 : decode cX0_unsignedStep 32 = .ok (.goto 4, 3) := by decide +kernel
theorem dX0_unsignedStep_35 : decode cX0_unsignedStep 35 = .ok (.iconst 3, 1) := by decide +kernel
theorem dX0_unsignedStep_36 : decode cX0_unsignedStep 36 = .ok (.ireturn, 1) := by decide +kernel
theorem dX0_signedStep_0 : decode cX0_signedStep 0 = .ok (.lload_n 0, 1) := by decide +kernel
theorem dX0_signedStep_1 : decode cX0_signedStep 1 = .ok (.lload_n 0, 1) := by decide +kernel
theorem dX0_signedStep_2 : decode cX0_signedStep 2 = .ok (.l2i, 1) := by decide +kernel
theorem dX0_signedStep_3 : decode cX0_signedStep 3 = .ok (.i2b, 1) := by decide +kernel
theorem dX0_signedStep_4 : decode cX0_signedStep 4 = .ok (.i2l, 1) := by decide +kernel
theorem dX0_signedStep_5 : decode cX0_signedStep 5 = .ok (.lcmp, 1) := by decide +kernel
theorem dX0_signedStep_6 : decode cX0_signedStep 6 = .ok (.ifCond .ne 5, 3) := by decide +kernel
theorem dX0_signedStep_9 : decode cX0_signedStep 9 = .ok (.iconst 0, 1) := by decide +kernel
theorem dX0_signedStep_10 : decode cX0_signedStep 10 = .ok (.ireturn, 1) := by decide +kernel
theorem dX0_signedStep_11 : decode cX0_signedStep 11 = .ok (.lload_n 0, 1) := by decide +kernel
theorem dX0_signedStep_12 : decode cX0_signedStep 12 = .ok (.lload_n 0, 1) := by decide +kernel
theorem dX0_signedStep_13 : decode cX0_signedStep 13 = .ok (.l2i, 1) := by decide +kernel
theorem dX0_signedStep_14 : decode cX0_signedStep 14 = .ok (.i2s, 1) := by decide +kernel
theorem dX0_signedStep_15 : decode cX0_signedStep 15 = .ok (.i2l, 1) := by decide +kernel
theorem dX0_signedStep_16 : decode cX0_signedStep 16 = .ok (.lcmp, 1) := by decide +kernel
theorem dX0_signedStep_17 : decode cX0_signedStep 17 = .ok (.ifCond .ne 5, 3) := by decide +kernel
theorem dX0_signedStep_20 : decode cX0_signedStep 20 = .ok (.iconst 1, 1) := by decide +kernel
theorem dX0_signedStep_21 : decode cX0_signedStep 21 = .ok (.ireturn, 1) := by decide +kernel
theorem dX0_signedStep_22 : decode cX0_signedStep 22 = .ok (.lload_n 0, 1) := by decide +kernel
theorem dX0_signedStep_23 : decode cX0_signedStep 23 = .ok (.lload_n 0, 1) := by decide +kernel
theorem dX0_signedStep_24 : decode cX0_signedStep 24 = .ok (.l2i, 1) := by decide +kernel
theorem dX0_signedStep_25 : decode cX0_signedStep 25 = .ok (.i2l, 1) := by decide +kernel
theorem dX0_signedStep_26 : decode cX0_signedStep 26 = .ok (.lcmp, 1) := by decide +kernel
theorem dX0_signedStep_27 : decode cX0_signedStep 27 = .ok (.ifCond .ne 7, 3) := by decide +kernel
theorem dX0_signedStep_30 : decode cX0_signedStep 30 = .ok (.iconst 2, 1) := by decide +kernel
theorem dX0_signedStep_31 : decode cX0_signedStep 31 = .ok (.goto 4, 3) := by decide +kernel
theorem dX0_signedStep_34 : decode cX0_signedStep 34 = .ok (.iconst 3, 1) := by decide +kernel
theorem dX0_signedStep_35 : decode cX0_signedStep 35 = .ok (.ireturn, 1) := by decide +kernel
theorem dX0_countStep_0 : decode cX0_countStep 0 = .ok (.lload_n 0, 1) := by decide +kernel
theorem dX0_countStep_1 : decode cX0_countStep 1 = .ok (.bipush 16, 2) := by decide +kernel
theorem dX0_countStep_3 : decode cX0_countStep 3 = .ok (.lushr, 1) := by decide +kernel
theorem dX0_countStep_4 : decode cX0_countStep 4 = .ok (.lconst 0, 1) := by decide +kernel
theorem dX0_countStep_5 : decode cX0_countStep 5 = .ok (.lcmp, 1) := by decide +kernel
theorem dX0_countStep_6 : decode cX0_countStep 6 = .ok (.ifCond .ne 7, 3) := by decide +kernel
theorem dX0_countStep_9 : decode cX0_countStep 9 = .ok (.iconst 0, 1) := by decide +kernel
theorem dX0_countStep_10 : decode cX0_countStep 10 = .ok (.goto 4, 3) := by decide +kernel
theorem dX0_countStep_13 : decode cX0_countStep 13 = .ok (.iconst 1, 1) := by decide +kernel
theorem dX0_countStep_14 : decode cX0_countStep 14 = .ok (.ireturn, 1) := by decide +kernel
