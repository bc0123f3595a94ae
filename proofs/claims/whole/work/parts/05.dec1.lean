theorem dX0_lastHeadFrom_3 : decode cX0_lastHeadFrom 3 = .ok (.lstore_n 3, 1) := by decide +kernel
theorem dX0_lastHeadFrom_4 : decode cX0_lastHeadFrom 4 = .ok (.iconst 0, 1) := by decide +kernel
theorem dX0_lastHeadFrom_5 : decode cX0_lastHeadFrom 5 = .ok (.istore 5, 2) := by decide +kernel
theorem dX0_lastHeadFrom_7 : decode cX0_lastHeadFrom 7 = .ok (.iload 5, 2) := by decide +kernel
theorem dX0_lastHeadFrom_9 : decode cX0_lastHeadFrom 9 = .ok (.sipush 4096, 3) := by decide +kernel
theorem dX0_lastHeadFrom_12 : decode cX0_lastHeadFrom 12 = .ok (.if_icmp .gt 48, 3) := by decide +kernel
theorem dX0_lastHeadFrom_15 : decode cX0_lastHeadFrom 15 = .ok (.aload_n 0, 1) := by decide +kernel
theorem dX0_lastHeadFrom_16 : decode cX0_lastHeadFrom 16 = .ok (.iload_n 2, 1) := by decide +kernel
theorem dX0_lastHeadFrom_17 : decode cX0_lastHeadFrom 17 = .ok (.invokevirtual 62, 3) := by decide +kernel
theorem dX0_lastHeadFrom_20 : decode cX0_lastHeadFrom 20 = .ok (.istore 6, 2) := by decide +kernel
theorem dX0_lastHeadFrom_22 : decode cX0_lastHeadFrom 22 = .ok (.iload 6, 2) := by decide +kernel
theorem dX0_lastHeadFrom_24 : decode cX0_lastHeadFrom 24 = .ok (.ifCond .ge 6, 3) := by decide +kernel
theorem dX0_lastHeadFrom_27 : decode cX0_lastHeadFrom 27 = .ok (.iload 6, 2) := by decide +kernel
theorem dX0_lastHeadFrom_29 : decode cX0_lastHeadFrom 29 = .ok (.ireturn, 1) := by decide +kernel
theorem dX0_lastHeadFrom_30 : decode cX0_lastHeadFrom 30 = .ok (.lload_n 3, 1) := by decide +kernel
theorem dX0_lastHeadFrom_31 : decode cX0_lastHeadFrom 31 = .ok (.aload_n 0, 1) := by decide +kernel
theorem dX0_lastHeadFrom_32 : decode cX0_lastHeadFrom 32 = .ok (.iload_n 2, 1) := by decide +kernel
theorem dX0_lastHeadFrom_33 : decode cX0_lastHeadFrom 33 = .ok (.invokevirtual 65, 3) := by decide +kernel
theorem dX0_lastHeadFrom_36 : decode cX0_lastHeadFrom 36 = .ok (.lconst 1, 1) := by decide +kernel
theorem dX0_lastHeadFrom_37 : decode cX0_lastHeadFrom 37 = .ok (.lsub, 1) := by decide +kernel
theorem dX0_lastHeadFrom_38 : decode cX0_lastHeadFrom 38 = .ok (.ladd, 1) := by decide +kernel
theorem dX0_lastHeadFrom_39 : decode cX0_lastHeadFrom 39 = .ok (.lstore_n 3, 1) := by decide +kernel
theorem dX0_lastHeadFrom_40 : decode cX0_lastHeadFrom 40 = .ok (.lload_n 3, 1) := by decide +kernel
theorem dX0_lastHeadFrom_41 : decode cX0_lastHeadFrom 41 = .ok (.lconst 0, 1) := by decide +kernel
theorem dX0_lastHeadFrom_42 : decode cX0_lastHeadFrom 42 = .ok (.lcmp, 1) := by decide +kernel
theorem dX0_lastHeadFrom_43 : decode cX0_lastHeadFrom 43 = .ok (.ifCond .ne 5, 3) := by decide +kernel
theorem dX0_lastHeadFrom_46 : decode cX0_lastHeadFrom 46 = .ok (.iload_n 2, 1) := by decide +kernel
theorem dX0_lastHeadFrom_47 : decode cX0_lastHeadFrom 47 = .ok (.ireturn, 1) := by decide +kernel
theorem dX0_lastHeadFrom_48 : decode cX0_lastHeadFrom 48 = .ok (.aload_n 0, 1) := by decide +kernel
theorem dX0_lastHeadFrom_49 : decode cX0_lastHeadFrom 49 = .ok (.iload_n 2, 1) := by decide +kernel
theorem dX0_lastHeadFrom_50 : decode cX0_lastHeadFrom 50 = .ok (.invokevirtual 105, 3) := by decide +kernel
theorem dX0_lastHeadFrom_53 : decode cX0_lastHeadFrom 53 = .ok (.istore_n 2, 1) := by decide +kernel
theorem dX0_lastHeadFrom_54 : decode cX0_lastHeadFrom 54 = .ok (.iinc 5 1, 3) := by decide +kernel
theorem dX0_lastHeadFrom_57 : decode cX0_lastHeadFrom 57 = .ok (.goto (-50), 3) := by decide +kernel
theorem dX0_lastHeadFrom_60 : decode cX0_lastHeadFrom 60 = .ok (.bipush (-2), 2) := by decide +kernel
theorem dX0_lastHeadFrom_62 : decode cX0_lastHeadFrom 62 = .ok (.ireturn, 1) := by decide +kernel
theorem dX0_consume_0 : decode cX0_consume 0 = .ok (.aload_n 0, 1) := by decide +kernel
theorem dX0_consume_1 : decode cX0_consume 1 = .ok (.iload_n 1, 1) := by decide +kernel
theorem dX0_consume_2 : decode cX0_consume 2 = .ok (.putfield 20, 3) := by decide +kernel
theorem dX0_consume_5 : decode cX0_consume 5 = .ok (.aload_n 0, 1) := by decide +kernel
theorem dX0_consume_6 : decode cX0_consume 6 = .ok (.aload_n 0, 1) := by decide +kernel
theorem dX0_consume_7 : decode cX0_consume 7 = .ok (.iload_n 1, 1) := by decide +kernel
theorem dX0_consume_8 : decode cX0_consume 8 = .ok (.invokevirtual 105, 3) := by decide +kernel
theorem dX0_consume_11 : decode cX0_consume 11 = .ok (.putfield 17, 3) := by decide +kernel
theorem dX0_consume_14 : decode cX0_consume 14 = .ok (.return_, 1) := by decide +kernel
theorem dX0_countChild_0 : decode cX0_countChild 0 = .ok (.aload_n 0, 1) := by decide +kernel
theorem dX0_countChild_1 : decode cX0_countChild 1 = .ok (.getfield 27, 3) := by decide +kernel
theorem dX0_countChild_4 : decode cX0_countChild 4 = .ok (.ifCond .le 18, 3) := by decide +kernel
theorem dX0_countChild_7 : decode cX0_countChild 7 = .ok (.aload_n 0, 1) := by decide +kernel
theorem dX0_countChild_8 : decode cX0_countChild 8 = .ok (.getfield 23, 3) := by decide +kernel
theorem dX0_countChild_11 : decode cX0_countChild 11 = .ok (.aload_n 0, 1) := by decide +kernel
theorem dX0_countChild_12 : decode cX0_countChild 12 = .ok (.getfield 27, 3) := by decide +kernel
theorem dX0_countChild_15 : decode cX0_countChild 15 = .ok (.iconst 1, 1) := by decide +kernel
theorem dX0_countChild_16 : decode cX0_countChild 16 = .ok (.isub, 1) := by decide +kernel
theorem dX0_countChild_17 : decode cX0_countChild 17 = .ok (.dup2, 1) := by decide +kernel
theorem dX0_countChild_18 : decode cX0_countChild 18 = .ok (.laload, 1) := by decide +kernel
theorem dX0_countChild_19 : decode cX0_countChild 19 = .ok (.lconst 1, 1) := by decide +kernel
theorem dX0_countChild_20 : decode cX0_countChild 20 = .ok (.lsub, 1) := by decide +kernel
theorem dX0_countChild_21 : decode cX0_countChild 21 = .ok (.lastore, 1) := by decide +kernel
theorem dX0_countChild_22 : decode cX0_countChild 22 = .ok (.return_, 1) := by decide +kernel
theorem dX0_openContainer_0 : decode cX0_openContainer 0 = .ok (.lload_n 1, 1) := by decide +kernel
theorem dX0_openContainer_1 : decode cX0_openContainer 1 = .ok (.lconst 0, 1) := by decide +kernel
theorem dX0_openContainer_2 : decode cX0_openContainer 2 = .ok (.lcmp, 1) := by decide +kernel
theorem dX0_openContainer_3 : decode cX0_openContainer 3 = .ok (.ifCond .le 32, 3) := by decide +kernel
theorem dX0_openContainer_6 : decode cX0_openContainer 6 = .ok (.aload_n 0, 1) := by decide +kernel
theorem dX0_openContainer_7 : decode cX0_openContainer 7 = .ok (.getfield 27, 3) := by decide +kernel
theorem dX0_openContainer_10 : decode cX0_openContainer 10 = .ok (.bipush 100, 2) := by decide +kernel
theorem dX0_openContainer_12 : decode cX0_openContainer 12 = .ok (.if_icmp .ge 23, 3) := by decide +kernel
theorem dX0_openContainer_15 : decode cX0_openContainer 15 = .ok (.aload_n 0, 1) := by decide +kernel
theorem dX0_openContainer_16 : decode cX0_openContainer 16 = .ok (.getfield 23, 3) := by decide +kernel
theorem dX0_openContainer_19 : decode cX0_openContainer 19 = .ok (.aload_n 0, 1) := by decide +kernel
theorem dX0_openContainer_20 : decode cX0_openContainer 20 = .ok (.getfield 27, 3) := by decide +kernel
theorem dX0_openContainer_23 : decode cX0_openContainer 23 = .ok (.lload_n 1, 1) := by decide +kernel
theorem dX0_openContainer_24 : decode cX0_openContainer 24 = .ok (.lastore, 1) := by decide +kernel
theorem dX0_openContainer_25 : decode cX0_openContainer 25 = .ok (.aload_n 0, 1) := by decide +kernel
theorem dX0_openContainer_26 : decode cX0_openContainer 26 = .ok (.dup, 1) := by decide +kernel
theorem dX0_openContainer_27 : decode cX0_openContainer 27 = .ok (.getfield 27, 3) := by decide +kernel
theorem dX0_openContainer_30 : decode cX0_openContainer 30 = .ok (.iconst 1, 1) := by decide +kernel
theorem dX0_openContainer_31 : decode cX0_openContainer 31 = .ok (.iadd, 1) := by decide +kernel
theorem dX0_openContainer_32 : decode cX0_openContainer 32 = .ok (.putfield 27, 3) := by decide +kernel
theorem dX0_openContainer_35 : decode cX0_openContainer 35 = .ok (.return_, 1) := by decide +kernel
theorem dX0_closeFinished_0 : decode cX0_closeFinished 0 = .ok (.aload_n 0, 1) := by decide +kernel
theorem dX0_closeFinished_1 : decode cX0_closeFinished 1 = .ok (.getfield 27, 3) := by decide +kernel
theorem dX0_closeFinished_4 : decode cX0_closeFinished 4 = .ok (.ifCond .le 32, 3) := by decide +kernel
theorem dX0_closeFinished_7 : decode cX0_closeFinished 7 = .ok (.aload_n 0, 1) := by decide +kernel
theorem dX0_closeFinished_8 : decode cX0_closeFinished 8 = .ok (.getfield 23, 3) := by decide +kernel
theorem dX0_closeFinished_11 : decode cX0_closeFinished 11 = .ok (.aload_n 0, 1) := by decide +kernel
theorem dX0_closeFinished_12 : decode cX0_closeFinished 12 = .ok (.getfield 27, 3) := by decide +kernel
theorem dX0_closeFinished_15 : decode cX0_closeFinished 15 = .ok (.iconst 1, 1) := by decide +kernel
theorem dX0_closeFinished_16 : decode cX0_closeFinished 16 = .ok (.isub, 1) := by decide +kernel
theorem dX0_closeFinished_17 : decode cX0_closeFinished 17 = .ok (.laload, 1) := by decide +kernel
theorem dX0_closeFinished_18 : decode cX0_closeFinished 18 = .ok (.lconst 0, 1) := by decide +kernel
theorem dX0_closeFinished_19 : decode cX0_closeFinished 19 = .ok (.lcmp, 1) := by decide +kernel
theorem dX0_closeFinished_20 : decode cX0_closeFinished 20 = .ok (.ifCond .ne 16, 3) := by decide +kernel
theorem dX0_closeFinished_23 : decode cX0_closeFinished 23 = .ok (.aload_n 0, 1) := by decide +kernel
theorem dX0_closeFinished_24 : decode cX0_closeFinished 24 = .ok (.dup, 1) := by decide +kernel
theorem dX0_closeFinished_25 : decode cX0_closeFinished 25 = .ok (.getfield 27, 3) := by decide +kernel
theorem dX0_closeFinished_28 : decode cX0_closeFinished 28 = .ok (.iconst 1, 1) := by decide +kernel
theorem dX0_closeFinished_29 : decode cX0_closeFinished 29 = .ok (.isub, 1) := by decide +kernel
theorem dX0_closeFinished_30 : decode cX0_closeFinished 30 = .ok (.putfield 27, 3) := by decide +kernel
theorem dX0_closeFinished_33 : decode cX0_closeFinished 33 = .ok (.goto (-33), 3) := by decide +kernel
theorem dX0_closeFinished_36 : decode cX0_closeFinished 36 = .ok (.return_, 1) := by decide +kernel
theorem dX0_numberOf_0 : decode cX0_numberOf 0 = .ok (.iload_n 0, 1) := by decide +kernel
theorem dX0_numberOf_1 : decode cX0_numberOf 1 = .ok (.iconst 5, 1) := by decide +kernel
theorem dX0_numberOf_2 : decode cX0_numberOf 2 = .ok (.if_icmp .le 9, 3) := by decide +kernel
theorem dX0_numberOf_5 : decode cX0_numberOf 5 = .ok (.iload_n 0, 1) := by decide +kernel
theorem dX0_numberOf_6 : decode cX0_numberOf 6 = .ok (.bipush 7, 2) := by decide +kernel
theorem dX0_numberOf_8 : decode cX0_numberOf 8 = .ok (.if_icmp .ne 7, 3) := by decide +kernel
theorem dX0_numberOf_11 : decode cX0_numberOf 11 = .ok (.iconst 1, 1) := by decide +kernel
theorem dX0_numberOf_12 : decode cX0_numberOf 12 = .ok (.goto 4, 3) := by decide +kernel
theorem dX0_numberOf_15 : decode cX0_numberOf 15 = .ok (.iconst 0, 1) := by decide +kernel
theorem dX0_numberOf_16 : decode cX0_numberOf 16 = .ok (.istore_n 3, 1) := by decide +kernel
theorem dX0_numberOf_17 : decode cX0_numberOf 17 = .ok (.iload_n 1, 1) := by decide +kernel
theorem dX0_numberOf_18 : decode cX0_numberOf 18 = .ok (.i2l, 1) := by decide +kernel
theorem dX0_numberOf_19 : decode cX0_numberOf 19 = .ok (.ldc2_w 161, 3) := by decide +kernel
theorem dX0_numberOf_22 : decode cX0_numberOf 22 = .ok (.land, 1) := by decide +kernel
theorem dX0_numberOf_23 : decode cX0_numberOf 23 = .ok (.lstore 4, 2) := by decide +kernel
theorem dX0_numberOf_25 : decode cX0_numberOf 25 = .ok (.iload_n 3, 1) := by decide +kernel
theorem dX0_numberOf_26 : decode cX0_numberOf 26 = .ok (.ifCond .eq 14, 3) := by decide +kernel
theorem dX0_numberOf_29 : decode cX0_numberOf 29 = .ok (.iload_n 2, 1) := by decide +kernel
theorem dX0_numberOf_30 : decode cX0_numberOf 30 = .ok (.i2l, 1) := by decide +kernel
theorem dX0_numberOf_31 : decode cX0_numberOf 31 = .ok (.bipush 32, 2) := by decide +kernel
theorem dX0_numberOf_33 : decode cX0_numberOf 33 = .ok (.lshl, 1) := by decide +kernel
theorem dX0_numberOf_34 : decode cX0_numberOf 34 = .ok (.lload 4, 2) := by decide +kernel
theorem dX0_numberOf_36 : decode cX0_numberOf 36 = .ok (.lor, 1) := by decide +kernel
theorem dX0_numberOf_37 : decode cX0_numberOf 37 = .ok (.goto 5, 3) := by decide +kernel
theorem dX0_numberOf_40 : decode cX0_numberOf 40 = .ok (.lload 4, 2) := by decide +kernel
theorem dX0_numberOf_42 : decode cX0_numberOf 42 = .ok (.lreturn, 1) := by decide +kernel
theorem dX0_shortestForm_0 : decode cX0_shortestForm 0 = .ok (.iload_n 0, 1) := by decide +kernel
theorem dX0_shortestForm_1 : decode cX0_shortestForm 1 = .ok (.tableswitch 226 1 11 #[59, 63, 67, 71, 99, 131, 135, 139, 165, 174, 200], 59) := by decide +kernel
theorem dX0_shortestForm_60 : decode cX0_shortestForm 60 = .ok (.sipush 192, 3) := by decide +kernel
theorem dX0_shortestForm_63 : decode cX0_shortestForm 63 = .ok (.ireturn, 1) := by decide +kernel
theorem dX0_shortestForm_64 : decode cX0_shortestForm 64 = .ok (.sipush 194, 3) := by decide +kernel
theorem dX0_shortestForm_67 : decode cX0_shortestForm 67 = .ok (.ireturn, 1) := by decide +kernel
theorem dX0_shortestForm_68 : decode cX0_shortestForm 68 = .ok (.sipush 195, 3) := by decide +kernel
theorem dX0_shortestForm_71 : decode cX0_shortestForm 71 = .ok (.ireturn, 1) := by decide +kernel
theorem dX0_shortestForm_72 : decode cX0_shortestForm 72 = .ok (.lload_n 1, 1) := by decide +kernel
theorem dX0_shortestForm_73 : decode cX0_shortestForm 73 = .ok (.lconst 0, 1) := by decide +kernel
theorem dX0_shortestForm_74 : decode cX0_shortestForm 74 = .ok (.lcmp, 1) := by decide +kernel
theorem dX0_shortestForm_75 : decode cX0_shortestForm 75 = .ok (.ifCond .lt 16, 3) := by decide +kernel
theorem dX0_shortestForm_78 : decode cX0_shortestForm 78 = .ok (.lload_n 1, 1) := by decide +kernel
theorem dX0_shortestForm_79 : decode cX0_shortestForm 79 = .ok (.ldc2_w 163, 3) := by decide +kernel
theorem dX0_shortestForm_82 : decode cX0_shortestForm 82 = .ok (.lcmp, 1) := by decide +kernel
theorem dX0_shortestForm_83 : decode cX0_shortestForm 83 = .ok (.ifCond .ge 8, 3) := by decide +kernel
theorem dX0_shortestForm_86 : decode cX0_shortestForm 86 = .ok (.lload_n 1, 1) := by decide +kernel
theorem dX0_shortestForm_87 : decode cX0_shortestForm 87 = .ok (.l2i, 1) := by decide +kernel
theorem dX0_shortestForm_88 : decode cX0_shortestForm 88 = .ok (.goto 11, 3) := by decide +kernel
theorem dX0_shortestForm_91 : decode cX0_shortestForm 91 = .ok (.sipush 204, 3) := by decide +kernel
theorem dX0_shortestForm_94 : decode cX0_shortestForm 94 = .ok (.lload_n 1, 1) := by decide +kernel
theorem dX0_shortestForm_95 : decode cX0_shortestForm 95 = .ok (.invokestatic 165, 3) := by decide +kernel
theorem dX0_shortestForm_98 : decode cX0_shortestForm 98 = .ok (.iadd, 1) := by decide +kernel
theorem dX0_shortestForm_99 : decode cX0_shortestForm 99 = .ok (.ireturn, 1) := by decide +kernel
theorem dX0_shortestForm_100 : decode cX0_shortestForm 100 = .ok (.lload_n 1, 1) := by decide +kernel
theorem dX0_shortestForm_101 : decode cX0_shortestForm 101 = .ok (.ldc2_w 169, 3) := by decide +kernel
theorem dX0_shortestForm_104 : decode cX0_shortestForm 104 = .ok (.lcmp, 1) := by decide +kernel
theorem dX0_shortestForm_105 : decode cX0_shortestForm 105 = .ok (.ifCond .lt 18, 3) := by decide +kernel
theorem dX0_shortestForm_108 : decode cX0_shortestForm 108 = .ok (.lload_n 1, 1) := by decide +kernel
theorem dX0_shortestForm_109 : decode cX0_shortestForm 109 = .ok (.lconst 0, 1) := by decide +kernel
theorem dX0_shortestForm_110 : decode cX0_shortestForm 110 = .ok (.lcmp, 1) := by decide +kernel
theorem dX0_shortestForm_111 : decode cX0_shortestForm 111 = .ok (.ifCond .ge 12, 3) := by decide +kernel
theorem dX0_shortestForm_114 : decode cX0_shortestForm 114 = .ok (.sipush 256, 3) := by decide +kernel
theorem dX0_shortestForm_117 : decode cX0_shortestForm 117 = .ok (.lload_n 1, 1) := by decide +kernel
theorem dX0_shortestForm_118 : decode cX0_shortestForm 118 = .ok (.l2i, 1) := by decide +kernel
theorem dX0_shortestForm_119 : decode cX0_shortestForm 119 = .ok (.iadd, 1) := by decide +kernel
theorem dX0_shortestForm_120 : decode cX0_shortestForm 120 = .ok (.goto 11, 3) := by decide +kernel
theorem dX0_shortestForm_123 : decode cX0_shortestForm 123 = .ok (.sipush 208, 3) := by decide +kernel
theorem dX0_shortestForm_126 : decode cX0_shortestForm 126 = .ok (.lload_n 1, 1) := by decide +kernel
theorem dX0_shortestForm_127 : decode cX0_shortestForm 127 = .ok (.invokestatic 171, 3) := by decide +kernel
theorem dX0_shortestForm_130 : decode cX0_shortestForm 130 = .ok (.iadd, 1) := by decide +kernel
theorem dX0_shortestForm_131 : decode cX0_shortestForm 131 = .ok (.ireturn, 1) := by decide +kernel
theorem dX0_shortestForm_132 : decode cX0_shortestForm 132 = .ok (.sipush 202, 3) := by decide +kernel
theorem dX0_shortestForm_135 : decode cX0_shortestForm 135 = .ok (.ireturn, 1) := by decide +kernel
theorem dX0_shortestForm_136 : decode cX0_shortestForm 136 = .ok (.sipush 203, 3) := by decide +kernel
theorem dX0_shortestForm_139 : decode cX0_shortestForm 139 = .ok (.ireturn, 1) := by decide +kernel
theorem dX0_shortestForm_140 : decode cX0_shortestForm 140 = .ok (.lload_n 1, 1) := by decide +kernel
theorem dX0_shortestForm_141 : decode cX0_shortestForm 141 = .ok (.ldc2_w 174, 3) := by decide +kernel
theorem dX0_shortestForm_144 : decode cX0_shortestForm 144 = .ok (.lcmp, 1) := by decide +kernel
theorem dX0_shortestForm_145 : decode cX0_shortestForm 145 = .ok (.ifCond .ge 12, 3) := by decide +kernel
theorem dX0_shortestForm_148 : decode cX0_shortestForm 148 = .ok (.sipush 160, 3) := by decide +kernel
theorem dX0_shortestForm_151 : decode cX0_shortestForm 151 = .ok (.lload_n 1, 1) := by decide +kernel
theorem dX0_shortestForm_152 : decode cX0_shortestForm 152 = .ok (.l2i, 1) := by decide +kernel
theorem dX0_shortestForm_153 : decode cX0_shortestForm 153 = .ok (.iadd, 1) := by decide +kernel
theorem dX0_shortestForm_154 : decode cX0_shortestForm 154 = .ok (.goto 11, 3) := by decide +kernel
theorem dX0_shortestForm_157 : decode cX0_shortestForm 157 = .ok (.sipush 217, 3) := by decide +kernel
theorem dX0_shortestForm_160 : decode cX0_shortestForm 160 = .ok (.lload_n 1, 1) := by decide +kernel
theorem dX0_shortestForm_161 : decode cX0_shortestForm 161 = .ok (.invokestatic 165, 3) := by decide +kernel
theorem dX0_shortestForm_164 : decode cX0_shortestForm 164 = .ok (.iadd, 1) := by decide +kernel
theorem dX0_shortestForm_165 : decode cX0_shortestForm 165 = .ok (.ireturn, 1) := by decide +kernel
theorem dX0_shortestForm_166 : decode cX0_shortestForm 166 = .ok (.sipush 196, 3) := by decide +kernel
theorem dX0_shortestForm_169 : decode cX0_shortestForm 169 = .ok (.lload_n 1, 1) := by decide +kernel
theorem dX0_shortestForm_170 : decode cX0_shortestForm 170 = .ok (.invokestatic 165, 3) := by decide +kernel
theorem dX0_shortestForm_173 : decode cX0_shortestForm 173 = .ok (.iadd, 1) := by decide +kernel
theorem dX0_shortestForm_174 : decode cX0_shortestForm 174 = .ok (.ireturn, 1) := by decide +kernel
theorem dX0_shortestForm_175 : decode cX0_shortestForm 175 = .ok (.lload_n 1, 1) := by decide +kernel
theorem dX0_shortestForm_176 : decode cX0_shortestForm 176 = .ok (.ldc2_w 176, 3) := by decide +kernel
theorem dX0_shortestForm_179 : decode cX0_shortestForm 179 = .ok (.lcmp, 1) := by decide +kernel
theorem dX0_shortestForm_180 : decode cX0_shortestForm 180 = .ok (.ifCond .ge 12, 3) := by decide +kernel
theorem dX0_shortestForm_183 : decode cX0_shortestForm 183 = .ok (.sipush 144, 3) := by decide +kernel
theorem dX0_shortestForm_186 : decode cX0_shortestForm 186 = .ok (.lload_n 1, 1) := by decide +kernel
theorem dX0_shortestForm_187 : decode cX0_shortestForm 187 = .ok (.l2i, 1) := by decide +kernel
theorem dX0_shortestForm_188 : decode cX0_shortestForm 188 = .ok (.iadd, 1) := by decide +kernel
theorem dX0_shortestForm_189 : decode cX0_shortestForm 189 = .ok (.goto 11, 3) := by decide +kernel
theorem dX0_shortestForm_192 : decode cX0_shortestForm 192 = .ok (.sipush 220, 3) := by decide +kernel
theorem dX0_shortestForm_195 : decode cX0_shortestForm 195 = .ok (.lload_n 1, 1) := by decide +kernel
theorem dX0_shortestForm_196 : decode cX0_shortestForm 196 = .ok (.invokestatic 178, 3) := by decide +kernel
theorem dX0_shortestForm_199 : decode cX0_shortestForm 199 = .ok (.iadd, 1) := by decide +kernel
theorem dX0_shortestForm_200 : decode cX0_shortestForm 200 = .ok (.ireturn, 1) := by decide +kernel
theorem dX0_shortestForm_201 : decode cX0_shortestForm 201 = .ok (.lload_n 1, 1) := by decide +kernel
theorem dX0_shortestForm_202 : decode cX0_shortestForm 202 = .ok (.ldc2_w 176, 3) := by decide +kernel
theorem dX0_shortestForm_205 : decode cX0_shortestForm 205 = .ok (.lcmp, 1) := by decide +kernel
theorem dX0_shortestForm_206 : decode cX0_shortestForm 206 = .ok (.ifCond .ge 12, 3) := by decide +kernel
theorem dX0_shortestForm_209 : decode cX0_shortestForm 209 = .ok (.sipush 128, 3) := by decide +kernel
theorem dX0_shortestForm_212 : decode cX0_shortestForm 212 = .ok (.lload_n 1, 1) := by decide +kernel
theorem dX0_shortestForm_213 : decode cX0_shortestForm 213 = .ok (.l2i, 1) := by decide +kernel
theorem dX0_shortestForm_214 : decode cX0_shortestForm 214 = .ok (.iadd, 1) := by decide +kernel
theorem dX0_shortestForm_215 : decode cX0_shortestForm 215 = .ok (.goto 11, 3) := by decide +kernel
theorem dX0_shortestForm_218 : decode cX0_shortestForm 218 = .ok (.sipush 222, 3) := by decide +kernel
theorem dX0_shortestForm_221 : decode cX0_shortestForm 221 = .ok (.lload_n 1, 1) := by decide +kernel
theorem dX0_shortestForm_222 : decode cX0_shortestForm 222 = .ok (.invokestatic 178, 3) := by decide +kernel
theorem dX0_shortestForm_225 : decode cX0_shortestForm 225 = .ok (.iadd, 1) := by decide +kernel
theorem dX0_shortestForm_226 : decode cX0_shortestForm 226 = .ok (.ireturn, 1) := by decide +kernel
theorem dX0_shortestForm_227 : decode cX0_shortestForm 227 = .ok (.lload_n 1, 1) := by decide +kernel
theorem dX0_shortestForm_228 : decode cX0_shortestForm 228 = .ok (.invokestatic 181, 3) := by decide +kernel
theorem dX0_shortestForm_231 : decode cX0_shortestForm 231 = .ok (.ireturn, 1) := by decide +kernel
theorem dX0_extensionForm_0 : decode cX0_extensionForm 0 = .ok (.iconst 0, 1) := by decide +kernel
theorem dX0_extensionForm_1 : decode cX0_extensionForm 1 = .ok (.istore_n 2, 1) := by decide +kernel
theorem dX0_extensionForm_2 : decode cX0_extensionForm 2 = .ok (.iload_n 2, 1) := by decide +kernel
theorem dX0_extensionForm_3 : decode cX0_extensionForm 3 = .ok (.iconst 5, 1) := by decide +kernel
theorem dX0_extensionForm_4 : decode cX0_extensionForm 4 = .ok (.if_icmp .ge 23, 3) := by decide +kernel
theorem dX0_extensionForm_7 : decode cX0_extensionForm 7 = .ok (.lload_n 0, 1) := by decide +kernel
theorem dX0_extensionForm_8 : decode cX0_extensionForm 8 = .ok (.lconst 1, 1) := by decide +kernel
theorem dX0_extensionForm_9 : decode cX0_extensionForm 9 = .ok (.iload_n 2, 1) := by decide +kernel
theorem dX0_extensionForm_10 : decode cX0_extensionForm 10 = .ok (.lshl, 1) := by decide +kernel
theorem dX0_extensionForm_11 : decode cX0_extensionForm 11 = .ok (.lcmp, 1) := by decide +kernel
theorem dX0_extensionForm_12 : decode cX0_extensionForm 12 = .ok (.ifCond .ne 9, 3) := by decide +kernel
theorem dX0_extensionForm_15 : decode cX0_extensionForm 15 = .ok (.sipush 212, 3) := by decide +kernel
theorem dX0_extensionForm_18 : decode cX0_extensionForm 18 = .ok (.iload_n 2, 1) := by decide +kernel
theorem dX0_extensionForm_19 : decode cX0_extensionForm 19 = .ok (.iadd, 1) := by decide +kernel
theorem dX0_extensionForm_20 : decode cX0_extensionForm 20 = .ok (.ireturn, 1) := by decide +kernel
theorem dX0_extensionForm_21 : decode cX0_extensionForm 21 = .ok (.iinc 2 1, 3) := by decide +kernel
theorem dX0_extensionForm_24 : decode cX0_extensionForm 24 = .ok (.goto (-22), 3) := by decide +kernel
theorem dX0_extensionForm_27 : decode cX0_extensionForm 27 = .ok (.sipush 199, 3) := by decide +kernel
theorem dX0_extensionForm_30 : decode cX0_extensionForm 30 = .ok (.lload_n 0, 1) := by decide +kernel
theorem dX0_extensionForm_31 : decode cX0_extensionForm 31 = .ok (.invokestatic 165, 3) := by decide +kernel
theorem dX0_extensionForm_34 : decode cX0_extensionForm 34 = .ok (.iadd, 1) := by decide +kernel
theorem dX0_extensionForm_35 : decode cX0_extensionForm 35 = .ok (.ireturn, 1) := by decide +kernel
theorem dX0_unsignedStep_0 : decode cX0_unsignedStep 0 = .ok (.lload_n 0, 1) := by decide +kernel
theorem dX0_unsignedStep_1 : decode cX0_unsignedStep 1 = .ok (.bipush 8, 2) := by decide +kernel
theorem dX0_unsignedStep_3 : decode cX0_unsignedStep 3 = .ok (.lushr, 1) := by decide +kernel
theorem dX0_unsignedStep_4 : decode cX0_unsignedStep 4 = .ok (.lconst 0, 1) := by decide +kernel
theorem dX0_unsignedStep_5 : decode cX0_unsignedStep 5 = .ok (.lcmp, 1) := by decide +kernel
theorem dX0_unsignedStep_6 : decode cX0_unsignedStep 6 = .ok (.ifCond .ne 5, 3) := by decide +kernel
theorem dX0_unsignedStep_9 : decode cX0_unsignedStep 9 = .ok (.iconst 0, 1) := by decide +kernel
theorem dX0_unsignedStep_10 : decode cX0_unsignedStep 10 = .ok (.ireturn, 1) := by decide +kernel
theorem dX0_unsignedStep_11 : decode cX0_unsignedStep 11 = .ok (.lload_n 0, 1) := by decide +kernel
theorem dX0_unsignedStep_12 : decode cX0_unsignedStep 12 = .ok (.bipush 16, 2) := by decide +kernel
theorem dX0_unsignedStep_14 : decode cX0_unsignedStep 14 = .ok (.lushr, 1) := by decide +kernel
theorem dX0_unsignedStep_15 : decode cX0_unsignedStep 15 = .ok (.lconst 0, 1) := by decide +kernel
theorem dX0_unsignedStep_16 : decode cX0_unsignedStep 16 = .ok (.lcmp, 1) := by decide +kernel
theorem dX0_unsignedStep_17 : decode cX0_unsignedStep 17 = .ok (.ifCond .ne 5, 3) := by decide +kernel
theorem dX0_unsignedStep_20 : decode cX0_unsignedStep 20 = .ok (.iconst 1, 1) := by decide +kernel
theorem dX0_unsignedStep_21 : decode cX0_unsignedStep 21 = .ok (.ireturn, 1) := by decide +kernel
theorem dX0_unsignedStep_22 : decode cX0_unsignedStep 22 = .ok (.lload_n 0, 1) := by decide +kernel
theorem dX0_unsignedStep_23 : decode cX0_unsignedStep 23 = .ok (.bipush 32, 2) := by decide +kernel
theorem dX0_unsignedStep_25 : decode cX0_unsignedStep 25 = .ok (.lushr, 1) := by decide +kernel
theorem dX0_unsignedStep_26 : decode cX0_unsignedStep 26 = .ok (.lconst 0, 1) := by decide +kernel
theorem dX0_unsignedStep_27 : decode cX0_unsignedStep 27 = .ok (.lcmp, 1) := by decide +kernel
theorem dX0_unsignedStep_28 : decode cX0_unsignedStep 28 = .ok (.ifCond .ne 7, 3) := by decide +kernel
theorem dX0_unsignedStep_31 : decode cX0_unsignedStep 31 = .ok (.iconst 2, 1) := by decide +kernel
theorem dX0_unsignedStep_32 : decode cX0_unsignedStep 32 = .ok (.goto 4, 3) := by decide +kernel
theorem dX0_unsignedStep_35 : decode cX0_unsignedStep 35 = .ok (.iconst 3, 1) := by decide +kernel
theorem dX0_unsignedStep_36 : decode cX0_unsignedStep 36 = .ok (.ireturn, 1) := by decide +kernel
theorem dX0_signedStep_0 : decode cX0_signedStep 0 = .ok (.lload_n 0, 1) := by decide +kernel
theorem dX0_signedStep_1 : decode cX0_signedStep 1 = .ok (.lload_n 0, 1) := by decide +kernel
theorem dX0_signedStep_2 : decode cX0_signedStep 2 = .ok (.l2i, 1) := by decide +kernel
theorem dX0_signedStep_3 : decode cX0_signedStep 3 = .ok (.i2b, 1) := by decide +kernel
theorem dX0_signedStep_4 : decode cX0_signedStep 4 = .ok (.i2l, 1) := by decide +kernel
theorem dX0_signedStep_5 : decode cX0_signedStep 5 = .ok (.lcmp, 1) := by decide +kernel
theorem dX0_signedStep_6 : decode cX0_signedStep 6 = .ok (.ifCond .ne 5, 3) := by decide +kernel
theorem dX0_signedStep_9 : decode cX0_signedStep 9 = .ok (.iconst 0, 1) := by decide +kernel
theorem dX0_signedStep_10 : decode cX0_signedStep 10 = .ok (.ireturn, 1) := by decide +kernel
theorem dX0_signedStep_11 : decode cX0_signedStep 11 = .ok (.lload_n 0, 1) := by decide +kernel
theorem dX0_signedStep_12 : decode cX0_signedStep 12 = .ok (.lload_n 0, 1) := by decide +kernel
theorem dX0_signedStep_13 : decode cX0_signedStep 13 = .ok (.l2i, 1) := by decide +kernel
theorem dX0_signedStep_14 : decode cX0_signedStep 14 = .ok (.i2s, 1) := by decide +kernel
theorem dX0_signedStep_15 : decode cX0_signedStep 15 = .ok (.i2l, 1) := by decide +kernel
theorem dX0_signedStep_16 : decode cX0_signedStep 16 = .ok (.lcmp, 1) := by decide +kernel
theorem dX0_signedStep_17 : decode cX0_signedStep 17 = .ok (.ifCond .ne 5, 3) := by decide +kernel
theorem dX0_signedStep_20 : decode cX0_signedStep 20 = .ok (.iconst 1, 1) := by decide +kernel
theorem dX0_signedStep_21 : decode cX0_signedStep 21 = .ok (.ireturn, 1) := by decide +kernel
theorem dX0_signedStep_22 : decode cX0_signedStep 22 = .ok (.lload_n 0, 1) := by decide +kernel
theorem dX0_signedStep_23 : decode cX0_signedStep 23 = .ok (.lload_n 0, 1) := by decide +kernel
theorem dX0_signedStep_24 : decode cX0_signedStep 24 = .ok (.l2i, 1) := by decide +kernel
theorem dX0_signedStep_25 : decode cX0_signedStep 25 = .ok (.i2l, 1) := by decide +kernel
theorem dX0_signedStep_26 : decode cX0_signedStep 26 = .ok (.lcmp, 1) := by decide +kernel
theorem dX0_signedStep_27 : decode cX0_signedStep 27 = .ok (.ifCond .ne 7, 3) := by decide +kernel
theorem dX0_signedStep_30 : decode cX0_signedStep 30 = .ok (.iconst 2, 1) := by decide +kernel
theorem dX0_signedStep_31 : decode cX0_signedStep 31 = .ok (.goto 4, 3) := by decide +kernel
theorem dX0_signedStep_34 : decode cX0_signedStep 34 = .ok (.iconst 3, 1) := by decide +kernel
theorem dX0_signedStep_35 : decode cX0_signedStep 35 = .ok (.ireturn, 1) := by decide +kernel
theorem dX0_countStep_0 : decode cX0_countStep 0 = .ok (.lload_n 0, 1) := by decide +kernel
theorem dX0_countStep_1 : decode cX0_countStep 1 = .ok (.bipush 16, 2) := by decide +kernel
theorem dX0_countStep_3 : decode cX0_countStep 3 = .ok (.lushr, 1) := by decide +kernel
theorem dX0_countStep_4 : decode cX0_countStep 4 = .ok (.lconst 0, 1) := by decide +kernel
theorem dX0_countStep_5 : decode cX0_countStep 5 = .ok (.lcmp, 1) := by decide +kernel
theorem dX0_countStep_6 : decode cX0_countStep 6 = .ok (.ifCond .ne 7, 3) := by decide +kernel
theorem dX0_countStep_9 : decode cX0_countStep 9 = .ok (.iconst 0, 1) := by decide +kernel
theorem dX0_countStep_10 : decode cX0_countStep 10 = .ok (.goto 4, 3) := by decide +kernel
theorem dX0_countStep_13 : decode cX0_countStep 13 = .ok (.iconst 1, 1) := by decide +kernel
theorem dX0_countStep_14 : decode cX0_countStep 14 = .ok (.ireturn, 1) := by decide +kernel
theorem dX1_init_0 : decode cX1_init 0 = .ok (.aload_n 0, 1) := by decide +kernel
theorem dX1_init_1 : decode cX1_init 1 = .ok (.invokespecial 1, 3) := by decide +kernel
theorem dX1_init_4 : decode cX1_init 4 = .ok (.aload_n 0, 1) := by decide +kernel
theorem dX1_init_5 : decode cX1_init 5 = .ok (.sipush 4096, 3) := by decide +kernel
theorem dX1_init_8 : decode cX1_init 8 = .ok (.newarray .int, 2) := by decide +kernel
theorem dX1_init_10 : decode cX1_init 10 = .ok (.putfield 7, 3) := by decide +kernel
theorem dX1_init_13 : decode cX1_init 13 = .ok (.aload_n 0, 1) := by decide +kernel
theorem dX1_init_14 : decode cX1_init 14 = .ok (.iconst (-1), 1) := by decide +kernel
theorem dX1_init_15 : decode cX1_init 15 = .ok (.putfield 13, 3) := by decide +kernel
theorem dX1_init_18 : decode cX1_init 18 = .ok (.aload_n 0, 1) := by decide +kernel
theorem dX1_init_19 : decode cX1_init 19 = .ok (.bipush 100, 2) := by decide +kernel
theorem dX1_init_21 : decode cX1_init 21 = .ok (.newarray .long, 2) := by decide +kernel
theorem dX1_init_23 : decode cX1_init 23 = .ok (.putfield 17, 3) := by decide +kernel
theorem dX1_init_26 : decode cX1_init 26 = .ok (.return_, 1) := by decide +kernel
theorem dX1_thrown_0 : decode cX1_thrown 0 = .ok (.aload_n 0, 1) := by decide +kernel
theorem dX1_thrown_1 : decode cX1_thrown 1 = .ok (.getfield 21, 3) := by decide +kernel
theorem dX1_thrown_4 : decode cX1_thrown 4 = .ok (.ireturn, 1) := by decide +kernel
theorem dX1_fails_0 : decode cX1_fails 0 = .ok (.aload_n 0, 1) := by decide +kernel
theorem dX1_fails_1 : decode cX1_fails 1 = .ok (.getfield 21, 3) := by decide +kernel
theorem dX1_fails_4 : decode cX1_fails 4 = .ok (.ifCond .ne 12, 3) := by decide +kernel
theorem dX1_fails_7 : decode cX1_fails 7 = .ok (.iload_n 1, 1) := by decide +kernel
theorem dX1_fails_8 : decode cX1_fails 8 = .ok (.ifCond .eq 8, 3) := by decide +kernel
theorem dX1_fails_11 : decode cX1_fails 11 = .ok (.aload_n 0, 1) := by decide +kernel
theorem dX1_fails_12 : decode cX1_fails 12 = .ok (.iload_n 2, 1) := by decide +kernel
theorem dX1_fails_13 : decode cX1_fails 13 = .ok (.putfield 21, 3) := by decide +kernel
theorem dX1_fails_16 : decode cX1_fails 16 = .ok (.aload_n 0, 1) := by decide +kernel
theorem dX1_fails_17 : decode cX1_fails 17 = .ok (.getfield 21, 3) := by decide +kernel
theorem dX1_fails_20 : decode cX1_fails 20 = .ok (.ifCond .le 7, 3) := by decide +kernel
theorem dX1_fails_23 : decode cX1_fails 23 = .ok (.iconst 1, 1) := by decide +kernel
theorem dX1_fails_24 : decode cX1_fails 24 = .ok (.goto 4, 3) := by decide +kernel
theorem dX1_fails_27 : decode cX1_fails 27 = .ok (.iconst 0, 1) := by decide +kernel
theorem dX1_fails_28 : decode cX1_fails 28 = .ok (.ireturn, 1) := by decide +kernel
theorem dX1_feed_0 : decode cX1_feed 0 = .ok (.aload_n 0, 1) := by decide +kernel
theorem dX1_feed_1 : decode cX1_feed 1 = .ok (.iconst 0, 1) := by decide +kernel
theorem dX1_feed_2 : decode cX1_feed 2 = .ok (.putfield 21, 3) := by decide +kernel
theorem dX1_feed_5 : decode cX1_feed 5 = .ok (.aload_n 0, 1) := by decide +kernel
theorem dX1_feed_6 : decode cX1_feed 6 = .ok (.iload_n 1, 1) := by decide +kernel
theorem dX1_feed_7 : decode cX1_feed 7 = .ok (.ifCond .lt 10, 3) := by decide +kernel
theorem dX1_feed_10 : decode cX1_feed 10 = .ok (.iload_n 1, 1) := by decide +kernel
theorem dX1_feed_11 : decode cX1_feed 11 = .ok (.sipush 255, 3) := by decide +kernel
theorem dX1_feed_14 : decode cX1_feed 14 = .ok (.if_icmp .le 7, 3) := by decide +kernel
theorem dX1_feed_17 : decode cX1_feed 17 = .ok (.iconst 1, 1) := by decide +kernel
theorem dX1_feed_18 : decode cX1_feed 18 = .ok (.goto 4, 3) := by decide +kernel
theorem dX1_feed_21 : decode cX1_feed 21 = .ok (.iconst 0, 1) := by decide +kernel
theorem dX1_feed_22 : decode cX1_feed 22 = .ok (.iconst 1, 1) := by decide +kernel
theorem dX1_feed_23 : decode cX1_feed 23 = .ok (.invokevirtual 24, 3) := by decide +kernel
theorem dX1_feed_26 : decode cX1_feed 26 = .ok (.pop, 1) := by decide +kernel
theorem dX1_feed_27 : decode cX1_feed 27 = .ok (.aload_n 0, 1) := by decide +kernel
theorem dX1_feed_28 : decode cX1_feed 28 = .ok (.aload_n 0, 1) := by decide +kernel
theorem dX1_feed_29 : decode cX1_feed 29 = .ok (.getfield 28, 3) := by decide +kernel
theorem dX1_feed_32 : decode cX1_feed 32 = .ok (.sipush 4096, 3) := by decide +kernel
theorem dX1_feed_35 : decode cX1_feed 35 = .ok (.if_icmp .ne 7, 3) := by decide +kernel
theorem dX1_feed_38 : decode cX1_feed 38 = .ok (.iconst 1, 1) := by decide +kernel
theorem dX1_feed_39 : decode cX1_feed 39 = .ok (.goto 4, 3) := by decide +kernel
theorem dX1_feed_42 : decode cX1_feed 42 = .ok (.iconst 0, 1) := by decide +kernel
theorem dX1_feed_43 : decode cX1_feed 43 = .ok (.iconst 2, 1) := by decide +kernel
theorem dX1_feed_44 : decode cX1_feed 44 = .ok (.invokevirtual 24, 3) := by decide +kernel
theorem dX1_feed_47 : decode cX1_feed 47 = .ok (.ifCond .eq 5, 3) := by decide +kernel
theorem dX1_feed_50 : decode cX1_feed 50 = .ok (.iconst 0, 1) := by decide +kernel
theorem dX1_feed_51 : decode cX1_feed 51 = .ok (.ireturn, 1) := by decide +kernel
theorem dX1_feed_52 : decode cX1_feed 52 = .ok (.aload_n 0, 1) := by decide +kernel
theorem dX1_feed_53 : decode cX1_feed 53 = .ok (.getfield 7, 3) := by decide +kernel
theorem dX1_feed_56 : decode cX1_feed 56 = .ok (.aload_n 0, 1) := by decide +kernel
theorem dX1_feed_57 : decode cX1_feed 57 = .ok (.getfield 28, 3) := by decide +kernel
theorem dX1_feed_60 : decode cX1_feed 60 = .ok (.iload_n 1, 1) := by decide +kernel
theorem dX1_feed_61 : decode cX1_feed 61 = .ok (.iastore, 1) := by decide +kernel
theorem dX1_feed_62 : decode cX1_feed 62 = .ok (.aload_n 0, 1) := by decide +kernel
theorem dX1_feed_63 : decode cX1_feed 63 = .ok (.dup, 1) := by decide +kernel
theorem dX1_feed_64 : decode cX1_feed 64 = .ok (.getfield 28, 3) := by decide +kernel
theorem dX1_feed_67 : decode cX1_feed 67 = .ok (.iconst 1, 1) := by decide +kernel
theorem dX1_feed_68 : decode cX1_feed 68 = .ok (.iadd, 1) := by decide +kernel
theorem dX1_feed_69 : decode cX1_feed 69 = .ok (.putfield 28, 3) := by decide +kernel
theorem dX1_feed_72 : decode cX1_feed 72 = .ok (.aload_n 0, 1) := by decide +kernel
theorem dX1_feed_73 : decode cX1_feed 73 = .ok (.getfield 28, 3) := by decide +kernel
theorem dX1_feed_76 : decode cX1_feed 76 = .ok (.ireturn, 1) := by decide +kernel
theorem dX1_write_0 : decode cX1_write 0 = .ok (.iload_n 3, 1) := by decide +kernel
theorem dX1_write_1 : decode cX1_write 1 = .ok (.iconst 1, 1) := by decide +kernel
theorem dX1_write_2 : decode cX1_write 2 = .ok (.isub, 1) := by decide +kernel
theorem dX1_write_3 : decode cX1_write 3 = .ok (.istore 4, 2) := by decide +kernel
theorem dX1_write_5 : decode cX1_write 5 = .ok (.iload 4, 2) := by decide +kernel
theorem dX1_write_7 : decode cX1_write 7 = .ok (.ifCond .lt 40, 3) := by decide +kernel
theorem dX1_write_10 : decode cX1_write 10 = .ok (.aload_n 0, 1) := by decide +kernel
theorem dX1_write_11 : decode cX1_write 11 = .ok (.getfield 7, 3) := by decide +kernel
theorem dX1_write_14 : decode cX1_write 14 = .ok (.aload_n 0, 1) := by decide +kernel
theorem dX1_write_15 : decode cX1_write 15 = .ok (.getfield 28, 3) := by decide +kernel
theorem dX1_write_18 : decode cX1_write 18 = .ok (.lload_n 1, 1) := by decide +kernel
theorem dX1_write_19 : decode cX1_write 19 = .ok (.bipush 8, 2) := by decide +kernel
theorem dX1_write_21 : decode cX1_write 21 = .ok (.iload 4, 2) := by decide +kernel
theorem dX1_write_23 : decode cX1_write 23 = .ok (.imul, 1) := by decide +kernel
theorem dX1_write_24 : decode cX1_write 24 = .ok (.lshr, 1) := by decide +kernel
theorem dX1_write_25 : decode cX1_write 25 = .ok (.ldc2_w 31, 3) := by decide +kernel
theorem dX1_write_28 : decode cX1_write 28 = .ok (.land, 1) := by decide +kernel
theorem dX1_write_29 : decode cX1_write 29 = .ok (.l2i, 1) := by decide +kernel
theorem dX1_write_30 : decode cX1_write 30 = .ok (.iastore, 1) := by decide +kernel
theorem dX1_write_31 : decode cX1_write 31 = .ok (.aload_n 0, 1) := by decide +kernel
theorem dX1_write_32 : decode cX1_write 32 = .ok (.dup, 1) := by decide +kernel
theorem dX1_write_33 : decode cX1_write 33 = .ok (.getfield 28, 3) := by decide +kernel
theorem dX1_write_36 : decode cX1_write 36 = .ok (.iconst 1, 1) := by decide +kernel
theorem dX1_write_37 : decode cX1_write 37 = .ok (.iadd, 1) := by decide +kernel
theorem dX1_write_38 : decode cX1_write 38 = .ok (.putfield 28, 3) := by decide +kernel
theorem dX1_write_41 : decode cX1_write 41 = .ok (.iinc 4 (-1), 3) := by decide +kernel
theorem dX1_write_44 : decode cX1_write 44 = .ok (.goto (-39), 3) := by decide +kernel
theorem dX1_write_47 : decode cX1_write 47 = .ok (.return_, 1) := by decide +kernel
theorem dX1_put_0 : decode cX1_put 0 = .ok (.aload_n 0, 1) := by decide +kernel
theorem dX1_put_1 : decode cX1_put 1 = .ok (.iconst 0, 1) := by decide +kernel
theorem dX1_put_2 : decode cX1_put 2 = .ok (.putfield 21, 3) := by decide +kernel
theorem dX1_put_5 : decode cX1_put 5 = .ok (.aload_n 0, 1) := by decide +kernel
theorem dX1_put_6 : decode cX1_put 6 = .ok (.iload_n 3, 1) := by decide +kernel
theorem dX1_put_7 : decode cX1_put 7 = .ok (.iconst 1, 1) := by decide +kernel
theorem dX1_put_8 : decode cX1_put 8 = .ok (.if_icmp .lt 9, 3) := by decide +kernel
theorem dX1_put_11 : decode cX1_put 11 = .ok (.iload_n 3, 1) := by decide +kernel
theorem dX1_put_12 : decode cX1_put 12 = .ok (.bipush 8, 2) := by decide +kernel
theorem dX1_put_14 : decode cX1_put 14 = .ok (.if_icmp .le 7, 3) := by decide +kernel
theorem dX1_put_17 : decode cX1_put 17 = .ok (.iconst 1, 1) := by decide +kernel
theorem dX1_put_18 : decode cX1_put 18 = .ok (.goto 4, 3) := by decide +kernel
theorem dX1_put_21 : decode cX1_put 21 = .ok (.iconst 0, 1) := by decide +kernel
theorem dX1_put_22 : decode cX1_put 22 = .ok (.iconst 1, 1) := by decide +kernel
theorem dX1_put_23 : decode cX1_put 23 = .ok (.invokevirtual 24, 3) := by decide +kernel
theorem dX1_put_26 : decode cX1_put 26 = .ok (.pop, 1) := by decide +kernel
theorem dX1_put_27 : decode cX1_put 27 = .ok (.aload_n 0, 1) := by decide +kernel
theorem dX1_put_28 : decode cX1_put 28 = .ok (.aload_n 0, 1) := by decide +kernel
theorem dX1_put_29 : decode cX1_put 29 = .ok (.getfield 28, 3) := by decide +kernel
theorem dX1_put_32 : decode cX1_put 32 = .ok (.iload_n 3, 1) := by decide +kernel
theorem dX1_put_33 : decode cX1_put 33 = .ok (.iadd, 1) := by decide +kernel
theorem dX1_put_34 : decode cX1_put 34 = .ok (.sipush 4096, 3) := by decide +kernel
theorem dX1_put_37 : decode cX1_put 37 = .ok (.if_icmp .le 7, 3) := by decide +kernel
theorem dX1_put_40 : decode cX1_put 40 = .ok (.iconst 1, 1) := by decide +kernel
theorem dX1_put_41 : decode cX1_put 41 = .ok (.goto 4, 3) := by decide +kernel
theorem dX1_put_44 : decode cX1_put 44 = .ok (.iconst 0, 1) := by decide +kernel
theorem dX1_put_45 : decode cX1_put 45 = .ok (.iconst 2, 1) := by decide +kernel
theorem dX1_put_46 : decode cX1_put 46 = .ok (.invokevirtual 24, 3) := by decide +kernel
theorem dX1_put_49 : decode cX1_put 49 = .ok (.ifCond .eq 5, 3) := by decide +kernel
theorem dX1_put_52 : decode cX1_put 52 = .ok (.iconst 0, 1) := by decide +kernel
theorem dX1_put_53 : decode cX1_put 53 = .ok (.ireturn, 1) := by decide +kernel
theorem dX1_put_54 : decode cX1_put 54 = .ok (.aload_n 0, 1) := by decide +kernel
theorem dX1_put_55 : decode cX1_put 55 = .ok (.lload_n 1, 1) := by decide +kernel
theorem dX1_put_56 : decode cX1_put 56 = .ok (.iload_n 3, 1) := by decide +kernel
theorem dX1_put_57 : decode cX1_put 57 = .ok (.invokevirtual 33, 3) := by decide +kernel
theorem dX1_put_60 : decode cX1_put 60 = .ok (.aload_n 0, 1) := by decide +kernel
theorem dX1_put_61 : decode cX1_put 61 = .ok (.getfield 28, 3) := by decide +kernel
theorem dX1_put_64 : decode cX1_put 64 = .ok (.ireturn, 1) := by decide +kernel
theorem dX1_cut_0 : decode cX1_cut 0 = .ok (.aload_n 0, 1) := by decide +kernel
theorem dX1_cut_1 : decode cX1_cut 1 = .ok (.iconst 0, 1) := by decide +kernel
theorem dX1_cut_2 : decode cX1_cut 2 = .ok (.putfield 21, 3) := by decide +kernel
theorem dX1_cut_5 : decode cX1_cut 5 = .ok (.aload_n 0, 1) := by decide +kernel
theorem dX1_cut_6 : decode cX1_cut 6 = .ok (.iload_n 1, 1) := by decide +kernel
theorem dX1_cut_7 : decode cX1_cut 7 = .ok (.ifCond .lt 16, 3) := by decide +kernel
theorem dX1_cut_10 : decode cX1_cut 10 = .ok (.iload_n 1, 1) := by decide +kernel
theorem dX1_cut_11 : decode cX1_cut 11 = .ok (.aload_n 0, 1) := by decide +kernel
theorem dX1_cut_12 : decode cX1_cut 12 = .ok (.getfield 28, 3) := by decide +kernel
theorem dX1_cut_15 : decode cX1_cut 15 = .ok (.aload_n 0, 1) := by decide +kernel
theorem dX1_cut_16 : decode cX1_cut 16 = .ok (.getfield 37, 3) := by decide +kernel
theorem dX1_cut_19 : decode cX1_cut 19 = .ok (.isub, 1) := by decide +kernel
theorem dX1_cut_20 : decode cX1_cut 20 = .ok (.if_icmp .le 7, 3) := by decide +kernel
theorem dX1_cut_23 : decode cX1_cut 23 = .ok (.iconst 1, 1) := by decide +kernel
theorem dX1_cut_24 : decode cX1_cut 24 = .ok (.goto 4, 3) := by decide +kernel
theorem dX1_cut_27 : decode cX1_cut 27 = .ok (.iconst 0, 1) := by decide +kernel
theorem dX1_cut_28 : decode cX1_cut 28 = .ok (.iconst 1, 1) := by decide +kernel
theorem dX1_cut_29 : decode cX1_cut 29 = .ok (.invokevirtual 24, 3) := by decide +kernel
theorem dX1_cut_32 : decode cX1_cut 32 = .ok (.ifCond .eq 5, 3) := by decide +kernel
theorem dX1_cut_35 : decode cX1_cut 35 = .ok (.iconst 0, 1) := by decide +kernel
theorem dX1_cut_36 : decode cX1_cut 36 = .ok (.ireturn, 1) := by decide +kernel
theorem dX1_cut_37 : decode cX1_cut 37 = .ok (.aload_n 0, 1) := by decide +kernel
theorem dX1_cut_38 : decode cX1_cut 38 = .ok (.dup, 1) := by decide +kernel
theorem dX1_cut_39 : decode cX1_cut 39 = .ok (.getfield 28, 3) := by decide +kernel
theorem dX1_cut_42 : decode cX1_cut 42 = .ok (.iload_n 1, 1) := by decide +kernel
theorem dX1_cut_43 : decode cX1_cut 43 = .ok (.isub, 1) := by decide +kernel
theorem dX1_cut_44 : decode cX1_cut 44 = .ok (.putfield 28, 3) := by decide +kernel
theorem dX1_cut_47 : decode cX1_cut 47 = .ok (.aload_n 0, 1) := by decide +kernel
theorem dX1_cut_48 : decode cX1_cut 48 = .ok (.getfield 28, 3) := by decide +kernel
theorem dX1_cut_51 : decode cX1_cut 51 = .ok (.ireturn, 1) := by decide +kernel
theorem dX1_byteAt_0 : decode cX1_byteAt 0 = .ok (.aload_n 0, 1) := by decide +kernel
theorem dX1_byteAt_1 : decode cX1_byteAt 1 = .ok (.iconst 0, 1) := by decide +kernel
theorem dX1_byteAt_2 : decode cX1_byteAt 2 = .ok (.putfield 21, 3) := by decide +kernel
theorem dX1_byteAt_5 : decode cX1_byteAt 5 = .ok (.aload_n 0, 1) := by decide +kernel
theorem dX1_byteAt_6 : decode cX1_byteAt 6 = .ok (.iload_n 1, 1) := by decide +kernel
theorem dX1_byteAt_7 : decode cX1_byteAt 7 = .ok (.ifCond .lt 11, 3) := by decide +kernel
theorem dX1_byteAt_10 : decode cX1_byteAt 10 = .ok (.iload_n 1, 1) := by decide +kernel
theorem dX1_byteAt_11 : decode cX1_byteAt 11 = .ok (.aload_n 0, 1) := by decide +kernel
theorem dX1_byteAt_12 : decode cX1_byteAt 12 = .ok (.getfield 28, 3) := by decide +kernel
theorem dX1_byteAt_15 : decode cX1_byteAt 15 = .ok (.if_icmp .lt 7, 3) := by decide +kernel
theorem dX1_byteAt_18 : decode cX1_byteAt 18 = .ok (.iconst 1, 1) := by decide +kernel
theorem dX1_byteAt_19 : decode cX1_byteAt 19 = .ok (.goto 4, 3) := by decide +kernel
theorem dX1_byteAt_22 : decode cX1_byteAt 22 = .ok (.iconst 0, 1) := by decide +kernel
theorem dX1_byteAt_23 : decode cX1_byteAt 23 = .ok (.iconst 1, 1) := by decide +kernel
theorem dX1_byteAt_24 : decode cX1_byteAt 24 = .ok (.invokevirtual 24, 3) := by decide +kernel
theorem dX1_byteAt_27 : decode cX1_byteAt 27 = .ok (.ifCond .eq 7, 3) := by decide +kernel
theorem dX1_byteAt_30 : decode cX1_byteAt 30 = .ok (.iconst 0, 1) := by decide +kernel
theorem dX1_byteAt_31 : decode cX1_byteAt 31 = .ok (.goto 9, 3) := by decide +kernel
theorem dX1_byteAt_34 : decode cX1_byteAt 34 = .ok (.aload_n 0, 1) := by decide +kernel
theorem dX1_byteAt_35 : decode cX1_byteAt 35 = .ok (.getfield 7, 3) := by decide +kernel
theorem dX1_byteAt_38 : decode cX1_byteAt 38 = .ok (.iload_n 1, 1) := by decide +kernel
theorem dX1_byteAt_39 : decode cX1_byteAt 39 = .ok (.iaload, 1) := by decide +kernel
theorem dX1_byteAt_40 : decode cX1_byteAt 40 = .ok (.ireturn, 1) := by decide +kernel
theorem dX1_numberAt_0 : decode cX1_numberAt 0 = .ok (.lconst 0, 1) := by decide +kernel
theorem dX1_numberAt_1 : decode cX1_numberAt 1 = .ok (.lstore_n 3, 1) := by decide +kernel
theorem dX1_numberAt_2 : decode cX1_numberAt 2 = .ok (.iconst 0, 1) := by decide +kernel
theorem dX1_numberAt_3 : decode cX1_numberAt 3 = .ok (.istore 5, 2) := by decide +kernel
theorem dX1_numberAt_5 : decode cX1_numberAt 5 = .ok (.iload 5, 2) := by decide +kernel
theorem dX1_numberAt_7 : decode cX1_numberAt 7 = .ok (.iload_n 2, 1) := by decide +kernel
theorem dX1_numberAt_8 : decode cX1_numberAt 8 = .ok (.if_icmp .ge 25, 3) := by decide +kernel
theorem dX1_numberAt_11 : decode cX1_numberAt 11 = .ok (.lload_n 3, 1) := by decide +kernel
theorem dX1_numberAt_12 : decode cX1_numberAt 12 = .ok (.bipush 8, 2) := by decide +kernel
theorem dX1_numberAt_14 : decode cX1_numberAt 14 = .ok (.lshl, 1) := by decide +kernel
theorem dX1_numberAt_15 : decode cX1_numberAt 15 = .ok (.aload_n 0, 1) := by decide +kernel
theorem dX1_numberAt_16 : decode cX1_numberAt 16 = .ok (.getfield 7, 3) := by decide +kernel
theorem dX1_numberAt_19 : decode cX1_numberAt 19 = .ok (.iload_n 1, 1) := by decide +kernel
theorem dX1_numberAt_20 : decode cX1_numberAt 20 = .ok (.iload 5, 2) := by decide +kernel
theorem dX1_numberAt_22 : decode cX1_numberAt 22 = .ok (.iadd, 1) := by decide +kernel
theorem dX1_numberAt_23 : decode cX1_numberAt 23 = .ok (.iaload, 1) := by decide +kernel
theorem dX1_numberAt_24 : decode cX1_numberAt 24 = .ok (.i2l, 1) := by decide +kernel
theorem dX1_numberAt_25 : decode cX1_numberAt 25 = .ok (.lor, 1) := by decide +kernel
theorem dX1_numberAt_26 : decode cX1_numberAt 26 = .ok (.lstore_n 3, 1) := by decide +kernel
theorem dX1_numberAt_27 : decode cX1_numberAt 27 = .ok (.iinc 5 1, 3) := by decide +kernel
theorem dX1_numberAt_30 : decode cX1_numberAt 30 = .ok (.goto (-25), 3) := by decide +kernel
theorem dX1_numberAt_33 : decode cX1_numberAt 33 = .ok (.lload_n 3, 1) := by decide +kernel
theorem dX1_numberAt_34 : decode cX1_numberAt 34 = .ok (.lreturn, 1) := by decide +kernel
theorem dX1_widthOf_0 : decode cX1_widthOf 0 = .ok (.iload_n 0, 1) := by decide +kernel
theorem dX1_widthOf_1 : decode cX1_widthOf 1 = .ok (.tableswitch 136 196 223 #[127, 129, 131, 127, 129, 131, 131, 133, 127, 129, 131, 133, 127, 129, 131, 133, 136, 136, 136, 136, 136, 127, 129, 131, 129, 131, 129, 131], 127) := by decide +kernel
theorem dX1_widthOf_128 : decode cX1_widthOf 128 = .ok (.iconst 1, 1) := by decide +kernel
theorem dX1_widthOf_129 : decode cX1_widthOf 129 = .ok (.ireturn, 1) := by decide +kernel
theorem dX1_widthOf_130 : decode cX1_widthOf 130 = .ok (.iconst 2, 1) := by decide +kernel
theorem dX1_widthOf_131 : decode cX1_widthOf 131 = .ok (.ireturn, 1) := by decide +kernel
theorem dX1_widthOf_132 : decode cX1_widthOf 132 = .ok (.iconst 4, 1) := by decide +kernel
theorem dX1_widthOf_133 : decode cX1_widthOf 133 = .ok (.ireturn, 1) := by decide +kernel
theorem dX1_widthOf_134 : decode cX1_widthOf 134 = .ok (.bipush 8, 2) := by decide +kernel
theorem dX1_widthOf_136 : decode cX1_widthOf 136 = .ok (.ireturn, 1) := by decide +kernel
theorem dX1_widthOf_137 : decode cX1_widthOf 137 = .ok (.iconst 0, 1) := by decide +kernel
theorem dX1_widthOf_138 : decode cX1_widthOf 138 = .ok (.ireturn, 1) := by decide +kernel
theorem dX1_kindOf_0 : decode cX1_kindOf 0 = .ok (.iload_n 0, 1) := by decide +kernel
theorem dX1_kindOf_1 : decode cX1_kindOf 1 = .ok (.sipush 128, 3) := by decide +kernel
theorem dX1_kindOf_4 : decode cX1_kindOf 4 = .ok (.if_icmp .ge 5, 3) := by decide +kernel
theorem dX1_kindOf_7 : decode cX1_kindOf 7 = .ok (.iconst 4, 1) := by decide +kernel
theorem dX1_kindOf_8 : decode cX1_kindOf 8 = .ok (.ireturn, 1) := by decide +kernel
theorem dX1_kindOf_9 : decode cX1_kindOf 9 = .ok (.iload_n 0, 1) := by decide +kernel
theorem dX1_kindOf_10 : decode cX1_kindOf 10 = .ok (.sipush 144, 3) := by decide +kernel
theorem dX1_kindOf_13 : decode cX1_kindOf 13 = .ok (.if_icmp .ge 6, 3) := by decide +kernel
theorem dX1_kindOf_16 : decode cX1_kindOf 16 = .ok (.bipush 11, 2) := by decide +kernel
theorem dX1_kindOf_18 : decode cX1_kindOf 18 = .ok (.ireturn, 1) := by decide +kernel
theorem dX1_kindOf_19 : decode cX1_kindOf 19 = .ok (.iload_n 0, 1) := by decide +kernel
theorem dX1_kindOf_20 : decode cX1_kindOf 20 = .ok (.sipush 160, 3) := by decide +kernel
theorem dX1_kindOf_23 : decode cX1_kindOf 23 = .ok (.if_icmp .ge 6, 3) := by decide +kernel
theorem dX1_kindOf_26 : decode cX1_kindOf 26 = .ok (.bipush 10, 2) := by decide +kernel
theorem dX1_kindOf_28 : decode cX1_kindOf 28 = .ok (.ireturn, 1) := by decide +kernel
theorem dX1_kindOf_29 : decode cX1_kindOf 29 = .ok (.iload_n 0, 1) := by decide +kernel
theorem dX1_kindOf_30 : decode cX1_kindOf 30 = .ok (.sipush 192, 3) := by decide +kernel
theorem dX1_kindOf_33 : decode cX1_kindOf 33 = .ok (.if_icmp .ge 6, 3) := by decide +kernel
theorem dX1_kindOf_36 : decode cX1_kindOf 36 = .ok (.bipush 8, 2) := by decide +kernel
theorem dX1_kindOf_38 : decode cX1_kindOf 38 = .ok (.ireturn, 1) := by decide +kernel
theorem dX1_kindOf_39 : decode cX1_kindOf 39 = .ok (.iload_n 0, 1) := by decide +kernel
theorem dX1_kindOf_40 : decode cX1_kindOf 40 = .ok (.sipush 223, 3) := by decide +kernel
theorem dX1_kindOf_43 : decode cX1_kindOf 43 = .ok (.if_icmp .le 5, 3) := by decide +kernel
theorem dX1_kindOf_46 : decode cX1_kindOf 46 = .ok (.iconst 5, 1) := by decide +kernel
theorem dX1_kindOf_47 : decode cX1_kindOf 47 = .ok (.ireturn, 1) := by decide +kernel
theorem dX1_kindOf_48 : decode cX1_kindOf 48 = .ok (.iload_n 0, 1) := by decide +kernel
theorem dX1_kindOf_49 : decode cX1_kindOf 49 = .ok (.tableswitch 171 192 223 #[143, 171, 145, 147, 149, 149, 149, 171, 171, 171, 152, 155, 158, 158, 158, 158, 160, 160, 160, 160, 171, 171, 171, 171, 171, 162, 162, 162, 165, 165, 168, 168], 143) := by decide +kernel
theorem dX1_kindOf_192 : decode cX1_kindOf 192 = .ok (.iconst 1, 1) := by decide +kernel
theorem dX1_kindOf_193 : decode cX1_kindOf 193 = .ok (.ireturn, 1) := by decide +kernel
theorem dX1_kindOf_194 : decode cX1_kindOf 194 = .ok (.iconst 2, 1) := by decide +kernel
theorem dX1_kindOf_195 : decode cX1_kindOf 195 = .ok (.ireturn, 1) := by decide +kernel
theorem dX1_kindOf_196 : decode cX1_kindOf 196 = .ok (.iconst 3, 1) := by decide +kernel
theorem dX1_kindOf_197 : decode cX1_kindOf 197 = .ok (.ireturn, 1) := by decide +kernel
theorem dX1_kindOf_198 : decode cX1_kindOf 198 = .ok (.bipush 9, 2) := by decide +kernel
theorem dX1_kindOf_200 : decode cX1_kindOf 200 = .ok (.ireturn, 1) := by decide +kernel
theorem dX1_kindOf_201 : decode cX1_kindOf 201 = .ok (.bipush 6, 2) := by decide +kernel
theorem dX1_kindOf_203 : decode cX1_kindOf 203 = .ok (.ireturn, 1) := by decide +kernel
theorem dX1_kindOf_204 : decode cX1_kindOf 204 = .ok (.bipush 7, 2) := by decide +kernel
theorem dX1_kindOf_206 : decode cX1_kindOf 206 = .ok (.ireturn, 1) := by decide +kernel
theorem dX1_kindOf_207 : decode cX1_kindOf 207 = .ok (.iconst 4, 1) := by decide +kernel
theorem dX1_kindOf_208 : decode cX1_kindOf 208 = .ok (.ireturn, 1) := by decide +kernel
theorem dX1_kindOf_209 : decode cX1_kindOf 209 = .ok (.iconst 5, 1) := by decide +kernel
theorem dX1_kindOf_210 : decode cX1_kindOf 210 = .ok (.ireturn, 1) := by decide +kernel
theorem dX1_kindOf_211 : decode cX1_kindOf 211 = .ok (.bipush 8, 2) := by decide +kernel
theorem dX1_kindOf_213 : decode cX1_kindOf 213 = .ok (.ireturn, 1) := by decide +kernel
theorem dX1_kindOf_214 : decode cX1_kindOf 214 = .ok (.bipush 10, 2) := by decide +kernel
theorem dX1_kindOf_216 : decode cX1_kindOf 216 = .ok (.ireturn, 1) := by decide +kernel
theorem dX1_kindOf_217 : decode cX1_kindOf 217 = .ok (.bipush 11, 2) := by decide +kernel
theorem dX1_kindOf_219 : decode cX1_kindOf 219 = .ok (.ireturn, 1) := by decide +kernel
theorem dX1_kindOf_220 : decode cX1_kindOf 220 = .ok (.bipush 12, 2) := by decide +kernel
theorem dX1_kindOf_222 : decode cX1_kindOf 222 = .ok (.ireturn, 1) := by decide +kernel
theorem dX1_ownNumber_0 : decode cX1_ownNumber 0 = .ok (.iload_n 0, 1) := by decide +kernel
theorem dX1_ownNumber_1 : decode cX1_ownNumber 1 = .ok (.sipush 128, 3) := by decide +kernel
theorem dX1_ownNumber_4 : decode cX1_ownNumber 4 = .ok (.if_icmp .ge 6, 3) := by decide +kernel
theorem dX1_ownNumber_7 : decode cX1_ownNumber 7 = .ok (.iload_n 0, 1) := by decide +kernel
theorem dX1_ownNumber_8 : decode cX1_ownNumber 8 = .ok (.i2l, 1) := by decide +kernel
theorem dX1_ownNumber_9 : decode cX1_ownNumber 9 = .ok (.lreturn, 1) := by decide +kernel
theorem dX1_ownNumber_10 : decode cX1_ownNumber 10 = .ok (.iload_n 0, 1) := by decide +kernel
theorem dX1_ownNumber_11 : decode cX1_ownNumber 11 = .ok (.sipush 144, 3) := by decide +kernel
theorem dX1_ownNumber_14 : decode cX1_ownNumber 14 = .ok (.if_icmp .ge 10, 3) := by decide +kernel
theorem dX1_ownNumber_17 : decode cX1_ownNumber 17 = .ok (.iload_n 0, 1) := by decide +kernel
theorem dX1_ownNumber_18 : decode cX1_ownNumber 18 = .ok (.sipush 128, 3) := by decide +kernel
theorem dX1_ownNumber_21 : decode cX1_ownNumber 21 = .ok (.isub, 1) := by decide +kernel
theorem dX1_ownNumber_22 : decode cX1_ownNumber 22 = .ok (.i2l, 1) := by decide +kernel
theorem dX1_ownNumber_23 : decode cX1_ownNumber 23 = .ok (.lreturn, 1) := by decide +kernel
theorem dX1_ownNumber_24 : decode cX1_ownNumber 24 = .ok (.iload_n 0, 1) := by decide +kernel
theorem dX1_ownNumber_25 : decode cX1_ownNumber 25 = .ok (.sipush 160, 3) := by decide +kernel
theorem dX1_ownNumber_28 : decode cX1_ownNumber 28 = .ok (.if_icmp .ge 10, 3) := by decide +kernel
theorem dX1_ownNumber_31 : decode cX1_ownNumber 31 = .ok (.iload_n 0, 1) := by decide +kernel
theorem dX1_ownNumber_32 : decode cX1_ownNumber 32 = .ok (.sipush 144, 3) := by decide +kernel
theorem dX1_ownNumber_35 : decode cX1_ownNumber 35 = .ok (.isub, 1) := by decide +kernel
theorem dX1_ownNumber_36 : decode cX1_ownNumber 36 = .ok (.i2l, 1) := by decide +kernel
theorem dX1_ownNumber_37 : decode cX1_ownNumber 37 = .ok (.lreturn, 1) := by decide +kernel
theorem dX1_ownNumber_38 : decode cX1_ownNumber 38 = .ok (.iload_n 0, 1) := by decide +kernel
theorem dX1_ownNumber_39 : decode cX1_ownNumber 39 = .ok (.sipush 192, 3) := by decide +kernel
theorem dX1_ownNumber_42 : decode cX1_ownNumber 42 = .ok (.if_icmp .ge 10, 3) := by decide +kernel
theorem dX1_ownNumber_45 : decode cX1_ownNumber 45 = .ok (.iload_n 0, 1) := by decide +kernel
theorem dX1_ownNumber_46 : decode cX1_ownNumber 46 = .ok (.sipush 160, 3) := by decide +kernel
theorem dX1_ownNumber_49 : decode cX1_ownNumber 49 = .ok (.isub, 1) := by decide +kernel
theorem dX1_ownNumber_50 : decode cX1_ownNumber 50 = .ok (.i2l, 1) := by decide +kernel
theorem dX1_ownNumber_51 : decode cX1_ownNumber 51 = .ok (.lreturn, 1) := by decide +kernel
theorem dX1_ownNumber_52 : decode cX1_ownNumber 52 = .ok (.iload_n 0, 1) := by decide +kernel
theorem dX1_ownNumber_53 : decode cX1_ownNumber 53 = .ok (.sipush 223, 3) := by decide +kernel
theorem dX1_ownNumber_56 : decode cX1_ownNumber 56 = .ok (.if_icmp .le 12, 3) := by decide +kernel
theorem dX1_ownNumber_59 : decode cX1_ownNumber 59 = .ok (.iload_n 0, 1) := by decide +kernel
theorem dX1_ownNumber_60 : decode cX1_ownNumber 60 = .ok (.sipush 256, 3) := by decide +kernel
theorem dX1_ownNumber_63 : decode cX1_ownNumber 63 = .ok (.isub, 1) := by decide +kernel
theorem dX1_ownNumber_64 : decode cX1_ownNumber 64 = .ok (.i2l, 1) := by decide +kernel
theorem dX1_ownNumber_65 : decode cX1_ownNumber 65 = .ok (.goto 28, 3) := by decide +kernel
theorem dX1_ownNumber_68 : decode cX1_ownNumber 68 = .ok (.iload_n 0, 1) := by decide +kernel
theorem dX1_ownNumber_69 : decode cX1_ownNumber 69 = .ok (.sipush 211, 3) := by decide +kernel
theorem dX1_ownNumber_72 : decode cX1_ownNumber 72 = .ok (.if_icmp .le 20, 3) := by decide +kernel
theorem dX1_ownNumber_75 : decode cX1_ownNumber 75 = .ok (.iload_n 0, 1) := by decide +kernel
theorem dX1_ownNumber_76 : decode cX1_ownNumber 76 = .ok (.sipush 217, 3) := by decide +kernel
theorem dX1_ownNumber_79 : decode cX1_ownNumber 79 = .ok (.if_icmp .ge 13, 3) := by decide +kernel
theorem dX1_ownNumber_82 : decode cX1_ownNumber 82 = .ok (.lconst 1, 1) := by decide +kernel
theorem dX1_ownNumber_83 : decode cX1_ownNumber 83 = .ok (.iload_n 0, 1) := by decide +kernel
theorem dX1_ownNumber_84 : decode cX1_ownNumber 84 = .ok (.sipush 212, 3) := by decide +kernel
theorem dX1_ownNumber_87 : decode cX1_ownNumber 87 = .ok (.isub, 1) := by decide +kernel
theorem dX1_ownNumber_88 : decode cX1_ownNumber 88 = .ok (.lshl, 1) := by decide +kernel
theorem dX1_ownNumber_89 : decode cX1_ownNumber 89 = .ok (.goto 4, 3) := by decide +kernel
theorem dX1_ownNumber_92 : decode cX1_ownNumber 92 = .ok (.lconst 0, 1) := by decide +kernel
theorem dX1_ownNumber_93 : decode cX1_ownNumber 93 = .ok (.lreturn, 1) := by decide +kernel
theorem dX1_look_0 : decode cX1_look 0 = .ok (.iload_n 1, 1) := by decide +kernel
theorem dX1_look_1 : decode cX1_look 1 = .ok (.aload_n 0, 1) := by decide +kernel
theorem dX1_look_2 : decode cX1_look 2 = .ok (.getfield 28, 3) := by decide +kernel
theorem dX1_look_5 : decode cX1_look 5 = .ok (.if_icmp .lt 6, 3) := by decide +kernel
theorem dX1_look_8 : decode cX1_look 8 = .ok (.bipush (-2), 2) := by decide +kernel
theorem dX1_look_10 : decode cX1_look 10 = .ok (.ireturn, 1) := by decide +kernel
theorem dX1_look_11 : decode cX1_look 11 = .ok (.aload_n 0, 1) := by decide +kernel
theorem dX1_look_12 : decode cX1_look 12 = .ok (.getfield 7, 3) := by decide +kernel
theorem dX1_look_15 : decode cX1_look 15 = .ok (.iload_n 1, 1) := by decide +kernel
theorem dX1_look_16 : decode cX1_look 16 = .ok (.iaload, 1) := by decide +kernel
theorem dX1_look_17 : decode cX1_look 17 = .ok (.istore_n 2, 1) := by decide +kernel
theorem dX1_look_18 : decode cX1_look 18 = .ok (.iload_n 2, 1) := by decide +kernel
theorem dX1_look_19 : decode cX1_look 19 = .ok (.sipush 193, 3) := by decide +kernel
theorem dX1_look_22 : decode cX1_look 22 = .ok (.if_icmp .ne 6, 3) := by decide +kernel
theorem dX1_look_25 : decode cX1_look 25 = .ok (.bipush (-3), 2) := by decide +kernel
theorem dX1_look_27 : decode cX1_look 27 = .ok (.ireturn, 1) := by decide +kernel
theorem dX1_look_28 : decode cX1_look 28 = .ok (.iload_n 2, 1) := by decide +kernel
theorem dX1_look_29 : decode cX1_look 29 = .ok (.invokestatic 40, 3) := by decide +kernel
theorem dX1_look_32 : decode cX1_look 32 = .ok (.istore_n 3, 1) := by decide +kernel
theorem dX1_look_33 : decode cX1_look 33 = .ok (.aload_n 0, 1) := by decide +kernel
theorem dX1_look_34 : decode cX1_look 34 = .ok (.iload_n 2, 1) := by decide +kernel
theorem dX1_look_35 : decode cX1_look 35 = .ok (.invokestatic 44, 3) := by decide +kernel
theorem dX1_look_38 : decode cX1_look 38 = .ok (.putfield 47, 3) := by decide +kernel
theorem dX1_look_41 : decode cX1_look 41 = .ok (.aload_n 0, 1) := by decide +kernel
theorem dX1_look_42 : decode cX1_look 42 = .ok (.iconst 1, 1) := by decide +kernel
theorem dX1_look_43 : decode cX1_look 43 = .ok (.iload_n 3, 1) := by decide +kernel
theorem dX1_look_44 : decode cX1_look 44 = .ok (.iadd, 1) := by decide +kernel
theorem dX1_look_45 : decode cX1_look 45 = .ok (.aload_n 0, 1) := by decide +kernel
theorem dX1_look_46 : decode cX1_look 46 = .ok (.getfield 47, 3) := by decide +kernel
theorem dX1_look_49 : decode cX1_look 49 = .ok (.bipush 12, 2) := by decide +kernel
theorem dX1_look_51 : decode cX1_look 51 = .ok (.if_icmp .ne 7, 3) := by decide +kernel
theorem dX1_look_54 : decode cX1_look 54 = .ok (.iconst 1, 1) := by decide +kernel
theorem dX1_look_55 : decode cX1_look 55 = .ok (.goto 4, 3) := by decide +kernel
theorem dX1_look_58 : decode cX1_look 58 = .ok (.iconst 0, 1) := by decide +kernel
theorem dX1_look_59 : decode cX1_look 59 = .ok (.iadd, 1) := by decide +kernel
theorem dX1_look_60 : decode cX1_look 60 = .ok (.putfield 50, 3) := by decide +kernel
theorem dX1_look_63 : decode cX1_look 63 = .ok (.iload_n 1, 1) := by decide +kernel
theorem dX1_look_64 : decode cX1_look 64 = .ok (.aload_n 0, 1) := by decide +kernel
theorem dX1_look_65 : decode cX1_look 65 = .ok (.getfield 50, 3) := by decide +kernel
theorem dX1_look_68 : decode cX1_look 68 = .ok (.iadd, 1) := by decide +kernel
theorem dX1_look_69 : decode cX1_look 69 = .ok (.aload_n 0, 1) := by decide +kernel
theorem dX1_look_70 : decode cX1_look 70 = .ok (.getfield 28, 3) := by decide +kernel
theorem dX1_look_73 : decode cX1_look 73 = .ok (.if_icmp .le 6, 3) := by decide +kernel
theorem dX1_look_76 : decode cX1_look 76 = .ok (.bipush (-2), 2) := by decide +kernel
theorem dX1_look_78 : decode cX1_look 78 = .ok (.ireturn, 1) := by decide +kernel
theorem dX1_look_79 : decode cX1_look 79 = .ok (.aload_n 0, 1) := by decide +kernel
theorem dX1_look_80 : decode cX1_look 80 = .ok (.iload_n 3, 1) := by decide +kernel
theorem dX1_look_81 : decode cX1_look 81 = .ok (.ifCond .ne 10, 3) := by decide +kernel
theorem dX1_look_84 : decode cX1_look 84 = .ok (.iload_n 2, 1) := by decide +kernel
theorem dX1_look_85 : decode cX1_look 85 = .ok (.invokestatic 53, 3) := by decide +kernel
theorem dX1_look_88 : decode cX1_look 88 = .ok (.goto 11, 3) := by decide +kernel
theorem dX1_look_91 : decode cX1_look 91 = .ok (.aload_n 0, 1) := by decide +kernel
theorem dX1_look_92 : decode cX1_look 92 = .ok (.iload_n 1, 1) := by decide +kernel
theorem dX1_look_93 : decode cX1_look 93 = .ok (.iconst 1, 1) := by decide +kernel
theorem dX1_look_94 : decode cX1_look 94 = .ok (.iadd, 1) := by decide +kernel
theorem dX1_look_95 : decode cX1_look 95 = .ok (.iload_n 3, 1) := by decide +kernel
theorem dX1_look_96 : decode cX1_look 96 = .ok (.invokevirtual 57, 3) := by decide +kernel
theorem dX1_look_99 : decode cX1_look 99 = .ok (.putfield 61, 3) := by decide +kernel
