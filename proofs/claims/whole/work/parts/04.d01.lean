theorem dX0_ofDouble_0 : decode cX0_ofDouble 0 = .ok (.dload_n 0, 1) := by decide +kernel
theorem dX0_ofDouble_1 : decode cX0_ofDouble 1 = .ok (.dconst 0, 1) := by decide +kernel
theorem dX0_ofDouble_2 : decode cX0_ofDouble 2 = .ok (.dcmp .l, 1) := by decide +kernel
theorem dX0_ofDouble_3 : decode cX0_ofDouble 3 = .ok (.ifCond .ne 5, 3) := by decide +kernel
theorem dX0_ofDouble_6 : decode cX0_ofDouble 6 = .ok (.lconst 0, 1) := by decide +kernel
theorem dX0_ofDouble_7 : decode cX0_ofDouble 7 = .ok (.lreturn, 1) := by decide +kernel
theorem dX0_ofDouble_8 : decode cX0_ofDouble 8 = .ok (.dload_n 0, 1) := by decide +kernel
theorem dX0_ofDouble_9 : decode cX0_ofDouble 9 = .ok (.dconst 0, 1) := by decide +kernel
theorem dX0_ofDouble_10 : decode cX0_ofDouble 10 = .ok (.dcmp .g, 1) := by decide +kernel
theorem dX0_ofDouble_11 : decode cX0_ofDouble 11 = .ok (.ifCond .ge 9, 3) := by decide +kernel
theorem dX0_ofDouble_14 : decode cX0_ofDouble 14 = .ok (.ldc2_w 9, 3) := by decide +kernel
theorem dX0_ofDouble_17 : decode cX0_ofDouble 17 = .ok (.goto 4, 3) := by decide +kernel
theorem dX0_ofDouble_20 : decode cX0_ofDouble 20 = .ok (.lconst 0, 1) := by decide +kernel
theorem dX0_ofDouble_21 : decode cX0_ofDouble 21 = .ok (.lstore_n 2, 1) := by decide +kernel
theorem dX0_ofDouble_22 : decode cX0_ofDouble 22 = .ok (.dload_n 0, 1) := by decide +kernel
theorem dX0_ofDouble_23 : decode cX0_ofDouble 23 = .ok (.dconst 0, 1) := by decide +kernel
theorem dX0_ofDouble_24 : decode cX0_ofDouble 24 = .ok (.dcmp .g, 1) := by decide +kernel
theorem dX0_ofDouble_25 : decode cX0_ofDouble 25 = .ok (.ifCond .ge 8, 3) := by decide +kernel
theorem dX0_ofDouble_28 : decode cX0_ofDouble 28 = .ok (.dload_n 0, 1) := by decide +kernel
theorem dX0_ofDouble_29 : decode cX0_ofDouble 29 = .ok (.dneg, 1) := by decide +kernel
theorem dX0_ofDouble_30 : decode cX0_ofDouble 30 = .ok (.goto 4, 3) := by decide +kernel
theorem dX0_ofDouble_33 : decode cX0_ofDouble 33 = .ok (.dload_n 0, 1) := by decide +kernel
theorem dX0_ofDouble_34 : decode cX0_ofDouble 34 = .ok (.dstore 4, 2) := by decide +kernel
theorem dX0_ofDouble_36 : decode cX0_ofDouble 36 = .ok (.ldc2_w 13, 3) := by decide +kernel
theorem dX0_ofDouble_39 : decode cX0_ofDouble 39 = .ok (.lstore 6, 2) := by decide +kernel
theorem dX0_ofDouble_41 : decode cX0_ofDouble 41 = .ok (.iconst 0, 1) := by decide +kernel
theorem dX0_ofDouble_42 : decode cX0_ofDouble 42 = .ok (.istore 8, 2) := by decide +kernel
theorem dX0_ofDouble_44 : decode cX0_ofDouble 44 = .ok (.iload 8, 2) := by decide +kernel
theorem dX0_ofDouble_46 : decode cX0_ofDouble 46 = .ok (.bipush 40, 2) := by decide +kernel
theorem dX0_ofDouble_48 : decode cX0_ofDouble 48 = .ok (.if_icmp .ge 32, 3) := by decide +kernel
theorem dX0_ofDouble_51 : decode cX0_ofDouble 51 = .ok (.dload 4, 2) := by decide +kernel
theorem dX0_ofDouble_53 : decode cX0_ofDouble 53 = .ok (.ldc2_w 15, 3) := by decide +kernel
theorem dX0_ofDouble_56 : decode cX0_ofDouble 56 = .ok (.dcmp .l, 1) := by decide +kernel
theorem dX0_ofDouble_57 : decode cX0_ofDouble 57 = .ok (.ifCond .lt 23, 3) := by decide +kernel
theorem dX0_ofDouble_60 : decode cX0_ofDouble 60 = .ok (.dload 4, 2) := by decide +kernel
theorem dX0_ofDouble_62 : decode cX0_ofDouble 62 = .ok (.ldc2_w 15, 3) := by decide +kernel
theorem dX0_ofDouble_65 : decode cX0_ofDouble 65 = .ok (.ddiv, 1) := by decide +kernel
theorem dX0_ofDouble_66 : decode cX0_ofDouble 66 = .ok (.dstore 4, 2) := by decide +kernel
theorem dX0_ofDouble_68 : decode cX0_ofDouble 68 = .ok (.lload 6, 2) := by decide +kernel
theorem dX0_ofDouble_70 : decode cX0_ofDouble 70 = .ok (.lconst 1, 1) := by decide +kernel
theorem dX0_ofDouble_71 : decode cX0_ofDouble 71 = .ok (.ladd, 1) := by decide +kernel
theorem dX0_ofDouble_72 : decode cX0_ofDouble 72 = .ok (.lstore 6, 2) := by decide +kernel
theorem dX0_ofDouble_74 : decode cX0_ofDouble 74 = .ok (.iinc 8 1, 3) := by decide +kernel
theorem dX0_ofDouble_77 : decode cX0_ofDouble 77 = .ok (.goto (-33), 3) := by decide +kernel
theorem dX0_ofDouble_80 : decode cX0_ofDouble 80 = .ok (.iconst 0, 1) := by decide +kernel
theorem dX0_ofDouble_81 : decode cX0_ofDouble 81 = .ok (.istore 8, 2) := by decide +kernel
theorem dX0_ofDouble_83 : decode cX0_ofDouble 83 = .ok (.iload 8, 2) := by decide +kernel
theorem dX0_ofDouble_85 : decode cX0_ofDouble 85 = .ok (.bipush 40, 2) := by decide +kernel
theorem dX0_ofDouble_87 : decode cX0_ofDouble 87 = .ok (.if_icmp .ge 30, 3) := by decide +kernel
theorem dX0_ofDouble_90 : decode cX0_ofDouble 90 = .ok (.dload 4, 2) := by decide +kernel
theorem dX0_ofDouble_92 : decode cX0_ofDouble 92 = .ok (.dconst 1, 1) := by decide +kernel
theorem dX0_ofDouble_93 : decode cX0_ofDouble 93 = .ok (.dcmp .g, 1) := by decide +kernel
theorem dX0_ofDouble_94 : decode cX0_ofDouble 94 = .ok (.ifCond .ge 23, 3) := by decide +kernel
theorem dX0_ofDouble_97 : decode cX0_ofDouble 97 = .ok (.dload 4, 2) := by decide +kernel
theorem dX0_ofDouble_99 : decode cX0_ofDouble 99 = .ok (.ldc2_w 15, 3) := by decide +kernel
theorem dX0_ofDouble_102 : decode cX0_ofDouble 102 = .ok (.dmul, 1) := by decide +kernel
theorem dX0_ofDouble_103 : decode cX0_ofDouble 103 = .ok (.dstore 4, 2) := by decide +kernel
theorem dX0_ofDouble_105 : decode cX0_ofDouble 105 = .ok (.lload 6, 2) := by decide +kernel
theorem dX0_ofDouble_107 : decode cX0_ofDouble 107 = .ok (.lconst 1, 1) := by decide +kernel
theorem dX0_ofDouble_108 : decode cX0_ofDouble 108 = .ok (.lsub, 1) := by decide +kernel
theorem dX0_ofDouble_109 : decode cX0_ofDouble 109 = .ok (.lstore 6, 2) := by decide +kernel
theorem dX0_ofDouble_111 : decode cX0_ofDouble 111 = .ok (.iinc 8 1, 3) := by decide +kernel
theorem dX0_ofDouble_114 : decode cX0_ofDouble 114 = .ok (.goto (-31), 3) := by decide +kernel
theorem dX0_ofDouble_117 : decode cX0_ofDouble 117 = .ok (.lload_n 2, 1) := by decide +kernel
theorem dX0_ofDouble_118 : decode cX0_ofDouble 118 = .ok (.lload 6, 2) := by decide +kernel
theorem dX0_ofDouble_120 : decode cX0_ofDouble 120 = .ok (.bipush 52, 2) := by decide +kernel
theorem dX0_ofDouble_122 : decode cX0_ofDouble 122 = .ok (.lshl, 1) := by decide +kernel
theorem dX0_ofDouble_123 : decode cX0_ofDouble 123 = .ok (.lor, 1) := by decide +kernel
theorem dX0_ofDouble_124 : decode cX0_ofDouble 124 = .ok (.dload 4, 2) := by decide +kernel
theorem dX0_ofDouble_126 : decode cX0_ofDouble 126 = .ok (.dconst 1, 1) := by decide +kernel
theorem dX0_ofDouble_127 : decode cX0_ofDouble 127 = .ok (.dsub, 1) := by decide +kernel
theorem dX0_ofDouble_128 : decode cX0_ofDouble 128 = .ok (.ldc2_w 17, 3) := by decide +kernel
theorem dX0_ofDouble_131 : decode cX0_ofDouble 131 = .ok (.dmul, 1) := by decide +kernel
theorem dX0_ofDouble_132 : decode cX0_ofDouble 132 = .ok (.d2l, 1) := by decide +kernel
theorem dX0_ofDouble_133 : decode cX0_ofDouble 133 = .ok (.lor, 1) := by decide +kernel
theorem dX0_ofDouble_134 : decode cX0_ofDouble 134 = .ok (.lreturn, 1) := by decide +kernel
theorem dX0_ofFloat_0 : decode cX0_ofFloat 0 = .ok (.fload_n 0, 1) := by decide +kernel
theorem dX0_ofFloat_1 : decode cX0_ofFloat 1 = .ok (.fconst 0, 1) := by decide +kernel
theorem dX0_ofFloat_2 : decode cX0_ofFloat 2 = .ok (.fcmp .l, 1) := by decide +kernel
theorem dX0_ofFloat_3 : decode cX0_ofFloat 3 = .ok (.ifCond .ne 5, 3) := by decide +kernel
theorem dX0_ofFloat_6 : decode cX0_ofFloat 6 = .ok (.iconst 0, 1) := by decide +kernel
theorem dX0_ofFloat_7 : decode cX0_ofFloat 7 = .ok (.ireturn, 1) := by decide +kernel
theorem dX0_ofFloat_8 : decode cX0_ofFloat 8 = .ok (.fload_n 0, 1) := by decide +kernel
theorem dX0_ofFloat_9 : decode cX0_ofFloat 9 = .ok (.f2d, 1) := by decide +kernel
theorem dX0_ofFloat_10 : decode cX0_ofFloat 10 = .ok (.invokestatic 19, 3) := by decide +kernel
theorem dX0_ofFloat_13 : decode cX0_ofFloat 13 = .ok (.lstore_n 1, 1) := by decide +kernel
theorem dX0_ofFloat_14 : decode cX0_ofFloat 14 = .ok (.lload_n 1, 1) := by decide +kernel
theorem dX0_ofFloat_15 : decode cX0_ofFloat 15 = .ok (.bipush 52, 2) := by decide +kernel
theorem dX0_ofFloat_17 : decode cX0_ofFloat 17 = .ok (.lushr, 1) := by decide +kernel
theorem dX0_ofFloat_18 : decode cX0_ofFloat 18 = .ok (.ldc2_w 13, 3) := by decide +kernel
theorem dX0_ofFloat_21 : decode cX0_ofFloat 21 = .ok (.lsub, 1) := by decide +kernel
theorem dX0_ofFloat_22 : decode cX0_ofFloat 22 = .ok (.ldc2_w 23, 3) := by decide +kernel
theorem dX0_ofFloat_25 : decode cX0_ofFloat 25 = .ok (.ladd, 1) := by decide +kernel
theorem dX0_ofFloat_26 : decode cX0_ofFloat 26 = .ok (.lstore_n 3, 1) := by decide +kernel
theorem dX0_ofFloat_27 : decode cX0_ofFloat 27 = .ok (.lload_n 3, 1) := by decide +kernel
theorem dX0_ofFloat_28 : decode cX0_ofFloat 28 = .ok (.bipush 23, 2) := by decide +kernel
theorem dX0_ofFloat_30 : decode cX0_ofFloat 30 = .ok (.lshl, 1) := by decide +kernel
theorem dX0_ofFloat_31 : decode cX0_ofFloat 31 = .ok (.lload_n 1, 1) := by decide +kernel
theorem dX0_ofFloat_32 : decode cX0_ofFloat 32 = .ok (.bipush 29, 2) := by decide +kernel
theorem dX0_ofFloat_34 : decode cX0_ofFloat 34 = .ok (.lushr, 1) := by decide +kernel
theorem dX0_ofFloat_35 : decode cX0_ofFloat 35 = .ok (.ldc2_w 25, 3) := by decide +kernel
theorem dX0_ofFloat_38 : decode cX0_ofFloat 38 = .ok (.land, 1) := by decide +kernel
theorem dX0_ofFloat_39 : decode cX0_ofFloat 39 = .ok (.lor, 1) := by decide +kernel
theorem dX0_ofFloat_40 : decode cX0_ofFloat 40 = .ok (.l2i, 1) := by decide +kernel
theorem dX0_ofFloat_41 : decode cX0_ofFloat 41 = .ok (.ireturn, 1) := by decide +kernel
theorem dX1_init_0 : decode cX1_init 0 = .ok (.aload_n 0, 1) := by decide +kernel
theorem dX1_init_1 : decode cX1_init 1 = .ok (.invokespecial 3, 3) := by decide +kernel
theorem dX1_init_4 : decode cX1_init 4 = .ok (.aload_n 0, 1) := by decide +kernel
theorem dX1_init_5 : decode cX1_init 5 = .ok (.sipush 132, 3) := by decide +kernel
theorem dX1_init_8 : decode cX1_init 8 = .ok (.newarray .int, 2) := by decide +kernel
theorem dX1_init_10 : decode cX1_init 10 = .ok (.putfield 11, 3) := by decide +kernel
theorem dX1_init_13 : decode cX1_init 13 = .ok (.aload_n 0, 1) := by decide +kernel
theorem dX1_init_14 : decode cX1_init 14 = .ok (.iconst 0, 1) := by decide +kernel
theorem dX1_init_15 : decode cX1_init 15 = .ok (.putfield 15, 3) := by decide +kernel
theorem dX1_init_18 : decode cX1_init 18 = .ok (.return_, 1) := by decide +kernel
theorem dX1_testNeedsTrait_0 : decode cX1_testNeedsTrait 0 = .ok (.iload_n 0, 1) := by decide +kernel
theorem dX1_testNeedsTrait_1 : decode cX1_testNeedsTrait 1 = .ok (.iconst 1, 1) := by decide +kernel
theorem dX1_testNeedsTrait_2 : decode cX1_testNeedsTrait 2 = .ok (.if_icmp .eq 13, 3) := by decide +kernel
theorem dX1_testNeedsTrait_5 : decode cX1_testNeedsTrait 5 = .ok (.iload_n 0, 1) := by decide +kernel
theorem dX1_testNeedsTrait_6 : decode cX1_testNeedsTrait 6 = .ok (.iconst 2, 1) := by decide +kernel
theorem dX1_testNeedsTrait_7 : decode cX1_testNeedsTrait 7 = .ok (.if_icmp .eq 8, 3) := by decide +kernel
theorem dX1_testNeedsTrait_10 : decode cX1_testNeedsTrait 10 = .ok (.iload_n 0, 1) := by decide +kernel
theorem dX1_testNeedsTrait_11 : decode cX1_testNeedsTrait 11 = .ok (.iconst 4, 1) := by decide +kernel
theorem dX1_testNeedsTrait_12 : decode cX1_testNeedsTrait 12 = .ok (.if_icmp .ne 7, 3) := by decide +kernel
theorem dX1_testNeedsTrait_15 : decode cX1_testNeedsTrait 15 = .ok (.iconst 1, 1) := by decide +kernel
theorem dX1_testNeedsTrait_16 : decode cX1_testNeedsTrait 16 = .ok (.goto 4, 3) := by decide +kernel
theorem dX1_testNeedsTrait_19 : decode cX1_testNeedsTrait 19 = .ok (.iconst 0, 1) := by decide +kernel
theorem dX1_testNeedsTrait_20 : decode cX1_testNeedsTrait 20 = .ok (.ireturn, 1) := by decide +kernel
theorem dX1_grantNeedsTrait_0 : decode cX1_grantNeedsTrait 0 = .ok (.iload_n 0, 1) := by decide +kernel
theorem dX1_grantNeedsTrait_1 : decode cX1_grantNeedsTrait 1 = .ok (.iconst 1, 1) := by decide +kernel
theorem dX1_grantNeedsTrait_2 : decode cX1_grantNeedsTrait 2 = .ok (.if_icmp .eq 13, 3) := by decide +kernel
theorem dX1_grantNeedsTrait_5 : decode cX1_grantNeedsTrait 5 = .ok (.iload_n 0, 1) := by decide +kernel
theorem dX1_grantNeedsTrait_6 : decode cX1_grantNeedsTrait 6 = .ok (.iconst 2, 1) := by decide +kernel
theorem dX1_grantNeedsTrait_7 : decode cX1_grantNeedsTrait 7 = .ok (.if_icmp .eq 8, 3) := by decide +kernel
theorem dX1_grantNeedsTrait_10 : decode cX1_grantNeedsTrait 10 = .ok (.iload_n 0, 1) := by decide +kernel
theorem dX1_grantNeedsTrait_11 : decode cX1_grantNeedsTrait 11 = .ok (.iconst 4, 1) := by decide +kernel
theorem dX1_grantNeedsTrait_12 : decode cX1_grantNeedsTrait 12 = .ok (.if_icmp .ne 7, 3) := by decide +kernel
theorem dX1_grantNeedsTrait_15 : decode cX1_grantNeedsTrait 15 = .ok (.iconst 1, 1) := by decide +kernel
theorem dX1_grantNeedsTrait_16 : decode cX1_grantNeedsTrait 16 = .ok (.goto 4, 3) := by decide +kernel
theorem dX1_grantNeedsTrait_19 : decode cX1_grantNeedsTrait 19 = .ok (.iconst 0, 1) := by decide +kernel
theorem dX1_grantNeedsTrait_20 : decode cX1_grantNeedsTrait 20 = .ok (.ireturn, 1) := by decide +kernel
theorem dX1_leastPart_0 : decode cX1_leastPart 0 = .ok (.iload_n 0, 1) := by decide +kernel
theorem dX1_leastPart_1 : decode cX1_leastPart 1 = .ok (.iconst 1, 1) := by decide +kernel
theorem dX1_leastPart_2 : decode cX1_leastPart 2 = .ok (.if_icmp .ne 7, 3) := by decide +kernel
theorem dX1_leastPart_5 : decode cX1_leastPart 5 = .ok (.iconst 1, 1) := by decide +kernel
theorem dX1_leastPart_6 : decode cX1_leastPart 6 = .ok (.goto 4, 3) := by decide +kernel
theorem dX1_leastPart_9 : decode cX1_leastPart 9 = .ok (.iconst 0, 1) := by decide +kernel
theorem dX1_leastPart_10 : decode cX1_leastPart 10 = .ok (.ireturn, 1) := by decide +kernel
theorem dX1_mostPart_0 : decode cX1_mostPart 0 = .ok (.iload_n 0, 1) := by decide +kernel
theorem dX1_mostPart_1 : decode cX1_mostPart 1 = .ok (.iconst 1, 1) := by decide +kernel
theorem dX1_mostPart_2 : decode cX1_mostPart 2 = .ok (.if_icmp .eq 8, 3) := by decide +kernel
theorem dX1_mostPart_5 : decode cX1_mostPart 5 = .ok (.iload_n 0, 1) := by decide +kernel
theorem dX1_mostPart_6 : decode cX1_mostPart 6 = .ok (.iconst 2, 1) := by decide +kernel
theorem dX1_mostPart_7 : decode cX1_mostPart 7 = .ok (.if_icmp .ne 8, 3) := by decide +kernel
theorem dX1_mostPart_10 : decode cX1_mostPart 10 = .ok (.bipush 99, 2) := by decide +kernel
theorem dX1_mostPart_12 : decode cX1_mostPart 12 = .ok (.goto 4, 3) := by decide +kernel
theorem dX1_mostPart_15 : decode cX1_mostPart 15 = .ok (.iconst 0, 1) := by decide +kernel
theorem dX1_mostPart_16 : decode cX1_mostPart 16 = .ok (.ireturn, 1) := by decide +kernel
theorem dX1_isIn_0 : decode cX1_isIn 0 = .ok (.iload_n 0, 1) := by decide +kernel
theorem dX1_isIn_1 : decode cX1_isIn 1 = .ok (.iload_n 1, 1) := by decide +kernel
theorem dX1_isIn_2 : decode cX1_isIn 2 = .ok (.ishr, 1) := by decide +kernel
theorem dX1_isIn_3 : decode cX1_isIn 3 = .ok (.iconst 1, 1) := by decide +kernel
theorem dX1_isIn_4 : decode cX1_isIn 4 = .ok (.iand, 1) := by decide +kernel
theorem dX1_isIn_5 : decode cX1_isIn 5 = .ok (.iconst 1, 1) := by decide +kernel
theorem dX1_isIn_6 : decode cX1_isIn 6 = .ok (.if_icmp .ne 7, 3) := by decide +kernel
theorem dX1_isIn_9 : decode cX1_isIn 9 = .ok (.iconst 1, 1) := by decide +kernel
theorem dX1_isIn_10 : decode cX1_isIn 10 = .ok (.goto 4, 3) := by decide +kernel
theorem dX1_isIn_13 : decode cX1_isIn 13 = .ok (.iconst 0, 1) := by decide +kernel
theorem dX1_isIn_14 : decode cX1_isIn 14 = .ok (.ireturn, 1) := by decide +kernel
theorem dX1_size_0 : decode cX1_size 0 = .ok (.aload_n 0, 1) := by decide +kernel
theorem dX1_size_1 : decode cX1_size 1 = .ok (.getfield 15, 3) := by decide +kernel
theorem dX1_size_4 : decode cX1_size 4 = .ok (.ireturn, 1) := by decide +kernel
theorem dX1_has_0 : decode cX1_has 0 = .ok (.iload_n 1, 1) := by decide +kernel
theorem dX1_has_1 : decode cX1_has 1 = .ok (.ifCond .lt 15, 3) := by decide +kernel
theorem dX1_has_4 : decode cX1_has 4 = .ok (.iload_n 1, 1) := by decide +kernel
theorem dX1_has_5 : decode cX1_has 5 = .ok (.aload_n 0, 1) := by decide +kernel
theorem dX1_has_6 : decode cX1_has 6 = .ok (.getfield 15, 3) := by decide +kernel
theorem dX1_has_9 : decode cX1_has 9 = .ok (.if_icmp .ge 7, 3) := by decide +kernel
theorem dX1_has_12 : decode cX1_has 12 = .ok (.iconst 1, 1) := by decide +kernel
theorem dX1_has_13 : decode cX1_has 13 = .ok (.goto 4, 3) := by decide +kernel
theorem dX1_has_16 : decode cX1_has 16 = .ok (.iconst 0, 1) := by decide +kernel
theorem dX1_has_17 : decode cX1_has 17 = .ok (.ireturn, 1) := by decide +kernel
theorem dX1_at_0 : decode cX1_at 0 = .ok (.aload_n 0, 1) := by decide +kernel
theorem dX1_at_1 : decode cX1_at 1 = .ok (.getfield 11, 3) := by decide +kernel
theorem dX1_at_4 : decode cX1_at 4 = .ok (.iload_n 1, 1) := by decide +kernel
theorem dX1_at_5 : decode cX1_at 5 = .ok (.bipush 11, 2) := by decide +kernel
theorem dX1_at_7 : decode cX1_at 7 = .ok (.imul, 1) := by decide +kernel
theorem dX1_at_8 : decode cX1_at 8 = .ok (.iload_n 2, 1) := by decide +kernel
theorem dX1_at_9 : decode cX1_at 9 = .ok (.iadd, 1) := by decide +kernel
theorem dX1_at_10 : decode cX1_at 10 = .ok (.iaload, 1) := by decide +kernel
theorem dX1_at_11 : decode cX1_at 11 = .ok (.ireturn, 1) := by decide +kernel
theorem dX1_put_0 : decode cX1_put 0 = .ok (.aload_n 0, 1) := by decide +kernel
theorem dX1_put_1 : decode cX1_put 1 = .ok (.getfield 11, 3) := by decide +kernel
theorem dX1_put_4 : decode cX1_put 4 = .ok (.iload_n 1, 1) := by decide +kernel
theorem dX1_put_5 : decode cX1_put 5 = .ok (.bipush 11, 2) := by decide +kernel
theorem dX1_put_7 : decode cX1_put 7 = .ok (.imul, 1) := by decide +kernel
theorem dX1_put_8 : decode cX1_put 8 = .ok (.iload_n 2, 1) := by decide +kernel
theorem dX1_put_9 : decode cX1_put 9 = .ok (.iadd, 1) := by decide +kernel
theorem dX1_put_10 : decode cX1_put 10 = .ok (.iload_n 3, 1) := by decide +kernel
theorem dX1_put_11 : decode cX1_put 11 = .ok (.iastore, 1) := by decide +kernel
theorem dX1_put_12 : decode cX1_put 12 = .ok (.return_, 1) := by decide +kernel
theorem dX1_append_0 : decode cX1_append 0 = .ok (.aload_n 0, 1) := by decide +kernel
theorem dX1_append_1 : decode cX1_append 1 = .ok (.getfield 15, 3) := by decide +kernel
theorem dX1_append_4 : decode cX1_append 4 = .ok (.bipush 12, 2) := by decide +kernel
theorem dX1_append_6 : decode cX1_append 6 = .ok (.if_icmp .lt 6, 3) := by decide +kernel
theorem dX1_append_9 : decode cX1_append 9 = .ok (.bipush (-4), 2) := by decide +kernel
theorem dX1_append_11 : decode cX1_append 11 = .ok (.ireturn, 1) := by decide +kernel
theorem dX1_append_12 : decode cX1_append 12 = .ok (.aload_n 0, 1) := by decide +kernel
theorem dX1_append_13 : decode cX1_append 13 = .ok (.getfield 15, 3) := by decide +kernel
theorem dX1_append_16 : decode cX1_append 16 = .ok (.istore_n 1, 1) := by decide +kernel
theorem dX1_append_17 : decode cX1_append 17 = .ok (.aload_n 0, 1) := by decide +kernel
theorem dX1_append_18 : decode cX1_append 18 = .ok (.dup, 1) := by decide +kernel
theorem dX1_append_19 : decode cX1_append 19 = .ok (.getfield 15, 3) := by decide +kernel
theorem dX1_append_22 : decode cX1_append 22 = .ok (.iconst 1, 1) := by decide +kernel
theorem dX1_append_23 : decode cX1_append 23 = .ok (.iadd, 1) := by decide +kernel
theorem dX1_append_24 : decode cX1_append 24 = .ok (.putfield 15, 3) := by decide +kernel
theorem dX1_append_27 : decode cX1_append 27 = .ok (.iconst 0, 1) := by decide +kernel
theorem dX1_append_28 : decode cX1_append 28 = .ok (.istore_n 2, 1) := by decide +kernel
theorem dX1_append_29 : decode cX1_append 29 = .ok (.iload_n 2, 1) := by decide +kernel
theorem dX1_append_30 : decode cX1_append 30 = .ok (.bipush 11, 2) := by decide +kernel
theorem dX1_append_32 : decode cX1_append 32 = .ok (.if_icmp .ge 16, 3) := by decide +kernel
theorem dX1_append_35 : decode cX1_append 35 = .ok (.aload_n 0, 1) := by decide +kernel
theorem dX1_append_36 : decode cX1_append 36 = .ok (.iload_n 1, 1) := by decide +kernel
theorem dX1_append_37 : decode cX1_append 37 = .ok (.iload_n 2, 1) := by decide +kernel
theorem dX1_append_38 : decode cX1_append 38 = .ok (.iconst 0, 1) := by decide +kernel
theorem dX1_append_39 : decode cX1_append 39 = .ok (.invokevirtual 19, 3) := by decide +kernel
theorem dX1_append_42 : decode cX1_append 42 = .ok (.iinc 2 1, 3) := by decide +kernel
theorem dX1_append_45 : decode cX1_append 45 = .ok (.goto (-16), 3) := by decide +kernel
theorem dX1_append_48 : decode cX1_append 48 = .ok (.aload_n 0, 1) := by decide +kernel
theorem dX1_append_49 : decode cX1_append 49 = .ok (.iload_n 1, 1) := by decide +kernel
theorem dX1_append_50 : decode cX1_append 50 = .ok (.bipush 9, 2) := by decide +kernel
theorem dX1_append_52 : decode cX1_append 52 = .ok (.sipush 999, 3) := by decide +kernel
theorem dX1_append_55 : decode cX1_append 55 = .ok (.invokevirtual 19, 3) := by decide +kernel
theorem dX1_append_58 : decode cX1_append 58 = .ok (.aload_n 0, 1) := by decide +kernel
theorem dX1_append_59 : decode cX1_append 59 = .ok (.iload_n 1, 1) := by decide +kernel
theorem dX1_append_60 : decode cX1_append 60 = .ok (.bipush 10, 2) := by decide +kernel
theorem dX1_append_62 : decode cX1_append 62 = .ok (.iconst (-1), 1) := by decide +kernel
theorem dX1_append_63 : decode cX1_append 63 = .ok (.invokevirtual 19, 3) := by decide +kernel
theorem dX1_append_66 : decode cX1_append 66 = .ok (.iload_n 1, 1) := by decide +kernel
theorem dX1_append_67 : decode cX1_append 67 = .ok (.ireturn, 1) := by decide +kernel
theorem dX1_cutTo_0 : decode cX1_cutTo 0 = .ok (.aload_n 0, 1) := by decide +kernel
theorem dX1_cutTo_1 : decode cX1_cutTo 1 = .ok (.iload_n 1, 1) := by decide +kernel
theorem dX1_cutTo_2 : decode cX1_cutTo 2 = .ok (.putfield 15, 3) := by decide +kernel
theorem dX1_cutTo_5 : decode cX1_cutTo 5 = .ok (.return_, 1) := by decide +kernel
theorem dX1_become_0 : decode cX1_become 0 = .ok (.aload_n 0, 1) := by decide +kernel
theorem dX1_become_1 : decode cX1_become 1 = .ok (.aload_n 1, 1) := by decide +kernel
theorem dX1_become_2 : decode cX1_become 2 = .ok (.getfield 15, 3) := by decide +kernel
theorem dX1_become_5 : decode cX1_become 5 = .ok (.putfield 15, 3) := by decide +kernel
theorem dX1_become_8 : decode cX1_become 8 = .ok (.aload_n 1, 1) := by decide +kernel
theorem dX1_become_9 : decode cX1_become 9 = .ok (.getfield 11, 3) := by decide +kernel
theorem dX1_become_12 : decode cX1_become 12 = .ok (.iconst 0, 1) := by decide +kernel
theorem dX1_become_13 : decode cX1_become 13 = .ok (.aload_n 0, 1) := by decide +kernel
theorem dX1_become_14 : decode cX1_become 14 = .ok (.getfield 11, 3) := by decide +kernel
theorem dX1_become_17 : decode cX1_become 17 = .ok (.iconst 0, 1) := by decide +kernel
theorem dX1_become_18 : decode cX1_become 18 = .ok (.aload_n 0, 1) := by decide +kernel
theorem dX1_become_19 : decode cX1_become 19 = .ok (.getfield 11, 3) := by decide +kernel
theorem dX1_become_22 : decode cX1_become 22 = .ok (.arraylength, 1) := by decide +kernel
theorem dX1_become_23 : decode cX1_become 23 = .ok (.invokestatic 23, 3) := by decide +kernel
theorem dX1_become_26 : decode cX1_become 26 = .ok (.return_, 1) := by decide +kernel
theorem dX1_isSaidAgain_0 : decode cX1_isSaidAgain 0 = .ok (.iconst 0, 1) := by decide +kernel
theorem dX1_isSaidAgain_1 : decode cX1_isSaidAgain 1 = .ok (.istore_n 2, 1) := by decide +kernel
theorem dX1_isSaidAgain_2 : decode cX1_isSaidAgain 2 = .ok (.iload_n 2, 1) := by decide +kernel
theorem dX1_isSaidAgain_3 : decode cX1_isSaidAgain 3 = .ok (.aload_n 0, 1) := by decide +kernel
theorem dX1_isSaidAgain_4 : decode cX1_isSaidAgain 4 = .ok (.getfield 15, 3) := by decide +kernel
theorem dX1_isSaidAgain_7 : decode cX1_isSaidAgain 7 = .ok (.if_icmp .ge 25, 3) := by decide +kernel
theorem dX1_isSaidAgain_10 : decode cX1_isSaidAgain 10 = .ok (.iload_n 2, 1) := by decide +kernel
theorem dX1_isSaidAgain_11 : decode cX1_isSaidAgain 11 = .ok (.iload_n 1, 1) := by decide +kernel
theorem dX1_isSaidAgain_12 : decode cX1_isSaidAgain 12 = .ok (.if_icmp .eq 14, 3) := by decide +kernel
theorem dX1_isSaidAgain_15 : decode cX1_isSaidAgain 15 = .ok (.aload_n 0, 1) := by decide +kernel
theorem dX1_isSaidAgain_16 : decode cX1_isSaidAgain 16 = .ok (.iload_n 1, 1) := by decide +kernel
theorem dX1_isSaidAgain_17 : decode cX1_isSaidAgain 17 = .ok (.iload_n 2, 1) := by decide +kernel
theorem dX1_isSaidAgain_18 : decode cX1_isSaidAgain 18 = .ok (.invokevirtual 29, 3) := by decide +kernel
theorem dX1_isSaidAgain_21 : decode cX1_isSaidAgain 21 = .ok (.ifCond .eq 5, 3) := by decide +kernel
theorem dX1_isSaidAgain_24 : decode cX1_isSaidAgain 24 = .ok (.iconst 1, 1) := by decide +kernel
theorem dX1_isSaidAgain_25 : decode cX1_isSaidAgain 25 = .ok (.ireturn, 1) := by decide +kernel
theorem dX1_isSaidAgain_26 : decode cX1_isSaidAgain 26 = .ok (.iinc 2 1, 3) := by decide +kernel
theorem dX1_isSaidAgain_29 : decode cX1_isSaidAgain 29 = .ok (.goto (-27), 3) := by decide +kernel
theorem dX1_isSaidAgain_32 : decode cX1_isSaidAgain 32 = .ok (.iconst 0, 1) := by decide +kernel
theorem dX1_isSaidAgain_33 : decode cX1_isSaidAgain 33 = .ok (.ireturn, 1) := by decide +kernel
theorem dX1_saysSame_0 : decode cX1_saysSame 0 = .ok (.iconst 0, 1) := by decide +kernel
theorem dX1_saysSame_1 : decode cX1_saysSame 1 = .ok (.istore_n 3, 1) := by decide +kernel
theorem dX1_saysSame_2 : decode cX1_saysSame 2 = .ok (.iload_n 3, 1) := by decide +kernel
theorem dX1_saysSame_3 : decode cX1_saysSame 3 = .ok (.bipush 8, 2) := by decide +kernel
theorem dX1_saysSame_5 : decode cX1_saysSame 5 = .ok (.if_icmp .ge 26, 3) := by decide +kernel
theorem dX1_saysSame_8 : decode cX1_saysSame 8 = .ok (.aload_n 0, 1) := by decide +kernel
theorem dX1_saysSame_9 : decode cX1_saysSame 9 = .ok (.iload_n 1, 1) := by decide +kernel
theorem dX1_saysSame_10 : decode cX1_saysSame 10 = .ok (.iload_n 3, 1) := by decide +kernel
theorem dX1_saysSame_11 : decode cX1_saysSame 11 = .ok (.invokevirtual 33, 3) := by decide +kernel
theorem dX1_saysSame_14 : decode cX1_saysSame 14 = .ok (.aload_n 0, 1) := by decide +kernel
theorem dX1_saysSame_15 : decode cX1_saysSame 15 = .ok (.iload_n 2, 1) := by decide +kernel
theorem dX1_saysSame_16 : decode cX1_saysSame 16 = .ok (.iload_n 3, 1) := by decide +kernel
theorem dX1_saysSame_17 : decode cX1_saysSame 17 = .ok (.invokevirtual 33, 3) := by decide +kernel
theorem dX1_saysSame_20 : decode cX1_saysSame 20 = .ok (.if_icmp .eq 5, 3) := by decide +kernel
theorem dX1_saysSame_23 : decode cX1_saysSame 23 = .ok (.iconst 0, 1) := by decide +kernel
theorem dX1_saysSame_24 : decode cX1_saysSame 24 = .ok (.ireturn, 1) := by decide +kernel
theorem dX1_saysSame_25 : decode cX1_saysSame 25 = .ok (.iinc 3 1, 3) := by decide +kernel
theorem dX1_saysSame_28 : decode cX1_saysSame 28 = .ok (.goto (-26), 3) := by decide +kernel
theorem dX1_saysSame_31 : decode cX1_saysSame 31 = .ok (.iconst 1, 1) := by decide +kernel
theorem dX1_saysSame_32 : decode cX1_saysSame 32 = .ok (.ireturn, 1) := by decide +kernel
theorem dX1_holding_0 : decode cX1_holding 0 = .ok (.iconst 0, 1) := by decide +kernel
theorem dX1_holding_1 : decode cX1_holding 1 = .ok (.istore_n 3, 1) := by decide +kernel
theorem dX1_holding_2 : decode cX1_holding 2 = .ok (.iconst 0, 1) := by decide +kernel
theorem dX1_holding_3 : decode cX1_holding 3 = .ok (.istore 4, 2) := by decide +kernel
theorem dX1_holding_5 : decode cX1_holding 5 = .ok (.iload 4, 2) := by decide +kernel
theorem dX1_holding_7 : decode cX1_holding 7 = .ok (.aload_n 0, 1) := by decide +kernel
theorem dX1_holding_8 : decode cX1_holding 8 = .ok (.getfield 15, 3) := by decide +kernel
theorem dX1_holding_11 : decode cX1_holding 11 = .ok (.if_icmp .ge 36, 3) := by decide +kernel
theorem dX1_holding_14 : decode cX1_holding 14 = .ok (.aload_n 0, 1) := by decide +kernel
theorem dX1_holding_15 : decode cX1_holding 15 = .ok (.iload 4, 2) := by decide +kernel
theorem dX1_holding_17 : decode cX1_holding 17 = .ok (.iload_n 2, 1) := by decide +kernel
theorem dX1_holding_18 : decode cX1_holding 18 = .ok (.invokevirtual 37, 3) := by decide +kernel
theorem dX1_holding_21 : decode cX1_holding 21 = .ok (.ifCond .eq 20, 3) := by decide +kernel
theorem dX1_holding_24 : decode cX1_holding 24 = .ok (.aload_n 0, 1) := by decide +kernel
theorem dX1_holding_25 : decode cX1_holding 25 = .ok (.iload 4, 2) := by decide +kernel
theorem dX1_holding_27 : decode cX1_holding 27 = .ok (.iload_n 1, 1) := by decide +kernel
theorem dX1_holding_28 : decode cX1_holding 28 = .ok (.invokevirtual 40, 3) := by decide +kernel
theorem dX1_holding_31 : decode cX1_holding 31 = .ok (.ifCond .eq 10, 3) := by decide +kernel
theorem dX1_holding_34 : decode cX1_holding 34 = .ok (.iload_n 3, 1) := by decide +kernel
theorem dX1_holding_35 : decode cX1_holding 35 = .ok (.iconst 1, 1) := by decide +kernel
theorem dX1_holding_36 : decode cX1_holding 36 = .ok (.iload 4, 2) := by decide +kernel
theorem dX1_holding_38 : decode cX1_holding 38 = .ok (.ishl, 1) := by decide +kernel
theorem dX1_holding_39 : decode cX1_holding 39 = .ok (.ior, 1) := by decide +kernel
theorem dX1_holding_40 : decode cX1_holding 40 = .ok (.istore_n 3, 1) := by decide +kernel
theorem dX1_holding_41 : decode cX1_holding 41 = .ok (.iinc 4 1, 3) := by decide +kernel
theorem dX1_holding_44 : decode cX1_holding 44 = .ok (.goto (-39), 3) := by decide +kernel
theorem dX1_holding_47 : decode cX1_holding 47 = .ok (.iload_n 3, 1) := by decide +kernel
theorem dX1_holding_48 : decode cX1_holding 48 = .ok (.ireturn, 1) := by decide +kernel
theorem dX1_spanHas_0 : decode cX1_spanHas 0 = .ok (.iload_n 2, 1) := by decide +kernel
theorem dX1_spanHas_1 : decode cX1_spanHas 1 = .ok (.aload_n 0, 1) := by decide +kernel
theorem dX1_spanHas_2 : decode cX1_spanHas 2 = .ok (.iload_n 1, 1) := by decide +kernel
theorem dX1_spanHas_3 : decode cX1_spanHas 3 = .ok (.bipush 8, 2) := by decide +kernel
theorem dX1_spanHas_5 : decode cX1_spanHas 5 = .ok (.invokevirtual 33, 3) := by decide +kernel
theorem dX1_spanHas_8 : decode cX1_spanHas 8 = .ok (.if_icmp .lt 18, 3) := by decide +kernel
theorem dX1_spanHas_11 : decode cX1_spanHas 11 = .ok (.iload_n 2, 1) := by decide +kernel
theorem dX1_spanHas_12 : decode cX1_spanHas 12 = .ok (.aload_n 0, 1) := by decide +kernel
theorem dX1_spanHas_13 : decode cX1_spanHas 13 = .ok (.iload_n 1, 1) := by decide +kernel
theorem dX1_spanHas_14 : decode cX1_spanHas 14 = .ok (.bipush 9, 2) := by decide +kernel
theorem dX1_spanHas_16 : decode cX1_spanHas 16 = .ok (.invokevirtual 33, 3) := by decide +kernel
theorem dX1_spanHas_19 : decode cX1_spanHas 19 = .ok (.if_icmp .gt 7, 3) := by decide +kernel
theorem dX1_spanHas_22 : decode cX1_spanHas 22 = .ok (.iconst 1, 1) := by decide +kernel
theorem dX1_spanHas_23 : decode cX1_spanHas 23 = .ok (.goto 4, 3) := by decide +kernel
theorem dX1_spanHas_26 : decode cX1_spanHas 26 = .ok (.iconst 0, 1) := by decide +kernel
theorem dX1_spanHas_27 : decode cX1_spanHas 27 = .ok (.ireturn, 1) := by decide +kernel
theorem dX1_testIsSo_0 : decode cX1_testIsSo 0 = .ok (.aload_n 0, 1) := by decide +kernel
theorem dX1_testIsSo_1 : decode cX1_testIsSo 1 = .ok (.iload_n 1, 1) := by decide +kernel
theorem dX1_testIsSo_2 : decode cX1_testIsSo 2 = .ok (.iconst 2, 1) := by decide +kernel
theorem dX1_testIsSo_3 : decode cX1_testIsSo 3 = .ok (.invokevirtual 33, 3) := by decide +kernel
theorem dX1_testIsSo_6 : decode cX1_testIsSo 6 = .ok (.istore_n 3, 1) := by decide +kernel
theorem dX1_testIsSo_7 : decode cX1_testIsSo 7 = .ok (.aload_n 0, 1) := by decide +kernel
theorem dX1_testIsSo_8 : decode cX1_testIsSo 8 = .ok (.iload_n 1, 1) := by decide +kernel
theorem dX1_testIsSo_9 : decode cX1_testIsSo 9 = .ok (.iconst 3, 1) := by decide +kernel
theorem dX1_testIsSo_10 : decode cX1_testIsSo 10 = .ok (.invokevirtual 33, 3) := by decide +kernel
theorem dX1_testIsSo_13 : decode cX1_testIsSo 13 = .ok (.istore 4, 2) := by decide +kernel
theorem dX1_testIsSo_15 : decode cX1_testIsSo 15 = .ok (.iload_n 2, 1) := by decide +kernel
theorem dX1_testIsSo_16 : decode cX1_testIsSo 16 = .ok (.aload_n 0, 1) := by decide +kernel
theorem dX1_testIsSo_17 : decode cX1_testIsSo 17 = .ok (.iload_n 1, 1) := by decide +kernel
theorem dX1_testIsSo_18 : decode cX1_testIsSo 18 = .ok (.iconst 1, 1) := by decide +kernel
theorem dX1_testIsSo_19 : decode cX1_testIsSo 19 = .ok (.invokevirtual 33, 3) := by decide +kernel
theorem dX1_testIsSo_22 : decode cX1_testIsSo 22 = .ok (.invokestatic 43, 3) := by decide +kernel
theorem dX1_testIsSo_25 : decode cX1_testIsSo 25 = .ok (.istore 5, 2) := by decide +kernel
theorem dX1_testIsSo_27 : decode cX1_testIsSo 27 = .ok (.aload_n 0, 1) := by decide +kernel
theorem dX1_testIsSo_28 : decode cX1_testIsSo 28 = .ok (.iload_n 1, 1) := by decide +kernel
theorem dX1_testIsSo_29 : decode cX1_testIsSo 29 = .ok (.iconst 0, 1) := by decide +kernel
theorem dX1_testIsSo_30 : decode cX1_testIsSo 30 = .ok (.invokevirtual 33, 3) := by decide +kernel
theorem dX1_testIsSo_33 : decode cX1_testIsSo 33 = .ok (.tableswitch 112 0 5 #[39, 41, 50, 67, 79, 94], 39) := by decide +kernel
theorem dX1_testIsSo_72 : decode cX1_testIsSo 72 = .ok (.iconst 1, 1) := by decide +kernel
theorem dX1_testIsSo_73 : decode cX1_testIsSo 73 = .ok (.ireturn, 1) := by decide +kernel
theorem dX1_testIsSo_74 : decode cX1_testIsSo 74 = .ok (.iload 5, 2) := by decide +kernel
theorem dX1_testIsSo_76 : decode cX1_testIsSo 76 = .ok (.iload_n 3, 1) := by decide +kernel
theorem dX1_testIsSo_77 : decode cX1_testIsSo 77 = .ok (.iload 4, 2) := by decide +kernel
theorem dX1_testIsSo_79 : decode cX1_testIsSo 79 = .ok (.invokestatic 48, 3) := by decide +kernel
theorem dX1_testIsSo_82 : decode cX1_testIsSo 82 = .ok (.ireturn, 1) := by decide +kernel
theorem dX1_testIsSo_83 : decode cX1_testIsSo 83 = .ok (.iload 5, 2) := by decide +kernel
theorem dX1_testIsSo_85 : decode cX1_testIsSo 85 = .ok (.iload_n 3, 1) := by decide +kernel
theorem dX1_testIsSo_86 : decode cX1_testIsSo 86 = .ok (.iload 4, 2) := by decide +kernel
theorem dX1_testIsSo_88 : decode cX1_testIsSo 88 = .ok (.invokestatic 48, 3) := by decide +kernel
theorem dX1_testIsSo_91 : decode cX1_testIsSo 91 = .ok (.ifCond .ne 7, 3) := by decide +kernel
theorem dX1_testIsSo_94 : decode cX1_testIsSo 94 = .ok (.iconst 1, 1) := by decide +kernel
theorem dX1_testIsSo_95 : decode cX1_testIsSo 95 = .ok (.goto 4, 3) := by decide +kernel
theorem dX1_testIsSo_98 : decode cX1_testIsSo 98 = .ok (.iconst 0, 1) := by decide +kernel
theorem dX1_testIsSo_99 : decode cX1_testIsSo 99 = .ok (.ireturn, 1) := by decide +kernel
theorem dX1_testIsSo_100 : decode cX1_testIsSo 100 = .ok (.iload_n 2, 1) := by decide +kernel
theorem dX1_testIsSo_101 : decode cX1_testIsSo 101 = .ok (.iconst 4, 1) := by decide +kernel
theorem dX1_testIsSo_102 : decode cX1_testIsSo 102 = .ok (.invokestatic 43, 3) := by decide +kernel
theorem dX1_testIsSo_105 : decode cX1_testIsSo 105 = .ok (.iload_n 3, 1) := by decide +kernel
theorem dX1_testIsSo_106 : decode cX1_testIsSo 106 = .ok (.iload 4, 2) := by decide +kernel
theorem dX1_testIsSo_108 : decode cX1_testIsSo 108 = .ok (.invokestatic 52, 3) := by decide +kernel
theorem dX1_testIsSo_111 : decode cX1_testIsSo 111 = .ok (.ireturn, 1) := by decide +kernel
theorem dX1_testIsSo_112 : decode cX1_testIsSo 112 = .ok (.iload_n 3, 1) := by decide +kernel
theorem dX1_testIsSo_113 : decode cX1_testIsSo 113 = .ok (.iload 5, 2) := by decide +kernel
theorem dX1_testIsSo_115 : decode cX1_testIsSo 115 = .ok (.imul, 1) := by decide +kernel
theorem dX1_testIsSo_116 : decode cX1_testIsSo 116 = .ok (.iload 4, 2) := by decide +kernel
theorem dX1_testIsSo_118 : decode cX1_testIsSo 118 = .ok (.if_icmp .lt 7, 3) := by decide +kernel
theorem dX1_testIsSo_121 : decode cX1_testIsSo 121 = .ok (.iconst 1, 1) := by decide +kernel
theorem dX1_testIsSo_122 : decode cX1_testIsSo 122 = .ok (.goto 4, 3) := by decide +kernel
theorem dX1_testIsSo_125 : decode cX1_testIsSo 125 = .ok (.iconst 0, 1) := by decide +kernel
theorem dX1_testIsSo_126 : decode cX1_testIsSo 126 = .ok (.ireturn, 1) := by decide +kernel
theorem dX1_testIsSo_127 : decode cX1_testIsSo 127 = .ok (.iload_n 2, 1) := by decide +kernel
theorem dX1_testIsSo_128 : decode cX1_testIsSo 128 = .ok (.iconst 0, 1) := by decide +kernel
theorem dX1_testIsSo_129 : decode cX1_testIsSo 129 = .ok (.invokestatic 43, 3) := by decide +kernel
theorem dX1_testIsSo_132 : decode cX1_testIsSo 132 = .ok (.iload_n 2, 1) := by decide +kernel
theorem dX1_testIsSo_133 : decode cX1_testIsSo 133 = .ok (.iconst 1, 1) := by decide +kernel
theorem dX1_testIsSo_134 : decode cX1_testIsSo 134 = .ok (.invokestatic 43, 3) := by decide +kernel
theorem dX1_testIsSo_137 : decode cX1_testIsSo 137 = .ok (.iadd, 1) := by decide +kernel
theorem dX1_testIsSo_138 : decode cX1_testIsSo 138 = .ok (.iload_n 3, 1) := by decide +kernel
theorem dX1_testIsSo_139 : decode cX1_testIsSo 139 = .ok (.iload 4, 2) := by decide +kernel
theorem dX1_testIsSo_141 : decode cX1_testIsSo 141 = .ok (.invokestatic 48, 3) := by decide +kernel
theorem dX1_testIsSo_144 : decode cX1_testIsSo 144 = .ok (.ireturn, 1) := by decide +kernel
theorem dX1_testIsSo_145 : decode cX1_testIsSo 145 = .ok (.iconst 0, 1) := by decide +kernel
theorem dX1_testIsSo_146 : decode cX1_testIsSo 146 = .ok (.ireturn, 1) := by decide +kernel
theorem dX1_marksAreSo_0 : decode cX1_marksAreSo 0 = .ok (.iload_n 0, 1) := by decide +kernel
theorem dX1_marksAreSo_1 : decode cX1_marksAreSo 1 = .ok (.iload_n 1, 1) := by decide +kernel
theorem dX1_marksAreSo_2 : decode cX1_marksAreSo 2 = .ok (.iand, 1) := by decide +kernel
theorem dX1_marksAreSo_3 : decode cX1_marksAreSo 3 = .ok (.iload_n 1, 1) := by decide +kernel
theorem dX1_marksAreSo_4 : decode cX1_marksAreSo 4 = .ok (.if_icmp .ne 13, 3) := by decide +kernel
theorem dX1_marksAreSo_7 : decode cX1_marksAreSo 7 = .ok (.iload_n 0, 1) := by decide +kernel
theorem dX1_marksAreSo_8 : decode cX1_marksAreSo 8 = .ok (.iload_n 2, 1) := by decide +kernel
theorem dX1_marksAreSo_9 : decode cX1_marksAreSo 9 = .ok (.iand, 1) := by decide +kernel
theorem dX1_marksAreSo_10 : decode cX1_marksAreSo 10 = .ok (.ifCond .ne 7, 3) := by decide +kernel
theorem dX1_marksAreSo_13 : decode cX1_marksAreSo 13 = .ok (.iconst 1, 1) := by decide +kernel
theorem dX1_marksAreSo_14 : decode cX1_marksAreSo 14 = .ok (.goto 4, 3) := by decide +kernel
theorem dX1_marksAreSo_17 : decode cX1_marksAreSo 17 = .ok (.iconst 0, 1) := by decide +kernel
theorem dX1_marksAreSo_18 : decode cX1_marksAreSo 18 = .ok (.ireturn, 1) := by decide +kernel
theorem dX1_standing_0 : decode cX1_standing 0 = .ok (.iconst 0, 1) := by decide +kernel
theorem dX1_standing_1 : decode cX1_standing 1 = .ok (.istore_n 2, 1) := by decide +kernel
theorem dX1_standing_2 : decode cX1_standing 2 = .ok (.iconst 0, 1) := by decide +kernel
theorem dX1_standing_3 : decode cX1_standing 3 = .ok (.istore_n 3, 1) := by decide +kernel
theorem dX1_standing_4 : decode cX1_standing 4 = .ok (.aload_n 0, 1) := by decide +kernel
theorem dX1_standing_5 : decode cX1_standing 5 = .ok (.getfield 15, 3) := by decide +kernel
theorem dX1_standing_8 : decode cX1_standing 8 = .ok (.iconst 1, 1) := by decide +kernel
theorem dX1_standing_9 : decode cX1_standing 9 = .ok (.isub, 1) := by decide +kernel
theorem dX1_standing_10 : decode cX1_standing 10 = .ok (.istore 4, 2) := by decide +kernel
theorem dX1_standing_12 : decode cX1_standing 12 = .ok (.iload 4, 2) := by decide +kernel
theorem dX1_standing_14 : decode cX1_standing 14 = .ok (.ifCond .lt 59, 3) := by decide +kernel
theorem dX1_standing_17 : decode cX1_standing 17 = .ok (.iload_n 1, 1) := by decide +kernel
theorem dX1_standing_18 : decode cX1_standing 18 = .ok (.iload 4, 2) := by decide +kernel
theorem dX1_standing_20 : decode cX1_standing 20 = .ok (.invokestatic 55, 3) := by decide +kernel
theorem dX1_standing_23 : decode cX1_standing 23 = .ok (.ifCond .eq 44, 3) := by decide +kernel
theorem dX1_standing_26 : decode cX1_standing 26 = .ok (.iload_n 3, 1) := by decide +kernel
theorem dX1_standing_27 : decode cX1_standing 27 = .ok (.iload 4, 2) := by decide +kernel
theorem dX1_standing_29 : decode cX1_standing 29 = .ok (.invokestatic 55, 3) := by decide +kernel
theorem dX1_standing_32 : decode cX1_standing 32 = .ok (.ifCond .ne 35, 3) := by decide +kernel
theorem dX1_standing_35 : decode cX1_standing 35 = .ok (.iload_n 2, 1) := by decide +kernel
theorem dX1_standing_36 : decode cX1_standing 36 = .ok (.iconst 1, 1) := by decide +kernel
theorem dX1_standing_37 : decode cX1_standing 37 = .ok (.iload 4, 2) := by decide +kernel
theorem dX1_standing_39 : decode cX1_standing 39 = .ok (.ishl, 1) := by decide +kernel
theorem dX1_standing_40 : decode cX1_standing 40 = .ok (.ior, 1) := by decide +kernel
theorem dX1_standing_41 : decode cX1_standing 41 = .ok (.istore_n 2, 1) := by decide +kernel
theorem dX1_standing_42 : decode cX1_standing 42 = .ok (.aload_n 0, 1) := by decide +kernel
theorem dX1_standing_43 : decode cX1_standing 43 = .ok (.iload 4, 2) := by decide +kernel
theorem dX1_standing_45 : decode cX1_standing 45 = .ok (.bipush 10, 2) := by decide +kernel
theorem dX1_standing_47 : decode cX1_standing 47 = .ok (.invokevirtual 33, 3) := by decide +kernel
theorem dX1_standing_50 : decode cX1_standing 50 = .ok (.iconst (-1), 1) := by decide +kernel
theorem dX1_standing_51 : decode cX1_standing 51 = .ok (.if_icmp .eq 16, 3) := by decide +kernel
theorem dX1_standing_54 : decode cX1_standing 54 = .ok (.iload_n 3, 1) := by decide +kernel
theorem dX1_standing_55 : decode cX1_standing 55 = .ok (.iconst 1, 1) := by decide +kernel
theorem dX1_standing_56 : decode cX1_standing 56 = .ok (.aload_n 0, 1) := by decide +kernel
theorem dX1_standing_57 : decode cX1_standing 57 = .ok (.iload 4, 2) := by decide +kernel
theorem dX1_standing_59 : decode cX1_standing 59 = .ok (.bipush 10, 2) := by decide +kernel
theorem dX1_standing_61 : decode cX1_standing 61 = .ok (.invokevirtual 33, 3) := by decide +kernel
theorem dX1_standing_64 : decode cX1_standing 64 = .ok (.ishl, 1) := by decide +kernel
theorem dX1_standing_65 : decode cX1_standing 65 = .ok (.ior, 1) := by decide +kernel
theorem dX1_standing_66 : decode cX1_standing 66 = .ok (.istore_n 3, 1) := by decide +kernel
theorem dX1_standing_67 : decode cX1_standing 67 = .ok (.iinc 4 (-1), 3) := by decide +kernel
theorem dX1_standing_70 : decode cX1_standing 70 = .ok (.goto (-58), 3) := by decide +kernel
theorem dX1_standing_73 : decode cX1_standing 73 = .ok (.iload_n 2, 1) := by decide +kernel
theorem dX1_standing_74 : decode cX1_standing 74 = .ok (.ireturn, 1) := by decide +kernel
theorem dX1_counting_0 : decode cX1_counting 0 = .ok (.aload_n 0, 1) := by decide +kernel
theorem dX1_counting_1 : decode cX1_counting 1 = .ok (.iload_n 1, 1) := by decide +kernel
theorem dX1_counting_2 : decode cX1_counting 2 = .ok (.invokevirtual 58, 3) := by decide +kernel
theorem dX1_counting_5 : decode cX1_counting 5 = .ok (.istore_n 2, 1) := by decide +kernel
theorem dX1_counting_6 : decode cX1_counting 6 = .ok (.iconst 0, 1) := by decide +kernel
theorem dX1_counting_7 : decode cX1_counting 7 = .ok (.istore_n 3, 1) := by decide +kernel
theorem dX1_counting_8 : decode cX1_counting 8 = .ok (.iconst 0, 1) := by decide +kernel
theorem dX1_counting_9 : decode cX1_counting 9 = .ok (.istore 4, 2) := by decide +kernel
theorem dX1_counting_11 : decode cX1_counting 11 = .ok (.iload 4, 2) := by decide +kernel
theorem dX1_counting_13 : decode cX1_counting 13 = .ok (.aload_n 0, 1) := by decide +kernel
theorem dX1_counting_14 : decode cX1_counting 14 = .ok (.getfield 15, 3) := by decide +kernel
theorem dX1_counting_17 : decode cX1_counting 17 = .ok (.if_icmp .ge 50, 3) := by decide +kernel
theorem dX1_counting_20 : decode cX1_counting 20 = .ok (.aload_n 0, 1) := by decide +kernel
theorem dX1_counting_21 : decode cX1_counting 21 = .ok (.iload 4, 2) := by decide +kernel
theorem dX1_counting_23 : decode cX1_counting 23 = .ok (.bipush 10, 2) := by decide +kernel
theorem dX1_counting_25 : decode cX1_counting 25 = .ok (.invokevirtual 33, 3) := by decide +kernel
theorem dX1_counting_28 : decode cX1_counting 28 = .ok (.istore 5, 2) := by decide +kernel
theorem dX1_counting_30 : decode cX1_counting 30 = .ok (.iload_n 2, 1) := by decide +kernel
theorem dX1_counting_31 : decode cX1_counting 31 = .ok (.iload 4, 2) := by decide +kernel
theorem dX1_counting_33 : decode cX1_counting 33 = .ok (.invokestatic 55, 3) := by decide +kernel
theorem dX1_counting_36 : decode cX1_counting 36 = .ok (.ifCond .eq 25, 3) := by decide +kernel
theorem dX1_counting_39 : decode cX1_counting 39 = .ok (.iload 5, 2) := by decide +kernel
theorem dX1_counting_41 : decode cX1_counting 41 = .ok (.iconst (-1), 1) := by decide +kernel
theorem dX1_counting_42 : decode cX1_counting 42 = .ok (.if_icmp .eq 12, 3) := by decide +kernel
theorem dX1_counting_45 : decode cX1_counting 45 = .ok (.iload_n 1, 1) := by decide +kernel
theorem dX1_counting_46 : decode cX1_counting 46 = .ok (.iload 5, 2) := by decide +kernel
theorem dX1_counting_48 : decode cX1_counting 48 = .ok (.invokestatic 55, 3) := by decide +kernel
theorem dX1_counting_51 : decode cX1_counting 51 = .ok (.ifCond .eq 10, 3) := by decide +kernel
theorem dX1_counting_54 : decode cX1_counting 54 = .ok (.iload_n 3, 1) := by decide +kernel
theorem dX1_counting_55 : decode cX1_counting 55 = .ok (.iconst 1, 1) := by decide +kernel
theorem dX1_counting_56 : decode cX1_counting 56 = .ok (.iload 4, 2) := by decide +kernel
theorem dX1_counting_58 : decode cX1_counting 58 = .ok (.ishl, 1) := by decide +kernel
theorem dX1_counting_59 : decode cX1_counting 59 = .ok (.ior, 1) := by decide +kernel
theorem dX1_counting_60 : decode cX1_counting 60 = .ok (.istore_n 3, 1) := by decide +kernel
theorem dX1_counting_61 : decode cX1_counting 61 = .ok (.iinc 4 1, 3) := by decide +kernel
theorem dX1_counting_64 : decode cX1_counting 64 = .ok (.goto (-53), 3) := by decide +kernel
theorem dX1_counting_67 : decode cX1_counting 67 = .ok (.iload_n 3, 1) := by decide +kernel
theorem dX1_counting_68 : decode cX1_counting 68 = .ok (.ireturn, 1) := by decide +kernel
theorem dX1_total_0 : decode cX1_total 0 = .ok (.aload_n 0, 1) := by decide +kernel
theorem dX1_total_1 : decode cX1_total 1 = .ok (.aload_n 0, 1) := by decide +kernel
theorem dX1_total_2 : decode cX1_total 2 = .ok (.iload_n 1, 1) := by decide +kernel
theorem dX1_total_3 : decode cX1_total 3 = .ok (.iload_n 2, 1) := by decide +kernel
theorem dX1_total_4 : decode cX1_total 4 = .ok (.invokevirtual 62, 3) := by decide +kernel
theorem dX1_total_7 : decode cX1_total 7 = .ok (.invokevirtual 65, 3) := by decide +kernel
theorem dX1_total_10 : decode cX1_total 10 = .ok (.istore_n 3, 1) := by decide +kernel
theorem dX1_total_11 : decode cX1_total 11 = .ok (.iconst 0, 1) := by decide +kernel
theorem dX1_total_12 : decode cX1_total 12 = .ok (.istore 4, 2) := by decide +kernel
theorem dX1_total_14 : decode cX1_total 14 = .ok (.iconst 0, 1) := by decide +kernel
theorem dX1_total_15 : decode cX1_total 15 = .ok (.istore 5, 2) := by decide +kernel
theorem dX1_total_17 : decode cX1_total 17 = .ok (.iload 5, 2) := by decide +kernel
theorem dX1_total_19 : decode cX1_total 19 = .ok (.aload_n 0, 1) := by decide +kernel
theorem dX1_total_20 : decode cX1_total 20 = .ok (.getfield 15, 3) := by decide +kernel
theorem dX1_total_23 : decode cX1_total 23 = .ok (.if_icmp .ge 30, 3) := by decide +kernel
theorem dX1_total_26 : decode cX1_total 26 = .ok (.iload_n 3, 1) := by decide +kernel
theorem dX1_total_27 : decode cX1_total 27 = .ok (.iload 5, 2) := by decide +kernel
theorem dX1_total_29 : decode cX1_total 29 = .ok (.invokestatic 55, 3) := by decide +kernel
theorem dX1_total_32 : decode cX1_total 32 = .ok (.ifCond .eq 15, 3) := by decide +kernel
theorem dX1_total_35 : decode cX1_total 35 = .ok (.iload 4, 2) := by decide +kernel
theorem dX1_total_37 : decode cX1_total 37 = .ok (.aload_n 0, 1) := by decide +kernel
theorem dX1_total_38 : decode cX1_total 38 = .ok (.iload 5, 2) := by decide +kernel
theorem dX1_total_40 : decode cX1_total 40 = .ok (.iload_n 1, 1) := by decide +kernel
theorem dX1_total_41 : decode cX1_total 41 = .ok (.invokevirtual 68, 3) := by decide +kernel
theorem dX1_total_44 : decode cX1_total 44 = .ok (.iadd, 1) := by decide +kernel
theorem dX1_total_45 : decode cX1_total 45 = .ok (.istore 4, 2) := by decide +kernel
theorem dX1_total_47 : decode cX1_total 47 = .ok (.iinc 5 1, 3) := by decide +kernel
theorem dX1_total_50 : decode cX1_total 50 = .ok (.goto (-33), 3) := by decide +kernel
theorem dX1_total_53 : decode cX1_total 53 = .ok (.iload 4, 2) := by decide +kernel
theorem dX1_total_55 : decode cX1_total 55 = .ok (.ireturn, 1) := by decide +kernel
theorem dX1_worth_0 : decode cX1_worth 0 = .ok (.aload_n 0, 1) := by decide +kernel
theorem dX1_worth_1 : decode cX1_worth 1 = .ok (.iload_n 1, 1) := by decide +kernel
theorem dX1_worth_2 : decode cX1_worth 2 = .ok (.bipush 6, 2) := by decide +kernel
theorem dX1_worth_4 : decode cX1_worth 4 = .ok (.invokevirtual 33, 3) := by decide +kernel
theorem dX1_worth_7 : decode cX1_worth 7 = .ok (.istore_n 3, 1) := by decide +kernel
theorem dX1_worth_8 : decode cX1_worth 8 = .ok (.aload_n 0, 1) := by decide +kernel
theorem dX1_worth_9 : decode cX1_worth 9 = .ok (.iload_n 1, 1) := by decide +kernel
theorem dX1_worth_10 : decode cX1_worth 10 = .ok (.bipush 7, 2) := by decide +kernel
theorem dX1_worth_12 : decode cX1_worth 12 = .ok (.invokevirtual 33, 3) := by decide +kernel
theorem dX1_worth_15 : decode cX1_worth 15 = .ok (.istore 4, 2) := by decide +kernel
theorem dX1_worth_17 : decode cX1_worth 17 = .ok (.iload_n 2, 1) := by decide +kernel
theorem dX1_worth_18 : decode cX1_worth 18 = .ok (.aload_n 0, 1) := by decide +kernel
theorem dX1_worth_19 : decode cX1_worth 19 = .ok (.iload_n 1, 1) := by decide +kernel
theorem dX1_worth_20 : decode cX1_worth 20 = .ok (.iconst 5, 1) := by decide +kernel
theorem dX1_worth_21 : decode cX1_worth 21 = .ok (.invokevirtual 33, 3) := by decide +kernel
theorem dX1_worth_24 : decode cX1_worth 24 = .ok (.invokestatic 43, 3) := by decide +kernel
theorem dX1_worth_27 : decode cX1_worth 27 = .ok (.istore 5, 2) := by decide +kernel
theorem dX1_worth_29 : decode cX1_worth 29 = .ok (.aload_n 0, 1) := by decide +kernel
theorem dX1_worth_30 : decode cX1_worth 30 = .ok (.iload_n 1, 1) := by decide +kernel
theorem dX1_worth_31 : decode cX1_worth 31 = .ok (.iconst 4, 1) := by decide +kernel
theorem dX1_worth_32 : decode cX1_worth 32 = .ok (.invokevirtual 33, 3) := by decide +kernel
theorem dX1_worth_35 : decode cX1_worth 35 = .ok (.tableswitch 72 0 4 #[33, 35, 53, 72, 65], 33) := by decide +kernel
theorem dX1_worth_68 : decode cX1_worth 68 = .ok (.iload_n 3, 1) := by decide +kernel
theorem dX1_worth_69 : decode cX1_worth 69 = .ok (.ireturn, 1) := by decide +kernel
theorem dX1_worth_70 : decode cX1_worth 70 = .ok (.iload 4, 2) := by decide +kernel
theorem dX1_worth_72 : decode cX1_worth 72 = .ok (.iconst 1, 1) := by decide +kernel
theorem dX1_worth_73 : decode cX1_worth 73 = .ok (.if_icmp .ge 7, 3) := by decide +kernel
theorem dX1_worth_76 : decode cX1_worth 76 = .ok (.iconst 0, 1) := by decide +kernel
theorem dX1_worth_77 : decode cX1_worth 77 = .ok (.goto 10, 3) := by decide +kernel
theorem dX1_worth_80 : decode cX1_worth 80 = .ok (.iload 5, 2) := by decide +kernel
theorem dX1_worth_82 : decode cX1_worth 82 = .ok (.iload 4, 2) := by decide +kernel
theorem dX1_worth_84 : decode cX1_worth 84 = .ok (.idiv, 1) := by decide +kernel
theorem dX1_worth_85 : decode cX1_worth 85 = .ok (.iload_n 3, 1) := by decide +kernel
theorem dX1_worth_86 : decode cX1_worth 86 = .ok (.imul, 1) := by decide +kernel
theorem dX1_worth_87 : decode cX1_worth 87 = .ok (.ireturn, 1) := by decide +kernel
theorem dX1_worth_88 : decode cX1_worth 88 = .ok (.iconst 0, 1) := by decide +kernel
theorem dX1_worth_89 : decode cX1_worth 89 = .ok (.iload_n 3, 1) := by decide +kernel
theorem dX1_worth_90 : decode cX1_worth 90 = .ok (.iload 4, 2) := by decide +kernel
theorem dX1_worth_92 : decode cX1_worth 92 = .ok (.iload 5, 2) := by decide +kernel
theorem dX1_worth_94 : decode cX1_worth 94 = .ok (.imul, 1) := by decide +kernel
theorem dX1_worth_95 : decode cX1_worth 95 = .ok (.isub, 1) := by decide +kernel
theorem dX1_worth_96 : decode cX1_worth 96 = .ok (.invokestatic 71, 3) := by decide +kernel
theorem dX1_worth_99 : decode cX1_worth 99 = .ok (.ireturn, 1) := by decide +kernel
theorem dX1_worth_100 : decode cX1_worth 100 = .ok (.iload_n 3, 1) := by decide +kernel
theorem dX1_worth_101 : decode cX1_worth 101 = .ok (.iload 5, 2) := by decide +kernel
theorem dX1_worth_103 : decode cX1_worth 103 = .ok (.invokestatic 76, 3) := by decide +kernel
theorem dX1_worth_106 : decode cX1_worth 106 = .ok (.ireturn, 1) := by decide +kernel
theorem dX1_worth_107 : decode cX1_worth 107 = .ok (.iconst 0, 1) := by decide +kernel
theorem dX1_worth_108 : decode cX1_worth 108 = .ok (.ireturn, 1) := by decide +kernel
theorem dX1_whyNot_0 : decode cX1_whyNot 0 = .ok (.aload_n 0, 1) := by decide +kernel
theorem dX1_whyNot_1 : decode cX1_whyNot 1 = .ok (.iload_n 1, 1) := by decide +kernel
theorem dX1_whyNot_2 : decode cX1_whyNot 2 = .ok (.iload_n 2, 1) := by decide +kernel
theorem dX1_whyNot_3 : decode cX1_whyNot 3 = .ok (.invokevirtual 37, 3) := by decide +kernel
theorem dX1_whyNot_6 : decode cX1_whyNot 6 = .ok (.ifCond .ne 5, 3) := by decide +kernel
theorem dX1_whyNot_9 : decode cX1_whyNot 9 = .ok (.iconst 1, 1) := by decide +kernel
theorem dX1_whyNot_10 : decode cX1_whyNot 10 = .ok (.ireturn, 1) := by decide +kernel
theorem dX1_whyNot_11 : decode cX1_whyNot 11 = .ok (.iload_n 3, 1) := by decide +kernel
theorem dX1_whyNot_12 : decode cX1_whyNot 12 = .ok (.iload_n 1, 1) := by decide +kernel
theorem dX1_whyNot_13 : decode cX1_whyNot 13 = .ok (.invokestatic 55, 3) := by decide +kernel
theorem dX1_whyNot_16 : decode cX1_whyNot 16 = .ok (.ifCond .ne 5, 3) := by decide +kernel
theorem dX1_whyNot_19 : decode cX1_whyNot 19 = .ok (.iconst 2, 1) := by decide +kernel
theorem dX1_whyNot_20 : decode cX1_whyNot 20 = .ok (.ireturn, 1) := by decide +kernel
theorem dX1_whyNot_21 : decode cX1_whyNot 21 = .ok (.aload_n 0, 1) := by decide +kernel
theorem dX1_whyNot_22 : decode cX1_whyNot 22 = .ok (.iload_n 3, 1) := by decide +kernel
theorem dX1_whyNot_23 : decode cX1_whyNot 23 = .ok (.invokevirtual 58, 3) := by decide +kernel
theorem dX1_whyNot_26 : decode cX1_whyNot 26 = .ok (.iload_n 1, 1) := by decide +kernel
theorem dX1_whyNot_27 : decode cX1_whyNot 27 = .ok (.invokestatic 55, 3) := by decide +kernel
theorem dX1_whyNot_30 : decode cX1_whyNot 30 = .ok (.ifCond .ne 5, 3) := by decide +kernel
theorem dX1_whyNot_33 : decode cX1_whyNot 33 = .ok (.iconst 3, 1) := by decide +kernel
theorem dX1_whyNot_34 : decode cX1_whyNot 34 = .ok (.ireturn, 1) := by decide +kernel
theorem dX1_whyNot_35 : decode cX1_whyNot 35 = .ok (.aload_n 0, 1) := by decide +kernel
theorem dX1_whyNot_36 : decode cX1_whyNot 36 = .ok (.iload_n 3, 1) := by decide +kernel
theorem dX1_whyNot_37 : decode cX1_whyNot 37 = .ok (.invokevirtual 65, 3) := by decide +kernel
theorem dX1_whyNot_40 : decode cX1_whyNot 40 = .ok (.iload_n 1, 1) := by decide +kernel
theorem dX1_whyNot_41 : decode cX1_whyNot 41 = .ok (.invokestatic 55, 3) := by decide +kernel
theorem dX1_whyNot_44 : decode cX1_whyNot 44 = .ok (.ifCond .eq 7, 3) := by decide +kernel
theorem dX1_whyNot_47 : decode cX1_whyNot 47 = .ok (.iconst 0, 1) := by decide +kernel
theorem dX1_whyNot_48 : decode cX1_whyNot 48 = .ok (.goto 4, 3) := by decide +kernel
theorem dX1_whyNot_51 : decode cX1_whyNot 51 = .ok (.iconst 4, 1) := by decide +kernel
theorem dX1_whyNot_52 : decode cX1_whyNot 52 = .ok (.ireturn, 1) := by decide +kernel
theorem dX1_leastException_0 : decode cX1_leastException 0 = .ok (.iload_n 1, 1) := by decide +kernel
theorem dX1_leastException_1 : decode cX1_leastException 1 = .ok (.iconst 1, 1) := by decide +kernel
theorem dX1_leastException_2 : decode cX1_leastException 2 = .ok (.iadd, 1) := by decide +kernel
theorem dX1_leastException_3 : decode cX1_leastException 3 = .ok (.istore_n 3, 1) := by decide +kernel
theorem dX1_leastException_4 : decode cX1_leastException 4 = .ok (.iload_n 3, 1) := by decide +kernel
theorem dX1_leastException_5 : decode cX1_leastException 5 = .ok (.aload_n 0, 1) := by decide +kernel
theorem dX1_leastException_6 : decode cX1_leastException 6 = .ok (.getfield 15, 3) := by decide +kernel
theorem dX1_leastException_9 : decode cX1_leastException 9 = .ok (.if_icmp .ge 30, 3) := by decide +kernel
theorem dX1_leastException_12 : decode cX1_leastException 12 = .ok (.aload_n 0, 1) := by decide +kernel
theorem dX1_leastException_13 : decode cX1_leastException 13 = .ok (.iload_n 3, 1) := by decide +kernel
theorem dX1_leastException_14 : decode cX1_leastException 14 = .ok (.bipush 10, 2) := by decide +kernel
theorem dX1_leastException_16 : decode cX1_leastException 16 = .ok (.invokevirtual 33, 3) := by decide +kernel
theorem dX1_leastException_19 : decode cX1_leastException 19 = .ok (.iload_n 1, 1) := by decide +kernel
theorem dX1_leastException_20 : decode cX1_leastException 20 = .ok (.if_icmp .ne 13, 3) := by decide +kernel
theorem dX1_leastException_23 : decode cX1_leastException 23 = .ok (.iload_n 2, 1) := by decide +kernel
theorem dX1_leastException_24 : decode cX1_leastException 24 = .ok (.iload_n 3, 1) := by decide +kernel
theorem dX1_leastException_25 : decode cX1_leastException 25 = .ok (.invokestatic 55, 3) := by decide +kernel
theorem dX1_leastException_28 : decode cX1_leastException 28 = .ok (.ifCond .eq 5, 3) := by decide +kernel
theorem dX1_leastException_31 : decode cX1_leastException 31 = .ok (.iload_n 3, 1) := by decide +kernel
theorem dX1_leastException_32 : decode cX1_leastException 32 = .ok (.ireturn, 1) := by decide +kernel
theorem dX1_leastException_33 : decode cX1_leastException 33 = .ok (.iinc 3 1, 3) := by decide +kernel
theorem dX1_leastException_36 : decode cX1_leastException 36 = .ok (.goto (-32), 3) := by decide +kernel
theorem dX1_leastException_39 : decode cX1_leastException 39 = .ok (.iconst (-1), 1) := by decide +kernel
theorem dX1_leastException_40 : decode cX1_leastException 40 = .ok (.ireturn, 1) := by decide +kernel
theorem dX1_nextEdge_0 : decode cX1_nextEdge 0 = .ok (.sipush 1000, 3) := by decide +kernel
theorem dX1_nextEdge_3 : decode cX1_nextEdge 3 = .ok (.istore_n 2, 1) := by decide +kernel
theorem dX1_nextEdge_4 : decode cX1_nextEdge 4 = .ok (.iconst 0, 1) := by decide +kernel
theorem dX1_nextEdge_5 : decode cX1_nextEdge 5 = .ok (.istore_n 3, 1) := by decide +kernel
theorem dX1_nextEdge_6 : decode cX1_nextEdge 6 = .ok (.iload_n 3, 1) := by decide +kernel
theorem dX1_nextEdge_7 : decode cX1_nextEdge 7 = .ok (.aload_n 0, 1) := by decide +kernel
theorem dX1_nextEdge_8 : decode cX1_nextEdge 8 = .ok (.getfield 15, 3) := by decide +kernel
theorem dX1_nextEdge_11 : decode cX1_nextEdge 11 = .ok (.if_icmp .ge 55, 3) := by decide +kernel
theorem dX1_nextEdge_14 : decode cX1_nextEdge 14 = .ok (.aload_n 0, 1) := by decide +kernel
theorem dX1_nextEdge_15 : decode cX1_nextEdge 15 = .ok (.iload_n 3, 1) := by decide +kernel
theorem dX1_nextEdge_16 : decode cX1_nextEdge 16 = .ok (.bipush 8, 2) := by decide +kernel
theorem dX1_nextEdge_18 : decode cX1_nextEdge 18 = .ok (.invokevirtual 33, 3) := by decide +kernel
theorem dX1_nextEdge_21 : decode cX1_nextEdge 21 = .ok (.istore 4, 2) := by decide +kernel
theorem dX1_nextEdge_23 : decode cX1_nextEdge 23 = .ok (.aload_n 0, 1) := by decide +kernel
theorem dX1_nextEdge_24 : decode cX1_nextEdge 24 = .ok (.iload_n 3, 1) := by decide +kernel
theorem dX1_nextEdge_25 : decode cX1_nextEdge 25 = .ok (.bipush 9, 2) := by decide +kernel
theorem dX1_nextEdge_27 : decode cX1_nextEdge 27 = .ok (.invokevirtual 33, 3) := by decide +kernel
theorem dX1_nextEdge_30 : decode cX1_nextEdge 30 = .ok (.iconst 1, 1) := by decide +kernel
theorem dX1_nextEdge_31 : decode cX1_nextEdge 31 = .ok (.iadd, 1) := by decide +kernel
theorem dX1_nextEdge_32 : decode cX1_nextEdge 32 = .ok (.istore 5, 2) := by decide +kernel
theorem dX1_nextEdge_34 : decode cX1_nextEdge 34 = .ok (.iload 4, 2) := by decide +kernel
theorem dX1_nextEdge_36 : decode cX1_nextEdge 36 = .ok (.iload_n 1, 1) := by decide +kernel
theorem dX1_nextEdge_37 : decode cX1_nextEdge 37 = .ok (.if_icmp .le 10, 3) := by decide +kernel
theorem dX1_nextEdge_40 : decode cX1_nextEdge 40 = .ok (.iload_n 2, 1) := by decide +kernel
theorem dX1_nextEdge_41 : decode cX1_nextEdge 41 = .ok (.iload 4, 2) := by decide +kernel
theorem dX1_nextEdge_43 : decode cX1_nextEdge 43 = .ok (.invokestatic 76, 3) := by decide +kernel
theorem dX1_nextEdge_46 : decode cX1_nextEdge 46 = .ok (.istore_n 2, 1) := by decide +kernel
theorem dX1_nextEdge_47 : decode cX1_nextEdge 47 = .ok (.iload 5, 2) := by decide +kernel
theorem dX1_nextEdge_49 : decode cX1_nextEdge 49 = .ok (.iload_n 1, 1) := by decide +kernel
theorem dX1_nextEdge_50 : decode cX1_nextEdge 50 = .ok (.if_icmp .le 10, 3) := by decide +kernel
theorem dX1_nextEdge_53 : decode cX1_nextEdge 53 = .ok (.iload_n 2, 1) := by decide +kernel
theorem dX1_nextEdge_54 : decode cX1_nextEdge 54 = .ok (.iload 5, 2) := by decide +kernel
theorem dX1_nextEdge_56 : decode cX1_nextEdge 56 = .ok (.invokestatic 76, 3) := by decide +kernel
theorem dX1_nextEdge_59 : decode cX1_nextEdge 59 = .ok (.istore_n 2, 1) := by decide +kernel
theorem dX1_nextEdge_60 : decode cX1_nextEdge 60 = .ok (.iinc 3 1, 3) := by decide +kernel
theorem dX1_nextEdge_63 : decode cX1_nextEdge 63 = .ok (.goto (-57), 3) := by decide +kernel
theorem dX1_nextEdge_66 : decode cX1_nextEdge 66 = .ok (.iload_n 2, 1) := by decide +kernel
theorem dX1_nextEdge_67 : decode cX1_nextEdge 67 = .ok (.ireturn, 1) := by decide +kernel
theorem dX2_init_0 : decode cX2_init 0 = .ok (.aload_n 0, 1) := by decide +kernel
theorem dX2_init_1 : decode cX2_init 1 = .ok (.invokespecial 1, 3) := by decide +kernel
theorem dX2_init_4 : decode cX2_init 4 = .ok (.aload_n 0, 1) := by decide +kernel
theorem dX2_init_5 : decode cX2_init 5 = .ok (.iconst 1, 1) := by decide +kernel
theorem dX2_init_6 : decode cX2_init 6 = .ok (.putfield 7, 3) := by decide +kernel
theorem dX2_init_9 : decode cX2_init 9 = .ok (.return_, 1) := by decide +kernel
theorem dX2_nextProfile_0 : decode cX2_nextProfile 0 = .ok (.aload_n 0, 1) := by decide +kernel
theorem dX2_nextProfile_1 : decode cX2_nextProfile 1 = .ok (.bipush 100, 2) := by decide +kernel
theorem dX2_nextProfile_3 : decode cX2_nextProfile 3 = .ok (.invokevirtual 13, 3) := by decide +kernel
theorem dX2_nextProfile_6 : decode cX2_nextProfile 6 = .ok (.istore_n 1, 1) := by decide +kernel
theorem dX2_nextProfile_7 : decode cX2_nextProfile 7 = .ok (.aload_n 0, 1) := by decide +kernel
theorem dX2_nextProfile_8 : decode cX2_nextProfile 8 = .ok (.bipush 100, 2) := by decide +kernel
theorem dX2_nextProfile_10 : decode cX2_nextProfile 10 = .ok (.invokevirtual 13, 3) := by decide +kernel
theorem dX2_nextProfile_13 : decode cX2_nextProfile 13 = .ok (.istore_n 2, 1) := by decide +kernel
theorem dX2_nextProfile_14 : decode cX2_nextProfile 14 = .ok (.aload_n 0, 1) := by decide +kernel
theorem dX2_nextProfile_15 : decode cX2_nextProfile 15 = .ok (.bipush 10, 2) := by decide +kernel
theorem dX2_nextProfile_17 : decode cX2_nextProfile 17 = .ok (.invokevirtual 13, 3) := by decide +kernel
theorem dX2_nextProfile_20 : decode cX2_nextProfile 20 = .ok (.istore_n 3, 1) := by decide +kernel
theorem dX2_nextProfile_21 : decode cX2_nextProfile 21 = .ok (.aload_n 0, 1) := by decide +kernel
theorem dX2_nextProfile_22 : decode cX2_nextProfile 22 = .ok (.bipush 8, 2) := by decide +kernel
theorem dX2_nextProfile_24 : decode cX2_nextProfile 24 = .ok (.invokevirtual 13, 3) := by decide +kernel
theorem dX2_nextProfile_27 : decode cX2_nextProfile 27 = .ok (.istore 4, 2) := by decide +kernel
theorem dX2_nextProfile_29 : decode cX2_nextProfile 29 = .ok (.aload_n 0, 1) := by decide +kernel
theorem dX2_nextProfile_30 : decode cX2_nextProfile 30 = .ok (.bipush 32, 2) := by decide +kernel
theorem dX2_nextProfile_32 : decode cX2_nextProfile 32 = .ok (.invokevirtual 13, 3) := by decide +kernel
theorem dX2_nextProfile_35 : decode cX2_nextProfile 35 = .ok (.istore 5, 2) := by decide +kernel
theorem dX2_nextProfile_37 : decode cX2_nextProfile 37 = .ok (.iload_n 1, 1) := by decide +kernel
theorem dX2_nextProfile_38 : decode cX2_nextProfile 38 = .ok (.iload_n 2, 1) := by decide +kernel
theorem dX2_nextProfile_39 : decode cX2_nextProfile 39 = .ok (.iload_n 3, 1) := by decide +kernel
theorem dX2_nextProfile_40 : decode cX2_nextProfile 40 = .ok (.iload 4, 2) := by decide +kernel
theorem dX2_nextProfile_42 : decode cX2_nextProfile 42 = .ok (.iload 5, 2) := by decide +kernel
theorem dX2_nextProfile_44 : decode cX2_nextProfile 44 = .ok (.invokestatic 17, 3) := by decide +kernel
theorem dX2_nextProfile_47 : decode cX2_nextProfile 47 = .ok (.ireturn, 1) := by decide +kernel
theorem dX2_nextRest_0 : decode cX2_nextRest 0 = .ok (.aload_n 0, 1) := by decide +kernel
theorem dX2_nextRest_1 : decode cX2_nextRest 1 = .ok (.aload_n 0, 1) := by decide +kernel
theorem dX2_nextRest_2 : decode cX2_nextRest 2 = .ok (.getfield 7, 3) := by decide +kernel
theorem dX2_nextRest_5 : decode cX2_nextRest 5 = .ok (.ldc 23, 2) := by decide +kernel
theorem dX2_nextRest_7 : decode cX2_nextRest 7 = .ok (.imul, 1) := by decide +kernel
theorem dX2_nextRest_8 : decode cX2_nextRest 8 = .ok (.sipush 12345, 3) := by decide +kernel
theorem dX2_nextRest_11 : decode cX2_nextRest 11 = .ok (.iadd, 1) := by decide +kernel
theorem dX2_nextRest_12 : decode cX2_nextRest 12 = .ok (.putfield 7, 3) := by decide +kernel
theorem dX2_nextRest_15 : decode cX2_nextRest 15 = .ok (.iload_n 1, 1) := by decide +kernel
theorem dX2_nextRest_16 : decode cX2_nextRest 16 = .ok (.iconst 1, 1) := by decide +kernel
theorem dX2_nextRest_17 : decode cX2_nextRest 17 = .ok (.if_icmp .ge 7, 3) := by decide +kernel
theorem dX2_nextRest_20 : decode cX2_nextRest 20 = .ok (.iconst 0, 1) := by decide +kernel
theorem dX2_nextRest_21 : decode cX2_nextRest 21 = .ok (.goto 12, 3) := by decide +kernel
theorem dX2_nextRest_24 : decode cX2_nextRest 24 = .ok (.aload_n 0, 1) := by decide +kernel
theorem dX2_nextRest_25 : decode cX2_nextRest 25 = .ok (.getfield 7, 3) := by decide +kernel
theorem dX2_nextRest_28 : decode cX2_nextRest 28 = .ok (.bipush 16, 2) := by decide +kernel
theorem dX2_nextRest_30 : decode cX2_nextRest 30 = .ok (.iushr, 1) := by decide +kernel
theorem dX2_nextRest_31 : decode cX2_nextRest 31 = .ok (.iload_n 1, 1) := by decide +kernel
theorem dX2_nextRest_32 : decode cX2_nextRest 32 = .ok (.irem, 1) := by decide +kernel
theorem dX2_nextRest_33 : decode cX2_nextRest 33 = .ok (.ireturn, 1) := by decide +kernel
theorem dX3_init_0 : decode cX3_init 0 = .ok (.aload_n 0, 1) := by decide +kernel
theorem dX3_init_1 : decode cX3_init 1 = .ok (.invokespecial 3, 3) := by decide +kernel
theorem dX3_init_4 : decode cX3_init 4 = .ok (.aload_n 0, 1) := by decide +kernel
theorem dX3_init_5 : decode cX3_init 5 = .ok (.bipush 100, 2) := by decide +kernel
theorem dX3_init_7 : decode cX3_init 7 = .ok (.newarray .int, 2) := by decide +kernel
theorem dX3_init_9 : decode cX3_init 9 = .ok (.putfield 9, 3) := by decide +kernel
theorem dX3_init_12 : decode cX3_init 12 = .ok (.aload_n 0, 1) := by decide +kernel
theorem dX3_init_13 : decode cX3_init 13 = .ok (.iconst 0, 1) := by decide +kernel
theorem dX3_init_14 : decode cX3_init 14 = .ok (.putfield 15, 3) := by decide +kernel
theorem dX3_init_17 : decode cX3_init 17 = .ok (.return_, 1) := by decide +kernel
theorem dX3_follow_0 : decode cX3_follow 0 = .ok (.aload_n 0, 1) := by decide +kernel
theorem dX3_follow_1 : decode cX3_follow 1 = .ok (.iload 4, 2) := by decide +kernel
theorem dX3_follow_3 : decode cX3_follow 3 = .ok (.invokestatic 19, 3) := by decide +kernel
theorem dX3_follow_6 : decode cX3_follow 6 = .ok (.iconst 1, 1) := by decide +kernel
theorem dX3_follow_7 : decode cX3_follow 7 = .ok (.iadd, 1) := by decide +kernel
theorem dX3_follow_8 : decode cX3_follow 8 = .ok (.putfield 15, 3) := by decide +kernel
theorem dX3_follow_11 : decode cX3_follow 11 = .ok (.iconst 0, 1) := by decide +kernel
theorem dX3_follow_12 : decode cX3_follow 12 = .ok (.istore 5, 2) := by decide +kernel
theorem dX3_follow_14 : decode cX3_follow 14 = .ok (.iload 5, 2) := by decide +kernel
theorem dX3_follow_16 : decode cX3_follow 16 = .ok (.aload_n 0, 1) := by decide +kernel
theorem dX3_follow_17 : decode cX3_follow 17 = .ok (.getfield 15, 3) := by decide +kernel
theorem dX3_follow_20 : decode cX3_follow 20 = .ok (.if_icmp .ge 29, 3) := by decide +kernel
theorem dX3_follow_23 : decode cX3_follow 23 = .ok (.aload_n 0, 1) := by decide +kernel
theorem dX3_follow_24 : decode cX3_follow 24 = .ok (.getfield 9, 3) := by decide +kernel
theorem dX3_follow_27 : decode cX3_follow 27 = .ok (.iload 5, 2) := by decide +kernel
theorem dX3_follow_29 : decode cX3_follow 29 = .ok (.aload_n 1, 1) := by decide +kernel
theorem dX3_follow_30 : decode cX3_follow 30 = .ok (.iload_n 2, 1) := by decide +kernel
theorem dX3_follow_31 : decode cX3_follow 31 = .ok (.iload 4, 2) := by decide +kernel
theorem dX3_follow_33 : decode cX3_follow 33 = .ok (.iload 5, 2) := by decide +kernel
theorem dX3_follow_35 : decode cX3_follow 35 = .ok (.invokestatic 25, 3) := by decide +kernel
theorem dX3_follow_38 : decode cX3_follow 38 = .ok (.iload_n 3, 1) := by decide +kernel
theorem dX3_follow_39 : decode cX3_follow 39 = .ok (.invokevirtual 29, 3) := by decide +kernel
theorem dX3_follow_42 : decode cX3_follow 42 = .ok (.iastore, 1) := by decide +kernel
theorem dX3_follow_43 : decode cX3_follow 43 = .ok (.iinc 5 1, 3) := by decide +kernel
theorem dX3_follow_46 : decode cX3_follow 46 = .ok (.goto (-32), 3) := by decide +kernel
theorem dX3_follow_49 : decode cX3_follow 49 = .ok (.return_, 1) := by decide +kernel
theorem dX3_lessen_0 : decode cX3_lessen 0 = .ok (.iconst 0, 1) := by decide +kernel
theorem dX3_lessen_1 : decode cX3_lessen 1 = .ok (.istore 5, 2) := by decide +kernel
theorem dX3_lessen_3 : decode cX3_lessen 3 = .ok (.iload 5, 2) := by decide +kernel
theorem dX3_lessen_5 : decode cX3_lessen 5 = .ok (.aload_n 0, 1) := by decide +kernel
theorem dX3_lessen_6 : decode cX3_lessen 6 = .ok (.getfield 15, 3) := by decide +kernel
theorem dX3_lessen_9 : decode cX3_lessen 9 = .ok (.if_icmp .ge 32, 3) := by decide +kernel
theorem dX3_lessen_12 : decode cX3_lessen 12 = .ok (.aload_n 0, 1) := by decide +kernel
theorem dX3_lessen_13 : decode cX3_lessen 13 = .ok (.getfield 9, 3) := by decide +kernel
theorem dX3_lessen_16 : decode cX3_lessen 16 = .ok (.iload 5, 2) := by decide +kernel
theorem dX3_lessen_18 : decode cX3_lessen 18 = .ok (.dup2, 1) := by decide +kernel
theorem dX3_lessen_19 : decode cX3_lessen 19 = .ok (.iaload, 1) := by decide +kernel
theorem dX3_lessen_20 : decode cX3_lessen 20 = .ok (.aload_n 1, 1) := by decide +kernel
theorem dX3_lessen_21 : decode cX3_lessen 21 = .ok (.iload_n 2, 1) := by decide +kernel
theorem dX3_lessen_22 : decode cX3_lessen 22 = .ok (.iload 4, 2) := by decide +kernel
theorem dX3_lessen_24 : decode cX3_lessen 24 = .ok (.iload 5, 2) := by decide +kernel
theorem dX3_lessen_26 : decode cX3_lessen 26 = .ok (.invokestatic 25, 3) := by decide +kernel
theorem dX3_lessen_29 : decode cX3_lessen 29 = .ok (.iload_n 3, 1) := by decide +kernel
theorem dX3_lessen_30 : decode cX3_lessen 30 = .ok (.invokevirtual 29, 3) := by decide +kernel
theorem dX3_lessen_33 : decode cX3_lessen 33 = .ok (.isub, 1) := by decide +kernel
theorem dX3_lessen_34 : decode cX3_lessen 34 = .ok (.iastore, 1) := by decide +kernel
theorem dX3_lessen_35 : decode cX3_lessen 35 = .ok (.iinc 5 1, 3) := by decide +kernel
theorem dX3_lessen_38 : decode cX3_lessen 38 = .ok (.goto (-35), 3) := by decide +kernel
theorem dX3_lessen_41 : decode cX3_lessen 41 = .ok (.return_, 1) := by decide +kernel
theorem dX3_size_0 : decode cX3_size 0 = .ok (.aload_n 0, 1) := by decide +kernel
theorem dX3_size_1 : decode cX3_size 1 = .ok (.getfield 15, 3) := by decide +kernel
theorem dX3_size_4 : decode cX3_size 4 = .ok (.ireturn, 1) := by decide +kernel
theorem dX3_at_0 : decode cX3_at 0 = .ok (.aload_n 0, 1) := by decide +kernel
theorem dX3_at_1 : decode cX3_at 1 = .ok (.getfield 9, 3) := by decide +kernel
theorem dX3_at_4 : decode cX3_at 4 = .ok (.iload_n 1, 1) := by decide +kernel
theorem dX3_at_5 : decode cX3_at 5 = .ok (.iaload, 1) := by decide +kernel
theorem dX3_at_6 : decode cX3_at 6 = .ok (.ireturn, 1) := by decide +kernel
theorem dX3_leastOfMost_0 : decode cX3_leastOfMost 0 = .ok (.iconst 0, 1) := by decide +kernel
theorem dX3_leastOfMost_1 : decode cX3_leastOfMost 1 = .ok (.istore_n 1, 1) := by decide +kernel
theorem dX3_leastOfMost_2 : decode cX3_leastOfMost 2 = .ok (.iconst 1, 1) := by decide +kernel
