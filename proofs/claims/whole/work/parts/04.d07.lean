theorem dX11_bends_40 : decode cX11_bends 40 = .ok (.iload 10, 2) := by decide +kernel
theorem dX11_bends_42 : decode cX11_bends 42 = .ok (.iload_n 3, 1) := by decide +kernel
theorem dX11_bends_43 : decode cX11_bends 43 = .ok (.invokestatic 98, 3) := by decide +kernel
theorem dX11_bends_46 : decode cX11_bends 46 = .ok (.if_icmp .ge 128, 3) := by decide +kernel
theorem dX11_bends_49 : decode cX11_bends 49 = .ok (.aload_n 0, 1) := by decide +kernel
theorem dX11_bends_50 : decode cX11_bends 50 = .ok (.iload_n 1, 1) := by decide +kernel
theorem dX11_bends_51 : decode cX11_bends 51 = .ok (.iload_n 3, 1) := by decide +kernel
theorem dX11_bends_52 : decode cX11_bends 52 = .ok (.iload 10, 2) := by decide +kernel
theorem dX11_bends_54 : decode cX11_bends 54 = .ok (.invokestatic 151, 3) := by decide +kernel
theorem dX11_bends_57 : decode cX11_bends 57 = .ok (.iload_n 2, 1) := by decide +kernel
theorem dX11_bends_58 : decode cX11_bends 58 = .ok (.invokevirtual 142, 3) := by decide +kernel
theorem dX11_bends_61 : decode cX11_bends 61 = .ok (.aload_n 0, 1) := by decide +kernel
theorem dX11_bends_62 : decode cX11_bends 62 = .ok (.iload_n 1, 1) := by decide +kernel
theorem dX11_bends_63 : decode cX11_bends 63 = .ok (.iload_n 3, 1) := by decide +kernel
theorem dX11_bends_64 : decode cX11_bends 64 = .ok (.iload 10, 2) := by decide +kernel
theorem dX11_bends_66 : decode cX11_bends 66 = .ok (.iconst 1, 1) := by decide +kernel
theorem dX11_bends_67 : decode cX11_bends 67 = .ok (.isub, 1) := by decide +kernel
theorem dX11_bends_68 : decode cX11_bends 68 = .ok (.invokestatic 151, 3) := by decide +kernel
theorem dX11_bends_71 : decode cX11_bends 71 = .ok (.iload_n 2, 1) := by decide +kernel
theorem dX11_bends_72 : decode cX11_bends 72 = .ok (.invokevirtual 142, 3) := by decide +kernel
theorem dX11_bends_75 : decode cX11_bends 75 = .ok (.isub, 1) := by decide +kernel
theorem dX11_bends_76 : decode cX11_bends 76 = .ok (.istore 11, 2) := by decide +kernel
theorem dX11_bends_78 : decode cX11_bends 78 = .ok (.iload 10, 2) := by decide +kernel
theorem dX11_bends_80 : decode cX11_bends 80 = .ok (.iconst 1, 1) := by decide +kernel
theorem dX11_bends_81 : decode cX11_bends 81 = .ok (.if_icmp .le 14, 3) := by decide +kernel
theorem dX11_bends_84 : decode cX11_bends 84 = .ok (.iload 11, 2) := by decide +kernel
theorem dX11_bends_86 : decode cX11_bends 86 = .ok (.iload 9, 2) := by decide +kernel
theorem dX11_bends_88 : decode cX11_bends 88 = .ok (.if_icmp .eq 7, 3) := by decide +kernel
theorem dX11_bends_91 : decode cX11_bends 91 = .ok (.iconst 1, 1) := by decide +kernel
theorem dX11_bends_92 : decode cX11_bends 92 = .ok (.goto 4, 3) := by decide +kernel
theorem dX11_bends_95 : decode cX11_bends 95 = .ok (.iconst 0, 1) := by decide +kernel
theorem dX11_bends_96 : decode cX11_bends 96 = .ok (.istore 12, 2) := by decide +kernel
theorem dX11_bends_98 : decode cX11_bends 98 = .ok (.iload 5, 2) := by decide +kernel
theorem dX11_bends_100 : decode cX11_bends 100 = .ok (.iload 12, 2) := by decide +kernel
theorem dX11_bends_102 : decode cX11_bends 102 = .ok (.ifCond .eq 7, 3) := by decide +kernel
theorem dX11_bends_105 : decode cX11_bends 105 = .ok (.iconst 1, 1) := by decide +kernel
theorem dX11_bends_106 : decode cX11_bends 106 = .ok (.goto 4, 3) := by decide +kernel
theorem dX11_bends_109 : decode cX11_bends 109 = .ok (.iconst 0, 1) := by decide +kernel
theorem dX11_bends_110 : decode cX11_bends 110 = .ok (.iadd, 1) := by decide +kernel
theorem dX11_bends_111 : decode cX11_bends 111 = .ok (.istore 5, 2) := by decide +kernel
theorem dX11_bends_113 : decode cX11_bends 113 = .ok (.iload 6, 2) := by decide +kernel
theorem dX11_bends_115 : decode cX11_bends 115 = .ok (.iconst (-1), 1) := by decide +kernel
theorem dX11_bends_116 : decode cX11_bends 116 = .ok (.if_icmp .ne 13, 3) := by decide +kernel
theorem dX11_bends_119 : decode cX11_bends 119 = .ok (.iload 12, 2) := by decide +kernel
theorem dX11_bends_121 : decode cX11_bends 121 = .ok (.ifCond .eq 8, 3) := by decide +kernel
theorem dX11_bends_124 : decode cX11_bends 124 = .ok (.iload 10, 2) := by decide +kernel
theorem dX11_bends_126 : decode cX11_bends 126 = .ok (.goto 5, 3) := by decide +kernel
theorem dX11_bends_129 : decode cX11_bends 129 = .ok (.iload 6, 2) := by decide +kernel
theorem dX11_bends_131 : decode cX11_bends 131 = .ok (.istore 6, 2) := by decide +kernel
theorem dX11_bends_133 : decode cX11_bends 133 = .ok (.iload 11, 2) := by decide +kernel
theorem dX11_bends_135 : decode cX11_bends 135 = .ok (.ifCond .ne 10, 3) := by decide +kernel
theorem dX11_bends_138 : decode cX11_bends 138 = .ok (.iload 7, 2) := by decide +kernel
theorem dX11_bends_140 : decode cX11_bends 140 = .ok (.iconst 1, 1) := by decide +kernel
theorem dX11_bends_141 : decode cX11_bends 141 = .ok (.iadd, 1) := by decide +kernel
theorem dX11_bends_142 : decode cX11_bends 142 = .ok (.goto 4, 3) := by decide +kernel
theorem dX11_bends_145 : decode cX11_bends 145 = .ok (.iconst 1, 1) := by decide +kernel
theorem dX11_bends_146 : decode cX11_bends 146 = .ok (.istore 7, 2) := by decide +kernel
theorem dX11_bends_148 : decode cX11_bends 148 = .ok (.iload 7, 2) := by decide +kernel
theorem dX11_bends_150 : decode cX11_bends 150 = .ok (.iload 8, 2) := by decide +kernel
theorem dX11_bends_152 : decode cX11_bends 152 = .ok (.if_icmp .le 8, 3) := by decide +kernel
theorem dX11_bends_155 : decode cX11_bends 155 = .ok (.iload 7, 2) := by decide +kernel
theorem dX11_bends_157 : decode cX11_bends 157 = .ok (.goto 5, 3) := by decide +kernel
theorem dX11_bends_160 : decode cX11_bends 160 = .ok (.iload 8, 2) := by decide +kernel
theorem dX11_bends_162 : decode cX11_bends 162 = .ok (.istore 8, 2) := by decide +kernel
theorem dX11_bends_164 : decode cX11_bends 164 = .ok (.iload 11, 2) := by decide +kernel
theorem dX11_bends_166 : decode cX11_bends 166 = .ok (.istore 9, 2) := by decide +kernel
theorem dX11_bends_168 : decode cX11_bends 168 = .ok (.iinc 10 1, 3) := by decide +kernel
theorem dX11_bends_171 : decode cX11_bends 171 = .ok (.goto (-131), 3) := by decide +kernel
theorem dX11_bends_174 : decode cX11_bends 174 = .ok (.iload 4, 2) := by decide +kernel
theorem dX11_bends_176 : decode cX11_bends 176 = .ok (.ifCond .ne 8, 3) := by decide +kernel
theorem dX11_bends_179 : decode cX11_bends 179 = .ok (.iload 5, 2) := by decide +kernel
theorem dX11_bends_181 : decode cX11_bends 181 = .ok (.goto 16, 3) := by decide +kernel
theorem dX11_bends_184 : decode cX11_bends 184 = .ok (.iload 4, 2) := by decide +kernel
theorem dX11_bends_186 : decode cX11_bends 186 = .ok (.iconst 1, 1) := by decide +kernel
theorem dX11_bends_187 : decode cX11_bends 187 = .ok (.if_icmp .ne 8, 3) := by decide +kernel
theorem dX11_bends_190 : decode cX11_bends 190 = .ok (.iload 6, 2) := by decide +kernel
theorem dX11_bends_192 : decode cX11_bends 192 = .ok (.goto 5, 3) := by decide +kernel
theorem dX11_bends_195 : decode cX11_bends 195 = .ok (.iload 8, 2) := by decide +kernel
theorem dX11_bends_197 : decode cX11_bends 197 = .ok (.ireturn, 1) := by decide +kernel
theorem dX11_enough_0 : decode cX11_enough 0 = .ok (.iload_n 1, 1) := by decide +kernel
theorem dX11_enough_1 : decode cX11_enough 1 = .ok (.iload_n 2, 1) := by decide +kernel
theorem dX11_enough_2 : decode cX11_enough 2 = .ok (.iload_n 3, 1) := by decide +kernel
theorem dX11_enough_3 : decode cX11_enough 3 = .ok (.invokestatic 148, 3) := by decide +kernel
theorem dX11_enough_6 : decode cX11_enough 6 = .ok (.ifCond .eq 8, 3) := by decide +kernel
theorem dX11_enough_9 : decode cX11_enough 9 = .ok (.iload 4, 2) := by decide +kernel
theorem dX11_enough_11 : decode cX11_enough 11 = .ok (.ifCond .ge 6, 3) := by decide +kernel
theorem dX11_enough_14 : decode cX11_enough 14 = .ok (.bipush (-2), 2) := by decide +kernel
theorem dX11_enough_16 : decode cX11_enough 16 = .ok (.ireturn, 1) := by decide +kernel
theorem dX11_enough_17 : decode cX11_enough 17 = .ok (.iconst 0, 1) := by decide +kernel
theorem dX11_enough_18 : decode cX11_enough 18 = .ok (.istore 5, 2) := by decide +kernel
theorem dX11_enough_20 : decode cX11_enough 20 = .ok (.iload 5, 2) := by decide +kernel
theorem dX11_enough_22 : decode cX11_enough 22 = .ok (.iload_n 3, 1) := by decide +kernel
theorem dX11_enough_23 : decode cX11_enough 23 = .ok (.invokestatic 98, 3) := by decide +kernel
theorem dX11_enough_26 : decode cX11_enough 26 = .ok (.if_icmp .ge 29, 3) := by decide +kernel
theorem dX11_enough_29 : decode cX11_enough 29 = .ok (.aload_n 0, 1) := by decide +kernel
theorem dX11_enough_30 : decode cX11_enough 30 = .ok (.iload_n 1, 1) := by decide +kernel
theorem dX11_enough_31 : decode cX11_enough 31 = .ok (.iload_n 3, 1) := by decide +kernel
theorem dX11_enough_32 : decode cX11_enough 32 = .ok (.iload 5, 2) := by decide +kernel
theorem dX11_enough_34 : decode cX11_enough 34 = .ok (.invokestatic 151, 3) := by decide +kernel
theorem dX11_enough_37 : decode cX11_enough 37 = .ok (.iload_n 2, 1) := by decide +kernel
theorem dX11_enough_38 : decode cX11_enough 38 = .ok (.invokevirtual 142, 3) := by decide +kernel
theorem dX11_enough_41 : decode cX11_enough 41 = .ok (.iload 4, 2) := by decide +kernel
theorem dX11_enough_43 : decode cX11_enough 43 = .ok (.if_icmp .lt 6, 3) := by decide +kernel
theorem dX11_enough_46 : decode cX11_enough 46 = .ok (.iload 5, 2) := by decide +kernel
theorem dX11_enough_48 : decode cX11_enough 48 = .ok (.ireturn, 1) := by decide +kernel
theorem dX11_enough_49 : decode cX11_enough 49 = .ok (.iinc 5 1, 3) := by decide +kernel
theorem dX11_enough_52 : decode cX11_enough 52 = .ok (.goto (-32), 3) := by decide +kernel
theorem dX11_enough_55 : decode cX11_enough 55 = .ok (.iconst (-1), 1) := by decide +kernel
theorem dX11_enough_56 : decode cX11_enough 56 = .ok (.ireturn, 1) := by decide +kernel
theorem dX11_share_0 : decode cX11_share 0 = .ok (.iload_n 1, 1) := by decide +kernel
theorem dX11_share_1 : decode cX11_share 1 = .ok (.iload_n 2, 1) := by decide +kernel
theorem dX11_share_2 : decode cX11_share 2 = .ok (.invokestatic 139, 3) := by decide +kernel
theorem dX11_share_5 : decode cX11_share 5 = .ok (.ifCond .eq 13, 3) := by decide +kernel
theorem dX11_share_8 : decode cX11_share 8 = .ok (.iload_n 3, 1) := by decide +kernel
theorem dX11_share_9 : decode cX11_share 9 = .ok (.iconst 1, 1) := by decide +kernel
theorem dX11_share_10 : decode cX11_share 10 = .ok (.bipush 9, 2) := by decide +kernel
theorem dX11_share_12 : decode cX11_share 12 = .ok (.invokestatic 64, 3) := by decide +kernel
theorem dX11_share_15 : decode cX11_share 15 = .ok (.ifCond .ne 7, 3) := by decide +kernel
theorem dX11_share_18 : decode cX11_share 18 = .ok (.ldc2_w 155, 3) := by decide +kernel
theorem dX11_share_21 : decode cX11_share 21 = .ok (.lreturn, 1) := by decide +kernel
theorem dX11_share_22 : decode cX11_share 22 = .ok (.aload_n 0, 1) := by decide +kernel
theorem dX11_share_23 : decode cX11_share 23 = .ok (.iload_n 1, 1) := by decide +kernel
theorem dX11_share_24 : decode cX11_share 24 = .ok (.iload_n 2, 1) := by decide +kernel
theorem dX11_share_25 : decode cX11_share 25 = .ok (.invokevirtual 142, 3) := by decide +kernel
theorem dX11_share_28 : decode cX11_share 28 = .ok (.i2d, 1) := by decide +kernel
theorem dX11_share_29 : decode cX11_share 29 = .ok (.iload_n 3, 1) := by decide +kernel
theorem dX11_share_30 : decode cX11_share 30 = .ok (.i2d, 1) := by decide +kernel
theorem dX11_share_31 : decode cX11_share 31 = .ok (.ddiv, 1) := by decide +kernel
theorem dX11_share_32 : decode cX11_share 32 = .ok (.invokestatic 157, 3) := by decide +kernel
theorem dX11_share_35 : decode cX11_share 35 = .ok (.lreturn, 1) := by decide +kernel
theorem dX11_draw_0 : decode cX11_draw 0 = .ok (.aload_n 0, 1) := by decide +kernel
theorem dX11_draw_1 : decode cX11_draw 1 = .ok (.aload_n 0, 1) := by decide +kernel
theorem dX11_draw_2 : decode cX11_draw 2 = .ok (.getfield 19, 3) := by decide +kernel
theorem dX11_draw_5 : decode cX11_draw 5 = .ok (.ldc 163, 2) := by decide +kernel
theorem dX11_draw_7 : decode cX11_draw 7 = .ok (.imul, 1) := by decide +kernel
theorem dX11_draw_8 : decode cX11_draw 8 = .ok (.sipush 12345, 3) := by decide +kernel
theorem dX11_draw_11 : decode cX11_draw 11 = .ok (.iadd, 1) := by decide +kernel
theorem dX11_draw_12 : decode cX11_draw 12 = .ok (.putfield 19, 3) := by decide +kernel
theorem dX11_draw_15 : decode cX11_draw 15 = .ok (.aload_n 0, 1) := by decide +kernel
theorem dX11_draw_16 : decode cX11_draw 16 = .ok (.getfield 19, 3) := by decide +kernel
theorem dX11_draw_19 : decode cX11_draw 19 = .ok (.bipush 16, 2) := by decide +kernel
theorem dX11_draw_21 : decode cX11_draw 21 = .ok (.iushr, 1) := by decide +kernel
theorem dX11_draw_22 : decode cX11_draw 22 = .ok (.ireturn, 1) := by decide +kernel
theorem dX11_drawnOne_0 : decode cX11_drawnOne 0 = .ok (.iconst 0, 1) := by decide +kernel
theorem dX11_drawnOne_1 : decode cX11_drawnOne 1 = .ok (.istore_n 1, 1) := by decide +kernel
theorem dX11_drawnOne_2 : decode cX11_drawnOne 2 = .ok (.iconst 0, 1) := by decide +kernel
theorem dX11_drawnOne_3 : decode cX11_drawnOne 3 = .ok (.istore_n 2, 1) := by decide +kernel
theorem dX11_drawnOne_4 : decode cX11_drawnOne 4 = .ok (.iload_n 2, 1) := by decide +kernel
theorem dX11_drawnOne_5 : decode cX11_drawnOne 5 = .ok (.iconst 5, 1) := by decide +kernel
theorem dX11_drawnOne_6 : decode cX11_drawnOne 6 = .ok (.if_icmp .ge 26, 3) := by decide +kernel
theorem dX11_drawnOne_9 : decode cX11_drawnOne 9 = .ok (.iload_n 1, 1) := by decide +kernel
theorem dX11_drawnOne_10 : decode cX11_drawnOne 10 = .ok (.aload_n 0, 1) := by decide +kernel
theorem dX11_drawnOne_11 : decode cX11_drawnOne 11 = .ok (.invokevirtual 164, 3) := by decide +kernel
theorem dX11_drawnOne_14 : decode cX11_drawnOne 14 = .ok (.iload_n 2, 1) := by decide +kernel
theorem dX11_drawnOne_15 : decode cX11_drawnOne 15 = .ok (.invokestatic 98, 3) := by decide +kernel
theorem dX11_drawnOne_18 : decode cX11_drawnOne 18 = .ok (.irem, 1) := by decide +kernel
theorem dX11_drawnOne_19 : decode cX11_drawnOne 19 = .ok (.iload_n 2, 1) := by decide +kernel
theorem dX11_drawnOne_20 : decode cX11_drawnOne 20 = .ok (.invokestatic 94, 3) := by decide +kernel
theorem dX11_drawnOne_23 : decode cX11_drawnOne 23 = .ok (.imul, 1) := by decide +kernel
theorem dX11_drawnOne_24 : decode cX11_drawnOne 24 = .ok (.iadd, 1) := by decide +kernel
theorem dX11_drawnOne_25 : decode cX11_drawnOne 25 = .ok (.istore_n 1, 1) := by decide +kernel
theorem dX11_drawnOne_26 : decode cX11_drawnOne 26 = .ok (.iinc 2 1, 3) := by decide +kernel
theorem dX11_drawnOne_29 : decode cX11_drawnOne 29 = .ok (.goto (-25), 3) := by decide +kernel
theorem dX11_drawnOne_32 : decode cX11_drawnOne 32 = .ok (.iload_n 1, 1) := by decide +kernel
theorem dX11_drawnOne_33 : decode cX11_drawnOne 33 = .ok (.ireturn, 1) := by decide +kernel
theorem dX11_mean_0 : decode cX11_mean 0 = .ok (.iload_n 1, 1) := by decide +kernel
theorem dX11_mean_1 : decode cX11_mean 1 = .ok (.invokestatic 136, 3) := by decide +kernel
theorem dX11_mean_4 : decode cX11_mean 4 = .ok (.ifCond .eq 13, 3) := by decide +kernel
theorem dX11_mean_7 : decode cX11_mean 7 = .ok (.iload_n 2, 1) := by decide +kernel
theorem dX11_mean_8 : decode cX11_mean 8 = .ok (.iconst 1, 1) := by decide +kernel
theorem dX11_mean_9 : decode cX11_mean 9 = .ok (.bipush 20, 2) := by decide +kernel
theorem dX11_mean_11 : decode cX11_mean 11 = .ok (.invokestatic 64, 3) := by decide +kernel
theorem dX11_mean_14 : decode cX11_mean 14 = .ok (.ifCond .ne 6, 3) := by decide +kernel
theorem dX11_mean_17 : decode cX11_mean 17 = .ok (.bipush (-2), 2) := by decide +kernel
theorem dX11_mean_19 : decode cX11_mean 19 = .ok (.ireturn, 1) := by decide +kernel
theorem dX11_mean_20 : decode cX11_mean 20 = .ok (.aload_n 0, 1) := by decide +kernel
theorem dX11_mean_21 : decode cX11_mean 21 = .ok (.getfield 19, 3) := by decide +kernel
theorem dX11_mean_24 : decode cX11_mean 24 = .ok (.istore_n 3, 1) := by decide +kernel
theorem dX11_mean_25 : decode cX11_mean 25 = .ok (.fconst 0, 1) := by decide +kernel
theorem dX11_mean_26 : decode cX11_mean 26 = .ok (.fstore 4, 2) := by decide +kernel
theorem dX11_mean_28 : decode cX11_mean 28 = .ok (.iconst 0, 1) := by decide +kernel
theorem dX11_mean_29 : decode cX11_mean 29 = .ok (.istore 5, 2) := by decide +kernel
theorem dX11_mean_31 : decode cX11_mean 31 = .ok (.iload 5, 2) := by decide +kernel
theorem dX11_mean_33 : decode cX11_mean 33 = .ok (.iload_n 2, 1) := by decide +kernel
theorem dX11_mean_34 : decode cX11_mean 34 = .ok (.if_icmp .ge 38, 3) := by decide +kernel
theorem dX11_mean_37 : decode cX11_mean 37 = .ok (.aload_n 0, 1) := by decide +kernel
theorem dX11_mean_38 : decode cX11_mean 38 = .ok (.invokevirtual 168, 3) := by decide +kernel
theorem dX11_mean_41 : decode cX11_mean 41 = .ok (.istore 6, 2) := by decide +kernel
theorem dX11_mean_43 : decode cX11_mean 43 = .ok (.fload 4, 2) := by decide +kernel
theorem dX11_mean_45 : decode cX11_mean 45 = .ok (.aload_n 0, 1) := by decide +kernel
theorem dX11_mean_46 : decode cX11_mean 46 = .ok (.iload 6, 2) := by decide +kernel
theorem dX11_mean_48 : decode cX11_mean 48 = .ok (.iload_n 1, 1) := by decide +kernel
theorem dX11_mean_49 : decode cX11_mean 49 = .ok (.invokevirtual 142, 3) := by decide +kernel
theorem dX11_mean_52 : decode cX11_mean 52 = .ok (.i2f, 1) := by decide +kernel
theorem dX11_mean_53 : decode cX11_mean 53 = .ok (.iconst 1, 1) := by decide +kernel
theorem dX11_mean_54 : decode cX11_mean 54 = .ok (.iload 6, 2) := by decide +kernel
theorem dX11_mean_56 : decode cX11_mean 56 = .ok (.iconst 2, 1) := by decide +kernel
theorem dX11_mean_57 : decode cX11_mean 57 = .ok (.invokestatic 101, 3) := by decide +kernel
theorem dX11_mean_60 : decode cX11_mean 60 = .ok (.iadd, 1) := by decide +kernel
theorem dX11_mean_61 : decode cX11_mean 61 = .ok (.i2f, 1) := by decide +kernel
theorem dX11_mean_62 : decode cX11_mean 62 = .ok (.fdiv, 1) := by decide +kernel
theorem dX11_mean_63 : decode cX11_mean 63 = .ok (.fadd, 1) := by decide +kernel
theorem dX11_mean_64 : decode cX11_mean 64 = .ok (.fstore 4, 2) := by decide +kernel
theorem dX11_mean_66 : decode cX11_mean 66 = .ok (.iinc 5 1, 3) := by decide +kernel
theorem dX11_mean_69 : decode cX11_mean 69 = .ok (.goto (-38), 3) := by decide +kernel
theorem dX11_mean_72 : decode cX11_mean 72 = .ok (.aload_n 0, 1) := by decide +kernel
theorem dX11_mean_73 : decode cX11_mean 73 = .ok (.iload_n 3, 1) := by decide +kernel
theorem dX11_mean_74 : decode cX11_mean 74 = .ok (.putfield 19, 3) := by decide +kernel
theorem dX11_mean_77 : decode cX11_mean 77 = .ok (.fload 4, 2) := by decide +kernel
theorem dX11_mean_79 : decode cX11_mean 79 = .ok (.invokestatic 171, 3) := by decide +kernel
theorem dX11_mean_82 : decode cX11_mean 82 = .ok (.ireturn, 1) := by decide +kernel
theorem dX11_until_0 : decode cX11_until 0 = .ok (.iload_n 1, 1) := by decide +kernel
theorem dX11_until_1 : decode cX11_until 1 = .ok (.iload_n 2, 1) := by decide +kernel
theorem dX11_until_2 : decode cX11_until 2 = .ok (.invokestatic 139, 3) := by decide +kernel
theorem dX11_until_5 : decode cX11_until 5 = .ok (.ifCond .ne 6, 3) := by decide +kernel
theorem dX11_until_8 : decode cX11_until 8 = .ok (.bipush (-2), 2) := by decide +kernel
theorem dX11_until_10 : decode cX11_until 10 = .ok (.ireturn, 1) := by decide +kernel
theorem dX11_until_11 : decode cX11_until 11 = .ok (.aload_n 0, 1) := by decide +kernel
theorem dX11_until_12 : decode cX11_until 12 = .ok (.iload_n 1, 1) := by decide +kernel
theorem dX11_until_13 : decode cX11_until 13 = .ok (.iload_n 2, 1) := by decide +kernel
theorem dX11_until_14 : decode cX11_until 14 = .ok (.invokevirtual 142, 3) := by decide +kernel
theorem dX11_until_17 : decode cX11_until 17 = .ok (.istore_n 3, 1) := by decide +kernel
theorem dX11_until_18 : decode cX11_until 18 = .ok (.iload_n 2, 1) := by decide +kernel
theorem dX11_until_19 : decode cX11_until 19 = .ok (.iconst 1, 1) := by decide +kernel
theorem dX11_until_20 : decode cX11_until 20 = .ok (.iadd, 1) := by decide +kernel
theorem dX11_until_21 : decode cX11_until 21 = .ok (.istore 4, 2) := by decide +kernel
theorem dX11_until_23 : decode cX11_until 23 = .ok (.iload 4, 2) := by decide +kernel
theorem dX11_until_25 : decode cX11_until 25 = .ok (.sipush 999, 3) := by decide +kernel
theorem dX11_until_28 : decode cX11_until 28 = .ok (.if_icmp .gt 23, 3) := by decide +kernel
theorem dX11_until_31 : decode cX11_until 31 = .ok (.aload_n 0, 1) := by decide +kernel
theorem dX11_until_32 : decode cX11_until 32 = .ok (.iload_n 1, 1) := by decide +kernel
theorem dX11_until_33 : decode cX11_until 33 = .ok (.iload 4, 2) := by decide +kernel
theorem dX11_until_35 : decode cX11_until 35 = .ok (.invokevirtual 142, 3) := by decide +kernel
theorem dX11_until_38 : decode cX11_until 38 = .ok (.iload_n 3, 1) := by decide +kernel
theorem dX11_until_39 : decode cX11_until 39 = .ok (.if_icmp .eq 6, 3) := by decide +kernel
theorem dX11_until_42 : decode cX11_until 42 = .ok (.iload 4, 2) := by decide +kernel
theorem dX11_until_44 : decode cX11_until 44 = .ok (.ireturn, 1) := by decide +kernel
theorem dX11_until_45 : decode cX11_until 45 = .ok (.iinc 4 1, 3) := by decide +kernel
theorem dX11_until_48 : decode cX11_until 48 = .ok (.goto (-25), 3) := by decide +kernel
theorem dX11_until_51 : decode cX11_until 51 = .ok (.iconst (-1), 1) := by decide +kernel
theorem dX11_until_52 : decode cX11_until 52 = .ok (.ireturn, 1) := by decide +kernel
theorem dX11_mark_0 : decode cX11_mark 0 = .ok (.iconst 0, 1) := by decide +kernel
theorem dX11_mark_1 : decode cX11_mark 1 = .ok (.istore_n 1, 1) := by decide +kernel
theorem dX11_mark_2 : decode cX11_mark 2 = .ok (.iload_n 1, 1) := by decide +kernel
theorem dX11_mark_3 : decode cX11_mark 3 = .ok (.sipush 132, 3) := by decide +kernel
theorem dX11_mark_6 : decode cX11_mark 6 = .ok (.if_icmp .ge 21, 3) := by decide +kernel
theorem dX11_mark_9 : decode cX11_mark 9 = .ok (.aload_n 0, 1) := by decide +kernel
theorem dX11_mark_10 : decode cX11_mark 10 = .ok (.getfield 13, 3) := by decide +kernel
theorem dX11_mark_13 : decode cX11_mark 13 = .ok (.iload_n 1, 1) := by decide +kernel
theorem dX11_mark_14 : decode cX11_mark 14 = .ok (.aload_n 0, 1) := by decide +kernel
theorem dX11_mark_15 : decode cX11_mark 15 = .ok (.getfield 7, 3) := by decide +kernel
theorem dX11_mark_18 : decode cX11_mark 18 = .ok (.iload_n 1, 1) := by decide +kernel
theorem dX11_mark_19 : decode cX11_mark 19 = .ok (.iaload, 1) := by decide +kernel
theorem dX11_mark_20 : decode cX11_mark 20 = .ok (.iastore, 1) := by decide +kernel
theorem dX11_mark_21 : decode cX11_mark 21 = .ok (.iinc 1 1, 3) := by decide +kernel
theorem dX11_mark_24 : decode cX11_mark 24 = .ok (.goto (-22), 3) := by decide +kernel
theorem dX11_mark_27 : decode cX11_mark 27 = .ok (.aload_n 0, 1) := by decide +kernel
theorem dX11_mark_28 : decode cX11_mark 28 = .ok (.aload_n 0, 1) := by decide +kernel
theorem dX11_mark_29 : decode cX11_mark 29 = .ok (.getfield 61, 3) := by decide +kernel
theorem dX11_mark_32 : decode cX11_mark 32 = .ok (.putfield 177, 3) := by decide +kernel
theorem dX11_mark_35 : decode cX11_mark 35 = .ok (.aload_n 0, 1) := by decide +kernel
theorem dX11_mark_36 : decode cX11_mark 36 = .ok (.getfield 61, 3) := by decide +kernel
theorem dX11_mark_39 : decode cX11_mark 39 = .ok (.ireturn, 1) := by decide +kernel
theorem dX11_touchedBy_0 : decode cX11_touchedBy 0 = .ok (.aload_n 0, 1) := by decide +kernel
theorem dX11_touchedBy_1 : decode cX11_touchedBy 1 = .ok (.iload_n 1, 1) := by decide +kernel
theorem dX11_touchedBy_2 : decode cX11_touchedBy 2 = .ok (.iload_n 2, 1) := by decide +kernel
theorem dX11_touchedBy_3 : decode cX11_touchedBy 3 = .ok (.invokevirtual 142, 3) := by decide +kernel
theorem dX11_touchedBy_6 : decode cX11_touchedBy 6 = .ok (.aload_n 0, 1) := by decide +kernel
theorem dX11_touchedBy_7 : decode cX11_touchedBy 7 = .ok (.aload_n 0, 1) := by decide +kernel
theorem dX11_touchedBy_8 : decode cX11_touchedBy 8 = .ok (.getfield 13, 3) := by decide +kernel
theorem dX11_touchedBy_11 : decode cX11_touchedBy 11 = .ok (.aload_n 0, 1) := by decide +kernel
theorem dX11_touchedBy_12 : decode cX11_touchedBy 12 = .ok (.getfield 177, 3) := by decide +kernel
theorem dX11_touchedBy_15 : decode cX11_touchedBy 15 = .ok (.iload_n 1, 1) := by decide +kernel
theorem dX11_touchedBy_16 : decode cX11_touchedBy 16 = .ok (.iload_n 2, 1) := by decide +kernel
theorem dX11_touchedBy_17 : decode cX11_touchedBy 17 = .ok (.invokevirtual 132, 3) := by decide +kernel
theorem dX11_touchedBy_20 : decode cX11_touchedBy 20 = .ok (.isub, 1) := by decide +kernel
theorem dX11_touchedBy_21 : decode cX11_touchedBy 21 = .ok (.ireturn, 1) := by decide +kernel
theorem dX11_touched_0 : decode cX11_touched 0 = .ok (.iload_n 1, 1) := by decide +kernel
theorem dX11_touched_1 : decode cX11_touched 1 = .ok (.iload_n 2, 1) := by decide +kernel
theorem dX11_touched_2 : decode cX11_touched 2 = .ok (.invokestatic 139, 3) := by decide +kernel
theorem dX11_touched_5 : decode cX11_touched 5 = .ok (.ifCond .eq 12, 3) := by decide +kernel
theorem dX11_touched_8 : decode cX11_touched 8 = .ok (.aload_n 0, 1) := by decide +kernel
theorem dX11_touched_9 : decode cX11_touched 9 = .ok (.iload_n 1, 1) := by decide +kernel
theorem dX11_touched_10 : decode cX11_touched 10 = .ok (.iload_n 2, 1) := by decide +kernel
theorem dX11_touched_11 : decode cX11_touched 11 = .ok (.invokevirtual 180, 3) := by decide +kernel
theorem dX11_touched_14 : decode cX11_touched 14 = .ok (.goto 5, 3) := by decide +kernel
theorem dX11_touched_17 : decode cX11_touched 17 = .ok (.bipush (-2), 2) := by decide +kernel
theorem dX11_touched_19 : decode cX11_touched 19 = .ok (.ireturn, 1) := by decide +kernel
theorem dX11_touches_0 : decode cX11_touches 0 = .ok (.iload_n 1, 1) := by decide +kernel
theorem dX11_touches_1 : decode cX11_touches 1 = .ok (.iload_n 2, 1) := by decide +kernel
theorem dX11_touches_2 : decode cX11_touches 2 = .ok (.iload_n 3, 1) := by decide +kernel
theorem dX11_touches_3 : decode cX11_touches 3 = .ok (.invokestatic 148, 3) := by decide +kernel
theorem dX11_touches_6 : decode cX11_touches 6 = .ok (.ifCond .eq 13, 3) := by decide +kernel
theorem dX11_touches_9 : decode cX11_touches 9 = .ok (.iload 4, 2) := by decide +kernel
theorem dX11_touches_11 : decode cX11_touches 11 = .ok (.iconst 0, 1) := by decide +kernel
theorem dX11_touches_12 : decode cX11_touches 12 = .ok (.iconst 3, 1) := by decide +kernel
theorem dX11_touches_13 : decode cX11_touches 13 = .ok (.invokestatic 64, 3) := by decide +kernel
theorem dX11_touches_16 : decode cX11_touches 16 = .ok (.ifCond .ne 6, 3) := by decide +kernel
theorem dX11_touches_19 : decode cX11_touches 19 = .ok (.bipush (-2), 2) := by decide +kernel
theorem dX11_touches_21 : decode cX11_touches 21 = .ok (.ireturn, 1) := by decide +kernel
theorem dX11_touches_22 : decode cX11_touches 22 = .ok (.iconst 0, 1) := by decide +kernel
theorem dX11_touches_23 : decode cX11_touches 23 = .ok (.istore 5, 2) := by decide +kernel
theorem dX11_touches_25 : decode cX11_touches 25 = .ok (.iconst (-1), 1) := by decide +kernel
theorem dX11_touches_26 : decode cX11_touches 26 = .ok (.istore 6, 2) := by decide +kernel
theorem dX11_touches_28 : decode cX11_touches 28 = .ok (.iconst 0, 1) := by decide +kernel
theorem dX11_touches_29 : decode cX11_touches 29 = .ok (.istore 7, 2) := by decide +kernel
theorem dX11_touches_31 : decode cX11_touches 31 = .ok (.iconst 0, 1) := by decide +kernel
theorem dX11_touches_32 : decode cX11_touches 32 = .ok (.istore 8, 2) := by decide +kernel
theorem dX11_touches_34 : decode cX11_touches 34 = .ok (.iconst 0, 1) := by decide +kernel
theorem dX11_touches_35 : decode cX11_touches 35 = .ok (.istore 9, 2) := by decide +kernel
theorem dX11_touches_37 : decode cX11_touches 37 = .ok (.iload 9, 2) := by decide +kernel
theorem dX11_touches_39 : decode cX11_touches 39 = .ok (.iload_n 3, 1) := by decide +kernel
theorem dX11_touches_40 : decode cX11_touches 40 = .ok (.invokestatic 98, 3) := by decide +kernel
theorem dX11_touches_43 : decode cX11_touches 43 = .ok (.if_icmp .ge 103, 3) := by decide +kernel
theorem dX11_touches_46 : decode cX11_touches 46 = .ok (.aload_n 0, 1) := by decide +kernel
theorem dX11_touches_47 : decode cX11_touches 47 = .ok (.iload_n 1, 1) := by decide +kernel
theorem dX11_touches_48 : decode cX11_touches 48 = .ok (.iload_n 3, 1) := by decide +kernel
theorem dX11_touches_49 : decode cX11_touches 49 = .ok (.iload 9, 2) := by decide +kernel
theorem dX11_touches_51 : decode cX11_touches 51 = .ok (.invokestatic 151, 3) := by decide +kernel
theorem dX11_touches_54 : decode cX11_touches 54 = .ok (.iload_n 2, 1) := by decide +kernel
theorem dX11_touches_55 : decode cX11_touches 55 = .ok (.invokevirtual 180, 3) := by decide +kernel
theorem dX11_touches_58 : decode cX11_touches 58 = .ok (.istore 10, 2) := by decide +kernel
theorem dX11_touches_60 : decode cX11_touches 60 = .ok (.iload 5, 2) := by decide +kernel
theorem dX11_touches_62 : decode cX11_touches 62 = .ok (.iload 10, 2) := by decide +kernel
theorem dX11_touches_64 : decode cX11_touches 64 = .ok (.ifCond .ne 7, 3) := by decide +kernel
theorem dX11_touches_67 : decode cX11_touches 67 = .ok (.iconst 0, 1) := by decide +kernel
theorem dX11_touches_68 : decode cX11_touches 68 = .ok (.goto 4, 3) := by decide +kernel
theorem dX11_touches_71 : decode cX11_touches 71 = .ok (.iconst 1, 1) := by decide +kernel
theorem dX11_touches_72 : decode cX11_touches 72 = .ok (.iadd, 1) := by decide +kernel
theorem dX11_touches_73 : decode cX11_touches 73 = .ok (.istore 5, 2) := by decide +kernel
theorem dX11_touches_75 : decode cX11_touches 75 = .ok (.iload 6, 2) := by decide +kernel
theorem dX11_touches_77 : decode cX11_touches 77 = .ok (.iconst (-1), 1) := by decide +kernel
theorem dX11_touches_78 : decode cX11_touches 78 = .ok (.if_icmp .ne 13, 3) := by decide +kernel
theorem dX11_touches_81 : decode cX11_touches 81 = .ok (.iload 10, 2) := by decide +kernel
theorem dX11_touches_83 : decode cX11_touches 83 = .ok (.ifCond .eq 8, 3) := by decide +kernel
theorem dX11_touches_86 : decode cX11_touches 86 = .ok (.iload 9, 2) := by decide +kernel
theorem dX11_touches_88 : decode cX11_touches 88 = .ok (.goto 5, 3) := by decide +kernel
theorem dX11_touches_91 : decode cX11_touches 91 = .ok (.iload 6, 2) := by decide +kernel
theorem dX11_touches_93 : decode cX11_touches 93 = .ok (.istore 6, 2) := by decide +kernel
theorem dX11_touches_95 : decode cX11_touches 95 = .ok (.iload 10, 2) := by decide +kernel
theorem dX11_touches_97 : decode cX11_touches 97 = .ok (.iload 7, 2) := by decide +kernel
theorem dX11_touches_99 : decode cX11_touches 99 = .ok (.if_icmp .le 8, 3) := by decide +kernel
theorem dX11_touches_102 : decode cX11_touches 102 = .ok (.iload 10, 2) := by decide +kernel
theorem dX11_touches_104 : decode cX11_touches 104 = .ok (.goto 19, 3) := by decide +kernel
theorem dX11_touches_107 : decode cX11_touches 107 = .ok (.iload 10, 2) := by decide +kernel
theorem dX11_touches_109 : decode cX11_touches 109 = .ok (.ineg, 1) := by decide +kernel
theorem dX11_touches_110 : decode cX11_touches 110 = .ok (.iload 7, 2) := by decide +kernel
theorem dX11_touches_112 : decode cX11_touches 112 = .ok (.if_icmp .le 9, 3) := by decide +kernel
theorem dX11_touches_115 : decode cX11_touches 115 = .ok (.iload 10, 2) := by decide +kernel
theorem dX11_touches_117 : decode cX11_touches 117 = .ok (.ineg, 1) := by decide +kernel
theorem dX11_touches_118 : decode cX11_touches 118 = .ok (.goto 5, 3) := by decide +kernel
theorem dX11_touches_121 : decode cX11_touches 121 = .ok (.iload 7, 2) := by decide +kernel
theorem dX11_touches_123 : decode cX11_touches 123 = .ok (.istore 7, 2) := by decide +kernel
theorem dX11_touches_125 : decode cX11_touches 125 = .ok (.iload 8, 2) := by decide +kernel
theorem dX11_touches_127 : decode cX11_touches 127 = .ok (.iload 10, 2) := by decide +kernel
theorem dX11_touches_129 : decode cX11_touches 129 = .ok (.ifCond .ge 7, 3) := by decide +kernel
theorem dX11_touches_132 : decode cX11_touches 132 = .ok (.iconst 1, 1) := by decide +kernel
theorem dX11_touches_133 : decode cX11_touches 133 = .ok (.goto 4, 3) := by decide +kernel
theorem dX11_touches_136 : decode cX11_touches 136 = .ok (.iconst 0, 1) := by decide +kernel
theorem dX11_touches_137 : decode cX11_touches 137 = .ok (.iadd, 1) := by decide +kernel
theorem dX11_touches_138 : decode cX11_touches 138 = .ok (.istore 8, 2) := by decide +kernel
theorem dX11_touches_140 : decode cX11_touches 140 = .ok (.iinc 9 1, 3) := by decide +kernel
theorem dX11_touches_143 : decode cX11_touches 143 = .ok (.goto (-106), 3) := by decide +kernel
theorem dX11_touches_146 : decode cX11_touches 146 = .ok (.iload 4, 2) := by decide +kernel
theorem dX11_touches_148 : decode cX11_touches 148 = .ok (.ifCond .ne 8, 3) := by decide +kernel
theorem dX11_touches_151 : decode cX11_touches 151 = .ok (.iload 5, 2) := by decide +kernel
theorem dX11_touches_153 : decode cX11_touches 153 = .ok (.goto 27, 3) := by decide +kernel
theorem dX11_touches_156 : decode cX11_touches 156 = .ok (.iload 4, 2) := by decide +kernel
theorem dX11_touches_158 : decode cX11_touches 158 = .ok (.iconst 1, 1) := by decide +kernel
theorem dX11_touches_159 : decode cX11_touches 159 = .ok (.if_icmp .ne 8, 3) := by decide +kernel
theorem dX11_touches_162 : decode cX11_touches 162 = .ok (.iload 6, 2) := by decide +kernel
theorem dX11_touches_164 : decode cX11_touches 164 = .ok (.goto 16, 3) := by decide +kernel
theorem dX11_touches_167 : decode cX11_touches 167 = .ok (.iload 4, 2) := by decide +kernel
theorem dX11_touches_169 : decode cX11_touches 169 = .ok (.iconst 2, 1) := by decide +kernel
theorem dX11_touches_170 : decode cX11_touches 170 = .ok (.if_icmp .ne 8, 3) := by decide +kernel
theorem dX11_touches_173 : decode cX11_touches 173 = .ok (.iload 7, 2) := by decide +kernel
theorem dX11_touches_175 : decode cX11_touches 175 = .ok (.goto 5, 3) := by decide +kernel
theorem dX11_touches_178 : decode cX11_touches 178 = .ok (.iload 8, 2) := by decide +kernel
theorem dX11_touches_180 : decode cX11_touches 180 = .ok (.ireturn, 1) := by decide +kernel
theorem dX11_drawn_0 : decode cX11_drawn 0 = .ok (.iload_n 1, 1) := by decide +kernel
theorem dX11_drawn_1 : decode cX11_drawn 1 = .ok (.invokestatic 136, 3) := by decide +kernel
theorem dX11_drawn_4 : decode cX11_drawn 4 = .ok (.ifCond .eq 13, 3) := by decide +kernel
theorem dX11_drawn_7 : decode cX11_drawn 7 = .ok (.iload_n 2, 1) := by decide +kernel
theorem dX11_drawn_8 : decode cX11_drawn 8 = .ok (.iconst 1, 1) := by decide +kernel
theorem dX11_drawn_9 : decode cX11_drawn 9 = .ok (.bipush 50, 2) := by decide +kernel
theorem dX11_drawn_11 : decode cX11_drawn 11 = .ok (.invokestatic 64, 3) := by decide +kernel
theorem dX11_drawn_14 : decode cX11_drawn 14 = .ok (.ifCond .ne 6, 3) := by decide +kernel
theorem dX11_drawn_17 : decode cX11_drawn 17 = .ok (.bipush (-2), 2) := by decide +kernel
theorem dX11_drawn_19 : decode cX11_drawn 19 = .ok (.ireturn, 1) := by decide +kernel
theorem dX11_drawn_20 : decode cX11_drawn 20 = .ok (.iconst 0, 1) := by decide +kernel
theorem dX11_drawn_21 : decode cX11_drawn 21 = .ok (.istore_n 3, 1) := by decide +kernel
theorem dX11_drawn_22 : decode cX11_drawn 22 = .ok (.iconst 0, 1) := by decide +kernel
theorem dX11_drawn_23 : decode cX11_drawn 23 = .ok (.istore 4, 2) := by decide +kernel
theorem dX11_drawn_25 : decode cX11_drawn 25 = .ok (.iload 4, 2) := by decide +kernel
theorem dX11_drawn_27 : decode cX11_drawn 27 = .ok (.iload_n 2, 1) := by decide +kernel
theorem dX11_drawn_28 : decode cX11_drawn 28 = .ok (.if_icmp .ge 29, 3) := by decide +kernel
theorem dX11_drawn_31 : decode cX11_drawn 31 = .ok (.iload_n 3, 1) := by decide +kernel
theorem dX11_drawn_32 : decode cX11_drawn 32 = .ok (.aload_n 0, 1) := by decide +kernel
theorem dX11_drawn_33 : decode cX11_drawn 33 = .ok (.aload_n 0, 1) := by decide +kernel
theorem dX11_drawn_34 : decode cX11_drawn 34 = .ok (.invokevirtual 168, 3) := by decide +kernel
theorem dX11_drawn_37 : decode cX11_drawn 37 = .ok (.iload_n 1, 1) := by decide +kernel
theorem dX11_drawn_38 : decode cX11_drawn 38 = .ok (.invokevirtual 180, 3) := by decide +kernel
theorem dX11_drawn_41 : decode cX11_drawn 41 = .ok (.ifCond .ne 7, 3) := by decide +kernel
theorem dX11_drawn_44 : decode cX11_drawn 44 = .ok (.iconst 0, 1) := by decide +kernel
theorem dX11_drawn_45 : decode cX11_drawn 45 = .ok (.goto 4, 3) := by decide +kernel
theorem dX11_drawn_48 : decode cX11_drawn 48 = .ok (.iconst 1, 1) := by decide +kernel
theorem dX11_drawn_49 : decode cX11_drawn 49 = .ok (.iadd, 1) := by decide +kernel
theorem dX11_drawn_50 : decode cX11_drawn 50 = .ok (.istore_n 3, 1) := by decide +kernel
theorem dX11_drawn_51 : decode cX11_drawn 51 = .ok (.iinc 4 1, 3) := by decide +kernel
theorem dX11_drawn_54 : decode cX11_drawn 54 = .ok (.goto (-29), 3) := by decide +kernel
theorem dX11_drawn_57 : decode cX11_drawn 57 = .ok (.iload_n 3, 1) := by decide +kernel
theorem dX11_drawn_58 : decode cX11_drawn 58 = .ok (.ireturn, 1) := by decide +kernel
theorem dX11_filedAt_0 : decode cX11_filedAt 0 = .ok (.iconst 0, 1) := by decide +kernel
theorem dX11_filedAt_1 : decode cX11_filedAt 1 = .ok (.istore_n 2, 1) := by decide +kernel
theorem dX11_filedAt_2 : decode cX11_filedAt 2 = .ok (.iload_n 2, 1) := by decide +kernel
theorem dX11_filedAt_3 : decode cX11_filedAt 3 = .ok (.aload_n 0, 1) := by decide +kernel
theorem dX11_filedAt_4 : decode cX11_filedAt 4 = .ok (.getfield 183, 3) := by decide +kernel
theorem dX11_filedAt_7 : decode cX11_filedAt 7 = .ok (.if_icmp .ge 65, 3) := by decide +kernel
theorem dX11_filedAt_10 : decode cX11_filedAt 10 = .ok (.iconst 1, 1) := by decide +kernel
theorem dX11_filedAt_11 : decode cX11_filedAt 11 = .ok (.istore_n 3, 1) := by decide +kernel
theorem dX11_filedAt_12 : decode cX11_filedAt 12 = .ok (.iconst 0, 1) := by decide +kernel
theorem dX11_filedAt_13 : decode cX11_filedAt 13 = .ok (.istore 4, 2) := by decide +kernel
theorem dX11_filedAt_15 : decode cX11_filedAt 15 = .ok (.iload 4, 2) := by decide +kernel
theorem dX11_filedAt_17 : decode cX11_filedAt 17 = .ok (.bipush 8, 2) := by decide +kernel
theorem dX11_filedAt_19 : decode cX11_filedAt 19 = .ok (.if_icmp .ge 41, 3) := by decide +kernel
theorem dX11_filedAt_22 : decode cX11_filedAt 22 = .ok (.iload_n 3, 1) := by decide +kernel
theorem dX11_filedAt_23 : decode cX11_filedAt 23 = .ok (.ifCond .eq 29, 3) := by decide +kernel
theorem dX11_filedAt_26 : decode cX11_filedAt 26 = .ok (.aload_n 0, 1) := by decide +kernel
theorem dX11_filedAt_27 : decode cX11_filedAt 27 = .ok (.getfield 23, 3) := by decide +kernel
theorem dX11_filedAt_30 : decode cX11_filedAt 30 = .ok (.bipush 8, 2) := by decide +kernel
theorem dX11_filedAt_32 : decode cX11_filedAt 32 = .ok (.iload_n 2, 1) := by decide +kernel
theorem dX11_filedAt_33 : decode cX11_filedAt 33 = .ok (.imul, 1) := by decide +kernel
theorem dX11_filedAt_34 : decode cX11_filedAt 34 = .ok (.iload 4, 2) := by decide +kernel
theorem dX11_filedAt_36 : decode cX11_filedAt 36 = .ok (.iadd, 1) := by decide +kernel
theorem dX11_filedAt_37 : decode cX11_filedAt 37 = .ok (.iaload, 1) := by decide +kernel
theorem dX11_filedAt_38 : decode cX11_filedAt 38 = .ok (.aload_n 0, 1) := by decide +kernel
theorem dX11_filedAt_39 : decode cX11_filedAt 39 = .ok (.iload_n 1, 1) := by decide +kernel
theorem dX11_filedAt_40 : decode cX11_filedAt 40 = .ok (.iload 4, 2) := by decide +kernel
theorem dX11_filedAt_42 : decode cX11_filedAt 42 = .ok (.invokevirtual 83, 3) := by decide +kernel
theorem dX11_filedAt_45 : decode cX11_filedAt 45 = .ok (.if_icmp .ne 7, 3) := by decide +kernel
theorem dX11_filedAt_48 : decode cX11_filedAt 48 = .ok (.iconst 1, 1) := by decide +kernel
theorem dX11_filedAt_49 : decode cX11_filedAt 49 = .ok (.goto 4, 3) := by decide +kernel
theorem dX11_filedAt_52 : decode cX11_filedAt 52 = .ok (.iconst 0, 1) := by decide +kernel
theorem dX11_filedAt_53 : decode cX11_filedAt 53 = .ok (.istore_n 3, 1) := by decide +kernel
theorem dX11_filedAt_54 : decode cX11_filedAt 54 = .ok (.iinc 4 1, 3) := by decide +kernel
theorem dX11_filedAt_57 : decode cX11_filedAt 57 = .ok (.goto (-42), 3) := by decide +kernel
theorem dX11_filedAt_60 : decode cX11_filedAt 60 = .ok (.iload_n 3, 1) := by decide +kernel
theorem dX11_filedAt_61 : decode cX11_filedAt 61 = .ok (.ifCond .eq 5, 3) := by decide +kernel
theorem dX11_filedAt_64 : decode cX11_filedAt 64 = .ok (.iload_n 2, 1) := by decide +kernel
theorem dX11_filedAt_65 : decode cX11_filedAt 65 = .ok (.ireturn, 1) := by decide +kernel
theorem dX11_filedAt_66 : decode cX11_filedAt 66 = .ok (.iinc 2 1, 3) := by decide +kernel
theorem dX11_filedAt_69 : decode cX11_filedAt 69 = .ok (.goto (-67), 3) := by decide +kernel
theorem dX11_filedAt_72 : decode cX11_filedAt 72 = .ok (.iconst (-1), 1) := by decide +kernel
theorem dX11_filedAt_73 : decode cX11_filedAt 73 = .ok (.ireturn, 1) := by decide +kernel
theorem dX11_file_0 : decode cX11_file 0 = .ok (.aload_n 0, 1) := by decide +kernel
theorem dX11_file_1 : decode cX11_file 1 = .ok (.iload_n 1, 1) := by decide +kernel
theorem dX11_file_2 : decode cX11_file 2 = .ok (.invokevirtual 75, 3) := by decide +kernel
theorem dX11_file_5 : decode cX11_file 5 = .ok (.ifCond .ne 6, 3) := by decide +kernel
theorem dX11_file_8 : decode cX11_file 8 = .ok (.bipush (-2), 2) := by decide +kernel
theorem dX11_file_10 : decode cX11_file 10 = .ok (.ireturn, 1) := by decide +kernel
theorem dX11_file_11 : decode cX11_file 11 = .ok (.aload_n 0, 1) := by decide +kernel
theorem dX11_file_12 : decode cX11_file 12 = .ok (.iload_n 1, 1) := by decide +kernel
theorem dX11_file_13 : decode cX11_file 13 = .ok (.invokevirtual 186, 3) := by decide +kernel
theorem dX11_file_16 : decode cX11_file 16 = .ok (.istore_n 2, 1) := by decide +kernel
theorem dX11_file_17 : decode cX11_file 17 = .ok (.iload_n 2, 1) := by decide +kernel
theorem dX11_file_18 : decode cX11_file 18 = .ok (.iconst (-1), 1) := by decide +kernel
theorem dX11_file_19 : decode cX11_file 19 = .ok (.if_icmp .ne 15, 3) := by decide +kernel
theorem dX11_file_22 : decode cX11_file 22 = .ok (.aload_n 0, 1) := by decide +kernel
theorem dX11_file_23 : decode cX11_file 23 = .ok (.getfield 183, 3) := by decide +kernel
theorem dX11_file_26 : decode cX11_file 26 = .ok (.bipush 16, 2) := by decide +kernel
theorem dX11_file_28 : decode cX11_file 28 = .ok (.if_icmp .ne 6, 3) := by decide +kernel
theorem dX11_file_31 : decode cX11_file 31 = .ok (.bipush (-4), 2) := by decide +kernel
theorem dX11_file_33 : decode cX11_file 33 = .ok (.ireturn, 1) := by decide +kernel
theorem dX11_file_34 : decode cX11_file 34 = .ok (.iload_n 2, 1) := by decide +kernel
theorem dX11_file_35 : decode cX11_file 35 = .ok (.iconst (-1), 1) := by decide +kernel
theorem dX11_file_36 : decode cX11_file 36 = .ok (.if_icmp .ne 56, 3) := by decide +kernel
theorem dX11_file_39 : decode cX11_file 39 = .ok (.aload_n 0, 1) := by decide +kernel
theorem dX11_file_40 : decode cX11_file 40 = .ok (.getfield 183, 3) := by decide +kernel
theorem dX11_file_43 : decode cX11_file 43 = .ok (.istore_n 2, 1) := by decide +kernel
theorem dX11_file_44 : decode cX11_file 44 = .ok (.aload_n 0, 1) := by decide +kernel
theorem dX11_file_45 : decode cX11_file 45 = .ok (.dup, 1) := by decide +kernel
theorem dX11_file_46 : decode cX11_file 46 = .ok (.getfield 183, 3) := by decide +kernel
theorem dX11_file_49 : decode cX11_file 49 = .ok (.iconst 1, 1) := by decide +kernel
theorem dX11_file_50 : decode cX11_file 50 = .ok (.iadd, 1) := by decide +kernel
theorem dX11_file_51 : decode cX11_file 51 = .ok (.putfield 183, 3) := by decide +kernel
theorem dX11_file_54 : decode cX11_file 54 = .ok (.aload_n 0, 1) := by decide +kernel
theorem dX11_file_55 : decode cX11_file 55 = .ok (.getfield 26, 3) := by decide +kernel
theorem dX11_file_58 : decode cX11_file 58 = .ok (.iload_n 2, 1) := by decide +kernel
theorem dX11_file_59 : decode cX11_file 59 = .ok (.iconst 0, 1) := by decide +kernel
theorem dX11_file_60 : decode cX11_file 60 = .ok (.iastore, 1) := by decide +kernel
theorem dX11_file_61 : decode cX11_file 61 = .ok (.iconst 0, 1) := by decide +kernel
theorem dX11_file_62 : decode cX11_file 62 = .ok (.istore_n 3, 1) := by decide +kernel
theorem dX11_file_63 : decode cX11_file 63 = .ok (.iload_n 3, 1) := by decide +kernel
theorem dX11_file_64 : decode cX11_file 64 = .ok (.bipush 8, 2) := by decide +kernel
theorem dX11_file_66 : decode cX11_file 66 = .ok (.if_icmp .ge 26, 3) := by decide +kernel
theorem dX11_file_69 : decode cX11_file 69 = .ok (.aload_n 0, 1) := by decide +kernel
theorem dX11_file_70 : decode cX11_file 70 = .ok (.getfield 23, 3) := by decide +kernel
theorem dX11_file_73 : decode cX11_file 73 = .ok (.bipush 8, 2) := by decide +kernel
theorem dX11_file_75 : decode cX11_file 75 = .ok (.iload_n 2, 1) := by decide +kernel
theorem dX11_file_76 : decode cX11_file 76 = .ok (.imul, 1) := by decide +kernel
theorem dX11_file_77 : decode cX11_file 77 = .ok (.iload_n 3, 1) := by decide +kernel
theorem dX11_file_78 : decode cX11_file 78 = .ok (.iadd, 1) := by decide +kernel
theorem dX11_file_79 : decode cX11_file 79 = .ok (.aload_n 0, 1) := by decide +kernel
theorem dX11_file_80 : decode cX11_file 80 = .ok (.iload_n 1, 1) := by decide +kernel
theorem dX11_file_81 : decode cX11_file 81 = .ok (.iload_n 3, 1) := by decide +kernel
theorem dX11_file_82 : decode cX11_file 82 = .ok (.invokevirtual 83, 3) := by decide +kernel
theorem dX11_file_85 : decode cX11_file 85 = .ok (.iastore, 1) := by decide +kernel
theorem dX11_file_86 : decode cX11_file 86 = .ok (.iinc 3 1, 3) := by decide +kernel
theorem dX11_file_89 : decode cX11_file 89 = .ok (.goto (-26), 3) := by decide +kernel
theorem dX11_file_92 : decode cX11_file 92 = .ok (.aload_n 0, 1) := by decide +kernel
theorem dX11_file_93 : decode cX11_file 93 = .ok (.getfield 26, 3) := by decide +kernel
theorem dX11_file_96 : decode cX11_file 96 = .ok (.iload_n 2, 1) := by decide +kernel
theorem dX11_file_97 : decode cX11_file 97 = .ok (.dup2, 1) := by decide +kernel
theorem dX11_file_98 : decode cX11_file 98 = .ok (.iaload, 1) := by decide +kernel
theorem dX11_file_99 : decode cX11_file 99 = .ok (.iconst 1, 1) := by decide +kernel
theorem dX11_file_100 : decode cX11_file 100 = .ok (.iadd, 1) := by decide +kernel
theorem dX11_file_101 : decode cX11_file 101 = .ok (.iastore, 1) := by decide +kernel
theorem dX11_file_102 : decode cX11_file 102 = .ok (.iload_n 2, 1) := by decide +kernel
theorem dX11_file_103 : decode cX11_file 103 = .ok (.ireturn, 1) := by decide +kernel
theorem dX11_filed_0 : decode cX11_filed 0 = .ok (.aload_n 0, 1) := by decide +kernel
theorem dX11_filed_1 : decode cX11_filed 1 = .ok (.iload_n 1, 1) := by decide +kernel
theorem dX11_filed_2 : decode cX11_filed 2 = .ok (.invokevirtual 75, 3) := by decide +kernel
theorem dX11_filed_5 : decode cX11_filed 5 = .ok (.ifCond .eq 12, 3) := by decide +kernel
theorem dX11_filed_8 : decode cX11_filed 8 = .ok (.iload_n 2, 1) := by decide +kernel
theorem dX11_filed_9 : decode cX11_filed 9 = .ok (.iconst 0, 1) := by decide +kernel
theorem dX11_filed_10 : decode cX11_filed 10 = .ok (.iconst 1, 1) := by decide +kernel
theorem dX11_filed_11 : decode cX11_filed 11 = .ok (.invokestatic 64, 3) := by decide +kernel
theorem dX11_filed_14 : decode cX11_filed 14 = .ok (.ifCond .ne 6, 3) := by decide +kernel
theorem dX11_filed_17 : decode cX11_filed 17 = .ok (.bipush (-2), 2) := by decide +kernel
theorem dX11_filed_19 : decode cX11_filed 19 = .ok (.ireturn, 1) := by decide +kernel
theorem dX11_filed_20 : decode cX11_filed 20 = .ok (.aload_n 0, 1) := by decide +kernel
theorem dX11_filed_21 : decode cX11_filed 21 = .ok (.iload_n 1, 1) := by decide +kernel
theorem dX11_filed_22 : decode cX11_filed 22 = .ok (.invokevirtual 186, 3) := by decide +kernel
theorem dX11_filed_25 : decode cX11_filed 25 = .ok (.istore_n 3, 1) := by decide +kernel
theorem dX11_filed_26 : decode cX11_filed 26 = .ok (.iload_n 2, 1) := by decide +kernel
theorem dX11_filed_27 : decode cX11_filed 27 = .ok (.ifCond .ne 7, 3) := by decide +kernel
theorem dX11_filed_30 : decode cX11_filed 30 = .ok (.iload_n 3, 1) := by decide +kernel
theorem dX11_filed_31 : decode cX11_filed 31 = .ok (.goto 18, 3) := by decide +kernel
theorem dX11_filed_34 : decode cX11_filed 34 = .ok (.iload_n 3, 1) := by decide +kernel
theorem dX11_filed_35 : decode cX11_filed 35 = .ok (.iconst (-1), 1) := by decide +kernel
theorem dX11_filed_36 : decode cX11_filed 36 = .ok (.if_icmp .ne 7, 3) := by decide +kernel
theorem dX11_filed_39 : decode cX11_filed 39 = .ok (.iconst 0, 1) := by decide +kernel
theorem dX11_filed_40 : decode cX11_filed 40 = .ok (.goto 9, 3) := by decide +kernel
theorem dX11_filed_43 : decode cX11_filed 43 = .ok (.aload_n 0, 1) := by decide +kernel
theorem dX11_filed_44 : decode cX11_filed 44 = .ok (.getfield 26, 3) := by decide +kernel
theorem dX11_filed_47 : decode cX11_filed 47 = .ok (.iload_n 3, 1) := by decide +kernel
theorem dX11_filed_48 : decode cX11_filed 48 = .ok (.iaload, 1) := by decide +kernel
theorem dX11_filed_49 : decode cX11_filed 49 = .ok (.ireturn, 1) := by decide +kernel
theorem dX11_alike_0 : decode cX11_alike 0 = .ok (.iconst 0, 1) := by decide +kernel
theorem dX11_alike_1 : decode cX11_alike 1 = .ok (.istore_n 1, 1) := by decide +kernel
theorem dX11_alike_2 : decode cX11_alike 2 = .ok (.iconst 0, 1) := by decide +kernel
theorem dX11_alike_3 : decode cX11_alike 3 = .ok (.istore_n 2, 1) := by decide +kernel
theorem dX11_alike_4 : decode cX11_alike 4 = .ok (.iload_n 2, 1) := by decide +kernel
theorem dX11_alike_5 : decode cX11_alike 5 = .ok (.aload_n 0, 1) := by decide +kernel
theorem dX11_alike_6 : decode cX11_alike 6 = .ok (.getfield 61, 3) := by decide +kernel
theorem dX11_alike_9 : decode cX11_alike 9 = .ok (.if_icmp .ge 115, 3) := by decide +kernel
theorem dX11_alike_12 : decode cX11_alike 12 = .ok (.iconst 0, 1) := by decide +kernel
theorem dX11_alike_13 : decode cX11_alike 13 = .ok (.istore_n 3, 1) := by decide +kernel
theorem dX11_alike_14 : decode cX11_alike 14 = .ok (.iconst 0, 1) := by decide +kernel
theorem dX11_alike_15 : decode cX11_alike 15 = .ok (.istore 4, 2) := by decide +kernel
theorem dX11_alike_17 : decode cX11_alike 17 = .ok (.iload 4, 2) := by decide +kernel
theorem dX11_alike_19 : decode cX11_alike 19 = .ok (.aload_n 0, 1) := by decide +kernel
theorem dX11_alike_20 : decode cX11_alike 20 = .ok (.getfield 61, 3) := by decide +kernel
theorem dX11_alike_23 : decode cX11_alike 23 = .ok (.if_icmp .ge 83, 3) := by decide +kernel
theorem dX11_alike_26 : decode cX11_alike 26 = .ok (.iload 4, 2) := by decide +kernel
theorem dX11_alike_28 : decode cX11_alike 28 = .ok (.iload_n 2, 1) := by decide +kernel
theorem dX11_alike_29 : decode cX11_alike 29 = .ok (.if_icmp .eq 7, 3) := by decide +kernel
theorem dX11_alike_32 : decode cX11_alike 32 = .ok (.iconst 1, 1) := by decide +kernel
theorem dX11_alike_33 : decode cX11_alike 33 = .ok (.goto 4, 3) := by decide +kernel
theorem dX11_alike_36 : decode cX11_alike 36 = .ok (.iconst 0, 1) := by decide +kernel
theorem dX11_alike_37 : decode cX11_alike 37 = .ok (.istore 5, 2) := by decide +kernel
theorem dX11_alike_39 : decode cX11_alike 39 = .ok (.iconst 0, 1) := by decide +kernel
theorem dX11_alike_40 : decode cX11_alike 40 = .ok (.istore 6, 2) := by decide +kernel
theorem dX11_alike_42 : decode cX11_alike 42 = .ok (.iload 6, 2) := by decide +kernel
theorem dX11_alike_44 : decode cX11_alike 44 = .ok (.bipush 8, 2) := by decide +kernel
theorem dX11_alike_46 : decode cX11_alike 46 = .ok (.if_icmp .ge 39, 3) := by decide +kernel
theorem dX11_alike_49 : decode cX11_alike 49 = .ok (.iload 5, 2) := by decide +kernel
theorem dX11_alike_51 : decode cX11_alike 51 = .ok (.ifCond .eq 25, 3) := by decide +kernel
theorem dX11_alike_54 : decode cX11_alike 54 = .ok (.aload_n 0, 1) := by decide +kernel
theorem dX11_alike_55 : decode cX11_alike 55 = .ok (.iload_n 2, 1) := by decide +kernel
theorem dX11_alike_56 : decode cX11_alike 56 = .ok (.iload 6, 2) := by decide +kernel
theorem dX11_alike_58 : decode cX11_alike 58 = .ok (.invokevirtual 83, 3) := by decide +kernel
theorem dX11_alike_61 : decode cX11_alike 61 = .ok (.aload_n 0, 1) := by decide +kernel
theorem dX11_alike_62 : decode cX11_alike 62 = .ok (.iload 4, 2) := by decide +kernel
theorem dX11_alike_64 : decode cX11_alike 64 = .ok (.iload 6, 2) := by decide +kernel
theorem dX11_alike_66 : decode cX11_alike 66 = .ok (.invokevirtual 83, 3) := by decide +kernel
theorem dX11_alike_69 : decode cX11_alike 69 = .ok (.if_icmp .ne 7, 3) := by decide +kernel
theorem dX11_alike_72 : decode cX11_alike 72 = .ok (.iconst 1, 1) := by decide +kernel
theorem dX11_alike_73 : decode cX11_alike 73 = .ok (.goto 4, 3) := by decide +kernel
theorem dX11_alike_76 : decode cX11_alike 76 = .ok (.iconst 0, 1) := by decide +kernel
theorem dX11_alike_77 : decode cX11_alike 77 = .ok (.istore 5, 2) := by decide +kernel
theorem dX11_alike_79 : decode cX11_alike 79 = .ok (.iinc 6 1, 3) := by decide +kernel
theorem dX11_alike_82 : decode cX11_alike 82 = .ok (.goto (-40), 3) := by decide +kernel
theorem dX11_alike_85 : decode cX11_alike 85 = .ok (.iload_n 3, 1) := by decide +kernel
theorem dX11_alike_86 : decode cX11_alike 86 = .ok (.ifCond .ne 8, 3) := by decide +kernel
theorem dX11_alike_89 : decode cX11_alike 89 = .ok (.iload 5, 2) := by decide +kernel
theorem dX11_alike_91 : decode cX11_alike 91 = .ok (.ifCond .eq 7, 3) := by decide +kernel
theorem dX11_alike_94 : decode cX11_alike 94 = .ok (.iconst 1, 1) := by decide +kernel
theorem dX11_alike_95 : decode cX11_alike 95 = .ok (.goto 4, 3) := by decide +kernel
theorem dX11_alike_98 : decode cX11_alike 98 = .ok (.iconst 0, 1) := by decide +kernel
theorem dX11_alike_99 : decode cX11_alike 99 = .ok (.istore_n 3, 1) := by decide +kernel
theorem dX11_alike_100 : decode cX11_alike 100 = .ok (.iinc 4 1, 3) := by decide +kernel
theorem dX11_alike_103 : decode cX11_alike 103 = .ok (.goto (-86), 3) := by decide +kernel
theorem dX11_alike_106 : decode cX11_alike 106 = .ok (.iload_n 1, 1) := by decide +kernel
theorem dX11_alike_107 : decode cX11_alike 107 = .ok (.iload_n 3, 1) := by decide +kernel
theorem dX11_alike_108 : decode cX11_alike 108 = .ok (.ifCond .eq 7, 3) := by decide +kernel
theorem dX11_alike_111 : decode cX11_alike 111 = .ok (.iconst 1, 1) := by decide +kernel
theorem dX11_alike_112 : decode cX11_alike 112 = .ok (.goto 4, 3) := by decide +kernel
theorem dX11_alike_115 : decode cX11_alike 115 = .ok (.iconst 0, 1) := by decide +kernel
theorem dX11_alike_116 : decode cX11_alike 116 = .ok (.iadd, 1) := by decide +kernel
theorem dX11_alike_117 : decode cX11_alike 117 = .ok (.istore_n 1, 1) := by decide +kernel
theorem dX11_alike_118 : decode cX11_alike 118 = .ok (.iinc 2 1, 3) := by decide +kernel
theorem dX11_alike_121 : decode cX11_alike 121 = .ok (.goto (-117), 3) := by decide +kernel
theorem dX11_alike_124 : decode cX11_alike 124 = .ok (.iload_n 1, 1) := by decide +kernel
theorem dX11_alike_125 : decode cX11_alike 125 = .ok (.ireturn, 1) := by decide +kernel
theorem dX11_forget_0 : decode cX11_forget 0 = .ok (.aload_n 0, 1) := by decide +kernel
theorem dX11_forget_1 : decode cX11_forget 1 = .ok (.getfield 183, 3) := by decide +kernel
theorem dX11_forget_4 : decode cX11_forget 4 = .ok (.istore_n 1, 1) := by decide +kernel
theorem dX11_forget_5 : decode cX11_forget 5 = .ok (.aload_n 0, 1) := by decide +kernel
theorem dX11_forget_6 : decode cX11_forget 6 = .ok (.iconst 0, 1) := by decide +kernel
theorem dX11_forget_7 : decode cX11_forget 7 = .ok (.putfield 183, 3) := by decide +kernel
theorem dX11_forget_10 : decode cX11_forget 10 = .ok (.iload_n 1, 1) := by decide +kernel
theorem dX11_forget_11 : decode cX11_forget 11 = .ok (.ireturn, 1) := by decide +kernel
theorem dX11_feed_0 : decode cX11_feed 0 = .ok (.iload_n 2, 1) := by decide +kernel
theorem dX11_feed_1 : decode cX11_feed 1 = .ok (.iconst 1, 1) := by decide +kernel
theorem dX11_feed_2 : decode cX11_feed 2 = .ok (.iconst 4, 1) := by decide +kernel
theorem dX11_feed_3 : decode cX11_feed 3 = .ok (.invokestatic 64, 3) := by decide +kernel
theorem dX11_feed_6 : decode cX11_feed 6 = .ok (.ifCond .ne 6, 3) := by decide +kernel
theorem dX11_feed_9 : decode cX11_feed 9 = .ok (.bipush (-2), 2) := by decide +kernel
theorem dX11_feed_11 : decode cX11_feed 11 = .ok (.ireturn, 1) := by decide +kernel
theorem dX11_feed_12 : decode cX11_feed 12 = .ok (.aload_n 0, 1) := by decide +kernel
theorem dX11_feed_13 : decode cX11_feed 13 = .ok (.getfield 189, 3) := by decide +kernel
theorem dX11_feed_16 : decode cX11_feed 16 = .ok (.iload_n 2, 1) := by decide +kernel
theorem dX11_feed_17 : decode cX11_feed 17 = .ok (.iadd, 1) := by decide +kernel
theorem dX11_feed_18 : decode cX11_feed 18 = .ok (.bipush 120, 2) := by decide +kernel
theorem dX11_feed_20 : decode cX11_feed 20 = .ok (.if_icmp .le 6, 3) := by decide +kernel
theorem dX11_feed_23 : decode cX11_feed 23 = .ok (.bipush (-4), 2) := by decide +kernel
theorem dX11_feed_25 : decode cX11_feed 25 = .ok (.ireturn, 1) := by decide +kernel
theorem dX11_feed_26 : decode cX11_feed 26 = .ok (.iload_n 2, 1) := by decide +kernel
theorem dX11_feed_27 : decode cX11_feed 27 = .ok (.iconst 1, 1) := by decide +kernel
theorem dX11_feed_28 : decode cX11_feed 28 = .ok (.isub, 1) := by decide +kernel
theorem dX11_feed_29 : decode cX11_feed 29 = .ok (.istore_n 3, 1) := by decide +kernel
theorem dX11_feed_30 : decode cX11_feed 30 = .ok (.iload_n 3, 1) := by decide +kernel
theorem dX11_feed_31 : decode cX11_feed 31 = .ok (.ifCond .lt 38, 3) := by decide +kernel
theorem dX11_feed_34 : decode cX11_feed 34 = .ok (.aload_n 0, 1) := by decide +kernel
theorem dX11_feed_35 : decode cX11_feed 35 = .ok (.getfield 29, 3) := by decide +kernel
theorem dX11_feed_38 : decode cX11_feed 38 = .ok (.aload_n 0, 1) := by decide +kernel
theorem dX11_feed_39 : decode cX11_feed 39 = .ok (.getfield 189, 3) := by decide +kernel
theorem dX11_feed_42 : decode cX11_feed 42 = .ok (.iload_n 1, 1) := by decide +kernel
theorem dX11_feed_43 : decode cX11_feed 43 = .ok (.bipush 8, 2) := by decide +kernel
theorem dX11_feed_45 : decode cX11_feed 45 = .ok (.iload_n 3, 1) := by decide +kernel
theorem dX11_feed_46 : decode cX11_feed 46 = .ok (.imul, 1) := by decide +kernel
theorem dX11_feed_47 : decode cX11_feed 47 = .ok (.ishr, 1) := by decide +kernel
theorem dX11_feed_48 : decode cX11_feed 48 = .ok (.sipush 255, 3) := by decide +kernel
theorem dX11_feed_51 : decode cX11_feed 51 = .ok (.iand, 1) := by decide +kernel
theorem dX11_feed_52 : decode cX11_feed 52 = .ok (.iastore, 1) := by decide +kernel
theorem dX11_feed_53 : decode cX11_feed 53 = .ok (.aload_n 0, 1) := by decide +kernel
theorem dX11_feed_54 : decode cX11_feed 54 = .ok (.dup, 1) := by decide +kernel
theorem dX11_feed_55 : decode cX11_feed 55 = .ok (.getfield 189, 3) := by decide +kernel
theorem dX11_feed_58 : decode cX11_feed 58 = .ok (.iconst 1, 1) := by decide +kernel
theorem dX11_feed_59 : decode cX11_feed 59 = .ok (.iadd, 1) := by decide +kernel
theorem dX11_feed_60 : decode cX11_feed 60 = .ok (.putfield 189, 3) := by decide +kernel
theorem dX11_feed_63 : decode cX11_feed 63 = .ok (.iinc 3 (-1), 3) := by decide +kernel
theorem dX11_feed_66 : decode cX11_feed 66 = .ok (.goto (-36), 3) := by decide +kernel
theorem dX11_feed_69 : decode cX11_feed 69 = .ok (.aload_n 0, 1) := by decide +kernel
theorem dX11_feed_70 : decode cX11_feed 70 = .ok (.getfield 189, 3) := by decide +kernel
theorem dX11_feed_73 : decode cX11_feed 73 = .ok (.ireturn, 1) := by decide +kernel
theorem dX11_wipe_0 : decode cX11_wipe 0 = .ok (.aload_n 0, 1) := by decide +kernel
theorem dX11_wipe_1 : decode cX11_wipe 1 = .ok (.getfield 189, 3) := by decide +kernel
theorem dX11_wipe_4 : decode cX11_wipe 4 = .ok (.istore_n 1, 1) := by decide +kernel
theorem dX11_wipe_5 : decode cX11_wipe 5 = .ok (.aload_n 0, 1) := by decide +kernel
theorem dX11_wipe_6 : decode cX11_wipe 6 = .ok (.iconst 0, 1) := by decide +kernel
theorem dX11_wipe_7 : decode cX11_wipe 7 = .ok (.putfield 189, 3) := by decide +kernel
theorem dX11_wipe_10 : decode cX11_wipe 10 = .ok (.iload_n 1, 1) := by decide +kernel
theorem dX11_wipe_11 : decode cX11_wipe 11 = .ok (.ireturn, 1) := by decide +kernel
theorem dX11_isAt_0 : decode cX11_isAt 0 = .ok (.aload_n 0, 1) := by decide +kernel
theorem dX11_isAt_1 : decode cX11_isAt 1 = .ok (.getfield 192, 3) := by decide +kernel
theorem dX11_isAt_4 : decode cX11_isAt 4 = .ok (.aload_n 0, 1) := by decide +kernel
theorem dX11_isAt_5 : decode cX11_isAt 5 = .ok (.getfield 189, 3) := by decide +kernel
theorem dX11_isAt_8 : decode cX11_isAt 8 = .ok (.if_icmp .ge 24, 3) := by decide +kernel
theorem dX11_isAt_11 : decode cX11_isAt 11 = .ok (.aload_n 0, 1) := by decide +kernel
theorem dX11_isAt_12 : decode cX11_isAt 12 = .ok (.getfield 29, 3) := by decide +kernel
theorem dX11_isAt_15 : decode cX11_isAt 15 = .ok (.aload_n 0, 1) := by decide +kernel
theorem dX11_isAt_16 : decode cX11_isAt 16 = .ok (.getfield 192, 3) := by decide +kernel
theorem dX11_isAt_19 : decode cX11_isAt 19 = .ok (.iaload, 1) := by decide +kernel
theorem dX11_isAt_20 : decode cX11_isAt 20 = .ok (.iload_n 1, 1) := by decide +kernel
theorem dX11_isAt_21 : decode cX11_isAt 21 = .ok (.iload_n 2, 1) := by decide +kernel
theorem dX11_isAt_22 : decode cX11_isAt 22 = .ok (.invokestatic 64, 3) := by decide +kernel
theorem dX11_isAt_25 : decode cX11_isAt 25 = .ok (.ifCond .eq 7, 3) := by decide +kernel
theorem dX11_isAt_28 : decode cX11_isAt 28 = .ok (.iconst 1, 1) := by decide +kernel
theorem dX11_isAt_29 : decode cX11_isAt 29 = .ok (.goto 4, 3) := by decide +kernel
theorem dX11_isAt_32 : decode cX11_isAt 32 = .ok (.iconst 0, 1) := by decide +kernel
theorem dX11_isAt_33 : decode cX11_isAt 33 = .ok (.ireturn, 1) := by decide +kernel
theorem dX11_goesOn_0 : decode cX11_goesOn 0 = .ok (.aload_n 0, 1) := by decide +kernel
theorem dX11_goesOn_1 : decode cX11_goesOn 1 = .ok (.bipush 32, 2) := by decide +kernel
theorem dX11_goesOn_3 : decode cX11_goesOn 3 = .ok (.bipush 32, 2) := by decide +kernel
theorem dX11_goesOn_5 : decode cX11_goesOn 5 = .ok (.invokevirtual 195, 3) := by decide +kernel
theorem dX11_goesOn_8 : decode cX11_goesOn 8 = .ok (.ifCond .eq 16, 3) := by decide +kernel
theorem dX11_goesOn_11 : decode cX11_goesOn 11 = .ok (.aload_n 0, 1) := by decide +kernel
theorem dX11_goesOn_12 : decode cX11_goesOn 12 = .ok (.dup, 1) := by decide +kernel
theorem dX11_goesOn_13 : decode cX11_goesOn 13 = .ok (.getfield 192, 3) := by decide +kernel
theorem dX11_goesOn_16 : decode cX11_goesOn 16 = .ok (.iconst 1, 1) := by decide +kernel
theorem dX11_goesOn_17 : decode cX11_goesOn 17 = .ok (.iadd, 1) := by decide +kernel
theorem dX11_goesOn_18 : decode cX11_goesOn 18 = .ok (.putfield 192, 3) := by decide +kernel
theorem dX11_goesOn_21 : decode cX11_goesOn 21 = .ok (.goto (-21), 3) := by decide +kernel
theorem dX11_goesOn_24 : decode cX11_goesOn 24 = .ok (.aload_n 0, 1) := by decide +kernel
theorem dX11_goesOn_25 : decode cX11_goesOn 25 = .ok (.aload_n 0, 1) := by decide +kernel
theorem dX11_goesOn_26 : decode cX11_goesOn 26 = .ok (.getfield 192, 3) := by decide +kernel
theorem dX11_goesOn_29 : decode cX11_goesOn 29 = .ok (.putfield 198, 3) := by decide +kernel
theorem dX11_goesOn_32 : decode cX11_goesOn 32 = .ok (.aload_n 0, 1) := by decide +kernel
theorem dX11_goesOn_33 : decode cX11_goesOn 33 = .ok (.iconst 0, 1) := by decide +kernel
theorem dX11_goesOn_34 : decode cX11_goesOn 34 = .ok (.putfield 201, 3) := by decide +kernel
theorem dX11_goesOn_37 : decode cX11_goesOn 37 = .ok (.aload_n 0, 1) := by decide +kernel
theorem dX11_goesOn_38 : decode cX11_goesOn 38 = .ok (.getfield 192, 3) := by decide +kernel
theorem dX11_goesOn_41 : decode cX11_goesOn 41 = .ok (.aload_n 0, 1) := by decide +kernel
theorem dX11_goesOn_42 : decode cX11_goesOn 42 = .ok (.getfield 189, 3) := by decide +kernel
theorem dX11_goesOn_45 : decode cX11_goesOn 45 = .ok (.if_icmp .ne 11, 3) := by decide +kernel
theorem dX11_goesOn_48 : decode cX11_goesOn 48 = .ok (.aload_n 0, 1) := by decide +kernel
theorem dX11_goesOn_49 : decode cX11_goesOn 49 = .ok (.iconst 0, 1) := by decide +kernel
theorem dX11_goesOn_50 : decode cX11_goesOn 50 = .ok (.putfield 204, 3) := by decide +kernel
theorem dX11_goesOn_53 : decode cX11_goesOn 53 = .ok (.goto 154, 3) := by decide +kernel
theorem dX11_goesOn_56 : decode cX11_goesOn 56 = .ok (.aload_n 0, 1) := by decide +kernel
theorem dX11_goesOn_57 : decode cX11_goesOn 57 = .ok (.bipush 97, 2) := by decide +kernel
theorem dX11_goesOn_59 : decode cX11_goesOn 59 = .ok (.bipush 122, 2) := by decide +kernel
theorem dX11_goesOn_61 : decode cX11_goesOn 61 = .ok (.invokevirtual 195, 3) := by decide +kernel
theorem dX11_goesOn_64 : decode cX11_goesOn 64 = .ok (.ifCond .eq 32, 3) := by decide +kernel
theorem dX11_goesOn_67 : decode cX11_goesOn 67 = .ok (.aload_n 0, 1) := by decide +kernel
theorem dX11_goesOn_68 : decode cX11_goesOn 68 = .ok (.iconst 1, 1) := by decide +kernel
theorem dX11_goesOn_69 : decode cX11_goesOn 69 = .ok (.putfield 204, 3) := by decide +kernel
theorem dX11_goesOn_72 : decode cX11_goesOn 72 = .ok (.aload_n 0, 1) := by decide +kernel
theorem dX11_goesOn_73 : decode cX11_goesOn 73 = .ok (.bipush 97, 2) := by decide +kernel
theorem dX11_goesOn_75 : decode cX11_goesOn 75 = .ok (.bipush 122, 2) := by decide +kernel
theorem dX11_goesOn_77 : decode cX11_goesOn 77 = .ok (.invokevirtual 195, 3) := by decide +kernel
theorem dX11_goesOn_80 : decode cX11_goesOn 80 = .ok (.ifCond .eq 127, 3) := by decide +kernel
theorem dX11_goesOn_83 : decode cX11_goesOn 83 = .ok (.aload_n 0, 1) := by decide +kernel
theorem dX11_goesOn_84 : decode cX11_goesOn 84 = .ok (.dup, 1) := by decide +kernel
theorem dX11_goesOn_85 : decode cX11_goesOn 85 = .ok (.getfield 192, 3) := by decide +kernel
theorem dX11_goesOn_88 : decode cX11_goesOn 88 = .ok (.iconst 1, 1) := by decide +kernel
theorem dX11_goesOn_89 : decode cX11_goesOn 89 = .ok (.iadd, 1) := by decide +kernel
theorem dX11_goesOn_90 : decode cX11_goesOn 90 = .ok (.putfield 192, 3) := by decide +kernel
theorem dX11_goesOn_93 : decode cX11_goesOn 93 = .ok (.goto (-21), 3) := by decide +kernel
theorem dX11_goesOn_96 : decode cX11_goesOn 96 = .ok (.aload_n 0, 1) := by decide +kernel
theorem dX11_goesOn_97 : decode cX11_goesOn 97 = .ok (.bipush 48, 2) := by decide +kernel
theorem dX11_goesOn_99 : decode cX11_goesOn 99 = .ok (.bipush 57, 2) := by decide +kernel
theorem dX11_goesOn_101 : decode cX11_goesOn 101 = .ok (.invokevirtual 195, 3) := by decide +kernel
theorem dX11_goesOn_104 : decode cX11_goesOn 104 = .ok (.ifCond .eq 73, 3) := by decide +kernel
theorem dX11_goesOn_107 : decode cX11_goesOn 107 = .ok (.aload_n 0, 1) := by decide +kernel
theorem dX11_goesOn_108 : decode cX11_goesOn 108 = .ok (.iconst 2, 1) := by decide +kernel
theorem dX11_goesOn_109 : decode cX11_goesOn 109 = .ok (.putfield 204, 3) := by decide +kernel
theorem dX11_goesOn_112 : decode cX11_goesOn 112 = .ok (.aload_n 0, 1) := by decide +kernel
theorem dX11_goesOn_113 : decode cX11_goesOn 113 = .ok (.bipush 48, 2) := by decide +kernel
theorem dX11_goesOn_115 : decode cX11_goesOn 115 = .ok (.bipush 57, 2) := by decide +kernel
theorem dX11_goesOn_117 : decode cX11_goesOn 117 = .ok (.invokevirtual 195, 3) := by decide +kernel
theorem dX11_goesOn_120 : decode cX11_goesOn 120 = .ok (.ifCond .eq 87, 3) := by decide +kernel
theorem dX11_goesOn_123 : decode cX11_goesOn 123 = .ok (.aload_n 0, 1) := by decide +kernel
theorem dX11_goesOn_124 : decode cX11_goesOn 124 = .ok (.aload_n 0, 1) := by decide +kernel
theorem dX11_goesOn_125 : decode cX11_goesOn 125 = .ok (.getfield 201, 3) := by decide +kernel
theorem dX11_goesOn_128 : decode cX11_goesOn 128 = .ok (.sipush 999, 3) := by decide +kernel
theorem dX11_goesOn_131 : decode cX11_goesOn 131 = .ok (.if_icmp .le 10, 3) := by decide +kernel
theorem dX11_goesOn_134 : decode cX11_goesOn 134 = .ok (.aload_n 0, 1) := by decide +kernel
theorem dX11_goesOn_135 : decode cX11_goesOn 135 = .ok (.getfield 201, 3) := by decide +kernel
theorem dX11_goesOn_138 : decode cX11_goesOn 138 = .ok (.goto 23, 3) := by decide +kernel
theorem dX11_goesOn_141 : decode cX11_goesOn 141 = .ok (.bipush 10, 2) := by decide +kernel
theorem dX11_goesOn_143 : decode cX11_goesOn 143 = .ok (.aload_n 0, 1) := by decide +kernel
theorem dX11_goesOn_144 : decode cX11_goesOn 144 = .ok (.getfield 201, 3) := by decide +kernel
theorem dX11_goesOn_147 : decode cX11_goesOn 147 = .ok (.imul, 1) := by decide +kernel
theorem dX11_goesOn_148 : decode cX11_goesOn 148 = .ok (.aload_n 0, 1) := by decide +kernel
theorem dX11_goesOn_149 : decode cX11_goesOn 149 = .ok (.getfield 29, 3) := by decide +kernel
theorem dX11_goesOn_152 : decode cX11_goesOn 152 = .ok (.aload_n 0, 1) := by decide +kernel
theorem dX11_goesOn_153 : decode cX11_goesOn 153 = .ok (.getfield 192, 3) := by decide +kernel
theorem dX11_goesOn_156 : decode cX11_goesOn 156 = .ok (.iaload, 1) := by decide +kernel
theorem dX11_goesOn_157 : decode cX11_goesOn 157 = .ok (.iadd, 1) := by decide +kernel
theorem dX11_goesOn_158 : decode cX11_goesOn 158 = .ok (.bipush 48, 2) := by decide +kernel
theorem dX11_goesOn_160 : decode cX11_goesOn 160 = .ok (.isub, 1) := by decide +kernel
theorem dX11_goesOn_161 : decode cX11_goesOn 161 = .ok (.putfield 201, 3) := by decide +kernel
theorem dX11_goesOn_164 : decode cX11_goesOn 164 = .ok (.aload_n 0, 1) := by decide +kernel
theorem dX11_goesOn_165 : decode cX11_goesOn 165 = .ok (.dup, 1) := by decide +kernel
theorem dX11_goesOn_166 : decode cX11_goesOn 166 = .ok (.getfield 192, 3) := by decide +kernel
theorem dX11_goesOn_169 : decode cX11_goesOn 169 = .ok (.iconst 1, 1) := by decide +kernel
theorem dX11_goesOn_170 : decode cX11_goesOn 170 = .ok (.iadd, 1) := by decide +kernel
theorem dX11_goesOn_171 : decode cX11_goesOn 171 = .ok (.putfield 192, 3) := by decide +kernel
theorem dX11_goesOn_174 : decode cX11_goesOn 174 = .ok (.goto (-62), 3) := by decide +kernel
theorem dX11_goesOn_177 : decode cX11_goesOn 177 = .ok (.aload_n 0, 1) := by decide +kernel
theorem dX11_goesOn_178 : decode cX11_goesOn 178 = .ok (.aload_n 0, 1) := by decide +kernel
theorem dX11_goesOn_179 : decode cX11_goesOn 179 = .ok (.bipush 59, 2) := by decide +kernel
theorem dX11_goesOn_181 : decode cX11_goesOn 181 = .ok (.bipush 59, 2) := by decide +kernel
theorem dX11_goesOn_183 : decode cX11_goesOn 183 = .ok (.invokevirtual 195, 3) := by decide +kernel
theorem dX11_goesOn_186 : decode cX11_goesOn 186 = .ok (.ifCond .eq 7, 3) := by decide +kernel
theorem dX11_goesOn_189 : decode cX11_goesOn 189 = .ok (.iconst 3, 1) := by decide +kernel
theorem dX11_goesOn_190 : decode cX11_goesOn 190 = .ok (.goto 4, 3) := by decide +kernel
theorem dX11_goesOn_193 : decode cX11_goesOn 193 = .ok (.iconst 4, 1) := by decide +kernel
theorem dX11_goesOn_194 : decode cX11_goesOn 194 = .ok (.putfield 204, 3) := by decide +kernel
theorem dX11_goesOn_197 : decode cX11_goesOn 197 = .ok (.aload_n 0, 1) := by decide +kernel
theorem dX11_goesOn_198 : decode cX11_goesOn 198 = .ok (.dup, 1) := by decide +kernel
theorem dX11_goesOn_199 : decode cX11_goesOn 199 = .ok (.getfield 192, 3) := by decide +kernel
theorem dX11_goesOn_202 : decode cX11_goesOn 202 = .ok (.iconst 1, 1) := by decide +kernel
theorem dX11_goesOn_203 : decode cX11_goesOn 203 = .ok (.iadd, 1) := by decide +kernel
theorem dX11_goesOn_204 : decode cX11_goesOn 204 = .ok (.putfield 192, 3) := by decide +kernel
theorem dX11_goesOn_207 : decode cX11_goesOn 207 = .ok (.return_, 1) := by decide +kernel
theorem dX11_isWord_0 : decode cX11_isWord 0 = .ok (.aload_n 0, 1) := by decide +kernel
