theorem dX11_by_1 : decode cX11_by 1 = .ok (.ifCond .ne 7, 3) := by decide +kernel
theorem dX11_by_4 : decode cX11_by 4 = .ok (.iconst 1, 1) := by decide +kernel
theorem dX11_by_5 : decode cX11_by 5 = .ok (.goto 36, 3) := by decide +kernel
theorem dX11_by_8 : decode cX11_by 8 = .ok (.iload_n 0, 1) := by decide +kernel
theorem dX11_by_9 : decode cX11_by 9 = .ok (.iconst 1, 1) := by decide +kernel
theorem dX11_by_10 : decode cX11_by 10 = .ok (.if_icmp .ne 8, 3) := by decide +kernel
theorem dX11_by_13 : decode cX11_by 13 = .ok (.bipush 100, 2) := by decide +kernel
theorem dX11_by_15 : decode cX11_by 15 = .ok (.goto 26, 3) := by decide +kernel
theorem dX11_by_18 : decode cX11_by 18 = .ok (.iload_n 0, 1) := by decide +kernel
theorem dX11_by_19 : decode cX11_by 19 = .ok (.iconst 2, 1) := by decide +kernel
theorem dX11_by_20 : decode cX11_by 20 = .ok (.if_icmp .ne 9, 3) := by decide +kernel
theorem dX11_by_23 : decode cX11_by 23 = .ok (.sipush 10000, 3) := by decide +kernel
theorem dX11_by_26 : decode cX11_by 26 = .ok (.goto 15, 3) := by decide +kernel
theorem dX11_by_29 : decode cX11_by 29 = .ok (.iload_n 0, 1) := by decide +kernel
theorem dX11_by_30 : decode cX11_by 30 = .ok (.iconst 3, 1) := by decide +kernel
theorem dX11_by_31 : decode cX11_by 31 = .ok (.if_icmp .ne 8, 3) := by decide +kernel
theorem dX11_by_34 : decode cX11_by 34 = .ok (.ldc 92, 2) := by decide +kernel
theorem dX11_by_36 : decode cX11_by 36 = .ok (.goto 5, 3) := by decide +kernel
theorem dX11_by_39 : decode cX11_by 39 = .ok (.ldc 93, 2) := by decide +kernel
theorem dX11_by_41 : decode cX11_by 41 = .ok (.ireturn, 1) := by decide +kernel
theorem dX11_traitOf_0 : decode cX11_traitOf 0 = .ok (.iload_n 0, 1) := by decide +kernel
theorem dX11_traitOf_1 : decode cX11_traitOf 1 = .ok (.iload_n 1, 1) := by decide +kernel
theorem dX11_traitOf_2 : decode cX11_traitOf 2 = .ok (.invokestatic 94, 3) := by decide +kernel
theorem dX11_traitOf_5 : decode cX11_traitOf 5 = .ok (.idiv, 1) := by decide +kernel
theorem dX11_traitOf_6 : decode cX11_traitOf 6 = .ok (.iload_n 1, 1) := by decide +kernel
theorem dX11_traitOf_7 : decode cX11_traitOf 7 = .ok (.invokestatic 98, 3) := by decide +kernel
theorem dX11_traitOf_10 : decode cX11_traitOf 10 = .ok (.irem, 1) := by decide +kernel
theorem dX11_traitOf_11 : decode cX11_traitOf 11 = .ok (.ireturn, 1) := by decide +kernel
theorem dX11_with_0 : decode cX11_with 0 = .ok (.iload_n 0, 1) := by decide +kernel
theorem dX11_with_1 : decode cX11_with 1 = .ok (.iload_n 2, 1) := by decide +kernel
theorem dX11_with_2 : decode cX11_with 2 = .ok (.iload_n 0, 1) := by decide +kernel
theorem dX11_with_3 : decode cX11_with 3 = .ok (.iload_n 1, 1) := by decide +kernel
theorem dX11_with_4 : decode cX11_with 4 = .ok (.invokestatic 101, 3) := by decide +kernel
theorem dX11_with_7 : decode cX11_with 7 = .ok (.isub, 1) := by decide +kernel
theorem dX11_with_8 : decode cX11_with 8 = .ok (.iload_n 1, 1) := by decide +kernel
theorem dX11_with_9 : decode cX11_with 9 = .ok (.invokestatic 94, 3) := by decide +kernel
theorem dX11_with_12 : decode cX11_with 12 = .ok (.imul, 1) := by decide +kernel
theorem dX11_with_13 : decode cX11_with 13 = .ok (.iadd, 1) := by decide +kernel
theorem dX11_with_14 : decode cX11_with 14 = .ok (.ireturn, 1) := by decide +kernel
theorem dX11_profile_0 : decode cX11_profile 0 = .ok (.iload_n 1, 1) := by decide +kernel
theorem dX11_profile_1 : decode cX11_profile 1 = .ok (.iconst 0, 1) := by decide +kernel
theorem dX11_profile_2 : decode cX11_profile 2 = .ok (.bipush 99, 2) := by decide +kernel
theorem dX11_profile_4 : decode cX11_profile 4 = .ok (.invokestatic 64, 3) := by decide +kernel
theorem dX11_profile_7 : decode cX11_profile 7 = .ok (.ifCond .eq 45, 3) := by decide +kernel
theorem dX11_profile_10 : decode cX11_profile 10 = .ok (.iload_n 2, 1) := by decide +kernel
theorem dX11_profile_11 : decode cX11_profile 11 = .ok (.iconst 0, 1) := by decide +kernel
theorem dX11_profile_12 : decode cX11_profile 12 = .ok (.bipush 99, 2) := by decide +kernel
theorem dX11_profile_14 : decode cX11_profile 14 = .ok (.invokestatic 64, 3) := by decide +kernel
theorem dX11_profile_17 : decode cX11_profile 17 = .ok (.ifCond .eq 35, 3) := by decide +kernel
theorem dX11_profile_20 : decode cX11_profile 20 = .ok (.iload_n 3, 1) := by decide +kernel
theorem dX11_profile_21 : decode cX11_profile 21 = .ok (.iconst 0, 1) := by decide +kernel
theorem dX11_profile_22 : decode cX11_profile 22 = .ok (.bipush 9, 2) := by decide +kernel
theorem dX11_profile_24 : decode cX11_profile 24 = .ok (.invokestatic 64, 3) := by decide +kernel
theorem dX11_profile_27 : decode cX11_profile 27 = .ok (.ifCond .eq 25, 3) := by decide +kernel
theorem dX11_profile_30 : decode cX11_profile 30 = .ok (.iload 4, 2) := by decide +kernel
theorem dX11_profile_32 : decode cX11_profile 32 = .ok (.iconst 0, 1) := by decide +kernel
theorem dX11_profile_33 : decode cX11_profile 33 = .ok (.bipush 7, 2) := by decide +kernel
theorem dX11_profile_35 : decode cX11_profile 35 = .ok (.invokestatic 64, 3) := by decide +kernel
theorem dX11_profile_38 : decode cX11_profile 38 = .ok (.ifCond .eq 14, 3) := by decide +kernel
theorem dX11_profile_41 : decode cX11_profile 41 = .ok (.iload 5, 2) := by decide +kernel
theorem dX11_profile_43 : decode cX11_profile 43 = .ok (.iconst 0, 1) := by decide +kernel
theorem dX11_profile_44 : decode cX11_profile 44 = .ok (.bipush 31, 2) := by decide +kernel
theorem dX11_profile_46 : decode cX11_profile 46 = .ok (.invokestatic 64, 3) := by decide +kernel
theorem dX11_profile_49 : decode cX11_profile 49 = .ok (.ifCond .ne 6, 3) := by decide +kernel
theorem dX11_profile_52 : decode cX11_profile 52 = .ok (.bipush (-2), 2) := by decide +kernel
theorem dX11_profile_54 : decode cX11_profile 54 = .ok (.ireturn, 1) := by decide +kernel
theorem dX11_profile_55 : decode cX11_profile 55 = .ok (.iload_n 1, 1) := by decide +kernel
theorem dX11_profile_56 : decode cX11_profile 56 = .ok (.bipush 100, 2) := by decide +kernel
theorem dX11_profile_58 : decode cX11_profile 58 = .ok (.iload_n 2, 1) := by decide +kernel
theorem dX11_profile_59 : decode cX11_profile 59 = .ok (.imul, 1) := by decide +kernel
theorem dX11_profile_60 : decode cX11_profile 60 = .ok (.iadd, 1) := by decide +kernel
theorem dX11_profile_61 : decode cX11_profile 61 = .ok (.sipush 10000, 3) := by decide +kernel
theorem dX11_profile_64 : decode cX11_profile 64 = .ok (.iload_n 3, 1) := by decide +kernel
theorem dX11_profile_65 : decode cX11_profile 65 = .ok (.imul, 1) := by decide +kernel
theorem dX11_profile_66 : decode cX11_profile 66 = .ok (.iadd, 1) := by decide +kernel
theorem dX11_profile_67 : decode cX11_profile 67 = .ok (.ldc 92, 2) := by decide +kernel
theorem dX11_profile_69 : decode cX11_profile 69 = .ok (.iload 4, 2) := by decide +kernel
theorem dX11_profile_71 : decode cX11_profile 71 = .ok (.imul, 1) := by decide +kernel
theorem dX11_profile_72 : decode cX11_profile 72 = .ok (.iadd, 1) := by decide +kernel
theorem dX11_profile_73 : decode cX11_profile 73 = .ok (.ldc 93, 2) := by decide +kernel
theorem dX11_profile_75 : decode cX11_profile 75 = .ok (.iload 5, 2) := by decide +kernel
theorem dX11_profile_77 : decode cX11_profile 77 = .ok (.imul, 1) := by decide +kernel
theorem dX11_profile_78 : decode cX11_profile 78 = .ok (.iadd, 1) := by decide +kernel
theorem dX11_profile_79 : decode cX11_profile 79 = .ok (.ireturn, 1) := by decide +kernel
theorem dX11_trait_0 : decode cX11_trait 0 = .ok (.iload_n 1, 1) := by decide +kernel
theorem dX11_trait_1 : decode cX11_trait 1 = .ok (.invokestatic 104, 3) := by decide +kernel
theorem dX11_trait_4 : decode cX11_trait 4 = .ok (.ifCond .eq 20, 3) := by decide +kernel
theorem dX11_trait_7 : decode cX11_trait 7 = .ok (.iload_n 2, 1) := by decide +kernel
theorem dX11_trait_8 : decode cX11_trait 8 = .ok (.iconst 0, 1) := by decide +kernel
theorem dX11_trait_9 : decode cX11_trait 9 = .ok (.iconst 4, 1) := by decide +kernel
theorem dX11_trait_10 : decode cX11_trait 10 = .ok (.invokestatic 64, 3) := by decide +kernel
theorem dX11_trait_13 : decode cX11_trait 13 = .ok (.ifCond .eq 11, 3) := by decide +kernel
theorem dX11_trait_16 : decode cX11_trait 16 = .ok (.iload_n 1, 1) := by decide +kernel
theorem dX11_trait_17 : decode cX11_trait 17 = .ok (.iload_n 2, 1) := by decide +kernel
theorem dX11_trait_18 : decode cX11_trait 18 = .ok (.invokestatic 101, 3) := by decide +kernel
theorem dX11_trait_21 : decode cX11_trait 21 = .ok (.goto 5, 3) := by decide +kernel
theorem dX11_trait_24 : decode cX11_trait 24 = .ok (.bipush (-2), 2) := by decide +kernel
theorem dX11_trait_26 : decode cX11_trait 26 = .ok (.ireturn, 1) := by decide +kernel
theorem dX11_isSo_0 : decode cX11_isSo 0 = .ok (.aload_n 0, 1) := by decide +kernel
theorem dX11_isSo_1 : decode cX11_isSo 1 = .ok (.bipush 11, 2) := by decide +kernel
theorem dX11_isSo_3 : decode cX11_isSo 3 = .ok (.iload_n 1, 1) := by decide +kernel
theorem dX11_isSo_4 : decode cX11_isSo 4 = .ok (.imul, 1) := by decide +kernel
theorem dX11_isSo_5 : decode cX11_isSo 5 = .ok (.iconst 2, 1) := by decide +kernel
theorem dX11_isSo_6 : decode cX11_isSo 6 = .ok (.iadd, 1) := by decide +kernel
theorem dX11_isSo_7 : decode cX11_isSo 7 = .ok (.iaload, 1) := by decide +kernel
theorem dX11_isSo_8 : decode cX11_isSo 8 = .ok (.istore_n 3, 1) := by decide +kernel
theorem dX11_isSo_9 : decode cX11_isSo 9 = .ok (.aload_n 0, 1) := by decide +kernel
theorem dX11_isSo_10 : decode cX11_isSo 10 = .ok (.bipush 11, 2) := by decide +kernel
theorem dX11_isSo_12 : decode cX11_isSo 12 = .ok (.iload_n 1, 1) := by decide +kernel
theorem dX11_isSo_13 : decode cX11_isSo 13 = .ok (.imul, 1) := by decide +kernel
theorem dX11_isSo_14 : decode cX11_isSo 14 = .ok (.iconst 3, 1) := by decide +kernel
theorem dX11_isSo_15 : decode cX11_isSo 15 = .ok (.iadd, 1) := by decide +kernel
theorem dX11_isSo_16 : decode cX11_isSo 16 = .ok (.iaload, 1) := by decide +kernel
theorem dX11_isSo_17 : decode cX11_isSo 17 = .ok (.istore 4, 2) := by decide +kernel
theorem dX11_isSo_19 : decode cX11_isSo 19 = .ok (.iload_n 2, 1) := by decide +kernel
theorem dX11_isSo_20 : decode cX11_isSo 20 = .ok (.aload_n 0, 1) := by decide +kernel
theorem dX11_isSo_21 : decode cX11_isSo 21 = .ok (.bipush 11, 2) := by decide +kernel
theorem dX11_isSo_23 : decode cX11_isSo 23 = .ok (.iload_n 1, 1) := by decide +kernel
theorem dX11_isSo_24 : decode cX11_isSo 24 = .ok (.imul, 1) := by decide +kernel
theorem dX11_isSo_25 : decode cX11_isSo 25 = .ok (.iconst 1, 1) := by decide +kernel
theorem dX11_isSo_26 : decode cX11_isSo 26 = .ok (.iadd, 1) := by decide +kernel
theorem dX11_isSo_27 : decode cX11_isSo 27 = .ok (.iaload, 1) := by decide +kernel
theorem dX11_isSo_28 : decode cX11_isSo 28 = .ok (.invokestatic 101, 3) := by decide +kernel
theorem dX11_isSo_31 : decode cX11_isSo 31 = .ok (.istore 5, 2) := by decide +kernel
theorem dX11_isSo_33 : decode cX11_isSo 33 = .ok (.iload_n 2, 1) := by decide +kernel
theorem dX11_isSo_34 : decode cX11_isSo 34 = .ok (.iconst 4, 1) := by decide +kernel
theorem dX11_isSo_35 : decode cX11_isSo 35 = .ok (.invokestatic 101, 3) := by decide +kernel
theorem dX11_isSo_38 : decode cX11_isSo 38 = .ok (.istore 6, 2) := by decide +kernel
theorem dX11_isSo_40 : decode cX11_isSo 40 = .ok (.aload_n 0, 1) := by decide +kernel
theorem dX11_isSo_41 : decode cX11_isSo 41 = .ok (.bipush 11, 2) := by decide +kernel
theorem dX11_isSo_43 : decode cX11_isSo 43 = .ok (.iload_n 1, 1) := by decide +kernel
theorem dX11_isSo_44 : decode cX11_isSo 44 = .ok (.imul, 1) := by decide +kernel
theorem dX11_isSo_45 : decode cX11_isSo 45 = .ok (.iaload, 1) := by decide +kernel
theorem dX11_isSo_46 : decode cX11_isSo 46 = .ok (.tableswitch 99 0 4 #[34, 36, 45, 62, 84], 34) := by decide +kernel
theorem dX11_isSo_80 : decode cX11_isSo 80 = .ok (.iconst 1, 1) := by decide +kernel
theorem dX11_isSo_81 : decode cX11_isSo 81 = .ok (.ireturn, 1) := by decide +kernel
theorem dX11_isSo_82 : decode cX11_isSo 82 = .ok (.iload 5, 2) := by decide +kernel
theorem dX11_isSo_84 : decode cX11_isSo 84 = .ok (.iload_n 3, 1) := by decide +kernel
theorem dX11_isSo_85 : decode cX11_isSo 85 = .ok (.iload 4, 2) := by decide +kernel
theorem dX11_isSo_87 : decode cX11_isSo 87 = .ok (.invokestatic 64, 3) := by decide +kernel
theorem dX11_isSo_90 : decode cX11_isSo 90 = .ok (.ireturn, 1) := by decide +kernel
theorem dX11_isSo_91 : decode cX11_isSo 91 = .ok (.iload 5, 2) := by decide +kernel
theorem dX11_isSo_93 : decode cX11_isSo 93 = .ok (.iload_n 3, 1) := by decide +kernel
theorem dX11_isSo_94 : decode cX11_isSo 94 = .ok (.iload 4, 2) := by decide +kernel
theorem dX11_isSo_96 : decode cX11_isSo 96 = .ok (.invokestatic 64, 3) := by decide +kernel
theorem dX11_isSo_99 : decode cX11_isSo 99 = .ok (.ifCond .ne 7, 3) := by decide +kernel
theorem dX11_isSo_102 : decode cX11_isSo 102 = .ok (.iconst 1, 1) := by decide +kernel
theorem dX11_isSo_103 : decode cX11_isSo 103 = .ok (.goto 4, 3) := by decide +kernel
theorem dX11_isSo_106 : decode cX11_isSo 106 = .ok (.iconst 0, 1) := by decide +kernel
theorem dX11_isSo_107 : decode cX11_isSo 107 = .ok (.ireturn, 1) := by decide +kernel
theorem dX11_isSo_108 : decode cX11_isSo 108 = .ok (.iload 6, 2) := by decide +kernel
theorem dX11_isSo_110 : decode cX11_isSo 110 = .ok (.iload_n 3, 1) := by decide +kernel
theorem dX11_isSo_111 : decode cX11_isSo 111 = .ok (.iand, 1) := by decide +kernel
theorem dX11_isSo_112 : decode cX11_isSo 112 = .ok (.iload_n 3, 1) := by decide +kernel
theorem dX11_isSo_113 : decode cX11_isSo 113 = .ok (.if_icmp .ne 15, 3) := by decide +kernel
theorem dX11_isSo_116 : decode cX11_isSo 116 = .ok (.iload 6, 2) := by decide +kernel
theorem dX11_isSo_118 : decode cX11_isSo 118 = .ok (.iload 4, 2) := by decide +kernel
theorem dX11_isSo_120 : decode cX11_isSo 120 = .ok (.iand, 1) := by decide +kernel
theorem dX11_isSo_121 : decode cX11_isSo 121 = .ok (.ifCond .ne 7, 3) := by decide +kernel
theorem dX11_isSo_124 : decode cX11_isSo 124 = .ok (.iconst 1, 1) := by decide +kernel
theorem dX11_isSo_125 : decode cX11_isSo 125 = .ok (.goto 4, 3) := by decide +kernel
theorem dX11_isSo_128 : decode cX11_isSo 128 = .ok (.iconst 0, 1) := by decide +kernel
theorem dX11_isSo_129 : decode cX11_isSo 129 = .ok (.ireturn, 1) := by decide +kernel
theorem dX11_isSo_130 : decode cX11_isSo 130 = .ok (.iload 5, 2) := by decide +kernel
theorem dX11_isSo_132 : decode cX11_isSo 132 = .ok (.iload_n 3, 1) := by decide +kernel
theorem dX11_isSo_133 : decode cX11_isSo 133 = .ok (.imul, 1) := by decide +kernel
theorem dX11_isSo_134 : decode cX11_isSo 134 = .ok (.iload 4, 2) := by decide +kernel
theorem dX11_isSo_136 : decode cX11_isSo 136 = .ok (.if_icmp .lt 7, 3) := by decide +kernel
theorem dX11_isSo_139 : decode cX11_isSo 139 = .ok (.iconst 1, 1) := by decide +kernel
theorem dX11_isSo_140 : decode cX11_isSo 140 = .ok (.goto 4, 3) := by decide +kernel
theorem dX11_isSo_143 : decode cX11_isSo 143 = .ok (.iconst 0, 1) := by decide +kernel
theorem dX11_isSo_144 : decode cX11_isSo 144 = .ok (.ireturn, 1) := by decide +kernel
theorem dX11_isSo_145 : decode cX11_isSo 145 = .ok (.iload_n 2, 1) := by decide +kernel
theorem dX11_isSo_146 : decode cX11_isSo 146 = .ok (.iconst 0, 1) := by decide +kernel
theorem dX11_isSo_147 : decode cX11_isSo 147 = .ok (.invokestatic 101, 3) := by decide +kernel
theorem dX11_isSo_150 : decode cX11_isSo 150 = .ok (.iload_n 2, 1) := by decide +kernel
theorem dX11_isSo_151 : decode cX11_isSo 151 = .ok (.iconst 1, 1) := by decide +kernel
theorem dX11_isSo_152 : decode cX11_isSo 152 = .ok (.invokestatic 101, 3) := by decide +kernel
theorem dX11_isSo_155 : decode cX11_isSo 155 = .ok (.iadd, 1) := by decide +kernel
theorem dX11_isSo_156 : decode cX11_isSo 156 = .ok (.iload_n 3, 1) := by decide +kernel
theorem dX11_isSo_157 : decode cX11_isSo 157 = .ok (.iload 4, 2) := by decide +kernel
theorem dX11_isSo_159 : decode cX11_isSo 159 = .ok (.invokestatic 64, 3) := by decide +kernel
theorem dX11_isSo_162 : decode cX11_isSo 162 = .ok (.ireturn, 1) := by decide +kernel
theorem dX11_isOfSpan_0 : decode cX11_isOfSpan 0 = .ok (.iload_n 2, 1) := by decide +kernel
theorem dX11_isOfSpan_1 : decode cX11_isOfSpan 1 = .ok (.aload_n 0, 1) := by decide +kernel
theorem dX11_isOfSpan_2 : decode cX11_isOfSpan 2 = .ok (.bipush 11, 2) := by decide +kernel
theorem dX11_isOfSpan_4 : decode cX11_isOfSpan 4 = .ok (.iload_n 1, 1) := by decide +kernel
theorem dX11_isOfSpan_5 : decode cX11_isOfSpan 5 = .ok (.imul, 1) := by decide +kernel
theorem dX11_isOfSpan_6 : decode cX11_isOfSpan 6 = .ok (.bipush 8, 2) := by decide +kernel
theorem dX11_isOfSpan_8 : decode cX11_isOfSpan 8 = .ok (.iadd, 1) := by decide +kernel
theorem dX11_isOfSpan_9 : decode cX11_isOfSpan 9 = .ok (.iaload, 1) := by decide +kernel
theorem dX11_isOfSpan_10 : decode cX11_isOfSpan 10 = .ok (.aload_n 0, 1) := by decide +kernel
theorem dX11_isOfSpan_11 : decode cX11_isOfSpan 11 = .ok (.bipush 11, 2) := by decide +kernel
theorem dX11_isOfSpan_13 : decode cX11_isOfSpan 13 = .ok (.iload_n 1, 1) := by decide +kernel
theorem dX11_isOfSpan_14 : decode cX11_isOfSpan 14 = .ok (.imul, 1) := by decide +kernel
theorem dX11_isOfSpan_15 : decode cX11_isOfSpan 15 = .ok (.bipush 9, 2) := by decide +kernel
theorem dX11_isOfSpan_17 : decode cX11_isOfSpan 17 = .ok (.iadd, 1) := by decide +kernel
theorem dX11_isOfSpan_18 : decode cX11_isOfSpan 18 = .ok (.iaload, 1) := by decide +kernel
theorem dX11_isOfSpan_19 : decode cX11_isOfSpan 19 = .ok (.invokestatic 64, 3) := by decide +kernel
theorem dX11_isOfSpan_22 : decode cX11_isOfSpan 22 = .ok (.ireturn, 1) := by decide +kernel
theorem dX11_looks_0 : decode cX11_looks 0 = .ok (.aload_n 0, 1) := by decide +kernel
theorem dX11_looks_1 : decode cX11_looks 1 = .ok (.iconst 0, 1) := by decide +kernel
theorem dX11_looks_2 : decode cX11_looks 2 = .ok (.putfield 107, 3) := by decide +kernel
theorem dX11_looks_5 : decode cX11_looks 5 = .ok (.aload_n 0, 1) := by decide +kernel
theorem dX11_looks_6 : decode cX11_looks 6 = .ok (.iconst 0, 1) := by decide +kernel
theorem dX11_looks_7 : decode cX11_looks 7 = .ok (.putfield 110, 3) := by decide +kernel
theorem dX11_looks_10 : decode cX11_looks 10 = .ok (.iconst 0, 1) := by decide +kernel
theorem dX11_looks_11 : decode cX11_looks 11 = .ok (.istore 5, 2) := by decide +kernel
theorem dX11_looks_13 : decode cX11_looks 13 = .ok (.iload_n 2, 1) := by decide +kernel
theorem dX11_looks_14 : decode cX11_looks 14 = .ok (.iconst 1, 1) := by decide +kernel
theorem dX11_looks_15 : decode cX11_looks 15 = .ok (.isub, 1) := by decide +kernel
theorem dX11_looks_16 : decode cX11_looks 16 = .ok (.istore 6, 2) := by decide +kernel
theorem dX11_looks_18 : decode cX11_looks 18 = .ok (.iload 6, 2) := by decide +kernel
theorem dX11_looks_20 : decode cX11_looks 20 = .ok (.ifCond .lt 104, 3) := by decide +kernel
theorem dX11_looks_23 : decode cX11_looks 23 = .ok (.aload_n 1, 1) := by decide +kernel
theorem dX11_looks_24 : decode cX11_looks 24 = .ok (.iload 6, 2) := by decide +kernel
theorem dX11_looks_26 : decode cX11_looks 26 = .ok (.iload 4, 2) := by decide +kernel
theorem dX11_looks_28 : decode cX11_looks 28 = .ok (.invokestatic 113, 3) := by decide +kernel
theorem dX11_looks_31 : decode cX11_looks 31 = .ok (.ifCond .eq 87, 3) := by decide +kernel
theorem dX11_looks_34 : decode cX11_looks 34 = .ok (.aload_n 1, 1) := by decide +kernel
theorem dX11_looks_35 : decode cX11_looks 35 = .ok (.iload 6, 2) := by decide +kernel
theorem dX11_looks_37 : decode cX11_looks 37 = .ok (.iload_n 3, 1) := by decide +kernel
theorem dX11_looks_38 : decode cX11_looks 38 = .ok (.invokestatic 117, 3) := by decide +kernel
theorem dX11_looks_41 : decode cX11_looks 41 = .ok (.ifCond .ne 6, 3) := by decide +kernel
theorem dX11_looks_44 : decode cX11_looks 44 = .ok (.goto 74, 3) := by decide +kernel
theorem dX11_looks_47 : decode cX11_looks 47 = .ok (.aload_n 0, 1) := by decide +kernel
theorem dX11_looks_48 : decode cX11_looks 48 = .ok (.dup, 1) := by decide +kernel
theorem dX11_looks_49 : decode cX11_looks 49 = .ok (.getfield 107, 3) := by decide +kernel
theorem dX11_looks_52 : decode cX11_looks 52 = .ok (.iconst 1, 1) := by decide +kernel
theorem dX11_looks_53 : decode cX11_looks 53 = .ok (.iload 6, 2) := by decide +kernel
theorem dX11_looks_55 : decode cX11_looks 55 = .ok (.ishl, 1) := by decide +kernel
theorem dX11_looks_56 : decode cX11_looks 56 = .ok (.ior, 1) := by decide +kernel
theorem dX11_looks_57 : decode cX11_looks 57 = .ok (.putfield 107, 3) := by decide +kernel
theorem dX11_looks_60 : decode cX11_looks 60 = .ok (.iload 5, 2) := by decide +kernel
theorem dX11_looks_62 : decode cX11_looks 62 = .ok (.iload 6, 2) := by decide +kernel
theorem dX11_looks_64 : decode cX11_looks 64 = .ok (.ishr, 1) := by decide +kernel
theorem dX11_looks_65 : decode cX11_looks 65 = .ok (.iconst 1, 1) := by decide +kernel
theorem dX11_looks_66 : decode cX11_looks 66 = .ok (.iand, 1) := by decide +kernel
theorem dX11_looks_67 : decode cX11_looks 67 = .ok (.iconst 1, 1) := by decide +kernel
theorem dX11_looks_68 : decode cX11_looks 68 = .ok (.if_icmp .ne 6, 3) := by decide +kernel
theorem dX11_looks_71 : decode cX11_looks 71 = .ok (.goto 47, 3) := by decide +kernel
theorem dX11_looks_74 : decode cX11_looks 74 = .ok (.aload_n 0, 1) := by decide +kernel
theorem dX11_looks_75 : decode cX11_looks 75 = .ok (.dup, 1) := by decide +kernel
theorem dX11_looks_76 : decode cX11_looks 76 = .ok (.getfield 110, 3) := by decide +kernel
theorem dX11_looks_79 : decode cX11_looks 79 = .ok (.iconst 1, 1) := by decide +kernel
theorem dX11_looks_80 : decode cX11_looks 80 = .ok (.iload 6, 2) := by decide +kernel
theorem dX11_looks_82 : decode cX11_looks 82 = .ok (.ishl, 1) := by decide +kernel
theorem dX11_looks_83 : decode cX11_looks 83 = .ok (.ior, 1) := by decide +kernel
theorem dX11_looks_84 : decode cX11_looks 84 = .ok (.putfield 110, 3) := by decide +kernel
theorem dX11_looks_87 : decode cX11_looks 87 = .ok (.aload_n 1, 1) := by decide +kernel
theorem dX11_looks_88 : decode cX11_looks 88 = .ok (.bipush 11, 2) := by decide +kernel
theorem dX11_looks_90 : decode cX11_looks 90 = .ok (.iload 6, 2) := by decide +kernel
theorem dX11_looks_92 : decode cX11_looks 92 = .ok (.imul, 1) := by decide +kernel
theorem dX11_looks_93 : decode cX11_looks 93 = .ok (.bipush 10, 2) := by decide +kernel
theorem dX11_looks_95 : decode cX11_looks 95 = .ok (.iadd, 1) := by decide +kernel
theorem dX11_looks_96 : decode cX11_looks 96 = .ok (.iaload, 1) := by decide +kernel
theorem dX11_looks_97 : decode cX11_looks 97 = .ok (.istore 7, 2) := by decide +kernel
theorem dX11_looks_99 : decode cX11_looks 99 = .ok (.iload 5, 2) := by decide +kernel
theorem dX11_looks_101 : decode cX11_looks 101 = .ok (.iload 7, 2) := by decide +kernel
theorem dX11_looks_103 : decode cX11_looks 103 = .ok (.iconst (-1), 1) := by decide +kernel
theorem dX11_looks_104 : decode cX11_looks 104 = .ok (.if_icmp .ne 7, 3) := by decide +kernel
theorem dX11_looks_107 : decode cX11_looks 107 = .ok (.iconst 0, 1) := by decide +kernel
theorem dX11_looks_108 : decode cX11_looks 108 = .ok (.goto 7, 3) := by decide +kernel
theorem dX11_looks_111 : decode cX11_looks 111 = .ok (.iconst 1, 1) := by decide +kernel
theorem dX11_looks_112 : decode cX11_looks 112 = .ok (.iload 7, 2) := by decide +kernel
theorem dX11_looks_114 : decode cX11_looks 114 = .ok (.ishl, 1) := by decide +kernel
theorem dX11_looks_115 : decode cX11_looks 115 = .ok (.ior, 1) := by decide +kernel
theorem dX11_looks_116 : decode cX11_looks 116 = .ok (.istore 5, 2) := by decide +kernel
theorem dX11_looks_118 : decode cX11_looks 118 = .ok (.iinc 6 (-1), 3) := by decide +kernel
theorem dX11_looks_121 : decode cX11_looks 121 = .ok (.goto (-103), 3) := by decide +kernel
theorem dX11_looks_124 : decode cX11_looks 124 = .ok (.return_, 1) := by decide +kernel
theorem dX11_counts_0 : decode cX11_counts 0 = .ok (.aload_n 1, 1) := by decide +kernel
theorem dX11_counts_1 : decode cX11_counts 1 = .ok (.bipush 11, 2) := by decide +kernel
theorem dX11_counts_3 : decode cX11_counts 3 = .ok (.iload_n 2, 1) := by decide +kernel
theorem dX11_counts_4 : decode cX11_counts 4 = .ok (.imul, 1) := by decide +kernel
theorem dX11_counts_5 : decode cX11_counts 5 = .ok (.bipush 10, 2) := by decide +kernel
theorem dX11_counts_7 : decode cX11_counts 7 = .ok (.iadd, 1) := by decide +kernel
theorem dX11_counts_8 : decode cX11_counts 8 = .ok (.iaload, 1) := by decide +kernel
theorem dX11_counts_9 : decode cX11_counts 9 = .ok (.istore_n 3, 1) := by decide +kernel
theorem dX11_counts_10 : decode cX11_counts 10 = .ok (.aload_n 0, 1) := by decide +kernel
theorem dX11_counts_11 : decode cX11_counts 11 = .ok (.getfield 110, 3) := by decide +kernel
theorem dX11_counts_14 : decode cX11_counts 14 = .ok (.iload_n 2, 1) := by decide +kernel
theorem dX11_counts_15 : decode cX11_counts 15 = .ok (.ishr, 1) := by decide +kernel
theorem dX11_counts_16 : decode cX11_counts 16 = .ok (.iconst 1, 1) := by decide +kernel
theorem dX11_counts_17 : decode cX11_counts 17 = .ok (.iand, 1) := by decide +kernel
theorem dX11_counts_18 : decode cX11_counts 18 = .ok (.iconst 1, 1) := by decide +kernel
theorem dX11_counts_19 : decode cX11_counts 19 = .ok (.if_icmp .ne 24, 3) := by decide +kernel
theorem dX11_counts_22 : decode cX11_counts 22 = .ok (.iload_n 3, 1) := by decide +kernel
theorem dX11_counts_23 : decode cX11_counts 23 = .ok (.iconst (-1), 1) := by decide +kernel
theorem dX11_counts_24 : decode cX11_counts 24 = .ok (.if_icmp .eq 15, 3) := by decide +kernel
theorem dX11_counts_27 : decode cX11_counts 27 = .ok (.aload_n 0, 1) := by decide +kernel
theorem dX11_counts_28 : decode cX11_counts 28 = .ok (.getfield 107, 3) := by decide +kernel
theorem dX11_counts_31 : decode cX11_counts 31 = .ok (.iload_n 3, 1) := by decide +kernel
theorem dX11_counts_32 : decode cX11_counts 32 = .ok (.ishr, 1) := by decide +kernel
theorem dX11_counts_33 : decode cX11_counts 33 = .ok (.iconst 1, 1) := by decide +kernel
theorem dX11_counts_34 : decode cX11_counts 34 = .ok (.iand, 1) := by decide +kernel
theorem dX11_counts_35 : decode cX11_counts 35 = .ok (.iconst 1, 1) := by decide +kernel
theorem dX11_counts_36 : decode cX11_counts 36 = .ok (.if_icmp .ne 7, 3) := by decide +kernel
theorem dX11_counts_39 : decode cX11_counts 39 = .ok (.iconst 1, 1) := by decide +kernel
theorem dX11_counts_40 : decode cX11_counts 40 = .ok (.goto 4, 3) := by decide +kernel
theorem dX11_counts_43 : decode cX11_counts 43 = .ok (.iconst 0, 1) := by decide +kernel
theorem dX11_counts_44 : decode cX11_counts 44 = .ok (.ireturn, 1) := by decide +kernel
theorem dX11_brings_0 : decode cX11_brings 0 = .ok (.aload_n 0, 1) := by decide +kernel
theorem dX11_brings_1 : decode cX11_brings 1 = .ok (.bipush 11, 2) := by decide +kernel
theorem dX11_brings_3 : decode cX11_brings 3 = .ok (.iload_n 1, 1) := by decide +kernel
theorem dX11_brings_4 : decode cX11_brings 4 = .ok (.imul, 1) := by decide +kernel
theorem dX11_brings_5 : decode cX11_brings 5 = .ok (.bipush 6, 2) := by decide +kernel
theorem dX11_brings_7 : decode cX11_brings 7 = .ok (.iadd, 1) := by decide +kernel
theorem dX11_brings_8 : decode cX11_brings 8 = .ok (.iaload, 1) := by decide +kernel
theorem dX11_brings_9 : decode cX11_brings 9 = .ok (.istore_n 3, 1) := by decide +kernel
theorem dX11_brings_10 : decode cX11_brings 10 = .ok (.aload_n 0, 1) := by decide +kernel
theorem dX11_brings_11 : decode cX11_brings 11 = .ok (.bipush 11, 2) := by decide +kernel
theorem dX11_brings_13 : decode cX11_brings 13 = .ok (.iload_n 1, 1) := by decide +kernel
theorem dX11_brings_14 : decode cX11_brings 14 = .ok (.imul, 1) := by decide +kernel
theorem dX11_brings_15 : decode cX11_brings 15 = .ok (.bipush 7, 2) := by decide +kernel
theorem dX11_brings_17 : decode cX11_brings 17 = .ok (.iadd, 1) := by decide +kernel
theorem dX11_brings_18 : decode cX11_brings 18 = .ok (.iaload, 1) := by decide +kernel
theorem dX11_brings_19 : decode cX11_brings 19 = .ok (.istore 4, 2) := by decide +kernel
theorem dX11_brings_21 : decode cX11_brings 21 = .ok (.iload_n 2, 1) := by decide +kernel
theorem dX11_brings_22 : decode cX11_brings 22 = .ok (.aload_n 0, 1) := by decide +kernel
theorem dX11_brings_23 : decode cX11_brings 23 = .ok (.bipush 11, 2) := by decide +kernel
theorem dX11_brings_25 : decode cX11_brings 25 = .ok (.iload_n 1, 1) := by decide +kernel
theorem dX11_brings_26 : decode cX11_brings 26 = .ok (.imul, 1) := by decide +kernel
theorem dX11_brings_27 : decode cX11_brings 27 = .ok (.iconst 5, 1) := by decide +kernel
theorem dX11_brings_28 : decode cX11_brings 28 = .ok (.iadd, 1) := by decide +kernel
theorem dX11_brings_29 : decode cX11_brings 29 = .ok (.iaload, 1) := by decide +kernel
theorem dX11_brings_30 : decode cX11_brings 30 = .ok (.invokestatic 101, 3) := by decide +kernel
theorem dX11_brings_33 : decode cX11_brings 33 = .ok (.istore 5, 2) := by decide +kernel
theorem dX11_brings_35 : decode cX11_brings 35 = .ok (.aload_n 0, 1) := by decide +kernel
theorem dX11_brings_36 : decode cX11_brings 36 = .ok (.bipush 11, 2) := by decide +kernel
theorem dX11_brings_38 : decode cX11_brings 38 = .ok (.iload_n 1, 1) := by decide +kernel
theorem dX11_brings_39 : decode cX11_brings 39 = .ok (.imul, 1) := by decide +kernel
theorem dX11_brings_40 : decode cX11_brings 40 = .ok (.iconst 4, 1) := by decide +kernel
theorem dX11_brings_41 : decode cX11_brings 41 = .ok (.iadd, 1) := by decide +kernel
theorem dX11_brings_42 : decode cX11_brings 42 = .ok (.iaload, 1) := by decide +kernel
theorem dX11_brings_43 : decode cX11_brings 43 = .ok (.tableswitch 62 0 3 #[29, 31, 39, 60], 29) := by decide +kernel
theorem dX11_brings_72 : decode cX11_brings 72 = .ok (.iload_n 3, 1) := by decide +kernel
theorem dX11_brings_73 : decode cX11_brings 73 = .ok (.ireturn, 1) := by decide +kernel
theorem dX11_brings_74 : decode cX11_brings 74 = .ok (.iload_n 3, 1) := by decide +kernel
theorem dX11_brings_75 : decode cX11_brings 75 = .ok (.iload 5, 2) := by decide +kernel
theorem dX11_brings_77 : decode cX11_brings 77 = .ok (.iload 4, 2) := by decide +kernel
theorem dX11_brings_79 : decode cX11_brings 79 = .ok (.idiv, 1) := by decide +kernel
theorem dX11_brings_80 : decode cX11_brings 80 = .ok (.imul, 1) := by decide +kernel
theorem dX11_brings_81 : decode cX11_brings 81 = .ok (.ireturn, 1) := by decide +kernel
theorem dX11_brings_82 : decode cX11_brings 82 = .ok (.iload_n 3, 1) := by decide +kernel
theorem dX11_brings_83 : decode cX11_brings 83 = .ok (.iload 4, 2) := by decide +kernel
theorem dX11_brings_85 : decode cX11_brings 85 = .ok (.iload 5, 2) := by decide +kernel
theorem dX11_brings_87 : decode cX11_brings 87 = .ok (.imul, 1) := by decide +kernel
theorem dX11_brings_88 : decode cX11_brings 88 = .ok (.if_icmp .le 13, 3) := by decide +kernel
theorem dX11_brings_91 : decode cX11_brings 91 = .ok (.iload_n 3, 1) := by decide +kernel
theorem dX11_brings_92 : decode cX11_brings 92 = .ok (.iload 4, 2) := by decide +kernel
theorem dX11_brings_94 : decode cX11_brings 94 = .ok (.iload 5, 2) := by decide +kernel
theorem dX11_brings_96 : decode cX11_brings 96 = .ok (.imul, 1) := by decide +kernel
theorem dX11_brings_97 : decode cX11_brings 97 = .ok (.isub, 1) := by decide +kernel
theorem dX11_brings_98 : decode cX11_brings 98 = .ok (.goto 4, 3) := by decide +kernel
theorem dX11_brings_101 : decode cX11_brings 101 = .ok (.iconst 0, 1) := by decide +kernel
theorem dX11_brings_102 : decode cX11_brings 102 = .ok (.ireturn, 1) := by decide +kernel
theorem dX11_brings_103 : decode cX11_brings 103 = .ok (.iconst 0, 1) := by decide +kernel
theorem dX11_brings_104 : decode cX11_brings 104 = .ok (.ireturn, 1) := by decide +kernel
theorem dX11_brings_105 : decode cX11_brings 105 = .ok (.iload_n 3, 1) := by decide +kernel
theorem dX11_brings_106 : decode cX11_brings 106 = .ok (.iload 5, 2) := by decide +kernel
theorem dX11_brings_108 : decode cX11_brings 108 = .ok (.if_icmp .ge 7, 3) := by decide +kernel
theorem dX11_brings_111 : decode cX11_brings 111 = .ok (.iload_n 3, 1) := by decide +kernel
theorem dX11_brings_112 : decode cX11_brings 112 = .ok (.goto 5, 3) := by decide +kernel
theorem dX11_brings_115 : decode cX11_brings 115 = .ok (.iload 5, 2) := by decide +kernel
theorem dX11_brings_117 : decode cX11_brings 117 = .ok (.ireturn, 1) := by decide +kernel
theorem dX11_outcomeOf_0 : decode cX11_outcomeOf 0 = .ok (.aload_n 0, 1) := by decide +kernel
theorem dX11_outcomeOf_1 : decode cX11_outcomeOf 1 = .ok (.aload_n 1, 1) := by decide +kernel
theorem dX11_outcomeOf_2 : decode cX11_outcomeOf 2 = .ok (.iload_n 2, 1) := by decide +kernel
theorem dX11_outcomeOf_3 : decode cX11_outcomeOf 3 = .ok (.iload_n 3, 1) := by decide +kernel
theorem dX11_outcomeOf_4 : decode cX11_outcomeOf 4 = .ok (.iload 4, 2) := by decide +kernel
theorem dX11_outcomeOf_6 : decode cX11_outcomeOf 6 = .ok (.invokevirtual 120, 3) := by decide +kernel
theorem dX11_outcomeOf_9 : decode cX11_outcomeOf 9 = .ok (.iconst 0, 1) := by decide +kernel
theorem dX11_outcomeOf_10 : decode cX11_outcomeOf 10 = .ok (.istore 5, 2) := by decide +kernel
theorem dX11_outcomeOf_12 : decode cX11_outcomeOf 12 = .ok (.iconst 0, 1) := by decide +kernel
theorem dX11_outcomeOf_13 : decode cX11_outcomeOf 13 = .ok (.istore 6, 2) := by decide +kernel
theorem dX11_outcomeOf_15 : decode cX11_outcomeOf 15 = .ok (.iload 6, 2) := by decide +kernel
theorem dX11_outcomeOf_17 : decode cX11_outcomeOf 17 = .ok (.iload_n 2, 1) := by decide +kernel
theorem dX11_outcomeOf_18 : decode cX11_outcomeOf 18 = .ok (.if_icmp .ge 35, 3) := by decide +kernel
theorem dX11_outcomeOf_21 : decode cX11_outcomeOf 21 = .ok (.iload 5, 2) := by decide +kernel
theorem dX11_outcomeOf_23 : decode cX11_outcomeOf 23 = .ok (.aload_n 0, 1) := by decide +kernel
theorem dX11_outcomeOf_24 : decode cX11_outcomeOf 24 = .ok (.aload_n 1, 1) := by decide +kernel
theorem dX11_outcomeOf_25 : decode cX11_outcomeOf 25 = .ok (.iload 6, 2) := by decide +kernel
theorem dX11_outcomeOf_27 : decode cX11_outcomeOf 27 = .ok (.invokevirtual 124, 3) := by decide +kernel
theorem dX11_outcomeOf_30 : decode cX11_outcomeOf 30 = .ok (.ifCond .eq 13, 3) := by decide +kernel
theorem dX11_outcomeOf_33 : decode cX11_outcomeOf 33 = .ok (.aload_n 1, 1) := by decide +kernel
theorem dX11_outcomeOf_34 : decode cX11_outcomeOf 34 = .ok (.iload 6, 2) := by decide +kernel
theorem dX11_outcomeOf_36 : decode cX11_outcomeOf 36 = .ok (.iload_n 3, 1) := by decide +kernel
theorem dX11_outcomeOf_37 : decode cX11_outcomeOf 37 = .ok (.invokestatic 128, 3) := by decide +kernel
theorem dX11_outcomeOf_40 : decode cX11_outcomeOf 40 = .ok (.goto 4, 3) := by decide +kernel
theorem dX11_outcomeOf_43 : decode cX11_outcomeOf 43 = .ok (.iconst 0, 1) := by decide +kernel
theorem dX11_outcomeOf_44 : decode cX11_outcomeOf 44 = .ok (.iadd, 1) := by decide +kernel
theorem dX11_outcomeOf_45 : decode cX11_outcomeOf 45 = .ok (.istore 5, 2) := by decide +kernel
theorem dX11_outcomeOf_47 : decode cX11_outcomeOf 47 = .ok (.iinc 6 1, 3) := by decide +kernel
theorem dX11_outcomeOf_50 : decode cX11_outcomeOf 50 = .ok (.goto (-35), 3) := by decide +kernel
theorem dX11_outcomeOf_53 : decode cX11_outcomeOf 53 = .ok (.iload 5, 2) := by decide +kernel
theorem dX11_outcomeOf_55 : decode cX11_outcomeOf 55 = .ok (.ireturn, 1) := by decide +kernel
theorem dX11_isNow_0 : decode cX11_isNow 0 = .ok (.aload_n 0, 1) := by decide +kernel
theorem dX11_isNow_1 : decode cX11_isNow 1 = .ok (.aload_n 0, 1) := by decide +kernel
theorem dX11_isNow_2 : decode cX11_isNow 2 = .ok (.getfield 7, 3) := by decide +kernel
theorem dX11_isNow_5 : decode cX11_isNow 5 = .ok (.aload_n 0, 1) := by decide +kernel
theorem dX11_isNow_6 : decode cX11_isNow 6 = .ok (.getfield 61, 3) := by decide +kernel
theorem dX11_isNow_9 : decode cX11_isNow 9 = .ok (.iload_n 1, 1) := by decide +kernel
theorem dX11_isNow_10 : decode cX11_isNow 10 = .ok (.iload_n 2, 1) := by decide +kernel
theorem dX11_isNow_11 : decode cX11_isNow 11 = .ok (.invokevirtual 132, 3) := by decide +kernel
theorem dX11_isNow_14 : decode cX11_isNow 14 = .ok (.ireturn, 1) := by decide +kernel
theorem dX11_isAsked_0 : decode cX11_isAsked 0 = .ok (.iload_n 0, 1) := by decide +kernel
theorem dX11_isAsked_1 : decode cX11_isAsked 1 = .ok (.invokestatic 104, 3) := by decide +kernel
theorem dX11_isAsked_4 : decode cX11_isAsked 4 = .ok (.ifCond .eq 14, 3) := by decide +kernel
theorem dX11_isAsked_7 : decode cX11_isAsked 7 = .ok (.iload_n 1, 1) := by decide +kernel
theorem dX11_isAsked_8 : decode cX11_isAsked 8 = .ok (.invokestatic 136, 3) := by decide +kernel
theorem dX11_isAsked_11 : decode cX11_isAsked 11 = .ok (.ifCond .eq 7, 3) := by decide +kernel
theorem dX11_isAsked_14 : decode cX11_isAsked 14 = .ok (.iconst 1, 1) := by decide +kernel
theorem dX11_isAsked_15 : decode cX11_isAsked 15 = .ok (.goto 4, 3) := by decide +kernel
theorem dX11_isAsked_18 : decode cX11_isAsked 18 = .ok (.iconst 0, 1) := by decide +kernel
theorem dX11_isAsked_19 : decode cX11_isAsked 19 = .ok (.ireturn, 1) := by decide +kernel
theorem dX11_outcome_0 : decode cX11_outcome 0 = .ok (.iload_n 1, 1) := by decide +kernel
theorem dX11_outcome_1 : decode cX11_outcome 1 = .ok (.iload_n 2, 1) := by decide +kernel
theorem dX11_outcome_2 : decode cX11_outcome 2 = .ok (.invokestatic 139, 3) := by decide +kernel
theorem dX11_outcome_5 : decode cX11_outcome 5 = .ok (.ifCond .eq 12, 3) := by decide +kernel
theorem dX11_outcome_8 : decode cX11_outcome 8 = .ok (.aload_n 0, 1) := by decide +kernel
theorem dX11_outcome_9 : decode cX11_outcome 9 = .ok (.iload_n 1, 1) := by decide +kernel
theorem dX11_outcome_10 : decode cX11_outcome 10 = .ok (.iload_n 2, 1) := by decide +kernel
theorem dX11_outcome_11 : decode cX11_outcome 11 = .ok (.invokevirtual 142, 3) := by decide +kernel
theorem dX11_outcome_14 : decode cX11_outcome 14 = .ok (.goto 5, 3) := by decide +kernel
theorem dX11_outcome_17 : decode cX11_outcome 17 = .ok (.bipush (-2), 2) := by decide +kernel
theorem dX11_outcome_19 : decode cX11_outcome 19 = .ok (.ireturn, 1) := by decide +kernel
theorem dX11_reason_0 : decode cX11_reason 0 = .ok (.iload_n 1, 1) := by decide +kernel
theorem dX11_reason_1 : decode cX11_reason 1 = .ok (.iload_n 2, 1) := by decide +kernel
theorem dX11_reason_2 : decode cX11_reason 2 = .ok (.invokestatic 139, 3) := by decide +kernel
theorem dX11_reason_5 : decode cX11_reason 5 = .ok (.ifCond .ne 6, 3) := by decide +kernel
theorem dX11_reason_8 : decode cX11_reason 8 = .ok (.bipush (-2), 2) := by decide +kernel
theorem dX11_reason_10 : decode cX11_reason 10 = .ok (.ireturn, 1) := by decide +kernel
theorem dX11_reason_11 : decode cX11_reason 11 = .ok (.aload_n 0, 1) := by decide +kernel
theorem dX11_reason_12 : decode cX11_reason 12 = .ok (.aload_n 0, 1) := by decide +kernel
theorem dX11_reason_13 : decode cX11_reason 13 = .ok (.getfield 7, 3) := by decide +kernel
theorem dX11_reason_16 : decode cX11_reason 16 = .ok (.aload_n 0, 1) := by decide +kernel
theorem dX11_reason_17 : decode cX11_reason 17 = .ok (.getfield 61, 3) := by decide +kernel
theorem dX11_reason_20 : decode cX11_reason 20 = .ok (.iload_n 1, 1) := by decide +kernel
theorem dX11_reason_21 : decode cX11_reason 21 = .ok (.iload_n 2, 1) := by decide +kernel
theorem dX11_reason_22 : decode cX11_reason 22 = .ok (.invokevirtual 120, 3) := by decide +kernel
theorem dX11_reason_25 : decode cX11_reason 25 = .ok (.iconst 0, 1) := by decide +kernel
theorem dX11_reason_26 : decode cX11_reason 26 = .ok (.istore_n 3, 1) := by decide +kernel
theorem dX11_reason_27 : decode cX11_reason 27 = .ok (.iconst 0, 1) := by decide +kernel
theorem dX11_reason_28 : decode cX11_reason 28 = .ok (.istore 4, 2) := by decide +kernel
theorem dX11_reason_30 : decode cX11_reason 30 = .ok (.iload 4, 2) := by decide +kernel
theorem dX11_reason_32 : decode cX11_reason 32 = .ok (.aload_n 0, 1) := by decide +kernel
theorem dX11_reason_33 : decode cX11_reason 33 = .ok (.getfield 61, 3) := by decide +kernel
theorem dX11_reason_36 : decode cX11_reason 36 = .ok (.if_icmp .ge 33, 3) := by decide +kernel
theorem dX11_reason_39 : decode cX11_reason 39 = .ok (.iload_n 3, 1) := by decide +kernel
theorem dX11_reason_40 : decode cX11_reason 40 = .ok (.aload_n 0, 1) := by decide +kernel
theorem dX11_reason_41 : decode cX11_reason 41 = .ok (.aload_n 0, 1) := by decide +kernel
theorem dX11_reason_42 : decode cX11_reason 42 = .ok (.getfield 7, 3) := by decide +kernel
theorem dX11_reason_45 : decode cX11_reason 45 = .ok (.iload 4, 2) := by decide +kernel
theorem dX11_reason_47 : decode cX11_reason 47 = .ok (.invokevirtual 124, 3) := by decide +kernel
theorem dX11_reason_50 : decode cX11_reason 50 = .ok (.ifCond .eq 10, 3) := by decide +kernel
theorem dX11_reason_53 : decode cX11_reason 53 = .ok (.iconst 1, 1) := by decide +kernel
theorem dX11_reason_54 : decode cX11_reason 54 = .ok (.iload 4, 2) := by decide +kernel
theorem dX11_reason_56 : decode cX11_reason 56 = .ok (.ishl, 1) := by decide +kernel
theorem dX11_reason_57 : decode cX11_reason 57 = .ok (.goto 4, 3) := by decide +kernel
theorem dX11_reason_60 : decode cX11_reason 60 = .ok (.iconst 0, 1) := by decide +kernel
theorem dX11_reason_61 : decode cX11_reason 61 = .ok (.ior, 1) := by decide +kernel
theorem dX11_reason_62 : decode cX11_reason 62 = .ok (.istore_n 3, 1) := by decide +kernel
theorem dX11_reason_63 : decode cX11_reason 63 = .ok (.iinc 4 1, 3) := by decide +kernel
theorem dX11_reason_66 : decode cX11_reason 66 = .ok (.goto (-36), 3) := by decide +kernel
theorem dX11_reason_69 : decode cX11_reason 69 = .ok (.iload_n 3, 1) := by decide +kernel
theorem dX11_reason_70 : decode cX11_reason 70 = .ok (.ireturn, 1) := by decide +kernel
theorem dX11_halting_0 : decode cX11_halting 0 = .ok (.iload_n 1, 1) := by decide +kernel
theorem dX11_halting_1 : decode cX11_halting 1 = .ok (.iconst 1, 1) := by decide +kernel
theorem dX11_halting_2 : decode cX11_halting 2 = .ok (.iadd, 1) := by decide +kernel
theorem dX11_halting_3 : decode cX11_halting 3 = .ok (.istore_n 2, 1) := by decide +kernel
theorem dX11_halting_4 : decode cX11_halting 4 = .ok (.iload_n 2, 1) := by decide +kernel
theorem dX11_halting_5 : decode cX11_halting 5 = .ok (.aload_n 0, 1) := by decide +kernel
theorem dX11_halting_6 : decode cX11_halting 6 = .ok (.getfield 61, 3) := by decide +kernel
theorem dX11_halting_9 : decode cX11_halting 9 = .ok (.if_icmp .ge 34, 3) := by decide +kernel
theorem dX11_halting_12 : decode cX11_halting 12 = .ok (.aload_n 0, 1) := by decide +kernel
theorem dX11_halting_13 : decode cX11_halting 13 = .ok (.iload_n 2, 1) := by decide +kernel
theorem dX11_halting_14 : decode cX11_halting 14 = .ok (.bipush 10, 2) := by decide +kernel
theorem dX11_halting_16 : decode cX11_halting 16 = .ok (.invokevirtual 83, 3) := by decide +kernel
theorem dX11_halting_19 : decode cX11_halting 19 = .ok (.iload_n 1, 1) := by decide +kernel
theorem dX11_halting_20 : decode cX11_halting 20 = .ok (.if_icmp .ne 17, 3) := by decide +kernel
theorem dX11_halting_23 : decode cX11_halting 23 = .ok (.aload_n 0, 1) := by decide +kernel
theorem dX11_halting_24 : decode cX11_halting 24 = .ok (.getfield 110, 3) := by decide +kernel
theorem dX11_halting_27 : decode cX11_halting 27 = .ok (.iload_n 2, 1) := by decide +kernel
theorem dX11_halting_28 : decode cX11_halting 28 = .ok (.ishr, 1) := by decide +kernel
theorem dX11_halting_29 : decode cX11_halting 29 = .ok (.iconst 1, 1) := by decide +kernel
theorem dX11_halting_30 : decode cX11_halting 30 = .ok (.iand, 1) := by decide +kernel
theorem dX11_halting_31 : decode cX11_halting 31 = .ok (.iconst 1, 1) := by decide +kernel
theorem dX11_halting_32 : decode cX11_halting 32 = .ok (.if_icmp .ne 5, 3) := by decide +kernel
theorem dX11_halting_35 : decode cX11_halting 35 = .ok (.iload_n 2, 1) := by decide +kernel
theorem dX11_halting_36 : decode cX11_halting 36 = .ok (.ireturn, 1) := by decide +kernel
theorem dX11_halting_37 : decode cX11_halting 37 = .ok (.iinc 2 1, 3) := by decide +kernel
theorem dX11_halting_40 : decode cX11_halting 40 = .ok (.goto (-36), 3) := by decide +kernel
theorem dX11_halting_43 : decode cX11_halting 43 = .ok (.iconst (-1), 1) := by decide +kernel
theorem dX11_halting_44 : decode cX11_halting 44 = .ok (.ireturn, 1) := by decide +kernel
theorem dX11_why_0 : decode cX11_why 0 = .ok (.iload_n 1, 1) := by decide +kernel
theorem dX11_why_1 : decode cX11_why 1 = .ok (.iload_n 2, 1) := by decide +kernel
theorem dX11_why_2 : decode cX11_why 2 = .ok (.invokestatic 139, 3) := by decide +kernel
theorem dX11_why_5 : decode cX11_why 5 = .ok (.ifCond .eq 21, 3) := by decide +kernel
theorem dX11_why_8 : decode cX11_why 8 = .ok (.aload_n 0, 1) := by decide +kernel
theorem dX11_why_9 : decode cX11_why 9 = .ok (.iload_n 3, 1) := by decide +kernel
theorem dX11_why_10 : decode cX11_why 10 = .ok (.invokevirtual 75, 3) := by decide +kernel
theorem dX11_why_13 : decode cX11_why 13 = .ok (.ifCond .eq 13, 3) := by decide +kernel
theorem dX11_why_16 : decode cX11_why 16 = .ok (.iload 4, 2) := by decide +kernel
theorem dX11_why_18 : decode cX11_why 18 = .ok (.iconst 0, 1) := by decide +kernel
theorem dX11_why_19 : decode cX11_why 19 = .ok (.iconst 2, 1) := by decide +kernel
theorem dX11_why_20 : decode cX11_why 20 = .ok (.invokestatic 64, 3) := by decide +kernel
theorem dX11_why_23 : decode cX11_why 23 = .ok (.ifCond .ne 6, 3) := by decide +kernel
theorem dX11_why_26 : decode cX11_why 26 = .ok (.bipush (-2), 2) := by decide +kernel
theorem dX11_why_28 : decode cX11_why 28 = .ok (.ireturn, 1) := by decide +kernel
theorem dX11_why_29 : decode cX11_why 29 = .ok (.aload_n 0, 1) := by decide +kernel
theorem dX11_why_30 : decode cX11_why 30 = .ok (.aload_n 0, 1) := by decide +kernel
theorem dX11_why_31 : decode cX11_why 31 = .ok (.getfield 7, 3) := by decide +kernel
theorem dX11_why_34 : decode cX11_why 34 = .ok (.aload_n 0, 1) := by decide +kernel
theorem dX11_why_35 : decode cX11_why 35 = .ok (.getfield 61, 3) := by decide +kernel
theorem dX11_why_38 : decode cX11_why 38 = .ok (.iload_n 1, 1) := by decide +kernel
theorem dX11_why_39 : decode cX11_why 39 = .ok (.iload_n 2, 1) := by decide +kernel
theorem dX11_why_40 : decode cX11_why 40 = .ok (.invokevirtual 120, 3) := by decide +kernel
theorem dX11_why_43 : decode cX11_why 43 = .ok (.iload 4, 2) := by decide +kernel
theorem dX11_why_45 : decode cX11_why 45 = .ok (.ifCond .ne 29, 3) := by decide +kernel
theorem dX11_why_48 : decode cX11_why 48 = .ok (.aload_n 0, 1) := by decide +kernel
theorem dX11_why_49 : decode cX11_why 49 = .ok (.aload_n 0, 1) := by decide +kernel
theorem dX11_why_50 : decode cX11_why 50 = .ok (.getfield 7, 3) := by decide +kernel
theorem dX11_why_53 : decode cX11_why 53 = .ok (.iload_n 3, 1) := by decide +kernel
theorem dX11_why_54 : decode cX11_why 54 = .ok (.invokevirtual 124, 3) := by decide +kernel
theorem dX11_why_57 : decode cX11_why 57 = .ok (.ifCond .eq 15, 3) := by decide +kernel
theorem dX11_why_60 : decode cX11_why 60 = .ok (.aload_n 0, 1) := by decide +kernel
theorem dX11_why_61 : decode cX11_why 61 = .ok (.getfield 7, 3) := by decide +kernel
theorem dX11_why_64 : decode cX11_why 64 = .ok (.iload_n 3, 1) := by decide +kernel
theorem dX11_why_65 : decode cX11_why 65 = .ok (.iload_n 1, 1) := by decide +kernel
theorem dX11_why_66 : decode cX11_why 66 = .ok (.invokestatic 128, 3) := by decide +kernel
theorem dX11_why_69 : decode cX11_why 69 = .ok (.goto 4, 3) := by decide +kernel
theorem dX11_why_72 : decode cX11_why 72 = .ok (.iconst 0, 1) := by decide +kernel
theorem dX11_why_73 : decode cX11_why 73 = .ok (.ireturn, 1) := by decide +kernel
theorem dX11_why_74 : decode cX11_why 74 = .ok (.iload 4, 2) := by decide +kernel
theorem dX11_why_76 : decode cX11_why 76 = .ok (.iconst 2, 1) := by decide +kernel
theorem dX11_why_77 : decode cX11_why 77 = .ok (.if_icmp .ne 9, 3) := by decide +kernel
theorem dX11_why_80 : decode cX11_why 80 = .ok (.aload_n 0, 1) := by decide +kernel
theorem dX11_why_81 : decode cX11_why 81 = .ok (.iload_n 3, 1) := by decide +kernel
theorem dX11_why_82 : decode cX11_why 82 = .ok (.invokevirtual 145, 3) := by decide +kernel
theorem dX11_why_85 : decode cX11_why 85 = .ok (.ireturn, 1) := by decide +kernel
theorem dX11_why_86 : decode cX11_why 86 = .ok (.aload_n 0, 1) := by decide +kernel
theorem dX11_why_87 : decode cX11_why 87 = .ok (.getfield 7, 3) := by decide +kernel
theorem dX11_why_90 : decode cX11_why 90 = .ok (.iload_n 3, 1) := by decide +kernel
theorem dX11_why_91 : decode cX11_why 91 = .ok (.iload_n 2, 1) := by decide +kernel
theorem dX11_why_92 : decode cX11_why 92 = .ok (.invokestatic 113, 3) := by decide +kernel
theorem dX11_why_95 : decode cX11_why 95 = .ok (.ifCond .ne 7, 3) := by decide +kernel
theorem dX11_why_98 : decode cX11_why 98 = .ok (.iconst 1, 1) := by decide +kernel
theorem dX11_why_99 : decode cX11_why 99 = .ok (.goto 51, 3) := by decide +kernel
theorem dX11_why_102 : decode cX11_why 102 = .ok (.aload_n 0, 1) := by decide +kernel
theorem dX11_why_103 : decode cX11_why 103 = .ok (.getfield 7, 3) := by decide +kernel
theorem dX11_why_106 : decode cX11_why 106 = .ok (.iload_n 3, 1) := by decide +kernel
theorem dX11_why_107 : decode cX11_why 107 = .ok (.iload_n 1, 1) := by decide +kernel
theorem dX11_why_108 : decode cX11_why 108 = .ok (.invokestatic 117, 3) := by decide +kernel
theorem dX11_why_111 : decode cX11_why 111 = .ok (.ifCond .ne 7, 3) := by decide +kernel
theorem dX11_why_114 : decode cX11_why 114 = .ok (.iconst 2, 1) := by decide +kernel
theorem dX11_why_115 : decode cX11_why 115 = .ok (.goto 35, 3) := by decide +kernel
theorem dX11_why_118 : decode cX11_why 118 = .ok (.aload_n 0, 1) := by decide +kernel
theorem dX11_why_119 : decode cX11_why 119 = .ok (.getfield 110, 3) := by decide +kernel
theorem dX11_why_122 : decode cX11_why 122 = .ok (.iload_n 3, 1) := by decide +kernel
theorem dX11_why_123 : decode cX11_why 123 = .ok (.ishr, 1) := by decide +kernel
theorem dX11_why_124 : decode cX11_why 124 = .ok (.iconst 1, 1) := by decide +kernel
theorem dX11_why_125 : decode cX11_why 125 = .ok (.iand, 1) := by decide +kernel
theorem dX11_why_126 : decode cX11_why 126 = .ok (.ifCond .ne 7, 3) := by decide +kernel
theorem dX11_why_129 : decode cX11_why 129 = .ok (.iconst 3, 1) := by decide +kernel
theorem dX11_why_130 : decode cX11_why 130 = .ok (.goto 20, 3) := by decide +kernel
theorem dX11_why_133 : decode cX11_why 133 = .ok (.aload_n 0, 1) := by decide +kernel
theorem dX11_why_134 : decode cX11_why 134 = .ok (.aload_n 0, 1) := by decide +kernel
theorem dX11_why_135 : decode cX11_why 135 = .ok (.getfield 7, 3) := by decide +kernel
theorem dX11_why_138 : decode cX11_why 138 = .ok (.iload_n 3, 1) := by decide +kernel
theorem dX11_why_139 : decode cX11_why 139 = .ok (.invokevirtual 124, 3) := by decide +kernel
theorem dX11_why_142 : decode cX11_why 142 = .ok (.ifCond .eq 7, 3) := by decide +kernel
theorem dX11_why_145 : decode cX11_why 145 = .ok (.iconst 0, 1) := by decide +kernel
theorem dX11_why_146 : decode cX11_why 146 = .ok (.goto 4, 3) := by decide +kernel
theorem dX11_why_149 : decode cX11_why 149 = .ok (.iconst 4, 1) := by decide +kernel
theorem dX11_why_150 : decode cX11_why 150 = .ok (.ireturn, 1) := by decide +kernel
theorem dX11_hold_0 : decode cX11_hold 0 = .ok (.iload_n 1, 1) := by decide +kernel
theorem dX11_hold_1 : decode cX11_hold 1 = .ok (.iload_n 2, 1) := by decide +kernel
theorem dX11_hold_2 : decode cX11_hold 2 = .ok (.invokestatic 139, 3) := by decide +kernel
theorem dX11_hold_5 : decode cX11_hold 5 = .ok (.ifCond .eq 12, 3) := by decide +kernel
theorem dX11_hold_8 : decode cX11_hold 8 = .ok (.iload_n 3, 1) := by decide +kernel
theorem dX11_hold_9 : decode cX11_hold 9 = .ok (.iconst 0, 1) := by decide +kernel
theorem dX11_hold_10 : decode cX11_hold 10 = .ok (.iconst 1, 1) := by decide +kernel
theorem dX11_hold_11 : decode cX11_hold 11 = .ok (.invokestatic 64, 3) := by decide +kernel
theorem dX11_hold_14 : decode cX11_hold 14 = .ok (.ifCond .ne 6, 3) := by decide +kernel
theorem dX11_hold_17 : decode cX11_hold 17 = .ok (.bipush (-2), 2) := by decide +kernel
theorem dX11_hold_19 : decode cX11_hold 19 = .ok (.ireturn, 1) := by decide +kernel
theorem dX11_hold_20 : decode cX11_hold 20 = .ok (.aload_n 0, 1) := by decide +kernel
theorem dX11_hold_21 : decode cX11_hold 21 = .ok (.aload_n 0, 1) := by decide +kernel
theorem dX11_hold_22 : decode cX11_hold 22 = .ok (.getfield 7, 3) := by decide +kernel
theorem dX11_hold_25 : decode cX11_hold 25 = .ok (.aload_n 0, 1) := by decide +kernel
theorem dX11_hold_26 : decode cX11_hold 26 = .ok (.getfield 61, 3) := by decide +kernel
theorem dX11_hold_29 : decode cX11_hold 29 = .ok (.iload_n 1, 1) := by decide +kernel
theorem dX11_hold_30 : decode cX11_hold 30 = .ok (.iload_n 2, 1) := by decide +kernel
theorem dX11_hold_31 : decode cX11_hold 31 = .ok (.invokevirtual 120, 3) := by decide +kernel
theorem dX11_hold_34 : decode cX11_hold 34 = .ok (.iload_n 3, 1) := by decide +kernel
theorem dX11_hold_35 : decode cX11_hold 35 = .ok (.ifCond .ne 10, 3) := by decide +kernel
theorem dX11_hold_38 : decode cX11_hold 38 = .ok (.aload_n 0, 1) := by decide +kernel
theorem dX11_hold_39 : decode cX11_hold 39 = .ok (.getfield 107, 3) := by decide +kernel
theorem dX11_hold_42 : decode cX11_hold 42 = .ok (.goto 7, 3) := by decide +kernel
theorem dX11_hold_45 : decode cX11_hold 45 = .ok (.aload_n 0, 1) := by decide +kernel
theorem dX11_hold_46 : decode cX11_hold 46 = .ok (.getfield 110, 3) := by decide +kernel
theorem dX11_hold_49 : decode cX11_hold 49 = .ok (.ireturn, 1) := by decide +kernel
theorem dX11_isAlong_0 : decode cX11_isAlong 0 = .ok (.iload_n 0, 1) := by decide +kernel
theorem dX11_isAlong_1 : decode cX11_isAlong 1 = .ok (.iload_n 1, 1) := by decide +kernel
theorem dX11_isAlong_2 : decode cX11_isAlong 2 = .ok (.invokestatic 139, 3) := by decide +kernel
theorem dX11_isAlong_5 : decode cX11_isAlong 5 = .ok (.ifCond .eq 16, 3) := by decide +kernel
theorem dX11_isAlong_8 : decode cX11_isAlong 8 = .ok (.iload_n 2, 1) := by decide +kernel
theorem dX11_isAlong_9 : decode cX11_isAlong 9 = .ok (.iconst 0, 1) := by decide +kernel
theorem dX11_isAlong_10 : decode cX11_isAlong 10 = .ok (.iconst 3, 1) := by decide +kernel
theorem dX11_isAlong_11 : decode cX11_isAlong 11 = .ok (.invokestatic 64, 3) := by decide +kernel
theorem dX11_isAlong_14 : decode cX11_isAlong 14 = .ok (.ifCond .eq 7, 3) := by decide +kernel
theorem dX11_isAlong_17 : decode cX11_isAlong 17 = .ok (.iconst 1, 1) := by decide +kernel
theorem dX11_isAlong_18 : decode cX11_isAlong 18 = .ok (.goto 4, 3) := by decide +kernel
theorem dX11_isAlong_21 : decode cX11_isAlong 21 = .ok (.iconst 0, 1) := by decide +kernel
theorem dX11_isAlong_22 : decode cX11_isAlong 22 = .ok (.ireturn, 1) := by decide +kernel
theorem dX11_best_0 : decode cX11_best 0 = .ok (.iload_n 1, 1) := by decide +kernel
theorem dX11_best_1 : decode cX11_best 1 = .ok (.iload_n 2, 1) := by decide +kernel
theorem dX11_best_2 : decode cX11_best 2 = .ok (.iload_n 3, 1) := by decide +kernel
theorem dX11_best_3 : decode cX11_best 3 = .ok (.invokestatic 148, 3) := by decide +kernel
theorem dX11_best_6 : decode cX11_best 6 = .ok (.ifCond .eq 13, 3) := by decide +kernel
theorem dX11_best_9 : decode cX11_best 9 = .ok (.iload 4, 2) := by decide +kernel
theorem dX11_best_11 : decode cX11_best 11 = .ok (.iconst 0, 1) := by decide +kernel
theorem dX11_best_12 : decode cX11_best 12 = .ok (.iconst 1, 1) := by decide +kernel
theorem dX11_best_13 : decode cX11_best 13 = .ok (.invokestatic 64, 3) := by decide +kernel
theorem dX11_best_16 : decode cX11_best 16 = .ok (.ifCond .ne 6, 3) := by decide +kernel
theorem dX11_best_19 : decode cX11_best 19 = .ok (.bipush (-2), 2) := by decide +kernel
theorem dX11_best_21 : decode cX11_best 21 = .ok (.ireturn, 1) := by decide +kernel
theorem dX11_best_22 : decode cX11_best 22 = .ok (.iconst 0, 1) := by decide +kernel
theorem dX11_best_23 : decode cX11_best 23 = .ok (.istore 5, 2) := by decide +kernel
theorem dX11_best_25 : decode cX11_best 25 = .ok (.iconst (-1), 1) := by decide +kernel
theorem dX11_best_26 : decode cX11_best 26 = .ok (.istore 6, 2) := by decide +kernel
theorem dX11_best_28 : decode cX11_best 28 = .ok (.iconst 0, 1) := by decide +kernel
theorem dX11_best_29 : decode cX11_best 29 = .ok (.istore 7, 2) := by decide +kernel
theorem dX11_best_31 : decode cX11_best 31 = .ok (.iload 7, 2) := by decide +kernel
theorem dX11_best_33 : decode cX11_best 33 = .ok (.iload_n 3, 1) := by decide +kernel
theorem dX11_best_34 : decode cX11_best 34 = .ok (.invokestatic 98, 3) := by decide +kernel
theorem dX11_best_37 : decode cX11_best 37 = .ok (.if_icmp .ge 55, 3) := by decide +kernel
theorem dX11_best_40 : decode cX11_best 40 = .ok (.aload_n 0, 1) := by decide +kernel
theorem dX11_best_41 : decode cX11_best 41 = .ok (.iload_n 1, 1) := by decide +kernel
theorem dX11_best_42 : decode cX11_best 42 = .ok (.iload_n 3, 1) := by decide +kernel
theorem dX11_best_43 : decode cX11_best 43 = .ok (.iload 7, 2) := by decide +kernel
theorem dX11_best_45 : decode cX11_best 45 = .ok (.invokestatic 151, 3) := by decide +kernel
theorem dX11_best_48 : decode cX11_best 48 = .ok (.iload_n 2, 1) := by decide +kernel
theorem dX11_best_49 : decode cX11_best 49 = .ok (.invokevirtual 142, 3) := by decide +kernel
theorem dX11_best_52 : decode cX11_best 52 = .ok (.istore 8, 2) := by decide +kernel
theorem dX11_best_54 : decode cX11_best 54 = .ok (.iload 8, 2) := by decide +kernel
theorem dX11_best_56 : decode cX11_best 56 = .ok (.iload 6, 2) := by decide +kernel
theorem dX11_best_58 : decode cX11_best 58 = .ok (.if_icmp .le 8, 3) := by decide +kernel
theorem dX11_best_61 : decode cX11_best 61 = .ok (.iload 7, 2) := by decide +kernel
theorem dX11_best_63 : decode cX11_best 63 = .ok (.goto 5, 3) := by decide +kernel
theorem dX11_best_66 : decode cX11_best 66 = .ok (.iload 5, 2) := by decide +kernel
theorem dX11_best_68 : decode cX11_best 68 = .ok (.istore 5, 2) := by decide +kernel
theorem dX11_best_70 : decode cX11_best 70 = .ok (.iload 8, 2) := by decide +kernel
theorem dX11_best_72 : decode cX11_best 72 = .ok (.iload 6, 2) := by decide +kernel
theorem dX11_best_74 : decode cX11_best 74 = .ok (.if_icmp .le 8, 3) := by decide +kernel
theorem dX11_best_77 : decode cX11_best 77 = .ok (.iload 8, 2) := by decide +kernel
theorem dX11_best_79 : decode cX11_best 79 = .ok (.goto 5, 3) := by decide +kernel
theorem dX11_best_82 : decode cX11_best 82 = .ok (.iload 6, 2) := by decide +kernel
theorem dX11_best_84 : decode cX11_best 84 = .ok (.istore 6, 2) := by decide +kernel
theorem dX11_best_86 : decode cX11_best 86 = .ok (.iinc 7 1, 3) := by decide +kernel
theorem dX11_best_89 : decode cX11_best 89 = .ok (.goto (-58), 3) := by decide +kernel
theorem dX11_best_92 : decode cX11_best 92 = .ok (.iload 4, 2) := by decide +kernel
theorem dX11_best_94 : decode cX11_best 94 = .ok (.ifCond .ne 8, 3) := by decide +kernel
theorem dX11_best_97 : decode cX11_best 97 = .ok (.iload 5, 2) := by decide +kernel
theorem dX11_best_99 : decode cX11_best 99 = .ok (.goto 5, 3) := by decide +kernel
theorem dX11_best_102 : decode cX11_best 102 = .ok (.iload 6, 2) := by decide +kernel
theorem dX11_best_104 : decode cX11_best 104 = .ok (.ireturn, 1) := by decide +kernel
theorem dX11_jumps_0 : decode cX11_jumps 0 = .ok (.iload_n 1, 1) := by decide +kernel
theorem dX11_jumps_1 : decode cX11_jumps 1 = .ok (.iload_n 2, 1) := by decide +kernel
theorem dX11_jumps_2 : decode cX11_jumps 2 = .ok (.iload_n 3, 1) := by decide +kernel
theorem dX11_jumps_3 : decode cX11_jumps 3 = .ok (.invokestatic 148, 3) := by decide +kernel
theorem dX11_jumps_6 : decode cX11_jumps 6 = .ok (.ifCond .eq 13, 3) := by decide +kernel
theorem dX11_jumps_9 : decode cX11_jumps 9 = .ok (.iload 4, 2) := by decide +kernel
theorem dX11_jumps_11 : decode cX11_jumps 11 = .ok (.iconst 0, 1) := by decide +kernel
theorem dX11_jumps_12 : decode cX11_jumps 12 = .ok (.iconst 4, 1) := by decide +kernel
theorem dX11_jumps_13 : decode cX11_jumps 13 = .ok (.invokestatic 64, 3) := by decide +kernel
theorem dX11_jumps_16 : decode cX11_jumps 16 = .ok (.ifCond .ne 6, 3) := by decide +kernel
theorem dX11_jumps_19 : decode cX11_jumps 19 = .ok (.bipush (-2), 2) := by decide +kernel
theorem dX11_jumps_21 : decode cX11_jumps 21 = .ok (.ireturn, 1) := by decide +kernel
theorem dX11_jumps_22 : decode cX11_jumps 22 = .ok (.iconst 0, 1) := by decide +kernel
theorem dX11_jumps_23 : decode cX11_jumps 23 = .ok (.istore 5, 2) := by decide +kernel
theorem dX11_jumps_25 : decode cX11_jumps 25 = .ok (.iconst (-1), 1) := by decide +kernel
theorem dX11_jumps_26 : decode cX11_jumps 26 = .ok (.istore 6, 2) := by decide +kernel
theorem dX11_jumps_28 : decode cX11_jumps 28 = .ok (.iconst 0, 1) := by decide +kernel
theorem dX11_jumps_29 : decode cX11_jumps 29 = .ok (.istore 7, 2) := by decide +kernel
theorem dX11_jumps_31 : decode cX11_jumps 31 = .ok (.iconst (-1), 1) := by decide +kernel
theorem dX11_jumps_32 : decode cX11_jumps 32 = .ok (.istore 8, 2) := by decide +kernel
theorem dX11_jumps_34 : decode cX11_jumps 34 = .ok (.iconst 0, 1) := by decide +kernel
theorem dX11_jumps_35 : decode cX11_jumps 35 = .ok (.istore 9, 2) := by decide +kernel
theorem dX11_jumps_37 : decode cX11_jumps 37 = .ok (.iconst 1, 1) := by decide +kernel
theorem dX11_jumps_38 : decode cX11_jumps 38 = .ok (.istore 10, 2) := by decide +kernel
theorem dX11_jumps_40 : decode cX11_jumps 40 = .ok (.iload 10, 2) := by decide +kernel
theorem dX11_jumps_42 : decode cX11_jumps 42 = .ok (.iload_n 3, 1) := by decide +kernel
theorem dX11_jumps_43 : decode cX11_jumps 43 = .ok (.invokestatic 98, 3) := by decide +kernel
theorem dX11_jumps_46 : decode cX11_jumps 46 = .ok (.if_icmp .ge 120, 3) := by decide +kernel
theorem dX11_jumps_49 : decode cX11_jumps 49 = .ok (.aload_n 0, 1) := by decide +kernel
theorem dX11_jumps_50 : decode cX11_jumps 50 = .ok (.iload_n 1, 1) := by decide +kernel
theorem dX11_jumps_51 : decode cX11_jumps 51 = .ok (.iload_n 3, 1) := by decide +kernel
theorem dX11_jumps_52 : decode cX11_jumps 52 = .ok (.iload 10, 2) := by decide +kernel
theorem dX11_jumps_54 : decode cX11_jumps 54 = .ok (.iconst 1, 1) := by decide +kernel
theorem dX11_jumps_55 : decode cX11_jumps 55 = .ok (.isub, 1) := by decide +kernel
theorem dX11_jumps_56 : decode cX11_jumps 56 = .ok (.invokestatic 151, 3) := by decide +kernel
theorem dX11_jumps_59 : decode cX11_jumps 59 = .ok (.iload_n 2, 1) := by decide +kernel
theorem dX11_jumps_60 : decode cX11_jumps 60 = .ok (.invokevirtual 142, 3) := by decide +kernel
theorem dX11_jumps_63 : decode cX11_jumps 63 = .ok (.aload_n 0, 1) := by decide +kernel
theorem dX11_jumps_64 : decode cX11_jumps 64 = .ok (.iload_n 1, 1) := by decide +kernel
theorem dX11_jumps_65 : decode cX11_jumps 65 = .ok (.iload_n 3, 1) := by decide +kernel
theorem dX11_jumps_66 : decode cX11_jumps 66 = .ok (.iload 10, 2) := by decide +kernel
theorem dX11_jumps_68 : decode cX11_jumps 68 = .ok (.invokestatic 151, 3) := by decide +kernel
theorem dX11_jumps_71 : decode cX11_jumps 71 = .ok (.iload_n 2, 1) := by decide +kernel
theorem dX11_jumps_72 : decode cX11_jumps 72 = .ok (.invokevirtual 142, 3) := by decide +kernel
theorem dX11_jumps_75 : decode cX11_jumps 75 = .ok (.isub, 1) := by decide +kernel
theorem dX11_jumps_76 : decode cX11_jumps 76 = .ok (.istore 11, 2) := by decide +kernel
theorem dX11_jumps_78 : decode cX11_jumps 78 = .ok (.iload 5, 2) := by decide +kernel
theorem dX11_jumps_80 : decode cX11_jumps 80 = .ok (.iload 11, 2) := by decide +kernel
theorem dX11_jumps_82 : decode cX11_jumps 82 = .ok (.ifCond .ne 7, 3) := by decide +kernel
theorem dX11_jumps_85 : decode cX11_jumps 85 = .ok (.iconst 0, 1) := by decide +kernel
theorem dX11_jumps_86 : decode cX11_jumps 86 = .ok (.goto 4, 3) := by decide +kernel
theorem dX11_jumps_89 : decode cX11_jumps 89 = .ok (.iconst 1, 1) := by decide +kernel
theorem dX11_jumps_90 : decode cX11_jumps 90 = .ok (.iadd, 1) := by decide +kernel
theorem dX11_jumps_91 : decode cX11_jumps 91 = .ok (.istore 5, 2) := by decide +kernel
theorem dX11_jumps_93 : decode cX11_jumps 93 = .ok (.iload 6, 2) := by decide +kernel
theorem dX11_jumps_95 : decode cX11_jumps 95 = .ok (.iconst (-1), 1) := by decide +kernel
theorem dX11_jumps_96 : decode cX11_jumps 96 = .ok (.if_icmp .ne 13, 3) := by decide +kernel
theorem dX11_jumps_99 : decode cX11_jumps 99 = .ok (.iload 11, 2) := by decide +kernel
theorem dX11_jumps_101 : decode cX11_jumps 101 = .ok (.ifCond .eq 8, 3) := by decide +kernel
theorem dX11_jumps_104 : decode cX11_jumps 104 = .ok (.iload 10, 2) := by decide +kernel
theorem dX11_jumps_106 : decode cX11_jumps 106 = .ok (.goto 5, 3) := by decide +kernel
theorem dX11_jumps_109 : decode cX11_jumps 109 = .ok (.iload 6, 2) := by decide +kernel
theorem dX11_jumps_111 : decode cX11_jumps 111 = .ok (.istore 6, 2) := by decide +kernel
theorem dX11_jumps_113 : decode cX11_jumps 113 = .ok (.iload 7, 2) := by decide +kernel
theorem dX11_jumps_115 : decode cX11_jumps 115 = .ok (.iload 11, 2) := by decide +kernel
theorem dX11_jumps_117 : decode cX11_jumps 117 = .ok (.ifCond .le 7, 3) := by decide +kernel
theorem dX11_jumps_120 : decode cX11_jumps 120 = .ok (.iconst 1, 1) := by decide +kernel
theorem dX11_jumps_121 : decode cX11_jumps 121 = .ok (.goto 4, 3) := by decide +kernel
theorem dX11_jumps_124 : decode cX11_jumps 124 = .ok (.iconst 0, 1) := by decide +kernel
theorem dX11_jumps_125 : decode cX11_jumps 125 = .ok (.iadd, 1) := by decide +kernel
theorem dX11_jumps_126 : decode cX11_jumps 126 = .ok (.istore 7, 2) := by decide +kernel
theorem dX11_jumps_128 : decode cX11_jumps 128 = .ok (.iload 11, 2) := by decide +kernel
theorem dX11_jumps_130 : decode cX11_jumps 130 = .ok (.iload 9, 2) := by decide +kernel
theorem dX11_jumps_132 : decode cX11_jumps 132 = .ok (.if_icmp .le 8, 3) := by decide +kernel
theorem dX11_jumps_135 : decode cX11_jumps 135 = .ok (.iload 10, 2) := by decide +kernel
theorem dX11_jumps_137 : decode cX11_jumps 137 = .ok (.goto 5, 3) := by decide +kernel
theorem dX11_jumps_140 : decode cX11_jumps 140 = .ok (.iload 8, 2) := by decide +kernel
theorem dX11_jumps_142 : decode cX11_jumps 142 = .ok (.istore 8, 2) := by decide +kernel
theorem dX11_jumps_144 : decode cX11_jumps 144 = .ok (.iload 11, 2) := by decide +kernel
theorem dX11_jumps_146 : decode cX11_jumps 146 = .ok (.iload 9, 2) := by decide +kernel
theorem dX11_jumps_148 : decode cX11_jumps 148 = .ok (.if_icmp .le 8, 3) := by decide +kernel
theorem dX11_jumps_151 : decode cX11_jumps 151 = .ok (.iload 11, 2) := by decide +kernel
theorem dX11_jumps_153 : decode cX11_jumps 153 = .ok (.goto 5, 3) := by decide +kernel
theorem dX11_jumps_156 : decode cX11_jumps 156 = .ok (.iload 9, 2) := by decide +kernel
theorem dX11_jumps_158 : decode cX11_jumps 158 = .ok (.istore 9, 2) := by decide +kernel
theorem dX11_jumps_160 : decode cX11_jumps 160 = .ok (.iinc 10 1, 3) := by decide +kernel
theorem dX11_jumps_163 : decode cX11_jumps 163 = .ok (.goto (-123), 3) := by decide +kernel
theorem dX11_jumps_166 : decode cX11_jumps 166 = .ok (.iload 4, 2) := by decide +kernel
theorem dX11_jumps_168 : decode cX11_jumps 168 = .ok (.ifCond .ne 8, 3) := by decide +kernel
theorem dX11_jumps_171 : decode cX11_jumps 171 = .ok (.iload 5, 2) := by decide +kernel
theorem dX11_jumps_173 : decode cX11_jumps 173 = .ok (.goto 38, 3) := by decide +kernel
theorem dX11_jumps_176 : decode cX11_jumps 176 = .ok (.iload 4, 2) := by decide +kernel
theorem dX11_jumps_178 : decode cX11_jumps 178 = .ok (.iconst 1, 1) := by decide +kernel
theorem dX11_jumps_179 : decode cX11_jumps 179 = .ok (.if_icmp .ne 8, 3) := by decide +kernel
theorem dX11_jumps_182 : decode cX11_jumps 182 = .ok (.iload 6, 2) := by decide +kernel
theorem dX11_jumps_184 : decode cX11_jumps 184 = .ok (.goto 27, 3) := by decide +kernel
theorem dX11_jumps_187 : decode cX11_jumps 187 = .ok (.iload 4, 2) := by decide +kernel
theorem dX11_jumps_189 : decode cX11_jumps 189 = .ok (.iconst 2, 1) := by decide +kernel
theorem dX11_jumps_190 : decode cX11_jumps 190 = .ok (.if_icmp .ne 8, 3) := by decide +kernel
theorem dX11_jumps_193 : decode cX11_jumps 193 = .ok (.iload 7, 2) := by decide +kernel
theorem dX11_jumps_195 : decode cX11_jumps 195 = .ok (.goto 16, 3) := by decide +kernel
theorem dX11_jumps_198 : decode cX11_jumps 198 = .ok (.iload 4, 2) := by decide +kernel
theorem dX11_jumps_200 : decode cX11_jumps 200 = .ok (.iconst 3, 1) := by decide +kernel
theorem dX11_jumps_201 : decode cX11_jumps 201 = .ok (.if_icmp .ne 8, 3) := by decide +kernel
theorem dX11_jumps_204 : decode cX11_jumps 204 = .ok (.iload 8, 2) := by decide +kernel
theorem dX11_jumps_206 : decode cX11_jumps 206 = .ok (.goto 5, 3) := by decide +kernel
theorem dX11_jumps_209 : decode cX11_jumps 209 = .ok (.iload 9, 2) := by decide +kernel
theorem dX11_jumps_211 : decode cX11_jumps 211 = .ok (.ireturn, 1) := by decide +kernel
theorem dX11_bends_0 : decode cX11_bends 0 = .ok (.iload_n 1, 1) := by decide +kernel
theorem dX11_bends_1 : decode cX11_bends 1 = .ok (.iload_n 2, 1) := by decide +kernel
theorem dX11_bends_2 : decode cX11_bends 2 = .ok (.iload_n 3, 1) := by decide +kernel
theorem dX11_bends_3 : decode cX11_bends 3 = .ok (.invokestatic 148, 3) := by decide +kernel
theorem dX11_bends_6 : decode cX11_bends 6 = .ok (.ifCond .eq 13, 3) := by decide +kernel
theorem dX11_bends_9 : decode cX11_bends 9 = .ok (.iload 4, 2) := by decide +kernel
theorem dX11_bends_11 : decode cX11_bends 11 = .ok (.iconst 0, 1) := by decide +kernel
theorem dX11_bends_12 : decode cX11_bends 12 = .ok (.iconst 2, 1) := by decide +kernel
theorem dX11_bends_13 : decode cX11_bends 13 = .ok (.invokestatic 64, 3) := by decide +kernel
theorem dX11_bends_16 : decode cX11_bends 16 = .ok (.ifCond .ne 6, 3) := by decide +kernel
theorem dX11_bends_19 : decode cX11_bends 19 = .ok (.bipush (-2), 2) := by decide +kernel
theorem dX11_bends_21 : decode cX11_bends 21 = .ok (.ireturn, 1) := by decide +kernel
theorem dX11_bends_22 : decode cX11_bends 22 = .ok (.iconst 0, 1) := by decide +kernel
theorem dX11_bends_23 : decode cX11_bends 23 = .ok (.istore 5, 2) := by decide +kernel
theorem dX11_bends_25 : decode cX11_bends 25 = .ok (.iconst (-1), 1) := by decide +kernel
theorem dX11_bends_26 : decode cX11_bends 26 = .ok (.istore 6, 2) := by decide +kernel
theorem dX11_bends_28 : decode cX11_bends 28 = .ok (.iconst 1, 1) := by decide +kernel
theorem dX11_bends_29 : decode cX11_bends 29 = .ok (.istore 7, 2) := by decide +kernel
theorem dX11_bends_31 : decode cX11_bends 31 = .ok (.iconst 1, 1) := by decide +kernel
theorem dX11_bends_32 : decode cX11_bends 32 = .ok (.istore 8, 2) := by decide +kernel
theorem dX11_bends_34 : decode cX11_bends 34 = .ok (.iconst 0, 1) := by decide +kernel
theorem dX11_bends_35 : decode cX11_bends 35 = .ok (.istore 9, 2) := by decide +kernel
theorem dX11_bends_37 : decode cX11_bends 37 = .ok (.iconst 1, 1) := by decide +kernel
theorem dX11_bends_38 : decode cX11_bends 38 = .ok (.istore 10, 2) := by decide +kernel
