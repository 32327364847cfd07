theorem dX10_grant_33 : decode cX10_grant 33 = .ok (.goto 4, 3) := by decide +kernel
theorem dX10_grant_36 : decode cX10_grant 36 = .ok (.iconst 0, 1) := by decide +kernel
theorem dX10_grant_37 : decode cX10_grant 37 = .ok (.invokestatic 85, 3) := by decide +kernel
theorem dX10_grant_40 : decode cX10_grant 40 = .ok (.ifCond .ne 6, 3) := by decide +kernel
theorem dX10_grant_43 : decode cX10_grant 43 = .ok (.bipush (-2), 2) := by decide +kernel
theorem dX10_grant_45 : decode cX10_grant 45 = .ok (.ireturn, 1) := by decide +kernel
theorem dX10_grant_46 : decode cX10_grant 46 = .ok (.iload 4, 2) := by decide +kernel
theorem dX10_grant_48 : decode cX10_grant 48 = .ok (.iconst 0, 1) := by decide +kernel
theorem dX10_grant_49 : decode cX10_grant 49 = .ok (.sipush 999, 3) := by decide +kernel
theorem dX10_grant_52 : decode cX10_grant 52 = .ok (.invokestatic 85, 3) := by decide +kernel
theorem dX10_grant_55 : decode cX10_grant 55 = .ok (.ifCond .ne 6, 3) := by decide +kernel
theorem dX10_grant_58 : decode cX10_grant 58 = .ok (.bipush (-2), 2) := by decide +kernel
theorem dX10_grant_60 : decode cX10_grant 60 = .ok (.ireturn, 1) := by decide +kernel
theorem dX10_grant_61 : decode cX10_grant 61 = .ok (.iload 5, 2) := by decide +kernel
theorem dX10_grant_63 : decode cX10_grant 63 = .ok (.iload_n 2, 1) := by decide +kernel
theorem dX10_grant_64 : decode cX10_grant 64 = .ok (.invokestatic 103, 3) := by decide +kernel
theorem dX10_grant_67 : decode cX10_grant 67 = .ok (.iload_n 2, 1) := by decide +kernel
theorem dX10_grant_68 : decode cX10_grant 68 = .ok (.invokestatic 107, 3) := by decide +kernel
theorem dX10_grant_71 : decode cX10_grant 71 = .ok (.invokestatic 85, 3) := by decide +kernel
theorem dX10_grant_74 : decode cX10_grant 74 = .ok (.ifCond .ne 6, 3) := by decide +kernel
theorem dX10_grant_77 : decode cX10_grant 77 = .ok (.bipush (-2), 2) := by decide +kernel
theorem dX10_grant_79 : decode cX10_grant 79 = .ok (.ireturn, 1) := by decide +kernel
theorem dX10_grant_80 : decode cX10_grant 80 = .ok (.aload_n 0, 1) := by decide +kernel
theorem dX10_grant_81 : decode cX10_grant 81 = .ok (.getfield 10, 3) := by decide +kernel
theorem dX10_grant_84 : decode cX10_grant 84 = .ok (.iload_n 1, 1) := by decide +kernel
theorem dX10_grant_85 : decode cX10_grant 85 = .ok (.iconst 4, 1) := by decide +kernel
theorem dX10_grant_86 : decode cX10_grant 86 = .ok (.invokevirtual 92, 3) := by decide +kernel
theorem dX10_grant_89 : decode cX10_grant 89 = .ok (.istore 6, 2) := by decide +kernel
theorem dX10_grant_91 : decode cX10_grant 91 = .ok (.aload_n 0, 1) := by decide +kernel
theorem dX10_grant_92 : decode cX10_grant 92 = .ok (.getfield 10, 3) := by decide +kernel
theorem dX10_grant_95 : decode cX10_grant 95 = .ok (.iload_n 1, 1) := by decide +kernel
theorem dX10_grant_96 : decode cX10_grant 96 = .ok (.iconst 4, 1) := by decide +kernel
theorem dX10_grant_97 : decode cX10_grant 97 = .ok (.iload_n 2, 1) := by decide +kernel
theorem dX10_grant_98 : decode cX10_grant 98 = .ok (.invokevirtual 96, 3) := by decide +kernel
theorem dX10_grant_101 : decode cX10_grant 101 = .ok (.aload_n 0, 1) := by decide +kernel
theorem dX10_grant_102 : decode cX10_grant 102 = .ok (.getfield 10, 3) := by decide +kernel
theorem dX10_grant_105 : decode cX10_grant 105 = .ok (.iload_n 1, 1) := by decide +kernel
theorem dX10_grant_106 : decode cX10_grant 106 = .ok (.iconst 5, 1) := by decide +kernel
theorem dX10_grant_107 : decode cX10_grant 107 = .ok (.iload_n 3, 1) := by decide +kernel
theorem dX10_grant_108 : decode cX10_grant 108 = .ok (.invokevirtual 96, 3) := by decide +kernel
theorem dX10_grant_111 : decode cX10_grant 111 = .ok (.aload_n 0, 1) := by decide +kernel
theorem dX10_grant_112 : decode cX10_grant 112 = .ok (.getfield 10, 3) := by decide +kernel
theorem dX10_grant_115 : decode cX10_grant 115 = .ok (.iload_n 1, 1) := by decide +kernel
theorem dX10_grant_116 : decode cX10_grant 116 = .ok (.bipush 6, 2) := by decide +kernel
theorem dX10_grant_118 : decode cX10_grant 118 = .ok (.iload 4, 2) := by decide +kernel
theorem dX10_grant_120 : decode cX10_grant 120 = .ok (.invokevirtual 96, 3) := by decide +kernel
theorem dX10_grant_123 : decode cX10_grant 123 = .ok (.aload_n 0, 1) := by decide +kernel
theorem dX10_grant_124 : decode cX10_grant 124 = .ok (.getfield 10, 3) := by decide +kernel
theorem dX10_grant_127 : decode cX10_grant 127 = .ok (.iload_n 1, 1) := by decide +kernel
theorem dX10_grant_128 : decode cX10_grant 128 = .ok (.bipush 7, 2) := by decide +kernel
theorem dX10_grant_130 : decode cX10_grant 130 = .ok (.iload 5, 2) := by decide +kernel
theorem dX10_grant_132 : decode cX10_grant 132 = .ok (.invokevirtual 96, 3) := by decide +kernel
theorem dX10_grant_135 : decode cX10_grant 135 = .ok (.iload 6, 2) := by decide +kernel
theorem dX10_grant_137 : decode cX10_grant 137 = .ok (.ireturn, 1) := by decide +kernel
theorem dX10_span_0 : decode cX10_span 0 = .ok (.aload_n 0, 1) := by decide +kernel
theorem dX10_span_1 : decode cX10_span 1 = .ok (.getfield 10, 3) := by decide +kernel
theorem dX10_span_4 : decode cX10_span 4 = .ok (.iload_n 1, 1) := by decide +kernel
theorem dX10_span_5 : decode cX10_span 5 = .ok (.invokevirtual 81, 3) := by decide +kernel
theorem dX10_span_8 : decode cX10_span 8 = .ok (.ifCond .eq 22, 3) := by decide +kernel
theorem dX10_span_11 : decode cX10_span 11 = .ok (.iload_n 2, 1) := by decide +kernel
theorem dX10_span_12 : decode cX10_span 12 = .ok (.invokestatic 110, 3) := by decide +kernel
theorem dX10_span_15 : decode cX10_span 15 = .ok (.ifCond .eq 15, 3) := by decide +kernel
theorem dX10_span_18 : decode cX10_span 18 = .ok (.iload_n 3, 1) := by decide +kernel
theorem dX10_span_19 : decode cX10_span 19 = .ok (.invokestatic 110, 3) := by decide +kernel
theorem dX10_span_22 : decode cX10_span 22 = .ok (.ifCond .eq 8, 3) := by decide +kernel
theorem dX10_span_25 : decode cX10_span 25 = .ok (.iload_n 3, 1) := by decide +kernel
theorem dX10_span_26 : decode cX10_span 26 = .ok (.iload_n 2, 1) := by decide +kernel
theorem dX10_span_27 : decode cX10_span 27 = .ok (.if_icmp .ge 6, 3) := by decide +kernel
theorem dX10_span_30 : decode cX10_span 30 = .ok (.bipush (-2), 2) := by decide +kernel
theorem dX10_span_32 : decode cX10_span 32 = .ok (.ireturn, 1) := by decide +kernel
theorem dX10_span_33 : decode cX10_span 33 = .ok (.aload_n 0, 1) := by decide +kernel
theorem dX10_span_34 : decode cX10_span 34 = .ok (.getfield 10, 3) := by decide +kernel
theorem dX10_span_37 : decode cX10_span 37 = .ok (.iload_n 1, 1) := by decide +kernel
theorem dX10_span_38 : decode cX10_span 38 = .ok (.bipush 8, 2) := by decide +kernel
theorem dX10_span_40 : decode cX10_span 40 = .ok (.iload_n 2, 1) := by decide +kernel
theorem dX10_span_41 : decode cX10_span 41 = .ok (.invokevirtual 96, 3) := by decide +kernel
theorem dX10_span_44 : decode cX10_span 44 = .ok (.aload_n 0, 1) := by decide +kernel
theorem dX10_span_45 : decode cX10_span 45 = .ok (.getfield 10, 3) := by decide +kernel
theorem dX10_span_48 : decode cX10_span 48 = .ok (.iload_n 1, 1) := by decide +kernel
theorem dX10_span_49 : decode cX10_span 49 = .ok (.bipush 9, 2) := by decide +kernel
theorem dX10_span_51 : decode cX10_span 51 = .ok (.iload_n 3, 1) := by decide +kernel
theorem dX10_span_52 : decode cX10_span 52 = .ok (.invokevirtual 96, 3) := by decide +kernel
theorem dX10_span_55 : decode cX10_span 55 = .ok (.iconst 1, 1) := by decide +kernel
theorem dX10_span_56 : decode cX10_span 56 = .ok (.ireturn, 1) := by decide +kernel
theorem dX10_except_0 : decode cX10_except 0 = .ok (.aload_n 0, 1) := by decide +kernel
theorem dX10_except_1 : decode cX10_except 1 = .ok (.getfield 10, 3) := by decide +kernel
theorem dX10_except_4 : decode cX10_except 4 = .ok (.iload_n 1, 1) := by decide +kernel
theorem dX10_except_5 : decode cX10_except 5 = .ok (.invokevirtual 81, 3) := by decide +kernel
theorem dX10_except_8 : decode cX10_except 8 = .ok (.ifCond .eq 14, 3) := by decide +kernel
theorem dX10_except_11 : decode cX10_except 11 = .ok (.iload_n 2, 1) := by decide +kernel
theorem dX10_except_12 : decode cX10_except 12 = .ok (.iconst (-1), 1) := by decide +kernel
theorem dX10_except_13 : decode cX10_except 13 = .ok (.iload_n 1, 1) := by decide +kernel
theorem dX10_except_14 : decode cX10_except 14 = .ok (.iconst 1, 1) := by decide +kernel
theorem dX10_except_15 : decode cX10_except 15 = .ok (.isub, 1) := by decide +kernel
theorem dX10_except_16 : decode cX10_except 16 = .ok (.invokestatic 85, 3) := by decide +kernel
theorem dX10_except_19 : decode cX10_except 19 = .ok (.ifCond .ne 6, 3) := by decide +kernel
theorem dX10_except_22 : decode cX10_except 22 = .ok (.bipush (-2), 2) := by decide +kernel
theorem dX10_except_24 : decode cX10_except 24 = .ok (.ireturn, 1) := by decide +kernel
theorem dX10_except_25 : decode cX10_except 25 = .ok (.aload_n 0, 1) := by decide +kernel
theorem dX10_except_26 : decode cX10_except 26 = .ok (.getfield 10, 3) := by decide +kernel
theorem dX10_except_29 : decode cX10_except 29 = .ok (.iload_n 1, 1) := by decide +kernel
theorem dX10_except_30 : decode cX10_except 30 = .ok (.bipush 10, 2) := by decide +kernel
theorem dX10_except_32 : decode cX10_except 32 = .ok (.invokevirtual 92, 3) := by decide +kernel
theorem dX10_except_35 : decode cX10_except 35 = .ok (.istore_n 3, 1) := by decide +kernel
theorem dX10_except_36 : decode cX10_except 36 = .ok (.aload_n 0, 1) := by decide +kernel
theorem dX10_except_37 : decode cX10_except 37 = .ok (.getfield 10, 3) := by decide +kernel
theorem dX10_except_40 : decode cX10_except 40 = .ok (.iload_n 1, 1) := by decide +kernel
theorem dX10_except_41 : decode cX10_except 41 = .ok (.bipush 10, 2) := by decide +kernel
theorem dX10_except_43 : decode cX10_except 43 = .ok (.iload_n 2, 1) := by decide +kernel
theorem dX10_except_44 : decode cX10_except 44 = .ok (.invokevirtual 96, 3) := by decide +kernel
theorem dX10_except_47 : decode cX10_except 47 = .ok (.iload_n 3, 1) := by decide +kernel
theorem dX10_except_48 : decode cX10_except 48 = .ok (.ireturn, 1) := by decide +kernel
theorem dX10_of_0 : decode cX10_of 0 = .ok (.aload_n 0, 1) := by decide +kernel
theorem dX10_of_1 : decode cX10_of 1 = .ok (.getfield 10, 3) := by decide +kernel
theorem dX10_of_4 : decode cX10_of 4 = .ok (.iload_n 1, 1) := by decide +kernel
theorem dX10_of_5 : decode cX10_of 5 = .ok (.invokevirtual 81, 3) := by decide +kernel
theorem dX10_of_8 : decode cX10_of 8 = .ok (.ifCond .eq 13, 3) := by decide +kernel
theorem dX10_of_11 : decode cX10_of 11 = .ok (.iload_n 2, 1) := by decide +kernel
theorem dX10_of_12 : decode cX10_of 12 = .ok (.iconst 0, 1) := by decide +kernel
theorem dX10_of_13 : decode cX10_of 13 = .ok (.bipush 10, 2) := by decide +kernel
theorem dX10_of_15 : decode cX10_of 15 = .ok (.invokestatic 85, 3) := by decide +kernel
theorem dX10_of_18 : decode cX10_of 18 = .ok (.ifCond .ne 6, 3) := by decide +kernel
theorem dX10_of_21 : decode cX10_of 21 = .ok (.bipush (-2), 2) := by decide +kernel
theorem dX10_of_23 : decode cX10_of 23 = .ok (.ireturn, 1) := by decide +kernel
theorem dX10_of_24 : decode cX10_of 24 = .ok (.aload_n 0, 1) := by decide +kernel
theorem dX10_of_25 : decode cX10_of 25 = .ok (.getfield 10, 3) := by decide +kernel
theorem dX10_of_28 : decode cX10_of 28 = .ok (.iload_n 1, 1) := by decide +kernel
theorem dX10_of_29 : decode cX10_of 29 = .ok (.iload_n 2, 1) := by decide +kernel
theorem dX10_of_30 : decode cX10_of 30 = .ok (.invokevirtual 92, 3) := by decide +kernel
theorem dX10_of_33 : decode cX10_of 33 = .ok (.ireturn, 1) := by decide +kernel
theorem dX10_drop_0 : decode cX10_drop 0 = .ok (.aload_n 0, 1) := by decide +kernel
theorem dX10_drop_1 : decode cX10_drop 1 = .ok (.getfield 10, 3) := by decide +kernel
theorem dX10_drop_4 : decode cX10_drop 4 = .ok (.invokevirtual 113, 3) := by decide +kernel
theorem dX10_drop_7 : decode cX10_drop 7 = .ok (.ifCond .ne 6, 3) := by decide +kernel
theorem dX10_drop_10 : decode cX10_drop 10 = .ok (.bipush (-3), 2) := by decide +kernel
theorem dX10_drop_12 : decode cX10_drop 12 = .ok (.ireturn, 1) := by decide +kernel
theorem dX10_drop_13 : decode cX10_drop 13 = .ok (.aload_n 0, 1) := by decide +kernel
theorem dX10_drop_14 : decode cX10_drop 14 = .ok (.getfield 10, 3) := by decide +kernel
theorem dX10_drop_17 : decode cX10_drop 17 = .ok (.aload_n 0, 1) := by decide +kernel
theorem dX10_drop_18 : decode cX10_drop 18 = .ok (.getfield 10, 3) := by decide +kernel
theorem dX10_drop_21 : decode cX10_drop 21 = .ok (.invokevirtual 113, 3) := by decide +kernel
theorem dX10_drop_24 : decode cX10_drop 24 = .ok (.iconst 1, 1) := by decide +kernel
theorem dX10_drop_25 : decode cX10_drop 25 = .ok (.isub, 1) := by decide +kernel
theorem dX10_drop_26 : decode cX10_drop 26 = .ok (.invokevirtual 116, 3) := by decide +kernel
theorem dX10_drop_29 : decode cX10_drop 29 = .ok (.aload_n 0, 1) := by decide +kernel
theorem dX10_drop_30 : decode cX10_drop 30 = .ok (.getfield 10, 3) := by decide +kernel
theorem dX10_drop_33 : decode cX10_drop 33 = .ok (.invokevirtual 113, 3) := by decide +kernel
theorem dX10_drop_36 : decode cX10_drop 36 = .ok (.ireturn, 1) := by decide +kernel
theorem dX10_profile_0 : decode cX10_profile 0 = .ok (.iload_n 1, 1) := by decide +kernel
theorem dX10_profile_1 : decode cX10_profile 1 = .ok (.iconst 0, 1) := by decide +kernel
theorem dX10_profile_2 : decode cX10_profile 2 = .ok (.iconst 0, 1) := by decide +kernel
theorem dX10_profile_3 : decode cX10_profile 3 = .ok (.invokestatic 122, 3) := by decide +kernel
theorem dX10_profile_6 : decode cX10_profile 6 = .ok (.invokestatic 85, 3) := by decide +kernel
theorem dX10_profile_9 : decode cX10_profile 9 = .ok (.ifCond .eq 57, 3) := by decide +kernel
theorem dX10_profile_12 : decode cX10_profile 12 = .ok (.iload_n 2, 1) := by decide +kernel
theorem dX10_profile_13 : decode cX10_profile 13 = .ok (.iconst 0, 1) := by decide +kernel
theorem dX10_profile_14 : decode cX10_profile 14 = .ok (.iconst 1, 1) := by decide +kernel
theorem dX10_profile_15 : decode cX10_profile 15 = .ok (.invokestatic 122, 3) := by decide +kernel
theorem dX10_profile_18 : decode cX10_profile 18 = .ok (.invokestatic 85, 3) := by decide +kernel
theorem dX10_profile_21 : decode cX10_profile 21 = .ok (.ifCond .eq 45, 3) := by decide +kernel
theorem dX10_profile_24 : decode cX10_profile 24 = .ok (.iload_n 3, 1) := by decide +kernel
theorem dX10_profile_25 : decode cX10_profile 25 = .ok (.iconst 0, 1) := by decide +kernel
theorem dX10_profile_26 : decode cX10_profile 26 = .ok (.iconst 2, 1) := by decide +kernel
theorem dX10_profile_27 : decode cX10_profile 27 = .ok (.invokestatic 122, 3) := by decide +kernel
theorem dX10_profile_30 : decode cX10_profile 30 = .ok (.invokestatic 85, 3) := by decide +kernel
theorem dX10_profile_33 : decode cX10_profile 33 = .ok (.ifCond .eq 33, 3) := by decide +kernel
theorem dX10_profile_36 : decode cX10_profile 36 = .ok (.iload 4, 2) := by decide +kernel
theorem dX10_profile_38 : decode cX10_profile 38 = .ok (.iconst 0, 1) := by decide +kernel
theorem dX10_profile_39 : decode cX10_profile 39 = .ok (.iconst 3, 1) := by decide +kernel
theorem dX10_profile_40 : decode cX10_profile 40 = .ok (.invokestatic 122, 3) := by decide +kernel
theorem dX10_profile_43 : decode cX10_profile 43 = .ok (.invokestatic 85, 3) := by decide +kernel
theorem dX10_profile_46 : decode cX10_profile 46 = .ok (.ifCond .eq 20, 3) := by decide +kernel
theorem dX10_profile_49 : decode cX10_profile 49 = .ok (.iload 5, 2) := by decide +kernel
theorem dX10_profile_51 : decode cX10_profile 51 = .ok (.iconst 0, 1) := by decide +kernel
theorem dX10_profile_52 : decode cX10_profile 52 = .ok (.iconst 4, 1) := by decide +kernel
theorem dX10_profile_53 : decode cX10_profile 53 = .ok (.invokestatic 122, 3) := by decide +kernel
theorem dX10_profile_56 : decode cX10_profile 56 = .ok (.invokestatic 85, 3) := by decide +kernel
theorem dX10_profile_59 : decode cX10_profile 59 = .ok (.ifCond .eq 7, 3) := by decide +kernel
theorem dX10_profile_62 : decode cX10_profile 62 = .ok (.iconst 1, 1) := by decide +kernel
theorem dX10_profile_63 : decode cX10_profile 63 = .ok (.goto 4, 3) := by decide +kernel
theorem dX10_profile_66 : decode cX10_profile 66 = .ok (.iconst 0, 1) := by decide +kernel
theorem dX10_profile_67 : decode cX10_profile 67 = .ok (.istore 6, 2) := by decide +kernel
theorem dX10_profile_69 : decode cX10_profile 69 = .ok (.iload 6, 2) := by decide +kernel
theorem dX10_profile_71 : decode cX10_profile 71 = .ok (.ifCond .eq 16, 3) := by decide +kernel
theorem dX10_profile_74 : decode cX10_profile 74 = .ok (.iload_n 1, 1) := by decide +kernel
theorem dX10_profile_75 : decode cX10_profile 75 = .ok (.iload_n 2, 1) := by decide +kernel
theorem dX10_profile_76 : decode cX10_profile 76 = .ok (.iload_n 3, 1) := by decide +kernel
theorem dX10_profile_77 : decode cX10_profile 77 = .ok (.iload 4, 2) := by decide +kernel
theorem dX10_profile_79 : decode cX10_profile 79 = .ok (.iload 5, 2) := by decide +kernel
theorem dX10_profile_81 : decode cX10_profile 81 = .ok (.invokestatic 125, 3) := by decide +kernel
theorem dX10_profile_84 : decode cX10_profile 84 = .ok (.goto 5, 3) := by decide +kernel
theorem dX10_profile_87 : decode cX10_profile 87 = .ok (.bipush (-2), 2) := by decide +kernel
theorem dX10_profile_89 : decode cX10_profile 89 = .ok (.ireturn, 1) := by decide +kernel
theorem dX10_trait_0 : decode cX10_trait 0 = .ok (.iload_n 1, 1) := by decide +kernel
theorem dX10_trait_1 : decode cX10_trait 1 = .ok (.invokestatic 129, 3) := by decide +kernel
theorem dX10_trait_4 : decode cX10_trait 4 = .ok (.ifCond .eq 12, 3) := by decide +kernel
theorem dX10_trait_7 : decode cX10_trait 7 = .ok (.iload_n 2, 1) := by decide +kernel
theorem dX10_trait_8 : decode cX10_trait 8 = .ok (.iconst 0, 1) := by decide +kernel
theorem dX10_trait_9 : decode cX10_trait 9 = .ok (.iconst 4, 1) := by decide +kernel
theorem dX10_trait_10 : decode cX10_trait 10 = .ok (.invokestatic 85, 3) := by decide +kernel
theorem dX10_trait_13 : decode cX10_trait 13 = .ok (.ifCond .ne 6, 3) := by decide +kernel
theorem dX10_trait_16 : decode cX10_trait 16 = .ok (.bipush (-2), 2) := by decide +kernel
theorem dX10_trait_18 : decode cX10_trait 18 = .ok (.ireturn, 1) := by decide +kernel
theorem dX10_trait_19 : decode cX10_trait 19 = .ok (.iload_n 1, 1) := by decide +kernel
theorem dX10_trait_20 : decode cX10_trait 20 = .ok (.iload_n 2, 1) := by decide +kernel
theorem dX10_trait_21 : decode cX10_trait 21 = .ok (.invokestatic 132, 3) := by decide +kernel
theorem dX10_trait_24 : decode cX10_trait 24 = .ok (.ireturn, 1) := by decide +kernel
theorem dX10_outcome_0 : decode cX10_outcome 0 = .ok (.iload_n 1, 1) := by decide +kernel
theorem dX10_outcome_1 : decode cX10_outcome 1 = .ok (.invokestatic 129, 3) := by decide +kernel
theorem dX10_outcome_4 : decode cX10_outcome 4 = .ok (.ifCond .eq 10, 3) := by decide +kernel
theorem dX10_outcome_7 : decode cX10_outcome 7 = .ok (.iload_n 2, 1) := by decide +kernel
theorem dX10_outcome_8 : decode cX10_outcome 8 = .ok (.invokestatic 110, 3) := by decide +kernel
theorem dX10_outcome_11 : decode cX10_outcome 11 = .ok (.ifCond .ne 6, 3) := by decide +kernel
theorem dX10_outcome_14 : decode cX10_outcome 14 = .ok (.bipush (-2), 2) := by decide +kernel
theorem dX10_outcome_16 : decode cX10_outcome 16 = .ok (.ireturn, 1) := by decide +kernel
theorem dX10_outcome_17 : decode cX10_outcome 17 = .ok (.aload_n 0, 1) := by decide +kernel
theorem dX10_outcome_18 : decode cX10_outcome 18 = .ok (.getfield 10, 3) := by decide +kernel
theorem dX10_outcome_21 : decode cX10_outcome 21 = .ok (.iload_n 1, 1) := by decide +kernel
theorem dX10_outcome_22 : decode cX10_outcome 22 = .ok (.iload_n 2, 1) := by decide +kernel
theorem dX10_outcome_23 : decode cX10_outcome 23 = .ok (.invokevirtual 135, 3) := by decide +kernel
theorem dX10_outcome_26 : decode cX10_outcome 26 = .ok (.ireturn, 1) := by decide +kernel
theorem dX10_reason_0 : decode cX10_reason 0 = .ok (.iload_n 1, 1) := by decide +kernel
theorem dX10_reason_1 : decode cX10_reason 1 = .ok (.invokestatic 129, 3) := by decide +kernel
theorem dX10_reason_4 : decode cX10_reason 4 = .ok (.ifCond .eq 10, 3) := by decide +kernel
theorem dX10_reason_7 : decode cX10_reason 7 = .ok (.iload_n 2, 1) := by decide +kernel
theorem dX10_reason_8 : decode cX10_reason 8 = .ok (.invokestatic 110, 3) := by decide +kernel
theorem dX10_reason_11 : decode cX10_reason 11 = .ok (.ifCond .ne 6, 3) := by decide +kernel
theorem dX10_reason_14 : decode cX10_reason 14 = .ok (.bipush (-2), 2) := by decide +kernel
theorem dX10_reason_16 : decode cX10_reason 16 = .ok (.ireturn, 1) := by decide +kernel
theorem dX10_reason_17 : decode cX10_reason 17 = .ok (.aload_n 0, 1) := by decide +kernel
theorem dX10_reason_18 : decode cX10_reason 18 = .ok (.getfield 10, 3) := by decide +kernel
theorem dX10_reason_21 : decode cX10_reason 21 = .ok (.aload_n 0, 1) := by decide +kernel
theorem dX10_reason_22 : decode cX10_reason 22 = .ok (.getfield 10, 3) := by decide +kernel
theorem dX10_reason_25 : decode cX10_reason 25 = .ok (.iload_n 1, 1) := by decide +kernel
theorem dX10_reason_26 : decode cX10_reason 26 = .ok (.iload_n 2, 1) := by decide +kernel
theorem dX10_reason_27 : decode cX10_reason 27 = .ok (.invokevirtual 138, 3) := by decide +kernel
theorem dX10_reason_30 : decode cX10_reason 30 = .ok (.invokevirtual 141, 3) := by decide +kernel
theorem dX10_reason_33 : decode cX10_reason 33 = .ok (.ireturn, 1) := by decide +kernel
theorem dX10_why_0 : decode cX10_why 0 = .ok (.iload_n 1, 1) := by decide +kernel
theorem dX10_why_1 : decode cX10_why 1 = .ok (.invokestatic 129, 3) := by decide +kernel
theorem dX10_why_4 : decode cX10_why 4 = .ok (.ifCond .eq 21, 3) := by decide +kernel
theorem dX10_why_7 : decode cX10_why 7 = .ok (.iload_n 2, 1) := by decide +kernel
theorem dX10_why_8 : decode cX10_why 8 = .ok (.invokestatic 110, 3) := by decide +kernel
theorem dX10_why_11 : decode cX10_why 11 = .ok (.ifCond .eq 14, 3) := by decide +kernel
theorem dX10_why_14 : decode cX10_why 14 = .ok (.aload_n 0, 1) := by decide +kernel
theorem dX10_why_15 : decode cX10_why 15 = .ok (.getfield 10, 3) := by decide +kernel
theorem dX10_why_18 : decode cX10_why 18 = .ok (.iload_n 3, 1) := by decide +kernel
theorem dX10_why_19 : decode cX10_why 19 = .ok (.invokevirtual 81, 3) := by decide +kernel
theorem dX10_why_22 : decode cX10_why 22 = .ok (.ifCond .ne 6, 3) := by decide +kernel
theorem dX10_why_25 : decode cX10_why 25 = .ok (.bipush (-2), 2) := by decide +kernel
theorem dX10_why_27 : decode cX10_why 27 = .ok (.ireturn, 1) := by decide +kernel
theorem dX10_why_28 : decode cX10_why 28 = .ok (.aload_n 0, 1) := by decide +kernel
theorem dX10_why_29 : decode cX10_why 29 = .ok (.getfield 10, 3) := by decide +kernel
theorem dX10_why_32 : decode cX10_why 32 = .ok (.iload_n 1, 1) := by decide +kernel
theorem dX10_why_33 : decode cX10_why 33 = .ok (.iload_n 2, 1) := by decide +kernel
theorem dX10_why_34 : decode cX10_why 34 = .ok (.invokevirtual 138, 3) := by decide +kernel
theorem dX10_why_37 : decode cX10_why 37 = .ok (.istore 5, 2) := by decide +kernel
theorem dX10_why_39 : decode cX10_why 39 = .ok (.iload 4, 2) := by decide +kernel
theorem dX10_why_41 : decode cX10_why 41 = .ok (.tableswitch 87 0 2 #[27, 57, 69], 27) := by decide +kernel
theorem dX10_why_68 : decode cX10_why 68 = .ok (.aload_n 0, 1) := by decide +kernel
theorem dX10_why_69 : decode cX10_why 69 = .ok (.getfield 10, 3) := by decide +kernel
theorem dX10_why_72 : decode cX10_why 72 = .ok (.iload 5, 2) := by decide +kernel
theorem dX10_why_74 : decode cX10_why 74 = .ok (.invokevirtual 141, 3) := by decide +kernel
theorem dX10_why_77 : decode cX10_why 77 = .ok (.iload_n 3, 1) := by decide +kernel
theorem dX10_why_78 : decode cX10_why 78 = .ok (.invokestatic 144, 3) := by decide +kernel
theorem dX10_why_81 : decode cX10_why 81 = .ok (.ifCond .eq 15, 3) := by decide +kernel
theorem dX10_why_84 : decode cX10_why 84 = .ok (.aload_n 0, 1) := by decide +kernel
theorem dX10_why_85 : decode cX10_why 85 = .ok (.getfield 10, 3) := by decide +kernel
theorem dX10_why_88 : decode cX10_why 88 = .ok (.iload_n 3, 1) := by decide +kernel
theorem dX10_why_89 : decode cX10_why 89 = .ok (.iload_n 1, 1) := by decide +kernel
theorem dX10_why_90 : decode cX10_why 90 = .ok (.invokevirtual 148, 3) := by decide +kernel
theorem dX10_why_93 : decode cX10_why 93 = .ok (.goto 4, 3) := by decide +kernel
theorem dX10_why_96 : decode cX10_why 96 = .ok (.iconst 0, 1) := by decide +kernel
theorem dX10_why_97 : decode cX10_why 97 = .ok (.ireturn, 1) := by decide +kernel
theorem dX10_why_98 : decode cX10_why 98 = .ok (.aload_n 0, 1) := by decide +kernel
theorem dX10_why_99 : decode cX10_why 99 = .ok (.getfield 10, 3) := by decide +kernel
theorem dX10_why_102 : decode cX10_why 102 = .ok (.iload_n 3, 1) := by decide +kernel
theorem dX10_why_103 : decode cX10_why 103 = .ok (.iload_n 2, 1) := by decide +kernel
theorem dX10_why_104 : decode cX10_why 104 = .ok (.iload 5, 2) := by decide +kernel
theorem dX10_why_106 : decode cX10_why 106 = .ok (.invokevirtual 151, 3) := by decide +kernel
theorem dX10_why_109 : decode cX10_why 109 = .ok (.ireturn, 1) := by decide +kernel
theorem dX10_why_110 : decode cX10_why 110 = .ok (.aload_n 0, 1) := by decide +kernel
theorem dX10_why_111 : decode cX10_why 111 = .ok (.getfield 10, 3) := by decide +kernel
theorem dX10_why_114 : decode cX10_why 114 = .ok (.iload_n 3, 1) := by decide +kernel
theorem dX10_why_115 : decode cX10_why 115 = .ok (.aload_n 0, 1) := by decide +kernel
theorem dX10_why_116 : decode cX10_why 116 = .ok (.getfield 10, 3) := by decide +kernel
theorem dX10_why_119 : decode cX10_why 119 = .ok (.iload 5, 2) := by decide +kernel
theorem dX10_why_121 : decode cX10_why 121 = .ok (.invokevirtual 155, 3) := by decide +kernel
theorem dX10_why_124 : decode cX10_why 124 = .ok (.invokevirtual 158, 3) := by decide +kernel
theorem dX10_why_127 : decode cX10_why 127 = .ok (.ireturn, 1) := by decide +kernel
theorem dX10_why_128 : decode cX10_why 128 = .ok (.bipush (-2), 2) := by decide +kernel
theorem dX10_why_130 : decode cX10_why 130 = .ok (.ireturn, 1) := by decide +kernel
theorem dX10_hold_0 : decode cX10_hold 0 = .ok (.iload_n 1, 1) := by decide +kernel
theorem dX10_hold_1 : decode cX10_hold 1 = .ok (.invokestatic 129, 3) := by decide +kernel
theorem dX10_hold_4 : decode cX10_hold 4 = .ok (.ifCond .eq 19, 3) := by decide +kernel
theorem dX10_hold_7 : decode cX10_hold 7 = .ok (.iload_n 2, 1) := by decide +kernel
theorem dX10_hold_8 : decode cX10_hold 8 = .ok (.invokestatic 110, 3) := by decide +kernel
theorem dX10_hold_11 : decode cX10_hold 11 = .ok (.ifCond .eq 12, 3) := by decide +kernel
theorem dX10_hold_14 : decode cX10_hold 14 = .ok (.iload_n 3, 1) := by decide +kernel
theorem dX10_hold_15 : decode cX10_hold 15 = .ok (.iconst 0, 1) := by decide +kernel
theorem dX10_hold_16 : decode cX10_hold 16 = .ok (.iconst 1, 1) := by decide +kernel
theorem dX10_hold_17 : decode cX10_hold 17 = .ok (.invokestatic 85, 3) := by decide +kernel
theorem dX10_hold_20 : decode cX10_hold 20 = .ok (.ifCond .ne 6, 3) := by decide +kernel
theorem dX10_hold_23 : decode cX10_hold 23 = .ok (.bipush (-2), 2) := by decide +kernel
theorem dX10_hold_25 : decode cX10_hold 25 = .ok (.ireturn, 1) := by decide +kernel
theorem dX10_hold_26 : decode cX10_hold 26 = .ok (.aload_n 0, 1) := by decide +kernel
theorem dX10_hold_27 : decode cX10_hold 27 = .ok (.getfield 10, 3) := by decide +kernel
theorem dX10_hold_30 : decode cX10_hold 30 = .ok (.iload_n 1, 1) := by decide +kernel
theorem dX10_hold_31 : decode cX10_hold 31 = .ok (.iload_n 2, 1) := by decide +kernel
theorem dX10_hold_32 : decode cX10_hold 32 = .ok (.invokevirtual 138, 3) := by decide +kernel
theorem dX10_hold_35 : decode cX10_hold 35 = .ok (.istore 4, 2) := by decide +kernel
theorem dX10_hold_37 : decode cX10_hold 37 = .ok (.iload_n 3, 1) := by decide +kernel
theorem dX10_hold_38 : decode cX10_hold 38 = .ok (.ifCond .ne 8, 3) := by decide +kernel
theorem dX10_hold_41 : decode cX10_hold 41 = .ok (.iload 4, 2) := by decide +kernel
theorem dX10_hold_43 : decode cX10_hold 43 = .ok (.goto 12, 3) := by decide +kernel
theorem dX10_hold_46 : decode cX10_hold 46 = .ok (.aload_n 0, 1) := by decide +kernel
theorem dX10_hold_47 : decode cX10_hold 47 = .ok (.getfield 10, 3) := by decide +kernel
theorem dX10_hold_50 : decode cX10_hold 50 = .ok (.iload 4, 2) := by decide +kernel
theorem dX10_hold_52 : decode cX10_hold 52 = .ok (.invokevirtual 155, 3) := by decide +kernel
theorem dX10_hold_55 : decode cX10_hold 55 = .ok (.ireturn, 1) := by decide +kernel
theorem dX10_best_0 : decode cX10_best 0 = .ok (.iload_n 1, 1) := by decide +kernel
theorem dX10_best_1 : decode cX10_best 1 = .ok (.iload_n 2, 1) := by decide +kernel
theorem dX10_best_2 : decode cX10_best 2 = .ok (.iload_n 3, 1) := by decide +kernel
theorem dX10_best_3 : decode cX10_best 3 = .ok (.invokestatic 161, 3) := by decide +kernel
theorem dX10_best_6 : decode cX10_best 6 = .ok (.ifCond .eq 13, 3) := by decide +kernel
theorem dX10_best_9 : decode cX10_best 9 = .ok (.iload 4, 2) := by decide +kernel
theorem dX10_best_11 : decode cX10_best 11 = .ok (.iconst 0, 1) := by decide +kernel
theorem dX10_best_12 : decode cX10_best 12 = .ok (.iconst 1, 1) := by decide +kernel
theorem dX10_best_13 : decode cX10_best 13 = .ok (.invokestatic 85, 3) := by decide +kernel
theorem dX10_best_16 : decode cX10_best 16 = .ok (.ifCond .ne 6, 3) := by decide +kernel
theorem dX10_best_19 : decode cX10_best 19 = .ok (.bipush (-2), 2) := by decide +kernel
theorem dX10_best_21 : decode cX10_best 21 = .ok (.ireturn, 1) := by decide +kernel
theorem dX10_best_22 : decode cX10_best 22 = .ok (.aload_n 0, 1) := by decide +kernel
theorem dX10_best_23 : decode cX10_best 23 = .ok (.getfield 52, 3) := by decide +kernel
theorem dX10_best_26 : decode cX10_best 26 = .ok (.aload_n 0, 1) := by decide +kernel
theorem dX10_best_27 : decode cX10_best 27 = .ok (.getfield 10, 3) := by decide +kernel
theorem dX10_best_30 : decode cX10_best 30 = .ok (.iload_n 1, 1) := by decide +kernel
theorem dX10_best_31 : decode cX10_best 31 = .ok (.iload_n 2, 1) := by decide +kernel
theorem dX10_best_32 : decode cX10_best 32 = .ok (.iload_n 3, 1) := by decide +kernel
theorem dX10_best_33 : decode cX10_best 33 = .ok (.invokevirtual 164, 3) := by decide +kernel
theorem dX10_best_36 : decode cX10_best 36 = .ok (.aload_n 0, 1) := by decide +kernel
theorem dX10_best_37 : decode cX10_best 37 = .ok (.getfield 52, 3) := by decide +kernel
theorem dX10_best_40 : decode cX10_best 40 = .ok (.invokevirtual 168, 3) := by decide +kernel
theorem dX10_best_43 : decode cX10_best 43 = .ok (.istore 5, 2) := by decide +kernel
theorem dX10_best_45 : decode cX10_best 45 = .ok (.iload 4, 2) := by decide +kernel
theorem dX10_best_47 : decode cX10_best 47 = .ok (.ifCond .ne 8, 3) := by decide +kernel
theorem dX10_best_50 : decode cX10_best 50 = .ok (.iload 5, 2) := by decide +kernel
theorem dX10_best_52 : decode cX10_best 52 = .ok (.goto 12, 3) := by decide +kernel
theorem dX10_best_55 : decode cX10_best 55 = .ok (.aload_n 0, 1) := by decide +kernel
theorem dX10_best_56 : decode cX10_best 56 = .ok (.getfield 52, 3) := by decide +kernel
theorem dX10_best_59 : decode cX10_best 59 = .ok (.iload 5, 2) := by decide +kernel
theorem dX10_best_61 : decode cX10_best 61 = .ok (.invokevirtual 171, 3) := by decide +kernel
theorem dX10_best_64 : decode cX10_best 64 = .ok (.ireturn, 1) := by decide +kernel
theorem dX10_jumps_0 : decode cX10_jumps 0 = .ok (.iload_n 1, 1) := by decide +kernel
theorem dX10_jumps_1 : decode cX10_jumps 1 = .ok (.iload_n 2, 1) := by decide +kernel
theorem dX10_jumps_2 : decode cX10_jumps 2 = .ok (.iload_n 3, 1) := by decide +kernel
theorem dX10_jumps_3 : decode cX10_jumps 3 = .ok (.invokestatic 161, 3) := by decide +kernel
theorem dX10_jumps_6 : decode cX10_jumps 6 = .ok (.ifCond .ne 6, 3) := by decide +kernel
theorem dX10_jumps_9 : decode cX10_jumps 9 = .ok (.bipush (-2), 2) := by decide +kernel
theorem dX10_jumps_11 : decode cX10_jumps 11 = .ok (.ireturn, 1) := by decide +kernel
theorem dX10_jumps_12 : decode cX10_jumps 12 = .ok (.aload_n 0, 1) := by decide +kernel
theorem dX10_jumps_13 : decode cX10_jumps 13 = .ok (.getfield 52, 3) := by decide +kernel
theorem dX10_jumps_16 : decode cX10_jumps 16 = .ok (.aload_n 0, 1) := by decide +kernel
theorem dX10_jumps_17 : decode cX10_jumps 17 = .ok (.getfield 10, 3) := by decide +kernel
theorem dX10_jumps_20 : decode cX10_jumps 20 = .ok (.iload_n 1, 1) := by decide +kernel
theorem dX10_jumps_21 : decode cX10_jumps 21 = .ok (.iload_n 2, 1) := by decide +kernel
theorem dX10_jumps_22 : decode cX10_jumps 22 = .ok (.iload_n 3, 1) := by decide +kernel
theorem dX10_jumps_23 : decode cX10_jumps 23 = .ok (.invokevirtual 164, 3) := by decide +kernel
theorem dX10_jumps_26 : decode cX10_jumps 26 = .ok (.iload 4, 2) := by decide +kernel
theorem dX10_jumps_28 : decode cX10_jumps 28 = .ok (.tableswitch 83 0 4 #[36, 44, 52, 60, 68], 36) := by decide +kernel
theorem dX10_jumps_64 : decode cX10_jumps 64 = .ok (.aload_n 0, 1) := by decide +kernel
theorem dX10_jumps_65 : decode cX10_jumps 65 = .ok (.getfield 52, 3) := by decide +kernel
theorem dX10_jumps_68 : decode cX10_jumps 68 = .ok (.invokevirtual 173, 3) := by decide +kernel
theorem dX10_jumps_71 : decode cX10_jumps 71 = .ok (.ireturn, 1) := by decide +kernel
theorem dX10_jumps_72 : decode cX10_jumps 72 = .ok (.aload_n 0, 1) := by decide +kernel
theorem dX10_jumps_73 : decode cX10_jumps 73 = .ok (.getfield 52, 3) := by decide +kernel
theorem dX10_jumps_76 : decode cX10_jumps 76 = .ok (.invokevirtual 176, 3) := by decide +kernel
theorem dX10_jumps_79 : decode cX10_jumps 79 = .ok (.ireturn, 1) := by decide +kernel
theorem dX10_jumps_80 : decode cX10_jumps 80 = .ok (.aload_n 0, 1) := by decide +kernel
theorem dX10_jumps_81 : decode cX10_jumps 81 = .ok (.getfield 52, 3) := by decide +kernel
theorem dX10_jumps_84 : decode cX10_jumps 84 = .ok (.invokevirtual 179, 3) := by decide +kernel
theorem dX10_jumps_87 : decode cX10_jumps 87 = .ok (.ireturn, 1) := by decide +kernel
theorem dX10_jumps_88 : decode cX10_jumps 88 = .ok (.aload_n 0, 1) := by decide +kernel
theorem dX10_jumps_89 : decode cX10_jumps 89 = .ok (.getfield 52, 3) := by decide +kernel
theorem dX10_jumps_92 : decode cX10_jumps 92 = .ok (.invokevirtual 182, 3) := by decide +kernel
theorem dX10_jumps_95 : decode cX10_jumps 95 = .ok (.ireturn, 1) := by decide +kernel
theorem dX10_jumps_96 : decode cX10_jumps 96 = .ok (.aload_n 0, 1) := by decide +kernel
theorem dX10_jumps_97 : decode cX10_jumps 97 = .ok (.getfield 52, 3) := by decide +kernel
theorem dX10_jumps_100 : decode cX10_jumps 100 = .ok (.aload_n 0, 1) := by decide +kernel
theorem dX10_jumps_101 : decode cX10_jumps 101 = .ok (.getfield 52, 3) := by decide +kernel
theorem dX10_jumps_104 : decode cX10_jumps 104 = .ok (.invokevirtual 182, 3) := by decide +kernel
theorem dX10_jumps_107 : decode cX10_jumps 107 = .ok (.invokevirtual 185, 3) := by decide +kernel
theorem dX10_jumps_110 : decode cX10_jumps 110 = .ok (.ireturn, 1) := by decide +kernel
theorem dX10_jumps_111 : decode cX10_jumps 111 = .ok (.bipush (-2), 2) := by decide +kernel
theorem dX10_jumps_113 : decode cX10_jumps 113 = .ok (.ireturn, 1) := by decide +kernel
theorem dX10_bends_0 : decode cX10_bends 0 = .ok (.iload_n 1, 1) := by decide +kernel
theorem dX10_bends_1 : decode cX10_bends 1 = .ok (.iload_n 2, 1) := by decide +kernel
theorem dX10_bends_2 : decode cX10_bends 2 = .ok (.iload_n 3, 1) := by decide +kernel
theorem dX10_bends_3 : decode cX10_bends 3 = .ok (.invokestatic 161, 3) := by decide +kernel
theorem dX10_bends_6 : decode cX10_bends 6 = .ok (.ifCond .ne 6, 3) := by decide +kernel
theorem dX10_bends_9 : decode cX10_bends 9 = .ok (.bipush (-2), 2) := by decide +kernel
theorem dX10_bends_11 : decode cX10_bends 11 = .ok (.ireturn, 1) := by decide +kernel
theorem dX10_bends_12 : decode cX10_bends 12 = .ok (.aload_n 0, 1) := by decide +kernel
theorem dX10_bends_13 : decode cX10_bends 13 = .ok (.getfield 52, 3) := by decide +kernel
theorem dX10_bends_16 : decode cX10_bends 16 = .ok (.aload_n 0, 1) := by decide +kernel
theorem dX10_bends_17 : decode cX10_bends 17 = .ok (.getfield 10, 3) := by decide +kernel
theorem dX10_bends_20 : decode cX10_bends 20 = .ok (.iload_n 1, 1) := by decide +kernel
theorem dX10_bends_21 : decode cX10_bends 21 = .ok (.iload_n 2, 1) := by decide +kernel
theorem dX10_bends_22 : decode cX10_bends 22 = .ok (.iload_n 3, 1) := by decide +kernel
theorem dX10_bends_23 : decode cX10_bends 23 = .ok (.invokevirtual 164, 3) := by decide +kernel
theorem dX10_bends_26 : decode cX10_bends 26 = .ok (.iload 4, 2) := by decide +kernel
theorem dX10_bends_28 : decode cX10_bends 28 = .ok (.tableswitch 52 0 2 #[28, 36, 44], 28) := by decide +kernel
theorem dX10_bends_56 : decode cX10_bends 56 = .ok (.aload_n 0, 1) := by decide +kernel
theorem dX10_bends_57 : decode cX10_bends 57 = .ok (.getfield 52, 3) := by decide +kernel
theorem dX10_bends_60 : decode cX10_bends 60 = .ok (.invokevirtual 188, 3) := by decide +kernel
theorem dX10_bends_63 : decode cX10_bends 63 = .ok (.ireturn, 1) := by decide +kernel
theorem dX10_bends_64 : decode cX10_bends 64 = .ok (.aload_n 0, 1) := by decide +kernel
theorem dX10_bends_65 : decode cX10_bends 65 = .ok (.getfield 52, 3) := by decide +kernel
theorem dX10_bends_68 : decode cX10_bends 68 = .ok (.invokevirtual 191, 3) := by decide +kernel
theorem dX10_bends_71 : decode cX10_bends 71 = .ok (.ireturn, 1) := by decide +kernel
theorem dX10_bends_72 : decode cX10_bends 72 = .ok (.aload_n 0, 1) := by decide +kernel
theorem dX10_bends_73 : decode cX10_bends 73 = .ok (.getfield 52, 3) := by decide +kernel
theorem dX10_bends_76 : decode cX10_bends 76 = .ok (.invokevirtual 194, 3) := by decide +kernel
theorem dX10_bends_79 : decode cX10_bends 79 = .ok (.ireturn, 1) := by decide +kernel
theorem dX10_bends_80 : decode cX10_bends 80 = .ok (.bipush (-2), 2) := by decide +kernel
theorem dX10_bends_82 : decode cX10_bends 82 = .ok (.ireturn, 1) := by decide +kernel
theorem dX10_enough_0 : decode cX10_enough 0 = .ok (.iload_n 1, 1) := by decide +kernel
theorem dX10_enough_1 : decode cX10_enough 1 = .ok (.iload_n 2, 1) := by decide +kernel
theorem dX10_enough_2 : decode cX10_enough 2 = .ok (.iload_n 3, 1) := by decide +kernel
theorem dX10_enough_3 : decode cX10_enough 3 = .ok (.invokestatic 161, 3) := by decide +kernel
theorem dX10_enough_6 : decode cX10_enough 6 = .ok (.ifCond .eq 8, 3) := by decide +kernel
theorem dX10_enough_9 : decode cX10_enough 9 = .ok (.iload 4, 2) := by decide +kernel
theorem dX10_enough_11 : decode cX10_enough 11 = .ok (.ifCond .ge 6, 3) := by decide +kernel
theorem dX10_enough_14 : decode cX10_enough 14 = .ok (.bipush (-2), 2) := by decide +kernel
theorem dX10_enough_16 : decode cX10_enough 16 = .ok (.ireturn, 1) := by decide +kernel
theorem dX10_enough_17 : decode cX10_enough 17 = .ok (.aload_n 0, 1) := by decide +kernel
theorem dX10_enough_18 : decode cX10_enough 18 = .ok (.getfield 52, 3) := by decide +kernel
theorem dX10_enough_21 : decode cX10_enough 21 = .ok (.aload_n 0, 1) := by decide +kernel
theorem dX10_enough_22 : decode cX10_enough 22 = .ok (.getfield 10, 3) := by decide +kernel
theorem dX10_enough_25 : decode cX10_enough 25 = .ok (.iload_n 1, 1) := by decide +kernel
theorem dX10_enough_26 : decode cX10_enough 26 = .ok (.iload_n 2, 1) := by decide +kernel
theorem dX10_enough_27 : decode cX10_enough 27 = .ok (.iload_n 3, 1) := by decide +kernel
theorem dX10_enough_28 : decode cX10_enough 28 = .ok (.invokevirtual 164, 3) := by decide +kernel
theorem dX10_enough_31 : decode cX10_enough 31 = .ok (.aload_n 0, 1) := by decide +kernel
theorem dX10_enough_32 : decode cX10_enough 32 = .ok (.getfield 52, 3) := by decide +kernel
theorem dX10_enough_35 : decode cX10_enough 35 = .ok (.iload 4, 2) := by decide +kernel
theorem dX10_enough_37 : decode cX10_enough 37 = .ok (.invokevirtual 197, 3) := by decide +kernel
theorem dX10_enough_40 : decode cX10_enough 40 = .ok (.ireturn, 1) := by decide +kernel
theorem dX10_share_0 : decode cX10_share 0 = .ok (.iload_n 1, 1) := by decide +kernel
theorem dX10_share_1 : decode cX10_share 1 = .ok (.invokestatic 129, 3) := by decide +kernel
theorem dX10_share_4 : decode cX10_share 4 = .ok (.ifCond .eq 20, 3) := by decide +kernel
theorem dX10_share_7 : decode cX10_share 7 = .ok (.iload_n 2, 1) := by decide +kernel
theorem dX10_share_8 : decode cX10_share 8 = .ok (.invokestatic 110, 3) := by decide +kernel
theorem dX10_share_11 : decode cX10_share 11 = .ok (.ifCond .eq 13, 3) := by decide +kernel
theorem dX10_share_14 : decode cX10_share 14 = .ok (.iload_n 3, 1) := by decide +kernel
theorem dX10_share_15 : decode cX10_share 15 = .ok (.iconst 1, 1) := by decide +kernel
theorem dX10_share_16 : decode cX10_share 16 = .ok (.bipush 9, 2) := by decide +kernel
theorem dX10_share_18 : decode cX10_share 18 = .ok (.invokestatic 85, 3) := by decide +kernel
theorem dX10_share_21 : decode cX10_share 21 = .ok (.ifCond .ne 7, 3) := by decide +kernel
theorem dX10_share_24 : decode cX10_share 24 = .ok (.ldc2_w 200, 3) := by decide +kernel
theorem dX10_share_27 : decode cX10_share 27 = .ok (.lreturn, 1) := by decide +kernel
theorem dX10_share_28 : decode cX10_share 28 = .ok (.aload_n 0, 1) := by decide +kernel
theorem dX10_share_29 : decode cX10_share 29 = .ok (.getfield 10, 3) := by decide +kernel
theorem dX10_share_32 : decode cX10_share 32 = .ok (.iload_n 1, 1) := by decide +kernel
theorem dX10_share_33 : decode cX10_share 33 = .ok (.iload_n 2, 1) := by decide +kernel
theorem dX10_share_34 : decode cX10_share 34 = .ok (.invokevirtual 135, 3) := by decide +kernel
theorem dX10_share_37 : decode cX10_share 37 = .ok (.i2d, 1) := by decide +kernel
theorem dX10_share_38 : decode cX10_share 38 = .ok (.iload_n 3, 1) := by decide +kernel
theorem dX10_share_39 : decode cX10_share 39 = .ok (.i2d, 1) := by decide +kernel
theorem dX10_share_40 : decode cX10_share 40 = .ok (.ddiv, 1) := by decide +kernel
theorem dX10_share_41 : decode cX10_share 41 = .ok (.invokestatic 202, 3) := by decide +kernel
theorem dX10_share_44 : decode cX10_share 44 = .ok (.lreturn, 1) := by decide +kernel
theorem dX10_mean_0 : decode cX10_mean 0 = .ok (.iload_n 1, 1) := by decide +kernel
theorem dX10_mean_1 : decode cX10_mean 1 = .ok (.invokestatic 110, 3) := by decide +kernel
theorem dX10_mean_4 : decode cX10_mean 4 = .ok (.ifCond .eq 13, 3) := by decide +kernel
theorem dX10_mean_7 : decode cX10_mean 7 = .ok (.iload_n 2, 1) := by decide +kernel
theorem dX10_mean_8 : decode cX10_mean 8 = .ok (.iconst 1, 1) := by decide +kernel
theorem dX10_mean_9 : decode cX10_mean 9 = .ok (.bipush 20, 2) := by decide +kernel
theorem dX10_mean_11 : decode cX10_mean 11 = .ok (.invokestatic 85, 3) := by decide +kernel
theorem dX10_mean_14 : decode cX10_mean 14 = .ok (.ifCond .ne 6, 3) := by decide +kernel
theorem dX10_mean_17 : decode cX10_mean 17 = .ok (.bipush (-2), 2) := by decide +kernel
theorem dX10_mean_19 : decode cX10_mean 19 = .ok (.ireturn, 1) := by decide +kernel
theorem dX10_mean_20 : decode cX10_mean 20 = .ok (.aload_n 0, 1) := by decide +kernel
theorem dX10_mean_21 : decode cX10_mean 21 = .ok (.getfield 29, 3) := by decide +kernel
theorem dX10_mean_24 : decode cX10_mean 24 = .ok (.getfield 208, 3) := by decide +kernel
theorem dX10_mean_27 : decode cX10_mean 27 = .ok (.istore_n 3, 1) := by decide +kernel
theorem dX10_mean_28 : decode cX10_mean 28 = .ok (.fconst 0, 1) := by decide +kernel
theorem dX10_mean_29 : decode cX10_mean 29 = .ok (.fstore 4, 2) := by decide +kernel
theorem dX10_mean_31 : decode cX10_mean 31 = .ok (.iconst 0, 1) := by decide +kernel
theorem dX10_mean_32 : decode cX10_mean 32 = .ok (.istore 5, 2) := by decide +kernel
theorem dX10_mean_34 : decode cX10_mean 34 = .ok (.iload 5, 2) := by decide +kernel
theorem dX10_mean_36 : decode cX10_mean 36 = .ok (.iload_n 2, 1) := by decide +kernel
theorem dX10_mean_37 : decode cX10_mean 37 = .ok (.if_icmp .ge 44, 3) := by decide +kernel
theorem dX10_mean_40 : decode cX10_mean 40 = .ok (.aload_n 0, 1) := by decide +kernel
theorem dX10_mean_41 : decode cX10_mean 41 = .ok (.getfield 29, 3) := by decide +kernel
theorem dX10_mean_44 : decode cX10_mean 44 = .ok (.invokevirtual 211, 3) := by decide +kernel
theorem dX10_mean_47 : decode cX10_mean 47 = .ok (.istore 6, 2) := by decide +kernel
theorem dX10_mean_49 : decode cX10_mean 49 = .ok (.fload 4, 2) := by decide +kernel
theorem dX10_mean_51 : decode cX10_mean 51 = .ok (.aload_n 0, 1) := by decide +kernel
theorem dX10_mean_52 : decode cX10_mean 52 = .ok (.getfield 10, 3) := by decide +kernel
theorem dX10_mean_55 : decode cX10_mean 55 = .ok (.iload 6, 2) := by decide +kernel
theorem dX10_mean_57 : decode cX10_mean 57 = .ok (.iload_n 1, 1) := by decide +kernel
theorem dX10_mean_58 : decode cX10_mean 58 = .ok (.invokevirtual 135, 3) := by decide +kernel
theorem dX10_mean_61 : decode cX10_mean 61 = .ok (.i2f, 1) := by decide +kernel
theorem dX10_mean_62 : decode cX10_mean 62 = .ok (.iconst 1, 1) := by decide +kernel
theorem dX10_mean_63 : decode cX10_mean 63 = .ok (.iload 6, 2) := by decide +kernel
theorem dX10_mean_65 : decode cX10_mean 65 = .ok (.iconst 2, 1) := by decide +kernel
theorem dX10_mean_66 : decode cX10_mean 66 = .ok (.invokestatic 132, 3) := by decide +kernel
theorem dX10_mean_69 : decode cX10_mean 69 = .ok (.iadd, 1) := by decide +kernel
theorem dX10_mean_70 : decode cX10_mean 70 = .ok (.i2f, 1) := by decide +kernel
theorem dX10_mean_71 : decode cX10_mean 71 = .ok (.fdiv, 1) := by decide +kernel
theorem dX10_mean_72 : decode cX10_mean 72 = .ok (.fadd, 1) := by decide +kernel
theorem dX10_mean_73 : decode cX10_mean 73 = .ok (.fstore 4, 2) := by decide +kernel
theorem dX10_mean_75 : decode cX10_mean 75 = .ok (.iinc 5 1, 3) := by decide +kernel
theorem dX10_mean_78 : decode cX10_mean 78 = .ok (.goto (-44), 3) := by decide +kernel
theorem dX10_mean_81 : decode cX10_mean 81 = .ok (.aload_n 0, 1) := by decide +kernel
theorem dX10_mean_82 : decode cX10_mean 82 = .ok (.getfield 29, 3) := by decide +kernel
theorem dX10_mean_85 : decode cX10_mean 85 = .ok (.iload_n 3, 1) := by decide +kernel
theorem dX10_mean_86 : decode cX10_mean 86 = .ok (.putfield 208, 3) := by decide +kernel
theorem dX10_mean_89 : decode cX10_mean 89 = .ok (.fload 4, 2) := by decide +kernel
theorem dX10_mean_91 : decode cX10_mean 91 = .ok (.invokestatic 214, 3) := by decide +kernel
theorem dX10_mean_94 : decode cX10_mean 94 = .ok (.ireturn, 1) := by decide +kernel
theorem dX10_until_0 : decode cX10_until 0 = .ok (.iload_n 1, 1) := by decide +kernel
theorem dX10_until_1 : decode cX10_until 1 = .ok (.invokestatic 129, 3) := by decide +kernel
theorem dX10_until_4 : decode cX10_until 4 = .ok (.ifCond .eq 10, 3) := by decide +kernel
theorem dX10_until_7 : decode cX10_until 7 = .ok (.iload_n 2, 1) := by decide +kernel
theorem dX10_until_8 : decode cX10_until 8 = .ok (.invokestatic 110, 3) := by decide +kernel
theorem dX10_until_11 : decode cX10_until 11 = .ok (.ifCond .ne 6, 3) := by decide +kernel
theorem dX10_until_14 : decode cX10_until 14 = .ok (.bipush (-2), 2) := by decide +kernel
theorem dX10_until_16 : decode cX10_until 16 = .ok (.ireturn, 1) := by decide +kernel
theorem dX10_until_17 : decode cX10_until 17 = .ok (.aload_n 0, 1) := by decide +kernel
theorem dX10_until_18 : decode cX10_until 18 = .ok (.getfield 10, 3) := by decide +kernel
theorem dX10_until_21 : decode cX10_until 21 = .ok (.iload_n 1, 1) := by decide +kernel
theorem dX10_until_22 : decode cX10_until 22 = .ok (.iload_n 2, 1) := by decide +kernel
theorem dX10_until_23 : decode cX10_until 23 = .ok (.invokevirtual 135, 3) := by decide +kernel
theorem dX10_until_26 : decode cX10_until 26 = .ok (.istore_n 3, 1) := by decide +kernel
theorem dX10_until_27 : decode cX10_until 27 = .ok (.aload_n 0, 1) := by decide +kernel
theorem dX10_until_28 : decode cX10_until 28 = .ok (.getfield 10, 3) := by decide +kernel
theorem dX10_until_31 : decode cX10_until 31 = .ok (.iload_n 2, 1) := by decide +kernel
theorem dX10_until_32 : decode cX10_until 32 = .ok (.invokevirtual 218, 3) := by decide +kernel
theorem dX10_until_35 : decode cX10_until 35 = .ok (.istore 4, 2) := by decide +kernel
theorem dX10_until_37 : decode cX10_until 37 = .ok (.iconst 0, 1) := by decide +kernel
theorem dX10_until_38 : decode cX10_until 38 = .ok (.istore 5, 2) := by decide +kernel
theorem dX10_until_40 : decode cX10_until 40 = .ok (.iload 5, 2) := by decide +kernel
theorem dX10_until_42 : decode cX10_until 42 = .ok (.bipush 24, 2) := by decide +kernel
theorem dX10_until_44 : decode cX10_until 44 = .ok (.if_icmp .ge 45, 3) := by decide +kernel
theorem dX10_until_47 : decode cX10_until 47 = .ok (.iload 4, 2) := by decide +kernel
theorem dX10_until_49 : decode cX10_until 49 = .ok (.sipush 999, 3) := by decide +kernel
theorem dX10_until_52 : decode cX10_until 52 = .ok (.if_icmp .gt 37, 3) := by decide +kernel
theorem dX10_until_55 : decode cX10_until 55 = .ok (.aload_n 0, 1) := by decide +kernel
theorem dX10_until_56 : decode cX10_until 56 = .ok (.getfield 10, 3) := by decide +kernel
theorem dX10_until_59 : decode cX10_until 59 = .ok (.iload_n 1, 1) := by decide +kernel
theorem dX10_until_60 : decode cX10_until 60 = .ok (.iload 4, 2) := by decide +kernel
theorem dX10_until_62 : decode cX10_until 62 = .ok (.invokevirtual 135, 3) := by decide +kernel
theorem dX10_until_65 : decode cX10_until 65 = .ok (.iload_n 3, 1) := by decide +kernel
theorem dX10_until_66 : decode cX10_until 66 = .ok (.if_icmp .eq 6, 3) := by decide +kernel
theorem dX10_until_69 : decode cX10_until 69 = .ok (.iload 4, 2) := by decide +kernel
theorem dX10_until_71 : decode cX10_until 71 = .ok (.ireturn, 1) := by decide +kernel
theorem dX10_until_72 : decode cX10_until 72 = .ok (.aload_n 0, 1) := by decide +kernel
theorem dX10_until_73 : decode cX10_until 73 = .ok (.getfield 10, 3) := by decide +kernel
theorem dX10_until_76 : decode cX10_until 76 = .ok (.iload 4, 2) := by decide +kernel
theorem dX10_until_78 : decode cX10_until 78 = .ok (.invokevirtual 218, 3) := by decide +kernel
theorem dX10_until_81 : decode cX10_until 81 = .ok (.istore 4, 2) := by decide +kernel
theorem dX10_until_83 : decode cX10_until 83 = .ok (.iinc 5 1, 3) := by decide +kernel
theorem dX10_until_86 : decode cX10_until 86 = .ok (.goto (-46), 3) := by decide +kernel
theorem dX10_until_89 : decode cX10_until 89 = .ok (.iconst (-1), 1) := by decide +kernel
theorem dX10_until_90 : decode cX10_until 90 = .ok (.ireturn, 1) := by decide +kernel
theorem dX10_mark_0 : decode cX10_mark 0 = .ok (.aload_n 0, 1) := by decide +kernel
theorem dX10_mark_1 : decode cX10_mark 1 = .ok (.getfield 16, 3) := by decide +kernel
theorem dX10_mark_4 : decode cX10_mark 4 = .ok (.aload_n 0, 1) := by decide +kernel
theorem dX10_mark_5 : decode cX10_mark 5 = .ok (.getfield 10, 3) := by decide +kernel
theorem dX10_mark_8 : decode cX10_mark 8 = .ok (.invokevirtual 221, 3) := by decide +kernel
theorem dX10_mark_11 : decode cX10_mark 11 = .ok (.aload_n 0, 1) := by decide +kernel
theorem dX10_mark_12 : decode cX10_mark 12 = .ok (.getfield 10, 3) := by decide +kernel
theorem dX10_mark_15 : decode cX10_mark 15 = .ok (.invokevirtual 113, 3) := by decide +kernel
theorem dX10_mark_18 : decode cX10_mark 18 = .ok (.ireturn, 1) := by decide +kernel
theorem dX10_touched_0 : decode cX10_touched 0 = .ok (.iload_n 1, 1) := by decide +kernel
theorem dX10_touched_1 : decode cX10_touched 1 = .ok (.invokestatic 129, 3) := by decide +kernel
theorem dX10_touched_4 : decode cX10_touched 4 = .ok (.ifCond .eq 10, 3) := by decide +kernel
theorem dX10_touched_7 : decode cX10_touched 7 = .ok (.iload_n 2, 1) := by decide +kernel
theorem dX10_touched_8 : decode cX10_touched 8 = .ok (.invokestatic 110, 3) := by decide +kernel
theorem dX10_touched_11 : decode cX10_touched 11 = .ok (.ifCond .ne 6, 3) := by decide +kernel
theorem dX10_touched_14 : decode cX10_touched 14 = .ok (.bipush (-2), 2) := by decide +kernel
theorem dX10_touched_16 : decode cX10_touched 16 = .ok (.ireturn, 1) := by decide +kernel
theorem dX10_touched_17 : decode cX10_touched 17 = .ok (.aload_n 0, 1) := by decide +kernel
theorem dX10_touched_18 : decode cX10_touched 18 = .ok (.getfield 10, 3) := by decide +kernel
theorem dX10_touched_21 : decode cX10_touched 21 = .ok (.iload_n 1, 1) := by decide +kernel
theorem dX10_touched_22 : decode cX10_touched 22 = .ok (.iload_n 2, 1) := by decide +kernel
theorem dX10_touched_23 : decode cX10_touched 23 = .ok (.invokevirtual 135, 3) := by decide +kernel
theorem dX10_touched_26 : decode cX10_touched 26 = .ok (.aload_n 0, 1) := by decide +kernel
theorem dX10_touched_27 : decode cX10_touched 27 = .ok (.getfield 16, 3) := by decide +kernel
theorem dX10_touched_30 : decode cX10_touched 30 = .ok (.iload_n 1, 1) := by decide +kernel
theorem dX10_touched_31 : decode cX10_touched 31 = .ok (.iload_n 2, 1) := by decide +kernel
theorem dX10_touched_32 : decode cX10_touched 32 = .ok (.invokevirtual 135, 3) := by decide +kernel
theorem dX10_touched_35 : decode cX10_touched 35 = .ok (.isub, 1) := by decide +kernel
theorem dX10_touched_36 : decode cX10_touched 36 = .ok (.ireturn, 1) := by decide +kernel
theorem dX10_touches_0 : decode cX10_touches 0 = .ok (.iload_n 1, 1) := by decide +kernel
theorem dX10_touches_1 : decode cX10_touches 1 = .ok (.iload_n 2, 1) := by decide +kernel
theorem dX10_touches_2 : decode cX10_touches 2 = .ok (.iload_n 3, 1) := by decide +kernel
theorem dX10_touches_3 : decode cX10_touches 3 = .ok (.invokestatic 161, 3) := by decide +kernel
theorem dX10_touches_6 : decode cX10_touches 6 = .ok (.ifCond .ne 6, 3) := by decide +kernel
theorem dX10_touches_9 : decode cX10_touches 9 = .ok (.bipush (-2), 2) := by decide +kernel
theorem dX10_touches_11 : decode cX10_touches 11 = .ok (.ireturn, 1) := by decide +kernel
theorem dX10_touches_12 : decode cX10_touches 12 = .ok (.aload_n 0, 1) := by decide +kernel
theorem dX10_touches_13 : decode cX10_touches 13 = .ok (.getfield 52, 3) := by decide +kernel
theorem dX10_touches_16 : decode cX10_touches 16 = .ok (.aload_n 0, 1) := by decide +kernel
theorem dX10_touches_17 : decode cX10_touches 17 = .ok (.getfield 10, 3) := by decide +kernel
theorem dX10_touches_20 : decode cX10_touches 20 = .ok (.iload_n 1, 1) := by decide +kernel
theorem dX10_touches_21 : decode cX10_touches 21 = .ok (.iload_n 2, 1) := by decide +kernel
theorem dX10_touches_22 : decode cX10_touches 22 = .ok (.iload_n 3, 1) := by decide +kernel
theorem dX10_touches_23 : decode cX10_touches 23 = .ok (.invokevirtual 164, 3) := by decide +kernel
theorem dX10_touches_26 : decode cX10_touches 26 = .ok (.aload_n 0, 1) := by decide +kernel
theorem dX10_touches_27 : decode cX10_touches 27 = .ok (.getfield 52, 3) := by decide +kernel
theorem dX10_touches_30 : decode cX10_touches 30 = .ok (.aload_n 0, 1) := by decide +kernel
theorem dX10_touches_31 : decode cX10_touches 31 = .ok (.getfield 16, 3) := by decide +kernel
theorem dX10_touches_34 : decode cX10_touches 34 = .ok (.iload_n 1, 1) := by decide +kernel
theorem dX10_touches_35 : decode cX10_touches 35 = .ok (.iload_n 2, 1) := by decide +kernel
theorem dX10_touches_36 : decode cX10_touches 36 = .ok (.iload_n 3, 1) := by decide +kernel
theorem dX10_touches_37 : decode cX10_touches 37 = .ok (.invokevirtual 224, 3) := by decide +kernel
theorem dX10_touches_40 : decode cX10_touches 40 = .ok (.iload 4, 2) := by decide +kernel
theorem dX10_touches_42 : decode cX10_touches 42 = .ok (.tableswitch 62 0 3 #[30, 38, 46, 54], 30) := by decide +kernel
theorem dX10_touches_72 : decode cX10_touches 72 = .ok (.aload_n 0, 1) := by decide +kernel
theorem dX10_touches_73 : decode cX10_touches 73 = .ok (.getfield 52, 3) := by decide +kernel
theorem dX10_touches_76 : decode cX10_touches 76 = .ok (.invokevirtual 227, 3) := by decide +kernel
theorem dX10_touches_79 : decode cX10_touches 79 = .ok (.ireturn, 1) := by decide +kernel
theorem dX10_touches_80 : decode cX10_touches 80 = .ok (.aload_n 0, 1) := by decide +kernel
theorem dX10_touches_81 : decode cX10_touches 81 = .ok (.getfield 52, 3) := by decide +kernel
theorem dX10_touches_84 : decode cX10_touches 84 = .ok (.invokevirtual 230, 3) := by decide +kernel
theorem dX10_touches_87 : decode cX10_touches 87 = .ok (.ireturn, 1) := by decide +kernel
theorem dX10_touches_88 : decode cX10_touches 88 = .ok (.aload_n 0, 1) := by decide +kernel
theorem dX10_touches_89 : decode cX10_touches 89 = .ok (.getfield 52, 3) := by decide +kernel
theorem dX10_touches_92 : decode cX10_touches 92 = .ok (.invokevirtual 233, 3) := by decide +kernel
theorem dX10_touches_95 : decode cX10_touches 95 = .ok (.ireturn, 1) := by decide +kernel
theorem dX10_touches_96 : decode cX10_touches 96 = .ok (.aload_n 0, 1) := by decide +kernel
theorem dX10_touches_97 : decode cX10_touches 97 = .ok (.getfield 52, 3) := by decide +kernel
theorem dX10_touches_100 : decode cX10_touches 100 = .ok (.invokevirtual 236, 3) := by decide +kernel
theorem dX10_touches_103 : decode cX10_touches 103 = .ok (.ireturn, 1) := by decide +kernel
theorem dX10_touches_104 : decode cX10_touches 104 = .ok (.bipush (-2), 2) := by decide +kernel
theorem dX10_touches_106 : decode cX10_touches 106 = .ok (.ireturn, 1) := by decide +kernel
theorem dX10_drawn_0 : decode cX10_drawn 0 = .ok (.iload_n 1, 1) := by decide +kernel
theorem dX10_drawn_1 : decode cX10_drawn 1 = .ok (.invokestatic 110, 3) := by decide +kernel
theorem dX10_drawn_4 : decode cX10_drawn 4 = .ok (.ifCond .eq 13, 3) := by decide +kernel
theorem dX10_drawn_7 : decode cX10_drawn 7 = .ok (.iload_n 2, 1) := by decide +kernel
theorem dX10_drawn_8 : decode cX10_drawn 8 = .ok (.iconst 1, 1) := by decide +kernel
theorem dX10_drawn_9 : decode cX10_drawn 9 = .ok (.bipush 50, 2) := by decide +kernel
theorem dX10_drawn_11 : decode cX10_drawn 11 = .ok (.invokestatic 85, 3) := by decide +kernel
theorem dX10_drawn_14 : decode cX10_drawn 14 = .ok (.ifCond .ne 6, 3) := by decide +kernel
theorem dX10_drawn_17 : decode cX10_drawn 17 = .ok (.bipush (-2), 2) := by decide +kernel
theorem dX10_drawn_19 : decode cX10_drawn 19 = .ok (.ireturn, 1) := by decide +kernel
theorem dX10_drawn_20 : decode cX10_drawn 20 = .ok (.iconst 0, 1) := by decide +kernel
theorem dX10_drawn_21 : decode cX10_drawn 21 = .ok (.istore_n 3, 1) := by decide +kernel
theorem dX10_drawn_22 : decode cX10_drawn 22 = .ok (.iconst 0, 1) := by decide +kernel
theorem dX10_drawn_23 : decode cX10_drawn 23 = .ok (.istore 4, 2) := by decide +kernel
theorem dX10_drawn_25 : decode cX10_drawn 25 = .ok (.iload 4, 2) := by decide +kernel
theorem dX10_drawn_27 : decode cX10_drawn 27 = .ok (.iload_n 2, 1) := by decide +kernel
theorem dX10_drawn_28 : decode cX10_drawn 28 = .ok (.if_icmp .ge 44, 3) := by decide +kernel
theorem dX10_drawn_31 : decode cX10_drawn 31 = .ok (.aload_n 0, 1) := by decide +kernel
theorem dX10_drawn_32 : decode cX10_drawn 32 = .ok (.getfield 29, 3) := by decide +kernel
theorem dX10_drawn_35 : decode cX10_drawn 35 = .ok (.invokevirtual 211, 3) := by decide +kernel
theorem dX10_drawn_38 : decode cX10_drawn 38 = .ok (.istore 5, 2) := by decide +kernel
theorem dX10_drawn_40 : decode cX10_drawn 40 = .ok (.aload_n 0, 1) := by decide +kernel
theorem dX10_drawn_41 : decode cX10_drawn 41 = .ok (.getfield 10, 3) := by decide +kernel
theorem dX10_drawn_44 : decode cX10_drawn 44 = .ok (.iload 5, 2) := by decide +kernel
theorem dX10_drawn_46 : decode cX10_drawn 46 = .ok (.iload_n 1, 1) := by decide +kernel
theorem dX10_drawn_47 : decode cX10_drawn 47 = .ok (.invokevirtual 135, 3) := by decide +kernel
theorem dX10_drawn_50 : decode cX10_drawn 50 = .ok (.aload_n 0, 1) := by decide +kernel
theorem dX10_drawn_51 : decode cX10_drawn 51 = .ok (.getfield 16, 3) := by decide +kernel
theorem dX10_drawn_54 : decode cX10_drawn 54 = .ok (.iload 5, 2) := by decide +kernel
theorem dX10_drawn_56 : decode cX10_drawn 56 = .ok (.iload_n 1, 1) := by decide +kernel
theorem dX10_drawn_57 : decode cX10_drawn 57 = .ok (.invokevirtual 135, 3) := by decide +kernel
theorem dX10_drawn_60 : decode cX10_drawn 60 = .ok (.if_icmp .eq 6, 3) := by decide +kernel
theorem dX10_drawn_63 : decode cX10_drawn 63 = .ok (.iinc 3 1, 3) := by decide +kernel
theorem dX10_drawn_66 : decode cX10_drawn 66 = .ok (.iinc 4 1, 3) := by decide +kernel
theorem dX10_drawn_69 : decode cX10_drawn 69 = .ok (.goto (-44), 3) := by decide +kernel
theorem dX10_drawn_72 : decode cX10_drawn 72 = .ok (.iload_n 3, 1) := by decide +kernel
theorem dX10_drawn_73 : decode cX10_drawn 73 = .ok (.ireturn, 1) := by decide +kernel
theorem dX10_file_0 : decode cX10_file 0 = .ok (.aload_n 0, 1) := by decide +kernel
theorem dX10_file_1 : decode cX10_file 1 = .ok (.getfield 10, 3) := by decide +kernel
theorem dX10_file_4 : decode cX10_file 4 = .ok (.iload_n 1, 1) := by decide +kernel
theorem dX10_file_5 : decode cX10_file 5 = .ok (.invokevirtual 81, 3) := by decide +kernel
theorem dX10_file_8 : decode cX10_file 8 = .ok (.ifCond .ne 6, 3) := by decide +kernel
theorem dX10_file_11 : decode cX10_file 11 = .ok (.bipush (-2), 2) := by decide +kernel
theorem dX10_file_13 : decode cX10_file 13 = .ok (.ireturn, 1) := by decide +kernel
theorem dX10_file_14 : decode cX10_file 14 = .ok (.aload_n 0, 1) := by decide +kernel
theorem dX10_file_15 : decode cX10_file 15 = .ok (.getfield 22, 3) := by decide +kernel
theorem dX10_file_18 : decode cX10_file 18 = .ok (.aload_n 0, 1) := by decide +kernel
theorem dX10_file_19 : decode cX10_file 19 = .ok (.getfield 10, 3) := by decide +kernel
theorem dX10_file_22 : decode cX10_file 22 = .ok (.iload_n 1, 1) := by decide +kernel
theorem dX10_file_23 : decode cX10_file 23 = .ok (.invokevirtual 239, 3) := by decide +kernel
theorem dX10_file_26 : decode cX10_file 26 = .ok (.ireturn, 1) := by decide +kernel
theorem dX10_filed_0 : decode cX10_filed 0 = .ok (.aload_n 0, 1) := by decide +kernel
theorem dX10_filed_1 : decode cX10_filed 1 = .ok (.getfield 10, 3) := by decide +kernel
theorem dX10_filed_4 : decode cX10_filed 4 = .ok (.iload_n 1, 1) := by decide +kernel
theorem dX10_filed_5 : decode cX10_filed 5 = .ok (.invokevirtual 81, 3) := by decide +kernel
theorem dX10_filed_8 : decode cX10_filed 8 = .ok (.ifCond .eq 12, 3) := by decide +kernel
theorem dX10_filed_11 : decode cX10_filed 11 = .ok (.iload_n 2, 1) := by decide +kernel
theorem dX10_filed_12 : decode cX10_filed 12 = .ok (.iconst 0, 1) := by decide +kernel
theorem dX10_filed_13 : decode cX10_filed 13 = .ok (.iconst 1, 1) := by decide +kernel
theorem dX10_filed_14 : decode cX10_filed 14 = .ok (.invokestatic 85, 3) := by decide +kernel
theorem dX10_filed_17 : decode cX10_filed 17 = .ok (.ifCond .ne 6, 3) := by decide +kernel
theorem dX10_filed_20 : decode cX10_filed 20 = .ok (.bipush (-2), 2) := by decide +kernel
theorem dX10_filed_22 : decode cX10_filed 22 = .ok (.ireturn, 1) := by decide +kernel
theorem dX10_filed_23 : decode cX10_filed 23 = .ok (.aload_n 0, 1) := by decide +kernel
theorem dX10_filed_24 : decode cX10_filed 24 = .ok (.getfield 22, 3) := by decide +kernel
theorem dX10_filed_27 : decode cX10_filed 27 = .ok (.aload_n 0, 1) := by decide +kernel
theorem dX10_filed_28 : decode cX10_filed 28 = .ok (.getfield 10, 3) := by decide +kernel
theorem dX10_filed_31 : decode cX10_filed 31 = .ok (.iload_n 1, 1) := by decide +kernel
theorem dX10_filed_32 : decode cX10_filed 32 = .ok (.invokevirtual 243, 3) := by decide +kernel
theorem dX10_filed_35 : decode cX10_filed 35 = .ok (.istore_n 3, 1) := by decide +kernel
theorem dX10_filed_36 : decode cX10_filed 36 = .ok (.iload_n 2, 1) := by decide +kernel
theorem dX10_filed_37 : decode cX10_filed 37 = .ok (.ifCond .ne 7, 3) := by decide +kernel
theorem dX10_filed_40 : decode cX10_filed 40 = .ok (.iload_n 3, 1) := by decide +kernel
theorem dX10_filed_41 : decode cX10_filed 41 = .ok (.goto 11, 3) := by decide +kernel
theorem dX10_filed_44 : decode cX10_filed 44 = .ok (.aload_n 0, 1) := by decide +kernel
theorem dX10_filed_45 : decode cX10_filed 45 = .ok (.getfield 22, 3) := by decide +kernel
theorem dX10_filed_48 : decode cX10_filed 48 = .ok (.iload_n 3, 1) := by decide +kernel
theorem dX10_filed_49 : decode cX10_filed 49 = .ok (.invokevirtual 246, 3) := by decide +kernel
theorem dX10_filed_52 : decode cX10_filed 52 = .ok (.ireturn, 1) := by decide +kernel
theorem dX10_alike_0 : decode cX10_alike 0 = .ok (.iconst 0, 1) := by decide +kernel
theorem dX10_alike_1 : decode cX10_alike 1 = .ok (.istore_n 1, 1) := by decide +kernel
theorem dX10_alike_2 : decode cX10_alike 2 = .ok (.iconst 0, 1) := by decide +kernel
theorem dX10_alike_3 : decode cX10_alike 3 = .ok (.istore_n 2, 1) := by decide +kernel
theorem dX10_alike_4 : decode cX10_alike 4 = .ok (.iload_n 2, 1) := by decide +kernel
theorem dX10_alike_5 : decode cX10_alike 5 = .ok (.aload_n 0, 1) := by decide +kernel
theorem dX10_alike_6 : decode cX10_alike 6 = .ok (.getfield 10, 3) := by decide +kernel
theorem dX10_alike_9 : decode cX10_alike 9 = .ok (.invokevirtual 113, 3) := by decide +kernel
theorem dX10_alike_12 : decode cX10_alike 12 = .ok (.if_icmp .ge 23, 3) := by decide +kernel
theorem dX10_alike_15 : decode cX10_alike 15 = .ok (.aload_n 0, 1) := by decide +kernel
theorem dX10_alike_16 : decode cX10_alike 16 = .ok (.getfield 10, 3) := by decide +kernel
theorem dX10_alike_19 : decode cX10_alike 19 = .ok (.iload_n 2, 1) := by decide +kernel
theorem dX10_alike_20 : decode cX10_alike 20 = .ok (.invokevirtual 249, 3) := by decide +kernel
theorem dX10_alike_23 : decode cX10_alike 23 = .ok (.ifCond .eq 6, 3) := by decide +kernel
theorem dX10_alike_26 : decode cX10_alike 26 = .ok (.iinc 1 1, 3) := by decide +kernel
theorem dX10_alike_29 : decode cX10_alike 29 = .ok (.iinc 2 1, 3) := by decide +kernel
theorem dX10_alike_32 : decode cX10_alike 32 = .ok (.goto (-28), 3) := by decide +kernel
theorem dX10_alike_35 : decode cX10_alike 35 = .ok (.iload_n 1, 1) := by decide +kernel
theorem dX10_alike_36 : decode cX10_alike 36 = .ok (.ireturn, 1) := by decide +kernel
theorem dX10_forget_0 : decode cX10_forget 0 = .ok (.aload_n 0, 1) := by decide +kernel
theorem dX10_forget_1 : decode cX10_forget 1 = .ok (.getfield 22, 3) := by decide +kernel
theorem dX10_forget_4 : decode cX10_forget 4 = .ok (.invokevirtual 252, 3) := by decide +kernel
theorem dX10_forget_7 : decode cX10_forget 7 = .ok (.istore_n 1, 1) := by decide +kernel
theorem dX10_forget_8 : decode cX10_forget 8 = .ok (.aload_n 0, 1) := by decide +kernel
theorem dX10_forget_9 : decode cX10_forget 9 = .ok (.getfield 22, 3) := by decide +kernel
theorem dX10_forget_12 : decode cX10_forget 12 = .ok (.invokevirtual 253, 3) := by decide +kernel
theorem dX10_forget_15 : decode cX10_forget 15 = .ok (.iload_n 1, 1) := by decide +kernel
theorem dX10_forget_16 : decode cX10_forget 16 = .ok (.ireturn, 1) := by decide +kernel
theorem dX10_feed_0 : decode cX10_feed 0 = .ok (.iload_n 2, 1) := by decide +kernel
theorem dX10_feed_1 : decode cX10_feed 1 = .ok (.iconst 1, 1) := by decide +kernel
theorem dX10_feed_2 : decode cX10_feed 2 = .ok (.iconst 4, 1) := by decide +kernel
theorem dX10_feed_3 : decode cX10_feed 3 = .ok (.invokestatic 85, 3) := by decide +kernel
theorem dX10_feed_6 : decode cX10_feed 6 = .ok (.ifCond .ne 6, 3) := by decide +kernel
theorem dX10_feed_9 : decode cX10_feed 9 = .ok (.bipush (-2), 2) := by decide +kernel
theorem dX10_feed_11 : decode cX10_feed 11 = .ok (.ireturn, 1) := by decide +kernel
theorem dX10_feed_12 : decode cX10_feed 12 = .ok (.aload_n 0, 1) := by decide +kernel
theorem dX10_feed_13 : decode cX10_feed 13 = .ok (.getfield 36, 3) := by decide +kernel
theorem dX10_feed_16 : decode cX10_feed 16 = .ok (.invokevirtual 256, 3) := by decide +kernel
theorem dX10_feed_19 : decode cX10_feed 19 = .ok (.iload_n 2, 1) := by decide +kernel
theorem dX10_feed_20 : decode cX10_feed 20 = .ok (.iadd, 1) := by decide +kernel
theorem dX10_feed_21 : decode cX10_feed 21 = .ok (.bipush 120, 2) := by decide +kernel
theorem dX10_feed_23 : decode cX10_feed 23 = .ok (.if_icmp .le 6, 3) := by decide +kernel
theorem dX10_feed_26 : decode cX10_feed 26 = .ok (.bipush (-4), 2) := by decide +kernel
theorem dX10_feed_28 : decode cX10_feed 28 = .ok (.ireturn, 1) := by decide +kernel
theorem dX10_feed_29 : decode cX10_feed 29 = .ok (.iload_n 2, 1) := by decide +kernel
theorem dX10_feed_30 : decode cX10_feed 30 = .ok (.iconst 1, 1) := by decide +kernel
theorem dX10_feed_31 : decode cX10_feed 31 = .ok (.isub, 1) := by decide +kernel
theorem dX10_feed_32 : decode cX10_feed 32 = .ok (.istore_n 3, 1) := by decide +kernel
theorem dX10_feed_33 : decode cX10_feed 33 = .ok (.iload_n 3, 1) := by decide +kernel
theorem dX10_feed_34 : decode cX10_feed 34 = .ok (.ifCond .lt 26, 3) := by decide +kernel
theorem dX10_feed_37 : decode cX10_feed 37 = .ok (.aload_n 0, 1) := by decide +kernel
theorem dX10_feed_38 : decode cX10_feed 38 = .ok (.getfield 36, 3) := by decide +kernel
theorem dX10_feed_41 : decode cX10_feed 41 = .ok (.iload_n 1, 1) := by decide +kernel
theorem dX10_feed_42 : decode cX10_feed 42 = .ok (.bipush 8, 2) := by decide +kernel
theorem dX10_feed_44 : decode cX10_feed 44 = .ok (.iload_n 3, 1) := by decide +kernel
theorem dX10_feed_45 : decode cX10_feed 45 = .ok (.imul, 1) := by decide +kernel
theorem dX10_feed_46 : decode cX10_feed 46 = .ok (.iushr, 1) := by decide +kernel
theorem dX10_feed_47 : decode cX10_feed 47 = .ok (.sipush 255, 3) := by decide +kernel
theorem dX10_feed_50 : decode cX10_feed 50 = .ok (.iand, 1) := by decide +kernel
theorem dX10_feed_51 : decode cX10_feed 51 = .ok (.invokevirtual 257, 3) := by decide +kernel
theorem dX10_feed_54 : decode cX10_feed 54 = .ok (.iinc 3 (-1), 3) := by decide +kernel
theorem dX10_feed_57 : decode cX10_feed 57 = .ok (.goto (-24), 3) := by decide +kernel
theorem dX10_feed_60 : decode cX10_feed 60 = .ok (.aload_n 0, 1) := by decide +kernel
theorem dX10_feed_61 : decode cX10_feed 61 = .ok (.getfield 36, 3) := by decide +kernel
theorem dX10_feed_64 : decode cX10_feed 64 = .ok (.invokevirtual 256, 3) := by decide +kernel
theorem dX10_feed_67 : decode cX10_feed 67 = .ok (.ireturn, 1) := by decide +kernel
theorem dX10_wipe_0 : decode cX10_wipe 0 = .ok (.aload_n 0, 1) := by decide +kernel
theorem dX10_wipe_1 : decode cX10_wipe 1 = .ok (.getfield 36, 3) := by decide +kernel
theorem dX10_wipe_4 : decode cX10_wipe 4 = .ok (.invokevirtual 256, 3) := by decide +kernel
theorem dX10_wipe_7 : decode cX10_wipe 7 = .ok (.istore_n 1, 1) := by decide +kernel
theorem dX10_wipe_8 : decode cX10_wipe 8 = .ok (.aload_n 0, 1) := by decide +kernel
theorem dX10_wipe_9 : decode cX10_wipe 9 = .ok (.getfield 36, 3) := by decide +kernel
theorem dX10_wipe_12 : decode cX10_wipe 12 = .ok (.invokevirtual 259, 3) := by decide +kernel
theorem dX10_wipe_15 : decode cX10_wipe 15 = .ok (.iload_n 1, 1) := by decide +kernel
theorem dX10_wipe_16 : decode cX10_wipe 16 = .ok (.ireturn, 1) := by decide +kernel
theorem dX10_text_0 : decode cX10_text 0 = .ok (.aload_n 0, 1) := by decide +kernel
theorem dX10_text_1 : decode cX10_text 1 = .ok (.getfield 10, 3) := by decide +kernel
theorem dX10_text_4 : decode cX10_text 4 = .ok (.invokevirtual 113, 3) := by decide +kernel
theorem dX10_text_7 : decode cX10_text 7 = .ok (.istore_n 1, 1) := by decide +kernel
theorem dX10_text_8 : decode cX10_text 8 = .ok (.aload_n 0, 1) := by decide +kernel
theorem dX10_text_9 : decode cX10_text 9 = .ok (.getfield 45, 3) := by decide +kernel
theorem dX10_text_12 : decode cX10_text 12 = .ok (.aload_n 0, 1) := by decide +kernel
