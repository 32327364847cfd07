theorem dX11_isWord_1 : decode cX11_isWord 1 = .ok (.getfield 204, 3) := by decide +kernel
theorem dX11_isWord_4 : decode cX11_isWord 4 = .ok (.iconst 1, 1) := by decide +kernel
theorem dX11_isWord_5 : decode cX11_isWord 5 = .ok (.if_icmp .ne 23, 3) := by decide +kernel
theorem dX11_isWord_8 : decode cX11_isWord 8 = .ok (.aload_n 0, 1) := by decide +kernel
theorem dX11_isWord_9 : decode cX11_isWord 9 = .ok (.getfield 192, 3) := by decide +kernel
theorem dX11_isWord_12 : decode cX11_isWord 12 = .ok (.aload_n 0, 1) := by decide +kernel
theorem dX11_isWord_13 : decode cX11_isWord 13 = .ok (.getfield 198, 3) := by decide +kernel
theorem dX11_isWord_16 : decode cX11_isWord 16 = .ok (.isub, 1) := by decide +kernel
theorem dX11_isWord_17 : decode cX11_isWord 17 = .ok (.aload_n 1, 1) := by decide +kernel
theorem dX11_isWord_18 : decode cX11_isWord 18 = .ok (.invokevirtual 207, 3) := by decide +kernel
theorem dX11_isWord_21 : decode cX11_isWord 21 = .ok (.if_icmp .ne 7, 3) := by decide +kernel
theorem dX11_isWord_24 : decode cX11_isWord 24 = .ok (.iconst 1, 1) := by decide +kernel
theorem dX11_isWord_25 : decode cX11_isWord 25 = .ok (.goto 4, 3) := by decide +kernel
theorem dX11_isWord_28 : decode cX11_isWord 28 = .ok (.iconst 0, 1) := by decide +kernel
theorem dX11_isWord_29 : decode cX11_isWord 29 = .ok (.istore_n 2, 1) := by decide +kernel
theorem dX11_isWord_30 : decode cX11_isWord 30 = .ok (.iconst 0, 1) := by decide +kernel
theorem dX11_isWord_31 : decode cX11_isWord 31 = .ok (.istore_n 3, 1) := by decide +kernel
theorem dX11_isWord_32 : decode cX11_isWord 32 = .ok (.iload_n 3, 1) := by decide +kernel
theorem dX11_isWord_33 : decode cX11_isWord 33 = .ok (.aload_n 1, 1) := by decide +kernel
theorem dX11_isWord_34 : decode cX11_isWord 34 = .ok (.invokevirtual 207, 3) := by decide +kernel
theorem dX11_isWord_37 : decode cX11_isWord 37 = .ok (.if_icmp .ge 38, 3) := by decide +kernel
theorem dX11_isWord_40 : decode cX11_isWord 40 = .ok (.iload_n 2, 1) := by decide +kernel
theorem dX11_isWord_41 : decode cX11_isWord 41 = .ok (.ifCond .eq 34, 3) := by decide +kernel
theorem dX11_isWord_44 : decode cX11_isWord 44 = .ok (.aload_n 0, 1) := by decide +kernel
theorem dX11_isWord_45 : decode cX11_isWord 45 = .ok (.getfield 29, 3) := by decide +kernel
theorem dX11_isWord_48 : decode cX11_isWord 48 = .ok (.aload_n 0, 1) := by decide +kernel
theorem dX11_isWord_49 : decode cX11_isWord 49 = .ok (.getfield 198, 3) := by decide +kernel
theorem dX11_isWord_52 : decode cX11_isWord 52 = .ok (.iload_n 3, 1) := by decide +kernel
theorem dX11_isWord_53 : decode cX11_isWord 53 = .ok (.iadd, 1) := by decide +kernel
theorem dX11_isWord_54 : decode cX11_isWord 54 = .ok (.iaload, 1) := by decide +kernel
theorem dX11_isWord_55 : decode cX11_isWord 55 = .ok (.aload_n 1, 1) := by decide +kernel
theorem dX11_isWord_56 : decode cX11_isWord 56 = .ok (.iload_n 3, 1) := by decide +kernel
theorem dX11_isWord_57 : decode cX11_isWord 57 = .ok (.invokevirtual 210, 3) := by decide +kernel
theorem dX11_isWord_60 : decode cX11_isWord 60 = .ok (.if_icmp .ne 7, 3) := by decide +kernel
theorem dX11_isWord_63 : decode cX11_isWord 63 = .ok (.iconst 1, 1) := by decide +kernel
theorem dX11_isWord_64 : decode cX11_isWord 64 = .ok (.goto 4, 3) := by decide +kernel
theorem dX11_isWord_67 : decode cX11_isWord 67 = .ok (.iconst 0, 1) := by decide +kernel
theorem dX11_isWord_68 : decode cX11_isWord 68 = .ok (.istore_n 2, 1) := by decide +kernel
theorem dX11_isWord_69 : decode cX11_isWord 69 = .ok (.iinc 3 1, 3) := by decide +kernel
theorem dX11_isWord_72 : decode cX11_isWord 72 = .ok (.goto (-40), 3) := by decide +kernel
theorem dX11_isWord_75 : decode cX11_isWord 75 = .ok (.iload_n 2, 1) := by decide +kernel
theorem dX11_isWord_76 : decode cX11_isWord 76 = .ok (.ireturn, 1) := by decide +kernel
theorem dX11_takes_0 : decode cX11_takes 0 = .ok (.aload_n 0, 1) := by decide +kernel
theorem dX11_takes_1 : decode cX11_takes 1 = .ok (.aload_n 1, 1) := by decide +kernel
theorem dX11_takes_2 : decode cX11_takes 2 = .ok (.invokevirtual 214, 3) := by decide +kernel
theorem dX11_takes_5 : decode cX11_takes 5 = .ok (.istore_n 2, 1) := by decide +kernel
theorem dX11_takes_6 : decode cX11_takes 6 = .ok (.iload_n 2, 1) := by decide +kernel
theorem dX11_takes_7 : decode cX11_takes 7 = .ok (.ifCond .eq 7, 3) := by decide +kernel
theorem dX11_takes_10 : decode cX11_takes 10 = .ok (.aload_n 0, 1) := by decide +kernel
theorem dX11_takes_11 : decode cX11_takes 11 = .ok (.invokevirtual 218, 3) := by decide +kernel
theorem dX11_takes_14 : decode cX11_takes 14 = .ok (.iload_n 2, 1) := by decide +kernel
theorem dX11_takes_15 : decode cX11_takes 15 = .ok (.ireturn, 1) := by decide +kernel
theorem dX11_number_0 : decode cX11_number 0 = .ok (.aload_n 0, 1) := by decide +kernel
theorem dX11_number_1 : decode cX11_number 1 = .ok (.getfield 204, 3) := by decide +kernel
theorem dX11_number_4 : decode cX11_number 4 = .ok (.iconst 2, 1) := by decide +kernel
theorem dX11_number_5 : decode cX11_number 5 = .ok (.if_icmp .ne 16, 3) := by decide +kernel
theorem dX11_number_8 : decode cX11_number 8 = .ok (.aload_n 0, 1) := by decide +kernel
theorem dX11_number_9 : decode cX11_number 9 = .ok (.getfield 201, 3) := by decide +kernel
theorem dX11_number_12 : decode cX11_number 12 = .ok (.iload_n 3, 1) := by decide +kernel
theorem dX11_number_13 : decode cX11_number 13 = .ok (.iload 4, 2) := by decide +kernel
theorem dX11_number_15 : decode cX11_number 15 = .ok (.invokestatic 64, 3) := by decide +kernel
theorem dX11_number_18 : decode cX11_number 18 = .ok (.ifCond .ne 5, 3) := by decide +kernel
theorem dX11_number_21 : decode cX11_number 21 = .ok (.iconst 0, 1) := by decide +kernel
theorem dX11_number_22 : decode cX11_number 22 = .ok (.ireturn, 1) := by decide +kernel
theorem dX11_number_23 : decode cX11_number 23 = .ok (.aload_n 0, 1) := by decide +kernel
theorem dX11_number_24 : decode cX11_number 24 = .ok (.iload_n 1, 1) := by decide +kernel
theorem dX11_number_25 : decode cX11_number 25 = .ok (.iload_n 2, 1) := by decide +kernel
theorem dX11_number_26 : decode cX11_number 26 = .ok (.aload_n 0, 1) := by decide +kernel
theorem dX11_number_27 : decode cX11_number 27 = .ok (.getfield 201, 3) := by decide +kernel
theorem dX11_number_30 : decode cX11_number 30 = .ok (.invokevirtual 68, 3) := by decide +kernel
theorem dX11_number_33 : decode cX11_number 33 = .ok (.aload_n 0, 1) := by decide +kernel
theorem dX11_number_34 : decode cX11_number 34 = .ok (.invokevirtual 218, 3) := by decide +kernel
theorem dX11_number_37 : decode cX11_number 37 = .ok (.iconst 1, 1) := by decide +kernel
theorem dX11_number_38 : decode cX11_number 38 = .ok (.ireturn, 1) := by decide +kernel
theorem dX11_isTraitRead_0 : decode cX11_isTraitRead 0 = .ok (.iconst 0, 1) := by decide +kernel
theorem dX11_isTraitRead_1 : decode cX11_isTraitRead 1 = .ok (.istore_n 3, 1) := by decide +kernel
theorem dX11_isTraitRead_2 : decode cX11_isTraitRead 2 = .ok (.iload_n 3, 1) := by decide +kernel
theorem dX11_isTraitRead_3 : decode cX11_isTraitRead 3 = .ok (.iconst 4, 1) := by decide +kernel
theorem dX11_isTraitRead_4 : decode cX11_isTraitRead 4 = .ok (.if_icmp .ge 34, 3) := by decide +kernel
theorem dX11_isTraitRead_7 : decode cX11_isTraitRead 7 = .ok (.aload_n 0, 1) := by decide +kernel
theorem dX11_isTraitRead_8 : decode cX11_isTraitRead 8 = .ok (.aload_n 0, 1) := by decide +kernel
theorem dX11_isTraitRead_9 : decode cX11_isTraitRead 9 = .ok (.getfield 42, 3) := by decide +kernel
theorem dX11_isTraitRead_12 : decode cX11_isTraitRead 12 = .ok (.iload_n 3, 1) := by decide +kernel
theorem dX11_isTraitRead_13 : decode cX11_isTraitRead 13 = .ok (.aaload, 1) := by decide +kernel
theorem dX11_isTraitRead_14 : decode cX11_isTraitRead 14 = .ok (.invokevirtual 221, 3) := by decide +kernel
theorem dX11_isTraitRead_17 : decode cX11_isTraitRead 17 = .ok (.ifCond .ne 6, 3) := by decide +kernel
theorem dX11_isTraitRead_20 : decode cX11_isTraitRead 20 = .ok (.goto 12, 3) := by decide +kernel
theorem dX11_isTraitRead_23 : decode cX11_isTraitRead 23 = .ok (.aload_n 0, 1) := by decide +kernel
theorem dX11_isTraitRead_24 : decode cX11_isTraitRead 24 = .ok (.iload_n 1, 1) := by decide +kernel
theorem dX11_isTraitRead_25 : decode cX11_isTraitRead 25 = .ok (.iload_n 2, 1) := by decide +kernel
theorem dX11_isTraitRead_26 : decode cX11_isTraitRead 26 = .ok (.iload_n 3, 1) := by decide +kernel
theorem dX11_isTraitRead_27 : decode cX11_isTraitRead 27 = .ok (.invokevirtual 68, 3) := by decide +kernel
theorem dX11_isTraitRead_30 : decode cX11_isTraitRead 30 = .ok (.iconst 1, 1) := by decide +kernel
theorem dX11_isTraitRead_31 : decode cX11_isTraitRead 31 = .ok (.ireturn, 1) := by decide +kernel
theorem dX11_isTraitRead_32 : decode cX11_isTraitRead 32 = .ok (.iinc 3 1, 3) := by decide +kernel
theorem dX11_isTraitRead_35 : decode cX11_isTraitRead 35 = .ok (.goto (-33), 3) := by decide +kernel
theorem dX11_isTraitRead_38 : decode cX11_isTraitRead 38 = .ok (.iconst 0, 1) := by decide +kernel
theorem dX11_isTraitRead_39 : decode cX11_isTraitRead 39 = .ok (.ireturn, 1) := by decide +kernel
theorem dX11_isTest_0 : decode cX11_isTest 0 = .ok (.aload_n 0, 1) := by decide +kernel
theorem dX11_isTest_1 : decode cX11_isTest 1 = .ok (.ldc 224, 2) := by decide +kernel
theorem dX11_isTest_3 : decode cX11_isTest 3 = .ok (.invokevirtual 221, 3) := by decide +kernel
theorem dX11_isTest_6 : decode cX11_isTest 6 = .ok (.ifCond .eq 5, 3) := by decide +kernel
theorem dX11_isTest_9 : decode cX11_isTest 9 = .ok (.iconst 1, 1) := by decide +kernel
theorem dX11_isTest_10 : decode cX11_isTest 10 = .ok (.ireturn, 1) := by decide +kernel
theorem dX11_isTest_11 : decode cX11_isTest 11 = .ok (.aload_n 0, 1) := by decide +kernel
theorem dX11_isTest_12 : decode cX11_isTest 12 = .ok (.ldc 226, 2) := by decide +kernel
theorem dX11_isTest_14 : decode cX11_isTest 14 = .ok (.invokevirtual 221, 3) := by decide +kernel
theorem dX11_isTest_17 : decode cX11_isTest 17 = .ok (.ifCond .eq 40, 3) := by decide +kernel
theorem dX11_isTest_20 : decode cX11_isTest 20 = .ok (.aload_n 0, 1) := by decide +kernel
theorem dX11_isTest_21 : decode cX11_isTest 21 = .ok (.iload_n 1, 1) := by decide +kernel
theorem dX11_isTest_22 : decode cX11_isTest 22 = .ok (.iconst 0, 1) := by decide +kernel
theorem dX11_isTest_23 : decode cX11_isTest 23 = .ok (.iconst 3, 1) := by decide +kernel
theorem dX11_isTest_24 : decode cX11_isTest 24 = .ok (.invokevirtual 68, 3) := by decide +kernel
theorem dX11_isTest_27 : decode cX11_isTest 27 = .ok (.aload_n 0, 1) := by decide +kernel
theorem dX11_isTest_28 : decode cX11_isTest 28 = .ok (.iload_n 1, 1) := by decide +kernel
theorem dX11_isTest_29 : decode cX11_isTest 29 = .ok (.iconst 2, 1) := by decide +kernel
theorem dX11_isTest_30 : decode cX11_isTest 30 = .ok (.iconst 0, 1) := by decide +kernel
theorem dX11_isTest_31 : decode cX11_isTest 31 = .ok (.bipush 31, 2) := by decide +kernel
theorem dX11_isTest_33 : decode cX11_isTest 33 = .ok (.invokevirtual 228, 3) := by decide +kernel
theorem dX11_isTest_36 : decode cX11_isTest 36 = .ok (.ifCond .eq 19, 3) := by decide +kernel
theorem dX11_isTest_39 : decode cX11_isTest 39 = .ok (.aload_n 0, 1) := by decide +kernel
theorem dX11_isTest_40 : decode cX11_isTest 40 = .ok (.iload_n 1, 1) := by decide +kernel
theorem dX11_isTest_41 : decode cX11_isTest 41 = .ok (.iconst 3, 1) := by decide +kernel
theorem dX11_isTest_42 : decode cX11_isTest 42 = .ok (.iconst 0, 1) := by decide +kernel
theorem dX11_isTest_43 : decode cX11_isTest 43 = .ok (.bipush 31, 2) := by decide +kernel
theorem dX11_isTest_45 : decode cX11_isTest 45 = .ok (.invokevirtual 228, 3) := by decide +kernel
theorem dX11_isTest_48 : decode cX11_isTest 48 = .ok (.ifCond .eq 7, 3) := by decide +kernel
theorem dX11_isTest_51 : decode cX11_isTest 51 = .ok (.iconst 1, 1) := by decide +kernel
theorem dX11_isTest_52 : decode cX11_isTest 52 = .ok (.goto 4, 3) := by decide +kernel
theorem dX11_isTest_55 : decode cX11_isTest 55 = .ok (.iconst 0, 1) := by decide +kernel
theorem dX11_isTest_56 : decode cX11_isTest 56 = .ok (.ireturn, 1) := by decide +kernel
theorem dX11_isTest_57 : decode cX11_isTest 57 = .ok (.aload_n 0, 1) := by decide +kernel
theorem dX11_isTest_58 : decode cX11_isTest 58 = .ok (.iload_n 1, 1) := by decide +kernel
theorem dX11_isTest_59 : decode cX11_isTest 59 = .ok (.iconst 1, 1) := by decide +kernel
theorem dX11_isTest_60 : decode cX11_isTest 60 = .ok (.invokevirtual 232, 3) := by decide +kernel
theorem dX11_isTest_63 : decode cX11_isTest 63 = .ok (.ifCond .ne 5, 3) := by decide +kernel
theorem dX11_isTest_66 : decode cX11_isTest 66 = .ok (.iconst 0, 1) := by decide +kernel
theorem dX11_isTest_67 : decode cX11_isTest 67 = .ok (.ireturn, 1) := by decide +kernel
theorem dX11_isTest_68 : decode cX11_isTest 68 = .ok (.aload_n 0, 1) := by decide +kernel
theorem dX11_isTest_69 : decode cX11_isTest 69 = .ok (.iload_n 1, 1) := by decide +kernel
theorem dX11_isTest_70 : decode cX11_isTest 70 = .ok (.iconst 0, 1) := by decide +kernel
theorem dX11_isTest_71 : decode cX11_isTest 71 = .ok (.aload_n 0, 1) := by decide +kernel
theorem dX11_isTest_72 : decode cX11_isTest 72 = .ok (.ldc 235, 2) := by decide +kernel
theorem dX11_isTest_74 : decode cX11_isTest 74 = .ok (.invokevirtual 221, 3) := by decide +kernel
theorem dX11_isTest_77 : decode cX11_isTest 77 = .ok (.ifCond .eq 7, 3) := by decide +kernel
theorem dX11_isTest_80 : decode cX11_isTest 80 = .ok (.iconst 2, 1) := by decide +kernel
theorem dX11_isTest_81 : decode cX11_isTest 81 = .ok (.goto 4, 3) := by decide +kernel
theorem dX11_isTest_84 : decode cX11_isTest 84 = .ok (.iconst 1, 1) := by decide +kernel
theorem dX11_isTest_85 : decode cX11_isTest 85 = .ok (.invokevirtual 68, 3) := by decide +kernel
theorem dX11_isTest_88 : decode cX11_isTest 88 = .ok (.aload_n 0, 1) := by decide +kernel
theorem dX11_isTest_89 : decode cX11_isTest 89 = .ok (.iload_n 1, 1) := by decide +kernel
theorem dX11_isTest_90 : decode cX11_isTest 90 = .ok (.iconst 2, 1) := by decide +kernel
theorem dX11_isTest_91 : decode cX11_isTest 91 = .ok (.iconst 0, 1) := by decide +kernel
theorem dX11_isTest_92 : decode cX11_isTest 92 = .ok (.bipush 99, 2) := by decide +kernel
theorem dX11_isTest_94 : decode cX11_isTest 94 = .ok (.invokevirtual 228, 3) := by decide +kernel
theorem dX11_isTest_97 : decode cX11_isTest 97 = .ok (.ifCond .eq 19, 3) := by decide +kernel
theorem dX11_isTest_100 : decode cX11_isTest 100 = .ok (.aload_n 0, 1) := by decide +kernel
theorem dX11_isTest_101 : decode cX11_isTest 101 = .ok (.iload_n 1, 1) := by decide +kernel
theorem dX11_isTest_102 : decode cX11_isTest 102 = .ok (.iconst 3, 1) := by decide +kernel
theorem dX11_isTest_103 : decode cX11_isTest 103 = .ok (.iconst 0, 1) := by decide +kernel
theorem dX11_isTest_104 : decode cX11_isTest 104 = .ok (.bipush 99, 2) := by decide +kernel
theorem dX11_isTest_106 : decode cX11_isTest 106 = .ok (.invokevirtual 228, 3) := by decide +kernel
theorem dX11_isTest_109 : decode cX11_isTest 109 = .ok (.ifCond .eq 7, 3) := by decide +kernel
theorem dX11_isTest_112 : decode cX11_isTest 112 = .ok (.iconst 1, 1) := by decide +kernel
theorem dX11_isTest_113 : decode cX11_isTest 113 = .ok (.goto 4, 3) := by decide +kernel
theorem dX11_isTest_116 : decode cX11_isTest 116 = .ok (.iconst 0, 1) := by decide +kernel
theorem dX11_isTest_117 : decode cX11_isTest 117 = .ok (.ireturn, 1) := by decide +kernel
theorem dX11_isGrant_0 : decode cX11_isGrant 0 = .ok (.aload_n 0, 1) := by decide +kernel
theorem dX11_isGrant_1 : decode cX11_isGrant 1 = .ok (.ldc 237, 2) := by decide +kernel
theorem dX11_isGrant_3 : decode cX11_isGrant 3 = .ok (.invokevirtual 214, 3) := by decide +kernel
theorem dX11_isGrant_6 : decode cX11_isGrant 6 = .ok (.ifCond .eq 7, 3) := by decide +kernel
theorem dX11_isGrant_9 : decode cX11_isGrant 9 = .ok (.iconst 0, 1) := by decide +kernel
theorem dX11_isGrant_10 : decode cX11_isGrant 10 = .ok (.goto 56, 3) := by decide +kernel
theorem dX11_isGrant_13 : decode cX11_isGrant 13 = .ok (.aload_n 0, 1) := by decide +kernel
theorem dX11_isGrant_14 : decode cX11_isGrant 14 = .ok (.ldc 239, 2) := by decide +kernel
theorem dX11_isGrant_16 : decode cX11_isGrant 16 = .ok (.invokevirtual 214, 3) := by decide +kernel
theorem dX11_isGrant_19 : decode cX11_isGrant 19 = .ok (.ifCond .eq 7, 3) := by decide +kernel
theorem dX11_isGrant_22 : decode cX11_isGrant 22 = .ok (.iconst 1, 1) := by decide +kernel
theorem dX11_isGrant_23 : decode cX11_isGrant 23 = .ok (.goto 43, 3) := by decide +kernel
theorem dX11_isGrant_26 : decode cX11_isGrant 26 = .ok (.aload_n 0, 1) := by decide +kernel
theorem dX11_isGrant_27 : decode cX11_isGrant 27 = .ok (.ldc 241, 2) := by decide +kernel
theorem dX11_isGrant_29 : decode cX11_isGrant 29 = .ok (.invokevirtual 214, 3) := by decide +kernel
theorem dX11_isGrant_32 : decode cX11_isGrant 32 = .ok (.ifCond .eq 7, 3) := by decide +kernel
theorem dX11_isGrant_35 : decode cX11_isGrant 35 = .ok (.iconst 2, 1) := by decide +kernel
theorem dX11_isGrant_36 : decode cX11_isGrant 36 = .ok (.goto 30, 3) := by decide +kernel
theorem dX11_isGrant_39 : decode cX11_isGrant 39 = .ok (.aload_n 0, 1) := by decide +kernel
theorem dX11_isGrant_40 : decode cX11_isGrant 40 = .ok (.ldc 243, 2) := by decide +kernel
theorem dX11_isGrant_42 : decode cX11_isGrant 42 = .ok (.invokevirtual 214, 3) := by decide +kernel
theorem dX11_isGrant_45 : decode cX11_isGrant 45 = .ok (.ifCond .eq 7, 3) := by decide +kernel
theorem dX11_isGrant_48 : decode cX11_isGrant 48 = .ok (.iconst 3, 1) := by decide +kernel
theorem dX11_isGrant_49 : decode cX11_isGrant 49 = .ok (.goto 17, 3) := by decide +kernel
theorem dX11_isGrant_52 : decode cX11_isGrant 52 = .ok (.aload_n 0, 1) := by decide +kernel
theorem dX11_isGrant_53 : decode cX11_isGrant 53 = .ok (.ldc 245, 2) := by decide +kernel
theorem dX11_isGrant_55 : decode cX11_isGrant 55 = .ok (.invokevirtual 214, 3) := by decide +kernel
theorem dX11_isGrant_58 : decode cX11_isGrant 58 = .ok (.ifCond .eq 7, 3) := by decide +kernel
theorem dX11_isGrant_61 : decode cX11_isGrant 61 = .ok (.iconst 4, 1) := by decide +kernel
theorem dX11_isGrant_62 : decode cX11_isGrant 62 = .ok (.goto 4, 3) := by decide +kernel
theorem dX11_isGrant_65 : decode cX11_isGrant 65 = .ok (.iconst (-1), 1) := by decide +kernel
theorem dX11_isGrant_66 : decode cX11_isGrant 66 = .ok (.istore_n 2, 1) := by decide +kernel
theorem dX11_isGrant_67 : decode cX11_isGrant 67 = .ok (.iload_n 2, 1) := by decide +kernel
theorem dX11_isGrant_68 : decode cX11_isGrant 68 = .ok (.iconst (-1), 1) := by decide +kernel
theorem dX11_isGrant_69 : decode cX11_isGrant 69 = .ok (.if_icmp .ne 5, 3) := by decide +kernel
theorem dX11_isGrant_72 : decode cX11_isGrant 72 = .ok (.iconst 0, 1) := by decide +kernel
theorem dX11_isGrant_73 : decode cX11_isGrant 73 = .ok (.ireturn, 1) := by decide +kernel
theorem dX11_isGrant_74 : decode cX11_isGrant 74 = .ok (.aload_n 0, 1) := by decide +kernel
theorem dX11_isGrant_75 : decode cX11_isGrant 75 = .ok (.invokevirtual 218, 3) := by decide +kernel
theorem dX11_isGrant_78 : decode cX11_isGrant 78 = .ok (.aload_n 0, 1) := by decide +kernel
theorem dX11_isGrant_79 : decode cX11_isGrant 79 = .ok (.iload_n 1, 1) := by decide +kernel
theorem dX11_isGrant_80 : decode cX11_isGrant 80 = .ok (.iconst 4, 1) := by decide +kernel
theorem dX11_isGrant_81 : decode cX11_isGrant 81 = .ok (.iload_n 2, 1) := by decide +kernel
theorem dX11_isGrant_82 : decode cX11_isGrant 82 = .ok (.invokevirtual 68, 3) := by decide +kernel
theorem dX11_isGrant_85 : decode cX11_isGrant 85 = .ok (.iload_n 2, 1) := by decide +kernel
theorem dX11_isGrant_86 : decode cX11_isGrant 86 = .ok (.iconst 3, 1) := by decide +kernel
theorem dX11_isGrant_87 : decode cX11_isGrant 87 = .ok (.if_icmp .ne 5, 3) := by decide +kernel
theorem dX11_isGrant_90 : decode cX11_isGrant 90 = .ok (.iconst 1, 1) := by decide +kernel
theorem dX11_isGrant_91 : decode cX11_isGrant 91 = .ok (.ireturn, 1) := by decide +kernel
theorem dX11_isGrant_92 : decode cX11_isGrant 92 = .ok (.iload_n 2, 1) := by decide +kernel
theorem dX11_isGrant_93 : decode cX11_isGrant 93 = .ok (.ifCond .eq 14, 3) := by decide +kernel
theorem dX11_isGrant_96 : decode cX11_isGrant 96 = .ok (.aload_n 0, 1) := by decide +kernel
theorem dX11_isGrant_97 : decode cX11_isGrant 97 = .ok (.iload_n 1, 1) := by decide +kernel
theorem dX11_isGrant_98 : decode cX11_isGrant 98 = .ok (.iconst 5, 1) := by decide +kernel
theorem dX11_isGrant_99 : decode cX11_isGrant 99 = .ok (.invokevirtual 232, 3) := by decide +kernel
theorem dX11_isGrant_102 : decode cX11_isGrant 102 = .ok (.ifCond .ne 5, 3) := by decide +kernel
theorem dX11_isGrant_105 : decode cX11_isGrant 105 = .ok (.iconst 0, 1) := by decide +kernel
theorem dX11_isGrant_106 : decode cX11_isGrant 106 = .ok (.ireturn, 1) := by decide +kernel
theorem dX11_isGrant_107 : decode cX11_isGrant 107 = .ok (.aload_n 0, 1) := by decide +kernel
theorem dX11_isGrant_108 : decode cX11_isGrant 108 = .ok (.iload_n 1, 1) := by decide +kernel
theorem dX11_isGrant_109 : decode cX11_isGrant 109 = .ok (.bipush 6, 2) := by decide +kernel
theorem dX11_isGrant_111 : decode cX11_isGrant 111 = .ok (.iconst 0, 1) := by decide +kernel
theorem dX11_isGrant_112 : decode cX11_isGrant 112 = .ok (.sipush 999, 3) := by decide +kernel
theorem dX11_isGrant_115 : decode cX11_isGrant 115 = .ok (.invokevirtual 228, 3) := by decide +kernel
theorem dX11_isGrant_118 : decode cX11_isGrant 118 = .ok (.ifCond .ne 5, 3) := by decide +kernel
theorem dX11_isGrant_121 : decode cX11_isGrant 121 = .ok (.iconst 0, 1) := by decide +kernel
theorem dX11_isGrant_122 : decode cX11_isGrant 122 = .ok (.ireturn, 1) := by decide +kernel
theorem dX11_isGrant_123 : decode cX11_isGrant 123 = .ok (.iload_n 2, 1) := by decide +kernel
theorem dX11_isGrant_124 : decode cX11_isGrant 124 = .ok (.ifCond .eq 30, 3) := by decide +kernel
theorem dX11_isGrant_127 : decode cX11_isGrant 127 = .ok (.iload_n 2, 1) := by decide +kernel
theorem dX11_isGrant_128 : decode cX11_isGrant 128 = .ok (.iconst 4, 1) := by decide +kernel
theorem dX11_isGrant_129 : decode cX11_isGrant 129 = .ok (.if_icmp .eq 25, 3) := by decide +kernel
theorem dX11_isGrant_132 : decode cX11_isGrant 132 = .ok (.aload_n 0, 1) := by decide +kernel
theorem dX11_isGrant_133 : decode cX11_isGrant 133 = .ok (.iload_n 1, 1) := by decide +kernel
theorem dX11_isGrant_134 : decode cX11_isGrant 134 = .ok (.bipush 7, 2) := by decide +kernel
theorem dX11_isGrant_136 : decode cX11_isGrant 136 = .ok (.iload_n 2, 1) := by decide +kernel
theorem dX11_isGrant_137 : decode cX11_isGrant 137 = .ok (.iconst 1, 1) := by decide +kernel
theorem dX11_isGrant_138 : decode cX11_isGrant 138 = .ok (.if_icmp .ne 7, 3) := by decide +kernel
theorem dX11_isGrant_141 : decode cX11_isGrant 141 = .ok (.iconst 1, 1) := by decide +kernel
theorem dX11_isGrant_142 : decode cX11_isGrant 142 = .ok (.goto 4, 3) := by decide +kernel
theorem dX11_isGrant_145 : decode cX11_isGrant 145 = .ok (.iconst 0, 1) := by decide +kernel
theorem dX11_isGrant_146 : decode cX11_isGrant 146 = .ok (.bipush 99, 2) := by decide +kernel
theorem dX11_isGrant_148 : decode cX11_isGrant 148 = .ok (.invokevirtual 228, 3) := by decide +kernel
theorem dX11_isGrant_151 : decode cX11_isGrant 151 = .ok (.ifCond .eq 7, 3) := by decide +kernel
theorem dX11_isGrant_154 : decode cX11_isGrant 154 = .ok (.iconst 1, 1) := by decide +kernel
theorem dX11_isGrant_155 : decode cX11_isGrant 155 = .ok (.goto 4, 3) := by decide +kernel
theorem dX11_isGrant_158 : decode cX11_isGrant 158 = .ok (.iconst 0, 1) := by decide +kernel
theorem dX11_isGrant_159 : decode cX11_isGrant 159 = .ok (.ireturn, 1) := by decide +kernel
theorem dX11_isLaw_0 : decode cX11_isLaw 0 = .ok (.aload_n 0, 1) := by decide +kernel
theorem dX11_isLaw_1 : decode cX11_isLaw 1 = .ok (.ldc 247, 2) := by decide +kernel
theorem dX11_isLaw_3 : decode cX11_isLaw 3 = .ok (.invokevirtual 214, 3) := by decide +kernel
theorem dX11_isLaw_6 : decode cX11_isLaw 6 = .ok (.ifCond .eq 12, 3) := by decide +kernel
theorem dX11_isLaw_9 : decode cX11_isLaw 9 = .ok (.aload_n 0, 1) := by decide +kernel
theorem dX11_isLaw_10 : decode cX11_isLaw 10 = .ok (.getfield 61, 3) := by decide +kernel
theorem dX11_isLaw_13 : decode cX11_isLaw 13 = .ok (.bipush 12, 2) := by decide +kernel
theorem dX11_isLaw_15 : decode cX11_isLaw 15 = .ok (.if_icmp .ne 5, 3) := by decide +kernel
theorem dX11_isLaw_18 : decode cX11_isLaw 18 = .ok (.iconst 0, 1) := by decide +kernel
theorem dX11_isLaw_19 : decode cX11_isLaw 19 = .ok (.ireturn, 1) := by decide +kernel
theorem dX11_isLaw_20 : decode cX11_isLaw 20 = .ok (.aload_n 0, 1) := by decide +kernel
theorem dX11_isLaw_21 : decode cX11_isLaw 21 = .ok (.getfield 61, 3) := by decide +kernel
theorem dX11_isLaw_24 : decode cX11_isLaw 24 = .ok (.istore_n 1, 1) := by decide +kernel
theorem dX11_isLaw_25 : decode cX11_isLaw 25 = .ok (.aload_n 0, 1) := by decide +kernel
theorem dX11_isLaw_26 : decode cX11_isLaw 26 = .ok (.invokevirtual 72, 3) := by decide +kernel
theorem dX11_isLaw_29 : decode cX11_isLaw 29 = .ok (.aload_n 0, 1) := by decide +kernel
theorem dX11_isLaw_30 : decode cX11_isLaw 30 = .ok (.invokevirtual 218, 3) := by decide +kernel
theorem dX11_isLaw_33 : decode cX11_isLaw 33 = .ok (.aload_n 0, 1) := by decide +kernel
theorem dX11_isLaw_34 : decode cX11_isLaw 34 = .ok (.iload_n 1, 1) := by decide +kernel
theorem dX11_isLaw_35 : decode cX11_isLaw 35 = .ok (.invokevirtual 249, 3) := by decide +kernel
theorem dX11_isLaw_38 : decode cX11_isLaw 38 = .ok (.ifCond .eq 20, 3) := by decide +kernel
theorem dX11_isLaw_41 : decode cX11_isLaw 41 = .ok (.aload_n 0, 1) := by decide +kernel
theorem dX11_isLaw_42 : decode cX11_isLaw 42 = .ok (.ldc 252, 2) := by decide +kernel
theorem dX11_isLaw_44 : decode cX11_isLaw 44 = .ok (.invokevirtual 221, 3) := by decide +kernel
theorem dX11_isLaw_47 : decode cX11_isLaw 47 = .ok (.ifCond .eq 11, 3) := by decide +kernel
theorem dX11_isLaw_50 : decode cX11_isLaw 50 = .ok (.aload_n 0, 1) := by decide +kernel
theorem dX11_isLaw_51 : decode cX11_isLaw 51 = .ok (.iload_n 1, 1) := by decide +kernel
theorem dX11_isLaw_52 : decode cX11_isLaw 52 = .ok (.invokevirtual 254, 3) := by decide +kernel
theorem dX11_isLaw_55 : decode cX11_isLaw 55 = .ok (.ifCond .ne 5, 3) := by decide +kernel
theorem dX11_isLaw_58 : decode cX11_isLaw 58 = .ok (.iconst 0, 1) := by decide +kernel
theorem dX11_isLaw_59 : decode cX11_isLaw 59 = .ok (.ireturn, 1) := by decide +kernel
theorem dX11_isLaw_60 : decode cX11_isLaw 60 = .ok (.aload_n 0, 1) := by decide +kernel
theorem dX11_isLaw_61 : decode cX11_isLaw 61 = .ok (.ldc_w 257, 3) := by decide +kernel
theorem dX11_isLaw_64 : decode cX11_isLaw 64 = .ok (.invokevirtual 221, 3) := by decide +kernel
theorem dX11_isLaw_67 : decode cX11_isLaw 67 = .ok (.ifCond .eq 49, 3) := by decide +kernel
theorem dX11_isLaw_70 : decode cX11_isLaw 70 = .ok (.aload_n 0, 1) := by decide +kernel
theorem dX11_isLaw_71 : decode cX11_isLaw 71 = .ok (.iload_n 1, 1) := by decide +kernel
theorem dX11_isLaw_72 : decode cX11_isLaw 72 = .ok (.bipush 8, 2) := by decide +kernel
theorem dX11_isLaw_74 : decode cX11_isLaw 74 = .ok (.iconst 0, 1) := by decide +kernel
theorem dX11_isLaw_75 : decode cX11_isLaw 75 = .ok (.sipush 999, 3) := by decide +kernel
theorem dX11_isLaw_78 : decode cX11_isLaw 78 = .ok (.invokevirtual 228, 3) := by decide +kernel
theorem dX11_isLaw_81 : decode cX11_isLaw 81 = .ok (.ifCond .eq 33, 3) := by decide +kernel
theorem dX11_isLaw_84 : decode cX11_isLaw 84 = .ok (.aload_n 0, 1) := by decide +kernel
theorem dX11_isLaw_85 : decode cX11_isLaw 85 = .ok (.ldc_w 258, 3) := by decide +kernel
theorem dX11_isLaw_88 : decode cX11_isLaw 88 = .ok (.invokevirtual 221, 3) := by decide +kernel
theorem dX11_isLaw_91 : decode cX11_isLaw 91 = .ok (.ifCond .eq 23, 3) := by decide +kernel
theorem dX11_isLaw_94 : decode cX11_isLaw 94 = .ok (.aload_n 0, 1) := by decide +kernel
theorem dX11_isLaw_95 : decode cX11_isLaw 95 = .ok (.iload_n 1, 1) := by decide +kernel
theorem dX11_isLaw_96 : decode cX11_isLaw 96 = .ok (.bipush 9, 2) := by decide +kernel
theorem dX11_isLaw_98 : decode cX11_isLaw 98 = .ok (.aload_n 0, 1) := by decide +kernel
theorem dX11_isLaw_99 : decode cX11_isLaw 99 = .ok (.iload_n 1, 1) := by decide +kernel
theorem dX11_isLaw_100 : decode cX11_isLaw 100 = .ok (.bipush 8, 2) := by decide +kernel
theorem dX11_isLaw_102 : decode cX11_isLaw 102 = .ok (.invokevirtual 83, 3) := by decide +kernel
theorem dX11_isLaw_105 : decode cX11_isLaw 105 = .ok (.sipush 999, 3) := by decide +kernel
theorem dX11_isLaw_108 : decode cX11_isLaw 108 = .ok (.invokevirtual 228, 3) := by decide +kernel
theorem dX11_isLaw_111 : decode cX11_isLaw 111 = .ok (.ifCond .ne 5, 3) := by decide +kernel
theorem dX11_isLaw_114 : decode cX11_isLaw 114 = .ok (.iconst 0, 1) := by decide +kernel
theorem dX11_isLaw_115 : decode cX11_isLaw 115 = .ok (.ireturn, 1) := by decide +kernel
theorem dX11_isLaw_116 : decode cX11_isLaw 116 = .ok (.aload_n 0, 1) := by decide +kernel
theorem dX11_isLaw_117 : decode cX11_isLaw 117 = .ok (.ldc_w 259, 3) := by decide +kernel
theorem dX11_isLaw_120 : decode cX11_isLaw 120 = .ok (.invokevirtual 221, 3) := by decide +kernel
theorem dX11_isLaw_123 : decode cX11_isLaw 123 = .ok (.ifCond .eq 17, 3) := by decide +kernel
theorem dX11_isLaw_126 : decode cX11_isLaw 126 = .ok (.aload_n 0, 1) := by decide +kernel
theorem dX11_isLaw_127 : decode cX11_isLaw 127 = .ok (.iload_n 1, 1) := by decide +kernel
theorem dX11_isLaw_128 : decode cX11_isLaw 128 = .ok (.bipush 10, 2) := by decide +kernel
theorem dX11_isLaw_130 : decode cX11_isLaw 130 = .ok (.iconst 0, 1) := by decide +kernel
theorem dX11_isLaw_131 : decode cX11_isLaw 131 = .ok (.iload_n 1, 1) := by decide +kernel
theorem dX11_isLaw_132 : decode cX11_isLaw 132 = .ok (.iconst 1, 1) := by decide +kernel
theorem dX11_isLaw_133 : decode cX11_isLaw 133 = .ok (.isub, 1) := by decide +kernel
theorem dX11_isLaw_134 : decode cX11_isLaw 134 = .ok (.invokevirtual 228, 3) := by decide +kernel
theorem dX11_isLaw_137 : decode cX11_isLaw 137 = .ok (.ifCond .eq 7, 3) := by decide +kernel
theorem dX11_isLaw_140 : decode cX11_isLaw 140 = .ok (.iconst 1, 1) := by decide +kernel
theorem dX11_isLaw_141 : decode cX11_isLaw 141 = .ok (.goto 4, 3) := by decide +kernel
theorem dX11_isLaw_144 : decode cX11_isLaw 144 = .ok (.iconst 0, 1) := by decide +kernel
theorem dX11_isLaw_145 : decode cX11_isLaw 145 = .ok (.ireturn, 1) := by decide +kernel
theorem dX11_isText_0 : decode cX11_isText 0 = .ok (.aload_n 0, 1) := by decide +kernel
theorem dX11_isText_1 : decode cX11_isText 1 = .ok (.iconst 0, 1) := by decide +kernel
theorem dX11_isText_2 : decode cX11_isText 2 = .ok (.putfield 192, 3) := by decide +kernel
theorem dX11_isText_5 : decode cX11_isText 5 = .ok (.aload_n 0, 1) := by decide +kernel
theorem dX11_isText_6 : decode cX11_isText 6 = .ok (.invokevirtual 218, 3) := by decide +kernel
theorem dX11_isText_9 : decode cX11_isText 9 = .ok (.aload_n 0, 1) := by decide +kernel
theorem dX11_isText_10 : decode cX11_isText 10 = .ok (.invokevirtual 261, 3) := by decide +kernel
theorem dX11_isText_13 : decode cX11_isText 13 = .ok (.ifCond .ne 5, 3) := by decide +kernel
theorem dX11_isText_16 : decode cX11_isText 16 = .ok (.iconst 0, 1) := by decide +kernel
theorem dX11_isText_17 : decode cX11_isText 17 = .ok (.ireturn, 1) := by decide +kernel
theorem dX11_isText_18 : decode cX11_isText 18 = .ok (.aload_n 0, 1) := by decide +kernel
theorem dX11_isText_19 : decode cX11_isText 19 = .ok (.getfield 204, 3) := by decide +kernel
theorem dX11_isText_22 : decode cX11_isText 22 = .ok (.ifCond .ne 5, 3) := by decide +kernel
theorem dX11_isText_25 : decode cX11_isText 25 = .ok (.iconst 1, 1) := by decide +kernel
theorem dX11_isText_26 : decode cX11_isText 26 = .ok (.ireturn, 1) := by decide +kernel
theorem dX11_isText_27 : decode cX11_isText 27 = .ok (.aload_n 0, 1) := by decide +kernel
theorem dX11_isText_28 : decode cX11_isText 28 = .ok (.getfield 204, 3) := by decide +kernel
theorem dX11_isText_31 : decode cX11_isText 31 = .ok (.iconst 3, 1) := by decide +kernel
theorem dX11_isText_32 : decode cX11_isText 32 = .ok (.if_icmp .eq 5, 3) := by decide +kernel
theorem dX11_isText_35 : decode cX11_isText 35 = .ok (.iconst 0, 1) := by decide +kernel
theorem dX11_isText_36 : decode cX11_isText 36 = .ok (.ireturn, 1) := by decide +kernel
theorem dX11_isText_37 : decode cX11_isText 37 = .ok (.aload_n 0, 1) := by decide +kernel
theorem dX11_isText_38 : decode cX11_isText 38 = .ok (.invokevirtual 218, 3) := by decide +kernel
theorem dX11_isText_41 : decode cX11_isText 41 = .ok (.goto (-32), 3) := by decide +kernel
theorem dX11_text_0 : decode cX11_text 0 = .ok (.aload_n 0, 1) := by decide +kernel
theorem dX11_text_1 : decode cX11_text 1 = .ok (.getfield 61, 3) := by decide +kernel
theorem dX11_text_4 : decode cX11_text 4 = .ok (.istore_n 1, 1) := by decide +kernel
theorem dX11_text_5 : decode cX11_text 5 = .ok (.aload_n 0, 1) := by decide +kernel
theorem dX11_text_6 : decode cX11_text 6 = .ok (.invokevirtual 265, 3) := by decide +kernel
theorem dX11_text_9 : decode cX11_text 9 = .ok (.istore_n 2, 1) := by decide +kernel
theorem dX11_text_10 : decode cX11_text 10 = .ok (.aload_n 0, 1) := by decide +kernel
theorem dX11_text_11 : decode cX11_text 11 = .ok (.iconst 0, 1) := by decide +kernel
theorem dX11_text_12 : decode cX11_text 12 = .ok (.putfield 189, 3) := by decide +kernel
theorem dX11_text_15 : decode cX11_text 15 = .ok (.iload_n 2, 1) := by decide +kernel
theorem dX11_text_16 : decode cX11_text 16 = .ok (.ifCond .eq 10, 3) := by decide +kernel
theorem dX11_text_19 : decode cX11_text 19 = .ok (.aload_n 0, 1) := by decide +kernel
theorem dX11_text_20 : decode cX11_text 20 = .ok (.getfield 61, 3) := by decide +kernel
theorem dX11_text_23 : decode cX11_text 23 = .ok (.iload_n 1, 1) := by decide +kernel
theorem dX11_text_24 : decode cX11_text 24 = .ok (.isub, 1) := by decide +kernel
theorem dX11_text_25 : decode cX11_text 25 = .ok (.ireturn, 1) := by decide +kernel
theorem dX11_text_26 : decode cX11_text 26 = .ok (.aload_n 0, 1) := by decide +kernel
theorem dX11_text_27 : decode cX11_text 27 = .ok (.iload_n 1, 1) := by decide +kernel
theorem dX11_text_28 : decode cX11_text 28 = .ok (.putfield 61, 3) := by decide +kernel
theorem dX11_text_31 : decode cX11_text 31 = .ok (.bipush (-100), 2) := by decide +kernel
theorem dX11_text_33 : decode cX11_text 33 = .ok (.aload_n 0, 1) := by decide +kernel
theorem dX11_text_34 : decode cX11_text 34 = .ok (.getfield 198, 3) := by decide +kernel
theorem dX11_text_37 : decode cX11_text 37 = .ok (.isub, 1) := by decide +kernel
theorem dX11_text_38 : decode cX11_text 38 = .ok (.ireturn, 1) := by decide +kernel
theorem dX11_isSheet_0 : decode cX11_isSheet 0 = .ok (.iload_n 0, 1) := by decide +kernel
theorem dX11_isSheet_1 : decode cX11_isSheet 1 = .ok (.iconst 0, 1) := by decide +kernel
theorem dX11_isSheet_2 : decode cX11_isSheet 2 = .ok (.iconst 3, 1) := by decide +kernel
theorem dX11_isSheet_3 : decode cX11_isSheet 3 = .ok (.invokestatic 64, 3) := by decide +kernel
theorem dX11_isSheet_6 : decode cX11_isSheet 6 = .ok (.ireturn, 1) := by decide +kernel
theorem dX11_seed_0 : decode cX11_seed 0 = .ok (.aload_n 0, 1) := by decide +kernel
theorem dX11_seed_1 : decode cX11_seed 1 = .ok (.getfield 19, 3) := by decide +kernel
theorem dX11_seed_4 : decode cX11_seed 4 = .ok (.istore_n 2, 1) := by decide +kernel
theorem dX11_seed_5 : decode cX11_seed 5 = .ok (.aload_n 0, 1) := by decide +kernel
theorem dX11_seed_6 : decode cX11_seed 6 = .ok (.iload_n 1, 1) := by decide +kernel
theorem dX11_seed_7 : decode cX11_seed 7 = .ok (.putfield 19, 3) := by decide +kernel
theorem dX11_seed_10 : decode cX11_seed 10 = .ok (.iload_n 2, 1) := by decide +kernel
theorem dX11_seed_11 : decode cX11_seed 11 = .ok (.ireturn, 1) := by decide +kernel
theorem dX11_sheet_0 : decode cX11_sheet 0 = .ok (.iload_n 1, 1) := by decide +kernel
theorem dX11_sheet_1 : decode cX11_sheet 1 = .ok (.invokestatic 268, 3) := by decide +kernel
theorem dX11_sheet_4 : decode cX11_sheet 4 = .ok (.ifCond .eq 23, 3) := by decide +kernel
theorem dX11_sheet_7 : decode cX11_sheet 7 = .ok (.iload_n 2, 1) := by decide +kernel
theorem dX11_sheet_8 : decode cX11_sheet 8 = .ok (.iconst (-1), 1) := by decide +kernel
theorem dX11_sheet_9 : decode cX11_sheet 9 = .ok (.iconst 2, 1) := by decide +kernel
theorem dX11_sheet_10 : decode cX11_sheet 10 = .ok (.invokestatic 64, 3) := by decide +kernel
theorem dX11_sheet_13 : decode cX11_sheet 13 = .ok (.ifCond .eq 14, 3) := by decide +kernel
theorem dX11_sheet_16 : decode cX11_sheet 16 = .ok (.iload_n 2, 1) := by decide +kernel
theorem dX11_sheet_17 : decode cX11_sheet 17 = .ok (.iconst (-1), 1) := by decide +kernel
theorem dX11_sheet_18 : decode cX11_sheet 18 = .ok (.if_icmp .eq 12, 3) := by decide +kernel
theorem dX11_sheet_21 : decode cX11_sheet 21 = .ok (.iload_n 3, 1) := by decide +kernel
theorem dX11_sheet_22 : decode cX11_sheet 22 = .ok (.bipush 40, 2) := by decide +kernel
theorem dX11_sheet_24 : decode cX11_sheet 24 = .ok (.if_icmp .le 6, 3) := by decide +kernel
theorem dX11_sheet_27 : decode cX11_sheet 27 = .ok (.bipush (-2), 2) := by decide +kernel
theorem dX11_sheet_29 : decode cX11_sheet 29 = .ok (.ireturn, 1) := by decide +kernel
theorem dX11_sheet_30 : decode cX11_sheet 30 = .ok (.iload_n 2, 1) := by decide +kernel
theorem dX11_sheet_31 : decode cX11_sheet 31 = .ok (.iconst (-1), 1) := by decide +kernel
theorem dX11_sheet_32 : decode cX11_sheet 32 = .ok (.if_icmp .eq 10, 3) := by decide +kernel
theorem dX11_sheet_35 : decode cX11_sheet 35 = .ok (.iload_n 3, 1) := by decide +kernel
theorem dX11_sheet_36 : decode cX11_sheet 36 = .ok (.ifCond .ge 6, 3) := by decide +kernel
theorem dX11_sheet_39 : decode cX11_sheet 39 = .ok (.bipush (-14), 2) := by decide +kernel
theorem dX11_sheet_41 : decode cX11_sheet 41 = .ok (.ireturn, 1) := by decide +kernel
theorem dX11_sheet_42 : decode cX11_sheet 42 = .ok (.aload_n 0, 1) := by decide +kernel
theorem dX11_sheet_43 : decode cX11_sheet 43 = .ok (.getfield 46, 3) := by decide +kernel
theorem dX11_sheet_46 : decode cX11_sheet 46 = .ok (.iload_n 1, 1) := by decide +kernel
theorem dX11_sheet_47 : decode cX11_sheet 47 = .ok (.iload_n 2, 1) := by decide +kernel
theorem dX11_sheet_48 : decode cX11_sheet 48 = .ok (.iastore, 1) := by decide +kernel
theorem dX11_sheet_49 : decode cX11_sheet 49 = .ok (.aload_n 0, 1) := by decide +kernel
theorem dX11_sheet_50 : decode cX11_sheet 50 = .ok (.getfield 49, 3) := by decide +kernel
theorem dX11_sheet_53 : decode cX11_sheet 53 = .ok (.iload_n 1, 1) := by decide +kernel
theorem dX11_sheet_54 : decode cX11_sheet 54 = .ok (.iload_n 2, 1) := by decide +kernel
theorem dX11_sheet_55 : decode cX11_sheet 55 = .ok (.iconst (-1), 1) := by decide +kernel
theorem dX11_sheet_56 : decode cX11_sheet 56 = .ok (.if_icmp .ne 7, 3) := by decide +kernel
theorem dX11_sheet_59 : decode cX11_sheet 59 = .ok (.iconst 0, 1) := by decide +kernel
theorem dX11_sheet_60 : decode cX11_sheet 60 = .ok (.goto 4, 3) := by decide +kernel
theorem dX11_sheet_63 : decode cX11_sheet 63 = .ok (.iload_n 3, 1) := by decide +kernel
theorem dX11_sheet_64 : decode cX11_sheet 64 = .ok (.iastore, 1) := by decide +kernel
theorem dX11_sheet_65 : decode cX11_sheet 65 = .ok (.iconst 0, 1) := by decide +kernel
theorem dX11_sheet_66 : decode cX11_sheet 66 = .ok (.istore 4, 2) := by decide +kernel
theorem dX11_sheet_68 : decode cX11_sheet 68 = .ok (.iload 4, 2) := by decide +kernel
theorem dX11_sheet_70 : decode cX11_sheet 70 = .ok (.bipush 40, 2) := by decide +kernel
theorem dX11_sheet_72 : decode cX11_sheet 72 = .ok (.if_icmp .ge 22, 3) := by decide +kernel
theorem dX11_sheet_75 : decode cX11_sheet 75 = .ok (.aload_n 0, 1) := by decide +kernel
theorem dX11_sheet_76 : decode cX11_sheet 76 = .ok (.getfield 52, 3) := by decide +kernel
theorem dX11_sheet_79 : decode cX11_sheet 79 = .ok (.bipush 40, 2) := by decide +kernel
theorem dX11_sheet_81 : decode cX11_sheet 81 = .ok (.iload_n 1, 1) := by decide +kernel
theorem dX11_sheet_82 : decode cX11_sheet 82 = .ok (.imul, 1) := by decide +kernel
theorem dX11_sheet_83 : decode cX11_sheet 83 = .ok (.iload 4, 2) := by decide +kernel
theorem dX11_sheet_85 : decode cX11_sheet 85 = .ok (.iadd, 1) := by decide +kernel
theorem dX11_sheet_86 : decode cX11_sheet 86 = .ok (.iconst 0, 1) := by decide +kernel
theorem dX11_sheet_87 : decode cX11_sheet 87 = .ok (.iastore, 1) := by decide +kernel
theorem dX11_sheet_88 : decode cX11_sheet 88 = .ok (.iinc 4 1, 3) := by decide +kernel
theorem dX11_sheet_91 : decode cX11_sheet 91 = .ok (.goto (-23), 3) := by decide +kernel
theorem dX11_sheet_94 : decode cX11_sheet 94 = .ok (.iconst 1, 1) := by decide +kernel
theorem dX11_sheet_95 : decode cX11_sheet 95 = .ok (.ireturn, 1) := by decide +kernel
theorem dX11_wrongAt_0 : decode cX11_wrongAt 0 = .ok (.iload_n 1, 1) := by decide +kernel
theorem dX11_wrongAt_1 : decode cX11_wrongAt 1 = .ok (.invokestatic 268, 3) := by decide +kernel
theorem dX11_wrongAt_4 : decode cX11_wrongAt 4 = .ok (.ifCond .ne 8, 3) := by decide +kernel
theorem dX11_wrongAt_7 : decode cX11_wrongAt 7 = .ok (.bipush (-2), 2) := by decide +kernel
theorem dX11_wrongAt_9 : decode cX11_wrongAt 9 = .ok (.goto 40, 3) := by decide +kernel
theorem dX11_wrongAt_12 : decode cX11_wrongAt 12 = .ok (.aload_n 0, 1) := by decide +kernel
theorem dX11_wrongAt_13 : decode cX11_wrongAt 13 = .ok (.getfield 46, 3) := by decide +kernel
theorem dX11_wrongAt_16 : decode cX11_wrongAt 16 = .ok (.iload_n 1, 1) := by decide +kernel
theorem dX11_wrongAt_17 : decode cX11_wrongAt 17 = .ok (.iaload, 1) := by decide +kernel
theorem dX11_wrongAt_18 : decode cX11_wrongAt 18 = .ok (.iconst (-1), 1) := by decide +kernel
theorem dX11_wrongAt_19 : decode cX11_wrongAt 19 = .ok (.if_icmp .ne 8, 3) := by decide +kernel
theorem dX11_wrongAt_22 : decode cX11_wrongAt 22 = .ok (.bipush (-11), 2) := by decide +kernel
theorem dX11_wrongAt_24 : decode cX11_wrongAt 24 = .ok (.goto 25, 3) := by decide +kernel
theorem dX11_wrongAt_27 : decode cX11_wrongAt 27 = .ok (.iload_n 2, 1) := by decide +kernel
theorem dX11_wrongAt_28 : decode cX11_wrongAt 28 = .ok (.iconst 0, 1) := by decide +kernel
theorem dX11_wrongAt_29 : decode cX11_wrongAt 29 = .ok (.aload_n 0, 1) := by decide +kernel
theorem dX11_wrongAt_30 : decode cX11_wrongAt 30 = .ok (.getfield 49, 3) := by decide +kernel
theorem dX11_wrongAt_33 : decode cX11_wrongAt 33 = .ok (.iload_n 1, 1) := by decide +kernel
theorem dX11_wrongAt_34 : decode cX11_wrongAt 34 = .ok (.iaload, 1) := by decide +kernel
theorem dX11_wrongAt_35 : decode cX11_wrongAt 35 = .ok (.iconst 1, 1) := by decide +kernel
theorem dX11_wrongAt_36 : decode cX11_wrongAt 36 = .ok (.isub, 1) := by decide +kernel
theorem dX11_wrongAt_37 : decode cX11_wrongAt 37 = .ok (.invokestatic 64, 3) := by decide +kernel
theorem dX11_wrongAt_40 : decode cX11_wrongAt 40 = .ok (.ifCond .eq 7, 3) := by decide +kernel
theorem dX11_wrongAt_43 : decode cX11_wrongAt 43 = .ok (.iconst 0, 1) := by decide +kernel
theorem dX11_wrongAt_44 : decode cX11_wrongAt 44 = .ok (.goto 5, 3) := by decide +kernel
theorem dX11_wrongAt_47 : decode cX11_wrongAt 47 = .ok (.bipush (-12), 2) := by decide +kernel
theorem dX11_wrongAt_49 : decode cX11_wrongAt 49 = .ok (.ireturn, 1) := by decide +kernel
theorem dX11_write_0 : decode cX11_write 0 = .ok (.aload_n 0, 1) := by decide +kernel
theorem dX11_write_1 : decode cX11_write 1 = .ok (.iload_n 1, 1) := by decide +kernel
theorem dX11_write_2 : decode cX11_write 2 = .ok (.iload_n 2, 1) := by decide +kernel
theorem dX11_write_3 : decode cX11_write 3 = .ok (.invokevirtual 271, 3) := by decide +kernel
theorem dX11_write_6 : decode cX11_write 6 = .ok (.istore 4, 2) := by decide +kernel
theorem dX11_write_8 : decode cX11_write 8 = .ok (.iload 4, 2) := by decide +kernel
theorem dX11_write_10 : decode cX11_write 10 = .ok (.ifCond .eq 6, 3) := by decide +kernel
theorem dX11_write_13 : decode cX11_write 13 = .ok (.iload 4, 2) := by decide +kernel
theorem dX11_write_15 : decode cX11_write 15 = .ok (.ireturn, 1) := by decide +kernel
theorem dX11_write_16 : decode cX11_write 16 = .ok (.aload_n 0, 1) := by decide +kernel
theorem dX11_write_17 : decode cX11_write 17 = .ok (.getfield 52, 3) := by decide +kernel
theorem dX11_write_20 : decode cX11_write 20 = .ok (.bipush 40, 2) := by decide +kernel
theorem dX11_write_22 : decode cX11_write 22 = .ok (.iload_n 1, 1) := by decide +kernel
theorem dX11_write_23 : decode cX11_write 23 = .ok (.imul, 1) := by decide +kernel
theorem dX11_write_24 : decode cX11_write 24 = .ok (.iload_n 2, 1) := by decide +kernel
theorem dX11_write_25 : decode cX11_write 25 = .ok (.iadd, 1) := by decide +kernel
theorem dX11_write_26 : decode cX11_write 26 = .ok (.aload_n 0, 1) := by decide +kernel
theorem dX11_write_27 : decode cX11_write 27 = .ok (.getfield 46, 3) := by decide +kernel
theorem dX11_write_30 : decode cX11_write 30 = .ok (.iload_n 1, 1) := by decide +kernel
theorem dX11_write_31 : decode cX11_write 31 = .ok (.iaload, 1) := by decide +kernel
theorem dX11_write_32 : decode cX11_write 32 = .ok (.iconst 1, 1) := by decide +kernel
theorem dX11_write_33 : decode cX11_write 33 = .ok (.if_icmp .ne 15, 3) := by decide +kernel
theorem dX11_write_36 : decode cX11_write 36 = .ok (.iload_n 3, 1) := by decide +kernel
theorem dX11_write_37 : decode cX11_write 37 = .ok (.ifCond .eq 7, 3) := by decide +kernel
theorem dX11_write_40 : decode cX11_write 40 = .ok (.iconst 1, 1) := by decide +kernel
theorem dX11_write_41 : decode cX11_write 41 = .ok (.goto 8, 3) := by decide +kernel
theorem dX11_write_44 : decode cX11_write 44 = .ok (.iconst 0, 1) := by decide +kernel
theorem dX11_write_45 : decode cX11_write 45 = .ok (.goto 4, 3) := by decide +kernel
theorem dX11_write_48 : decode cX11_write 48 = .ok (.iload_n 3, 1) := by decide +kernel
theorem dX11_write_49 : decode cX11_write 49 = .ok (.iastore, 1) := by decide +kernel
theorem dX11_write_50 : decode cX11_write 50 = .ok (.iconst 1, 1) := by decide +kernel
theorem dX11_write_51 : decode cX11_write 51 = .ok (.ireturn, 1) := by decide +kernel
theorem dX11_item_0 : decode cX11_item 0 = .ok (.aload_n 0, 1) := by decide +kernel
theorem dX11_item_1 : decode cX11_item 1 = .ok (.iload_n 1, 1) := by decide +kernel
theorem dX11_item_2 : decode cX11_item 2 = .ok (.iload_n 2, 1) := by decide +kernel
theorem dX11_item_3 : decode cX11_item 3 = .ok (.invokevirtual 271, 3) := by decide +kernel
theorem dX11_item_6 : decode cX11_item 6 = .ok (.istore_n 3, 1) := by decide +kernel
theorem dX11_item_7 : decode cX11_item 7 = .ok (.iload_n 3, 1) := by decide +kernel
theorem dX11_item_8 : decode cX11_item 8 = .ok (.ifCond .eq 10, 3) := by decide +kernel
theorem dX11_item_11 : decode cX11_item 11 = .ok (.ldc2_w 274, 3) := by decide +kernel
theorem dX11_item_14 : decode cX11_item 14 = .ok (.iload_n 3, 1) := by decide +kernel
theorem dX11_item_15 : decode cX11_item 15 = .ok (.i2l, 1) := by decide +kernel
theorem dX11_item_16 : decode cX11_item 16 = .ok (.ladd, 1) := by decide +kernel
theorem dX11_item_17 : decode cX11_item 17 = .ok (.lreturn, 1) := by decide +kernel
theorem dX11_item_18 : decode cX11_item 18 = .ok (.aload_n 0, 1) := by decide +kernel
theorem dX11_item_19 : decode cX11_item 19 = .ok (.getfield 46, 3) := by decide +kernel
theorem dX11_item_22 : decode cX11_item 22 = .ok (.iload_n 1, 1) := by decide +kernel
theorem dX11_item_23 : decode cX11_item 23 = .ok (.iaload, 1) := by decide +kernel
theorem dX11_item_24 : decode cX11_item 24 = .ok (.ifCond .ne 25, 3) := by decide +kernel
theorem dX11_item_27 : decode cX11_item 27 = .ok (.aload_n 0, 1) := by decide +kernel
theorem dX11_item_28 : decode cX11_item 28 = .ok (.getfield 52, 3) := by decide +kernel
theorem dX11_item_31 : decode cX11_item 31 = .ok (.bipush 40, 2) := by decide +kernel
theorem dX11_item_33 : decode cX11_item 33 = .ok (.iload_n 1, 1) := by decide +kernel
theorem dX11_item_34 : decode cX11_item 34 = .ok (.imul, 1) := by decide +kernel
theorem dX11_item_35 : decode cX11_item 35 = .ok (.iload_n 2, 1) := by decide +kernel
theorem dX11_item_36 : decode cX11_item 36 = .ok (.iadd, 1) := by decide +kernel
theorem dX11_item_37 : decode cX11_item 37 = .ok (.iaload, 1) := by decide +kernel
theorem dX11_item_38 : decode cX11_item 38 = .ok (.i2d, 1) := by decide +kernel
theorem dX11_item_39 : decode cX11_item 39 = .ok (.ldc2_w 276, 3) := by decide +kernel
theorem dX11_item_42 : decode cX11_item 42 = .ok (.ddiv, 1) := by decide +kernel
theorem dX11_item_43 : decode cX11_item 43 = .ok (.invokestatic 157, 3) := by decide +kernel
theorem dX11_item_46 : decode cX11_item 46 = .ok (.goto 15, 3) := by decide +kernel
theorem dX11_item_49 : decode cX11_item 49 = .ok (.aload_n 0, 1) := by decide +kernel
theorem dX11_item_50 : decode cX11_item 50 = .ok (.getfield 52, 3) := by decide +kernel
theorem dX11_item_53 : decode cX11_item 53 = .ok (.bipush 40, 2) := by decide +kernel
theorem dX11_item_55 : decode cX11_item 55 = .ok (.iload_n 1, 1) := by decide +kernel
theorem dX11_item_56 : decode cX11_item 56 = .ok (.imul, 1) := by decide +kernel
theorem dX11_item_57 : decode cX11_item 57 = .ok (.iload_n 2, 1) := by decide +kernel
theorem dX11_item_58 : decode cX11_item 58 = .ok (.iadd, 1) := by decide +kernel
theorem dX11_item_59 : decode cX11_item 59 = .ok (.iaload, 1) := by decide +kernel
theorem dX11_item_60 : decode cX11_item 60 = .ok (.i2l, 1) := by decide +kernel
theorem dX11_item_61 : decode cX11_item 61 = .ok (.lreturn, 1) := by decide +kernel
theorem dX11_copy_0 : decode cX11_copy 0 = .ok (.iload_n 1, 1) := by decide +kernel
theorem dX11_copy_1 : decode cX11_copy 1 = .ok (.invokestatic 268, 3) := by decide +kernel
theorem dX11_copy_4 : decode cX11_copy 4 = .ok (.ifCond .eq 10, 3) := by decide +kernel
theorem dX11_copy_7 : decode cX11_copy 7 = .ok (.iload_n 3, 1) := by decide +kernel
theorem dX11_copy_8 : decode cX11_copy 8 = .ok (.invokestatic 268, 3) := by decide +kernel
theorem dX11_copy_11 : decode cX11_copy 11 = .ok (.ifCond .ne 6, 3) := by decide +kernel
theorem dX11_copy_14 : decode cX11_copy 14 = .ok (.bipush (-2), 2) := by decide +kernel
theorem dX11_copy_16 : decode cX11_copy 16 = .ok (.ireturn, 1) := by decide +kernel
theorem dX11_copy_17 : decode cX11_copy 17 = .ok (.aload_n 0, 1) := by decide +kernel
theorem dX11_copy_18 : decode cX11_copy 18 = .ok (.getfield 46, 3) := by decide +kernel
theorem dX11_copy_21 : decode cX11_copy 21 = .ok (.iload_n 1, 1) := by decide +kernel
theorem dX11_copy_22 : decode cX11_copy 22 = .ok (.iaload, 1) := by decide +kernel
theorem dX11_copy_23 : decode cX11_copy 23 = .ok (.iconst (-1), 1) := by decide +kernel
theorem dX11_copy_24 : decode cX11_copy 24 = .ok (.if_icmp .eq 13, 3) := by decide +kernel
theorem dX11_copy_27 : decode cX11_copy 27 = .ok (.aload_n 0, 1) := by decide +kernel
theorem dX11_copy_28 : decode cX11_copy 28 = .ok (.getfield 46, 3) := by decide +kernel
theorem dX11_copy_31 : decode cX11_copy 31 = .ok (.iload_n 3, 1) := by decide +kernel
theorem dX11_copy_32 : decode cX11_copy 32 = .ok (.iaload, 1) := by decide +kernel
theorem dX11_copy_33 : decode cX11_copy 33 = .ok (.iconst (-1), 1) := by decide +kernel
theorem dX11_copy_34 : decode cX11_copy 34 = .ok (.if_icmp .ne 6, 3) := by decide +kernel
theorem dX11_copy_37 : decode cX11_copy 37 = .ok (.bipush (-11), 2) := by decide +kernel
theorem dX11_copy_39 : decode cX11_copy 39 = .ok (.ireturn, 1) := by decide +kernel
theorem dX11_copy_40 : decode cX11_copy 40 = .ok (.aload_n 0, 1) := by decide +kernel
theorem dX11_copy_41 : decode cX11_copy 41 = .ok (.getfield 46, 3) := by decide +kernel
theorem dX11_copy_44 : decode cX11_copy 44 = .ok (.iload_n 1, 1) := by decide +kernel
theorem dX11_copy_45 : decode cX11_copy 45 = .ok (.iaload, 1) := by decide +kernel
theorem dX11_copy_46 : decode cX11_copy 46 = .ok (.aload_n 0, 1) := by decide +kernel
theorem dX11_copy_47 : decode cX11_copy 47 = .ok (.getfield 46, 3) := by decide +kernel
theorem dX11_copy_50 : decode cX11_copy 50 = .ok (.iload_n 3, 1) := by decide +kernel
theorem dX11_copy_51 : decode cX11_copy 51 = .ok (.iaload, 1) := by decide +kernel
theorem dX11_copy_52 : decode cX11_copy 52 = .ok (.if_icmp .eq 6, 3) := by decide +kernel
theorem dX11_copy_55 : decode cX11_copy 55 = .ok (.bipush (-13), 2) := by decide +kernel
theorem dX11_copy_57 : decode cX11_copy 57 = .ok (.ireturn, 1) := by decide +kernel
theorem dX11_copy_58 : decode cX11_copy 58 = .ok (.iload 5, 2) := by decide +kernel
theorem dX11_copy_60 : decode cX11_copy 60 = .ok (.ifCond .lt 39, 3) := by decide +kernel
theorem dX11_copy_63 : decode cX11_copy 63 = .ok (.iload_n 2, 1) := by decide +kernel
theorem dX11_copy_64 : decode cX11_copy 64 = .ok (.ifCond .lt 35, 3) := by decide +kernel
theorem dX11_copy_67 : decode cX11_copy 67 = .ok (.iload 4, 2) := by decide +kernel
theorem dX11_copy_69 : decode cX11_copy 69 = .ok (.ifCond .lt 30, 3) := by decide +kernel
theorem dX11_copy_72 : decode cX11_copy 72 = .ok (.iload_n 2, 1) := by decide +kernel
theorem dX11_copy_73 : decode cX11_copy 73 = .ok (.aload_n 0, 1) := by decide +kernel
theorem dX11_copy_74 : decode cX11_copy 74 = .ok (.getfield 49, 3) := by decide +kernel
theorem dX11_copy_77 : decode cX11_copy 77 = .ok (.iload_n 1, 1) := by decide +kernel
theorem dX11_copy_78 : decode cX11_copy 78 = .ok (.iaload, 1) := by decide +kernel
theorem dX11_copy_79 : decode cX11_copy 79 = .ok (.iload 5, 2) := by decide +kernel
theorem dX11_copy_81 : decode cX11_copy 81 = .ok (.isub, 1) := by decide +kernel
theorem dX11_copy_82 : decode cX11_copy 82 = .ok (.if_icmp .gt 17, 3) := by decide +kernel
theorem dX11_copy_85 : decode cX11_copy 85 = .ok (.iload 4, 2) := by decide +kernel
theorem dX11_copy_87 : decode cX11_copy 87 = .ok (.aload_n 0, 1) := by decide +kernel
theorem dX11_copy_88 : decode cX11_copy 88 = .ok (.getfield 49, 3) := by decide +kernel
theorem dX11_copy_91 : decode cX11_copy 91 = .ok (.iload_n 3, 1) := by decide +kernel
theorem dX11_copy_92 : decode cX11_copy 92 = .ok (.iaload, 1) := by decide +kernel
theorem dX11_copy_93 : decode cX11_copy 93 = .ok (.iload 5, 2) := by decide +kernel
theorem dX11_copy_95 : decode cX11_copy 95 = .ok (.isub, 1) := by decide +kernel
theorem dX11_copy_96 : decode cX11_copy 96 = .ok (.if_icmp .le 6, 3) := by decide +kernel
theorem dX11_copy_99 : decode cX11_copy 99 = .ok (.bipush (-12), 2) := by decide +kernel
theorem dX11_copy_101 : decode cX11_copy 101 = .ok (.ireturn, 1) := by decide +kernel
theorem dX11_copy_102 : decode cX11_copy 102 = .ok (.bipush 40, 2) := by decide +kernel
theorem dX11_copy_104 : decode cX11_copy 104 = .ok (.iload_n 1, 1) := by decide +kernel
theorem dX11_copy_105 : decode cX11_copy 105 = .ok (.imul, 1) := by decide +kernel
theorem dX11_copy_106 : decode cX11_copy 106 = .ok (.iload_n 2, 1) := by decide +kernel
theorem dX11_copy_107 : decode cX11_copy 107 = .ok (.iadd, 1) := by decide +kernel
theorem dX11_copy_108 : decode cX11_copy 108 = .ok (.bipush 40, 2) := by decide +kernel
theorem dX11_copy_110 : decode cX11_copy 110 = .ok (.iload_n 3, 1) := by decide +kernel
theorem dX11_copy_111 : decode cX11_copy 111 = .ok (.imul, 1) := by decide +kernel
theorem dX11_copy_112 : decode cX11_copy 112 = .ok (.iload 4, 2) := by decide +kernel
theorem dX11_copy_114 : decode cX11_copy 114 = .ok (.iadd, 1) := by decide +kernel
theorem dX11_copy_115 : decode cX11_copy 115 = .ok (.if_icmp .ge 7, 3) := by decide +kernel
theorem dX11_copy_118 : decode cX11_copy 118 = .ok (.iconst 1, 1) := by decide +kernel
theorem dX11_copy_119 : decode cX11_copy 119 = .ok (.goto 4, 3) := by decide +kernel
theorem dX11_copy_122 : decode cX11_copy 122 = .ok (.iconst 0, 1) := by decide +kernel
theorem dX11_copy_123 : decode cX11_copy 123 = .ok (.istore 6, 2) := by decide +kernel
theorem dX11_copy_125 : decode cX11_copy 125 = .ok (.iconst 0, 1) := by decide +kernel
theorem dX11_copy_126 : decode cX11_copy 126 = .ok (.istore 7, 2) := by decide +kernel
theorem dX11_copy_128 : decode cX11_copy 128 = .ok (.iload 7, 2) := by decide +kernel
theorem dX11_copy_130 : decode cX11_copy 130 = .ok (.iload 5, 2) := by decide +kernel
theorem dX11_copy_132 : decode cX11_copy 132 = .ok (.if_icmp .ge 57, 3) := by decide +kernel
theorem dX11_copy_135 : decode cX11_copy 135 = .ok (.iload 6, 2) := by decide +kernel
theorem dX11_copy_137 : decode cX11_copy 137 = .ok (.ifCond .eq 13, 3) := by decide +kernel
theorem dX11_copy_140 : decode cX11_copy 140 = .ok (.iload 5, 2) := by decide +kernel
theorem dX11_copy_142 : decode cX11_copy 142 = .ok (.iconst 1, 1) := by decide +kernel
theorem dX11_copy_143 : decode cX11_copy 143 = .ok (.isub, 1) := by decide +kernel
theorem dX11_copy_144 : decode cX11_copy 144 = .ok (.iload 7, 2) := by decide +kernel
theorem dX11_copy_146 : decode cX11_copy 146 = .ok (.isub, 1) := by decide +kernel
theorem dX11_copy_147 : decode cX11_copy 147 = .ok (.goto 5, 3) := by decide +kernel
theorem dX11_copy_150 : decode cX11_copy 150 = .ok (.iload 7, 2) := by decide +kernel
theorem dX11_copy_152 : decode cX11_copy 152 = .ok (.istore 8, 2) := by decide +kernel
theorem dX11_copy_154 : decode cX11_copy 154 = .ok (.aload_n 0, 1) := by decide +kernel
theorem dX11_copy_155 : decode cX11_copy 155 = .ok (.getfield 52, 3) := by decide +kernel
theorem dX11_copy_158 : decode cX11_copy 158 = .ok (.bipush 40, 2) := by decide +kernel
theorem dX11_copy_160 : decode cX11_copy 160 = .ok (.iload_n 3, 1) := by decide +kernel
theorem dX11_copy_161 : decode cX11_copy 161 = .ok (.imul, 1) := by decide +kernel
theorem dX11_copy_162 : decode cX11_copy 162 = .ok (.iload 4, 2) := by decide +kernel
theorem dX11_copy_164 : decode cX11_copy 164 = .ok (.iadd, 1) := by decide +kernel
theorem dX11_copy_165 : decode cX11_copy 165 = .ok (.iload 8, 2) := by decide +kernel
theorem dX11_copy_167 : decode cX11_copy 167 = .ok (.iadd, 1) := by decide +kernel
theorem dX11_copy_168 : decode cX11_copy 168 = .ok (.aload_n 0, 1) := by decide +kernel
theorem dX11_copy_169 : decode cX11_copy 169 = .ok (.getfield 52, 3) := by decide +kernel
theorem dX11_copy_172 : decode cX11_copy 172 = .ok (.bipush 40, 2) := by decide +kernel
theorem dX11_copy_174 : decode cX11_copy 174 = .ok (.iload_n 1, 1) := by decide +kernel
theorem dX11_copy_175 : decode cX11_copy 175 = .ok (.imul, 1) := by decide +kernel
theorem dX11_copy_176 : decode cX11_copy 176 = .ok (.iload_n 2, 1) := by decide +kernel
theorem dX11_copy_177 : decode cX11_copy 177 = .ok (.iadd, 1) := by decide +kernel
theorem dX11_copy_178 : decode cX11_copy 178 = .ok (.iload 8, 2) := by decide +kernel
theorem dX11_copy_180 : decode cX11_copy 180 = .ok (.iadd, 1) := by decide +kernel
theorem dX11_copy_181 : decode cX11_copy 181 = .ok (.iaload, 1) := by decide +kernel
theorem dX11_copy_182 : decode cX11_copy 182 = .ok (.iastore, 1) := by decide +kernel
theorem dX11_copy_183 : decode cX11_copy 183 = .ok (.iinc 7 1, 3) := by decide +kernel
theorem dX11_copy_186 : decode cX11_copy 186 = .ok (.goto (-58), 3) := by decide +kernel
theorem dX11_copy_189 : decode cX11_copy 189 = .ok (.iload 5, 2) := by decide +kernel
theorem dX11_copy_191 : decode cX11_copy 191 = .ok (.ireturn, 1) := by decide +kernel
theorem dX11_lay_0 : decode cX11_lay 0 = .ok (.iload_n 1, 1) := by decide +kernel
theorem dX11_lay_1 : decode cX11_lay 1 = .ok (.iload_n 2, 1) := by decide +kernel
theorem dX11_lay_2 : decode cX11_lay 2 = .ok (.iload_n 3, 1) := by decide +kernel
theorem dX11_lay_3 : decode cX11_lay 3 = .ok (.invokestatic 148, 3) := by decide +kernel
theorem dX11_lay_6 : decode cX11_lay 6 = .ok (.ifCond .eq 11, 3) := by decide +kernel
theorem dX11_lay_9 : decode cX11_lay 9 = .ok (.iload 4, 2) := by decide +kernel
theorem dX11_lay_11 : decode cX11_lay 11 = .ok (.invokestatic 268, 3) := by decide +kernel
theorem dX11_lay_14 : decode cX11_lay 14 = .ok (.ifCond .ne 6, 3) := by decide +kernel
theorem dX11_lay_17 : decode cX11_lay 17 = .ok (.bipush (-2), 2) := by decide +kernel
theorem dX11_lay_19 : decode cX11_lay 19 = .ok (.ireturn, 1) := by decide +kernel
theorem dX11_lay_20 : decode cX11_lay 20 = .ok (.aload_n 0, 1) := by decide +kernel
theorem dX11_lay_21 : decode cX11_lay 21 = .ok (.getfield 46, 3) := by decide +kernel
theorem dX11_lay_24 : decode cX11_lay 24 = .ok (.iload 4, 2) := by decide +kernel
theorem dX11_lay_26 : decode cX11_lay 26 = .ok (.iaload, 1) := by decide +kernel
theorem dX11_lay_27 : decode cX11_lay 27 = .ok (.iconst (-1), 1) := by decide +kernel
theorem dX11_lay_28 : decode cX11_lay 28 = .ok (.if_icmp .ne 6, 3) := by decide +kernel
theorem dX11_lay_31 : decode cX11_lay 31 = .ok (.bipush (-11), 2) := by decide +kernel
theorem dX11_lay_33 : decode cX11_lay 33 = .ok (.ireturn, 1) := by decide +kernel
theorem dX11_lay_34 : decode cX11_lay 34 = .ok (.iconst 0, 1) := by decide +kernel
theorem dX11_lay_35 : decode cX11_lay 35 = .ok (.istore 5, 2) := by decide +kernel
theorem dX11_lay_37 : decode cX11_lay 37 = .ok (.iload 5, 2) := by decide +kernel
theorem dX11_lay_39 : decode cX11_lay 39 = .ok (.aload_n 0, 1) := by decide +kernel
theorem dX11_lay_40 : decode cX11_lay 40 = .ok (.getfield 49, 3) := by decide +kernel
theorem dX11_lay_43 : decode cX11_lay 43 = .ok (.iload 4, 2) := by decide +kernel
theorem dX11_lay_45 : decode cX11_lay 45 = .ok (.iaload, 1) := by decide +kernel
theorem dX11_lay_46 : decode cX11_lay 46 = .ok (.if_icmp .ge 71, 3) := by decide +kernel
theorem dX11_lay_49 : decode cX11_lay 49 = .ok (.iload 5, 2) := by decide +kernel
theorem dX11_lay_51 : decode cX11_lay 51 = .ok (.iload_n 3, 1) := by decide +kernel
theorem dX11_lay_52 : decode cX11_lay 52 = .ok (.invokestatic 98, 3) := by decide +kernel
theorem dX11_lay_55 : decode cX11_lay 55 = .ok (.if_icmp .ge 62, 3) := by decide +kernel
theorem dX11_lay_58 : decode cX11_lay 58 = .ok (.aload_n 0, 1) := by decide +kernel
theorem dX11_lay_59 : decode cX11_lay 59 = .ok (.iload_n 1, 1) := by decide +kernel
theorem dX11_lay_60 : decode cX11_lay 60 = .ok (.iload_n 3, 1) := by decide +kernel
theorem dX11_lay_61 : decode cX11_lay 61 = .ok (.iload 5, 2) := by decide +kernel
theorem dX11_lay_63 : decode cX11_lay 63 = .ok (.invokestatic 151, 3) := by decide +kernel
theorem dX11_lay_66 : decode cX11_lay 66 = .ok (.iload_n 2, 1) := by decide +kernel
theorem dX11_lay_67 : decode cX11_lay 67 = .ok (.invokevirtual 142, 3) := by decide +kernel
theorem dX11_lay_70 : decode cX11_lay 70 = .ok (.istore 6, 2) := by decide +kernel
theorem dX11_lay_72 : decode cX11_lay 72 = .ok (.aload_n 0, 1) := by decide +kernel
theorem dX11_lay_73 : decode cX11_lay 73 = .ok (.getfield 52, 3) := by decide +kernel
theorem dX11_lay_76 : decode cX11_lay 76 = .ok (.bipush 40, 2) := by decide +kernel
theorem dX11_lay_78 : decode cX11_lay 78 = .ok (.iload 4, 2) := by decide +kernel
theorem dX11_lay_80 : decode cX11_lay 80 = .ok (.imul, 1) := by decide +kernel
theorem dX11_lay_81 : decode cX11_lay 81 = .ok (.iload 5, 2) := by decide +kernel
theorem dX11_lay_83 : decode cX11_lay 83 = .ok (.iadd, 1) := by decide +kernel
theorem dX11_lay_84 : decode cX11_lay 84 = .ok (.aload_n 0, 1) := by decide +kernel
theorem dX11_lay_85 : decode cX11_lay 85 = .ok (.getfield 46, 3) := by decide +kernel
theorem dX11_lay_88 : decode cX11_lay 88 = .ok (.iload 4, 2) := by decide +kernel
theorem dX11_lay_90 : decode cX11_lay 90 = .ok (.iaload, 1) := by decide +kernel
theorem dX11_lay_91 : decode cX11_lay 91 = .ok (.iconst 1, 1) := by decide +kernel
theorem dX11_lay_92 : decode cX11_lay 92 = .ok (.if_icmp .ne 16, 3) := by decide +kernel
theorem dX11_lay_95 : decode cX11_lay 95 = .ok (.iload 6, 2) := by decide +kernel
theorem dX11_lay_97 : decode cX11_lay 97 = .ok (.ifCond .le 7, 3) := by decide +kernel
theorem dX11_lay_100 : decode cX11_lay 100 = .ok (.iconst 1, 1) := by decide +kernel
theorem dX11_lay_101 : decode cX11_lay 101 = .ok (.goto 9, 3) := by decide +kernel
theorem dX11_lay_104 : decode cX11_lay 104 = .ok (.iconst 0, 1) := by decide +kernel
theorem dX11_lay_105 : decode cX11_lay 105 = .ok (.goto 5, 3) := by decide +kernel
theorem dX11_lay_108 : decode cX11_lay 108 = .ok (.iload 6, 2) := by decide +kernel
theorem dX11_lay_110 : decode cX11_lay 110 = .ok (.iastore, 1) := by decide +kernel
theorem dX11_lay_111 : decode cX11_lay 111 = .ok (.iinc 5 1, 3) := by decide +kernel
theorem dX11_lay_114 : decode cX11_lay 114 = .ok (.goto (-77), 3) := by decide +kernel
theorem dX11_lay_117 : decode cX11_lay 117 = .ok (.iload 5, 2) := by decide +kernel
theorem dX11_lay_119 : decode cX11_lay 119 = .ok (.ireturn, 1) := by decide +kernel
theorem dX11_copies_0 : decode cX11_copies 0 = .ok (.iconst 0, 1) := by decide +kernel
theorem dX11_copies_1 : decode cX11_copies 1 = .ok (.istore_n 2, 1) := by decide +kernel
theorem dX11_copies_2 : decode cX11_copies 2 = .ok (.iload_n 2, 1) := by decide +kernel
theorem dX11_copies_3 : decode cX11_copies 3 = .ok (.aload_n 1, 1) := by decide +kernel
theorem dX11_copies_4 : decode cX11_copies 4 = .ok (.arraylength, 1) := by decide +kernel
theorem dX11_copies_5 : decode cX11_copies 5 = .ok (.if_icmp .ge 15, 3) := by decide +kernel
theorem dX11_copies_8 : decode cX11_copies 8 = .ok (.aload_n 1, 1) := by decide +kernel
theorem dX11_copies_9 : decode cX11_copies 9 = .ok (.iload_n 2, 1) := by decide +kernel
theorem dX11_copies_10 : decode cX11_copies 10 = .ok (.aload_n 0, 1) := by decide +kernel
theorem dX11_copies_11 : decode cX11_copies 11 = .ok (.iload_n 2, 1) := by decide +kernel
theorem dX11_copies_12 : decode cX11_copies 12 = .ok (.iaload, 1) := by decide +kernel
theorem dX11_copies_13 : decode cX11_copies 13 = .ok (.iastore, 1) := by decide +kernel
theorem dX11_copies_14 : decode cX11_copies 14 = .ok (.iinc 2 1, 3) := by decide +kernel
theorem dX11_copies_17 : decode cX11_copies 17 = .ok (.goto (-15), 3) := by decide +kernel
theorem dX11_copies_20 : decode cX11_copies 20 = .ok (.return_, 1) := by decide +kernel
theorem dX11_image_0 : decode cX11_image 0 = .ok (.aload_n 0, 1) := by decide +kernel
theorem dX11_image_1 : decode cX11_image 1 = .ok (.getfield 7, 3) := by decide +kernel
theorem dX11_image_4 : decode cX11_image 4 = .ok (.aload_n 0, 1) := by decide +kernel
theorem dX11_image_5 : decode cX11_image 5 = .ok (.getfield 16, 3) := by decide +kernel
theorem dX11_image_8 : decode cX11_image 8 = .ok (.invokestatic 278, 3) := by decide +kernel
theorem dX11_image_11 : decode cX11_image 11 = .ok (.aload_n 0, 1) := by decide +kernel
theorem dX11_image_12 : decode cX11_image 12 = .ok (.getfield 23, 3) := by decide +kernel
theorem dX11_image_15 : decode cX11_image 15 = .ok (.aload_n 0, 1) := by decide +kernel
theorem dX11_image_16 : decode cX11_image 16 = .ok (.getfield 55, 3) := by decide +kernel
theorem dX11_image_19 : decode cX11_image 19 = .ok (.invokestatic 278, 3) := by decide +kernel
theorem dX11_image_22 : decode cX11_image 22 = .ok (.aload_n 0, 1) := by decide +kernel
theorem dX11_image_23 : decode cX11_image 23 = .ok (.getfield 26, 3) := by decide +kernel
theorem dX11_image_26 : decode cX11_image 26 = .ok (.aload_n 0, 1) := by decide +kernel
theorem dX11_image_27 : decode cX11_image 27 = .ok (.getfield 58, 3) := by decide +kernel
theorem dX11_image_30 : decode cX11_image 30 = .ok (.invokestatic 278, 3) := by decide +kernel
theorem dX11_image_33 : decode cX11_image 33 = .ok (.aload_n 0, 1) := by decide +kernel
theorem dX11_image_34 : decode cX11_image 34 = .ok (.aload_n 0, 1) := by decide +kernel
theorem dX11_image_35 : decode cX11_image 35 = .ok (.getfield 61, 3) := by decide +kernel
theorem dX11_image_38 : decode cX11_image 38 = .ok (.putfield 282, 3) := by decide +kernel
theorem dX11_image_41 : decode cX11_image 41 = .ok (.aload_n 0, 1) := by decide +kernel
theorem dX11_image_42 : decode cX11_image 42 = .ok (.aload_n 0, 1) := by decide +kernel
theorem dX11_image_43 : decode cX11_image 43 = .ok (.getfield 183, 3) := by decide +kernel
theorem dX11_image_46 : decode cX11_image 46 = .ok (.putfield 285, 3) := by decide +kernel
theorem dX11_image_49 : decode cX11_image 49 = .ok (.aload_n 0, 1) := by decide +kernel
theorem dX11_image_50 : decode cX11_image 50 = .ok (.aload_n 0, 1) := by decide +kernel
theorem dX11_image_51 : decode cX11_image 51 = .ok (.getfield 19, 3) := by decide +kernel
theorem dX11_image_54 : decode cX11_image 54 = .ok (.putfield 288, 3) := by decide +kernel
theorem dX11_image_57 : decode cX11_image 57 = .ok (.aload_n 0, 1) := by decide +kernel
theorem dX11_image_58 : decode cX11_image 58 = .ok (.iconst 1, 1) := by decide +kernel
theorem dX11_image_59 : decode cX11_image 59 = .ok (.putfield 291, 3) := by decide +kernel
theorem dX11_image_62 : decode cX11_image 62 = .ok (.aload_n 0, 1) := by decide +kernel
theorem dX11_image_63 : decode cX11_image 63 = .ok (.getfield 61, 3) := by decide +kernel
theorem dX11_image_66 : decode cX11_image 66 = .ok (.ireturn, 1) := by decide +kernel
theorem dX11_back_0 : decode cX11_back 0 = .ok (.aload_n 0, 1) := by decide +kernel
theorem dX11_back_1 : decode cX11_back 1 = .ok (.getfield 291, 3) := by decide +kernel
theorem dX11_back_4 : decode cX11_back 4 = .ok (.ifCond .ne 6, 3) := by decide +kernel
theorem dX11_back_7 : decode cX11_back 7 = .ok (.bipush (-3), 2) := by decide +kernel
theorem dX11_back_9 : decode cX11_back 9 = .ok (.ireturn, 1) := by decide +kernel
theorem dX11_back_10 : decode cX11_back 10 = .ok (.aload_n 0, 1) := by decide +kernel
theorem dX11_back_11 : decode cX11_back 11 = .ok (.getfield 16, 3) := by decide +kernel
theorem dX11_back_14 : decode cX11_back 14 = .ok (.aload_n 0, 1) := by decide +kernel
theorem dX11_back_15 : decode cX11_back 15 = .ok (.getfield 7, 3) := by decide +kernel
theorem dX11_back_18 : decode cX11_back 18 = .ok (.invokestatic 278, 3) := by decide +kernel
theorem dX11_back_21 : decode cX11_back 21 = .ok (.aload_n 0, 1) := by decide +kernel
theorem dX11_back_22 : decode cX11_back 22 = .ok (.getfield 55, 3) := by decide +kernel
theorem dX11_back_25 : decode cX11_back 25 = .ok (.aload_n 0, 1) := by decide +kernel
theorem dX11_back_26 : decode cX11_back 26 = .ok (.getfield 23, 3) := by decide +kernel
theorem dX11_back_29 : decode cX11_back 29 = .ok (.invokestatic 278, 3) := by decide +kernel
theorem dX11_back_32 : decode cX11_back 32 = .ok (.aload_n 0, 1) := by decide +kernel
theorem dX11_back_33 : decode cX11_back 33 = .ok (.getfield 58, 3) := by decide +kernel
theorem dX11_back_36 : decode cX11_back 36 = .ok (.aload_n 0, 1) := by decide +kernel
theorem dX11_back_37 : decode cX11_back 37 = .ok (.getfield 26, 3) := by decide +kernel
theorem dX11_back_40 : decode cX11_back 40 = .ok (.invokestatic 278, 3) := by decide +kernel
theorem dX11_back_43 : decode cX11_back 43 = .ok (.aload_n 0, 1) := by decide +kernel
theorem dX11_back_44 : decode cX11_back 44 = .ok (.aload_n 0, 1) := by decide +kernel
theorem dX11_back_45 : decode cX11_back 45 = .ok (.getfield 282, 3) := by decide +kernel
theorem dX11_back_48 : decode cX11_back 48 = .ok (.putfield 61, 3) := by decide +kernel
theorem dX11_back_51 : decode cX11_back 51 = .ok (.aload_n 0, 1) := by decide +kernel
theorem dX11_back_52 : decode cX11_back 52 = .ok (.aload_n 0, 1) := by decide +kernel
theorem dX11_back_53 : decode cX11_back 53 = .ok (.getfield 285, 3) := by decide +kernel
theorem dX11_back_56 : decode cX11_back 56 = .ok (.putfield 183, 3) := by decide +kernel
theorem dX11_back_59 : decode cX11_back 59 = .ok (.aload_n 0, 1) := by decide +kernel
theorem dX11_back_60 : decode cX11_back 60 = .ok (.aload_n 0, 1) := by decide +kernel
theorem dX11_back_61 : decode cX11_back 61 = .ok (.getfield 288, 3) := by decide +kernel
theorem dX11_back_64 : decode cX11_back 64 = .ok (.putfield 19, 3) := by decide +kernel
