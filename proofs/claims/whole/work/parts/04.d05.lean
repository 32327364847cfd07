theorem dX10_text_13 : decode cX10_text 13 = .ok (.getfield 36, 3) := by decide +kernel
theorem dX10_text_16 : decode cX10_text 16 = .ok (.invokevirtual 260, 3) := by decide +kernel
theorem dX10_text_19 : decode cX10_text 19 = .ok (.istore_n 2, 1) := by decide +kernel
theorem dX10_text_20 : decode cX10_text 20 = .ok (.aload_n 0, 1) := by decide +kernel
theorem dX10_text_21 : decode cX10_text 21 = .ok (.getfield 36, 3) := by decide +kernel
theorem dX10_text_24 : decode cX10_text 24 = .ok (.invokevirtual 259, 3) := by decide +kernel
theorem dX10_text_27 : decode cX10_text 27 = .ok (.iload_n 2, 1) := by decide +kernel
theorem dX10_text_28 : decode cX10_text 28 = .ok (.ifCond .eq 13, 3) := by decide +kernel
theorem dX10_text_31 : decode cX10_text 31 = .ok (.aload_n 0, 1) := by decide +kernel
theorem dX10_text_32 : decode cX10_text 32 = .ok (.getfield 10, 3) := by decide +kernel
theorem dX10_text_35 : decode cX10_text 35 = .ok (.invokevirtual 113, 3) := by decide +kernel
theorem dX10_text_38 : decode cX10_text 38 = .ok (.iload_n 1, 1) := by decide +kernel
theorem dX10_text_39 : decode cX10_text 39 = .ok (.isub, 1) := by decide +kernel
theorem dX10_text_40 : decode cX10_text 40 = .ok (.ireturn, 1) := by decide +kernel
theorem dX10_text_41 : decode cX10_text 41 = .ok (.aload_n 0, 1) := by decide +kernel
theorem dX10_text_42 : decode cX10_text 42 = .ok (.getfield 10, 3) := by decide +kernel
theorem dX10_text_45 : decode cX10_text 45 = .ok (.iload_n 1, 1) := by decide +kernel
theorem dX10_text_46 : decode cX10_text 46 = .ok (.invokevirtual 116, 3) := by decide +kernel
theorem dX10_text_49 : decode cX10_text 49 = .ok (.bipush (-100), 2) := by decide +kernel
theorem dX10_text_51 : decode cX10_text 51 = .ok (.aload_n 0, 1) := by decide +kernel
theorem dX10_text_52 : decode cX10_text 52 = .ok (.getfield 45, 3) := by decide +kernel
theorem dX10_text_55 : decode cX10_text 55 = .ok (.invokevirtual 264, 3) := by decide +kernel
theorem dX10_text_58 : decode cX10_text 58 = .ok (.isub, 1) := by decide +kernel
theorem dX10_text_59 : decode cX10_text 59 = .ok (.ireturn, 1) := by decide +kernel
theorem dX10_seed_0 : decode cX10_seed 0 = .ok (.aload_n 0, 1) := by decide +kernel
theorem dX10_seed_1 : decode cX10_seed 1 = .ok (.getfield 29, 3) := by decide +kernel
theorem dX10_seed_4 : decode cX10_seed 4 = .ok (.getfield 208, 3) := by decide +kernel
theorem dX10_seed_7 : decode cX10_seed 7 = .ok (.istore_n 2, 1) := by decide +kernel
theorem dX10_seed_8 : decode cX10_seed 8 = .ok (.aload_n 0, 1) := by decide +kernel
theorem dX10_seed_9 : decode cX10_seed 9 = .ok (.getfield 29, 3) := by decide +kernel
theorem dX10_seed_12 : decode cX10_seed 12 = .ok (.iload_n 1, 1) := by decide +kernel
theorem dX10_seed_13 : decode cX10_seed 13 = .ok (.putfield 208, 3) := by decide +kernel
theorem dX10_seed_16 : decode cX10_seed 16 = .ok (.iload_n 2, 1) := by decide +kernel
theorem dX10_seed_17 : decode cX10_seed 17 = .ok (.ireturn, 1) := by decide +kernel
theorem dX10_sheet_0 : decode cX10_sheet 0 = .ok (.iload_n 1, 1) := by decide +kernel
theorem dX10_sheet_1 : decode cX10_sheet 1 = .ok (.invokestatic 267, 3) := by decide +kernel
theorem dX10_sheet_4 : decode cX10_sheet 4 = .ok (.ifCond .eq 12, 3) := by decide +kernel
theorem dX10_sheet_7 : decode cX10_sheet 7 = .ok (.iload_n 2, 1) := by decide +kernel
theorem dX10_sheet_8 : decode cX10_sheet 8 = .ok (.iconst (-1), 1) := by decide +kernel
theorem dX10_sheet_9 : decode cX10_sheet 9 = .ok (.iconst 2, 1) := by decide +kernel
theorem dX10_sheet_10 : decode cX10_sheet 10 = .ok (.invokestatic 85, 3) := by decide +kernel
theorem dX10_sheet_13 : decode cX10_sheet 13 = .ok (.ifCond .ne 6, 3) := by decide +kernel
theorem dX10_sheet_16 : decode cX10_sheet 16 = .ok (.bipush (-2), 2) := by decide +kernel
theorem dX10_sheet_18 : decode cX10_sheet 18 = .ok (.ireturn, 1) := by decide +kernel
theorem dX10_sheet_19 : decode cX10_sheet 19 = .ok (.iload_n 2, 1) := by decide +kernel
theorem dX10_sheet_20 : decode cX10_sheet 20 = .ok (.iconst (-1), 1) := by decide +kernel
theorem dX10_sheet_21 : decode cX10_sheet 21 = .ok (.if_icmp .ne 14, 3) := by decide +kernel
theorem dX10_sheet_24 : decode cX10_sheet 24 = .ok (.aload_n 0, 1) := by decide +kernel
theorem dX10_sheet_25 : decode cX10_sheet 25 = .ok (.getfield 59, 3) := by decide +kernel
theorem dX10_sheet_28 : decode cX10_sheet 28 = .ok (.iload_n 1, 1) := by decide +kernel
theorem dX10_sheet_29 : decode cX10_sheet 29 = .ok (.aaload, 1) := by decide +kernel
theorem dX10_sheet_30 : decode cX10_sheet 30 = .ok (.invokevirtual 270, 3) := by decide +kernel
theorem dX10_sheet_33 : decode cX10_sheet 33 = .ok (.iconst 1, 1) := by decide +kernel
theorem dX10_sheet_34 : decode cX10_sheet 34 = .ok (.ireturn, 1) := by decide +kernel
theorem dX10_sheet_35 : decode cX10_sheet 35 = .ok (.iload_n 3, 1) := by decide +kernel
theorem dX10_sheet_36 : decode cX10_sheet 36 = .ok (.bipush 40, 2) := by decide +kernel
theorem dX10_sheet_38 : decode cX10_sheet 38 = .ok (.if_icmp .le 6, 3) := by decide +kernel
theorem dX10_sheet_41 : decode cX10_sheet 41 = .ok (.bipush (-2), 2) := by decide +kernel
theorem dX10_sheet_43 : decode cX10_sheet 43 = .ok (.ireturn, 1) := by decide +kernel
theorem dX10_sheet_44 : decode cX10_sheet 44 = .ok (.iload_n 3, 1) := by decide +kernel
theorem dX10_sheet_45 : decode cX10_sheet 45 = .ok (.ifCond .ge 6, 3) := by decide +kernel
theorem dX10_sheet_48 : decode cX10_sheet 48 = .ok (.bipush (-14), 2) := by decide +kernel
theorem dX10_sheet_50 : decode cX10_sheet 50 = .ok (.ireturn, 1) := by decide +kernel
theorem dX10_sheet_51 : decode cX10_sheet 51 = .ok (.aload_n 0, 1) := by decide +kernel
theorem dX10_sheet_52 : decode cX10_sheet 52 = .ok (.getfield 59, 3) := by decide +kernel
theorem dX10_sheet_55 : decode cX10_sheet 55 = .ok (.iload_n 1, 1) := by decide +kernel
theorem dX10_sheet_56 : decode cX10_sheet 56 = .ok (.aaload, 1) := by decide +kernel
theorem dX10_sheet_57 : decode cX10_sheet 57 = .ok (.iload_n 2, 1) := by decide +kernel
theorem dX10_sheet_58 : decode cX10_sheet 58 = .ok (.iload_n 3, 1) := by decide +kernel
theorem dX10_sheet_59 : decode cX10_sheet 59 = .ok (.invokevirtual 273, 3) := by decide +kernel
theorem dX10_sheet_62 : decode cX10_sheet 62 = .ok (.iconst 1, 1) := by decide +kernel
theorem dX10_sheet_63 : decode cX10_sheet 63 = .ok (.ireturn, 1) := by decide +kernel
theorem dX10_write_0 : decode cX10_write 0 = .ok (.iload_n 1, 1) := by decide +kernel
theorem dX10_write_1 : decode cX10_write 1 = .ok (.invokestatic 267, 3) := by decide +kernel
theorem dX10_write_4 : decode cX10_write 4 = .ok (.ifCond .ne 6, 3) := by decide +kernel
theorem dX10_write_7 : decode cX10_write 7 = .ok (.bipush (-2), 2) := by decide +kernel
theorem dX10_write_9 : decode cX10_write 9 = .ok (.ireturn, 1) := by decide +kernel
theorem dX10_write_10 : decode cX10_write 10 = .ok (.aload_n 0, 1) := by decide +kernel
theorem dX10_write_11 : decode cX10_write 11 = .ok (.getfield 59, 3) := by decide +kernel
theorem dX10_write_14 : decode cX10_write 14 = .ok (.iload_n 1, 1) := by decide +kernel
theorem dX10_write_15 : decode cX10_write 15 = .ok (.aaload, 1) := by decide +kernel
theorem dX10_write_16 : decode cX10_write 16 = .ok (.invokevirtual 277, 3) := by decide +kernel
theorem dX10_write_19 : decode cX10_write 19 = .ok (.ifCond .eq 6, 3) := by decide +kernel
theorem dX10_write_22 : decode cX10_write 22 = .ok (.bipush (-11), 2) := by decide +kernel
theorem dX10_write_24 : decode cX10_write 24 = .ok (.ireturn, 1) := by decide +kernel
theorem dX10_write_25 : decode cX10_write 25 = .ok (.iload_n 2, 1) := by decide +kernel
theorem dX10_write_26 : decode cX10_write 26 = .ok (.iconst 0, 1) := by decide +kernel
theorem dX10_write_27 : decode cX10_write 27 = .ok (.aload_n 0, 1) := by decide +kernel
theorem dX10_write_28 : decode cX10_write 28 = .ok (.getfield 59, 3) := by decide +kernel
theorem dX10_write_31 : decode cX10_write 31 = .ok (.iload_n 1, 1) := by decide +kernel
theorem dX10_write_32 : decode cX10_write 32 = .ok (.aaload, 1) := by decide +kernel
theorem dX10_write_33 : decode cX10_write 33 = .ok (.invokevirtual 281, 3) := by decide +kernel
theorem dX10_write_36 : decode cX10_write 36 = .ok (.iconst 1, 1) := by decide +kernel
theorem dX10_write_37 : decode cX10_write 37 = .ok (.isub, 1) := by decide +kernel
theorem dX10_write_38 : decode cX10_write 38 = .ok (.invokestatic 85, 3) := by decide +kernel
theorem dX10_write_41 : decode cX10_write 41 = .ok (.ifCond .ne 6, 3) := by decide +kernel
theorem dX10_write_44 : decode cX10_write 44 = .ok (.bipush (-12), 2) := by decide +kernel
theorem dX10_write_46 : decode cX10_write 46 = .ok (.ireturn, 1) := by decide +kernel
theorem dX10_write_47 : decode cX10_write 47 = .ok (.aload_n 0, 1) := by decide +kernel
theorem dX10_write_48 : decode cX10_write 48 = .ok (.getfield 59, 3) := by decide +kernel
theorem dX10_write_51 : decode cX10_write 51 = .ok (.iload_n 1, 1) := by decide +kernel
theorem dX10_write_52 : decode cX10_write 52 = .ok (.aaload, 1) := by decide +kernel
theorem dX10_write_53 : decode cX10_write 53 = .ok (.iload_n 2, 1) := by decide +kernel
theorem dX10_write_54 : decode cX10_write 54 = .ok (.iload_n 3, 1) := by decide +kernel
theorem dX10_write_55 : decode cX10_write 55 = .ok (.invokevirtual 282, 3) := by decide +kernel
theorem dX10_write_58 : decode cX10_write 58 = .ok (.iconst 1, 1) := by decide +kernel
theorem dX10_write_59 : decode cX10_write 59 = .ok (.ireturn, 1) := by decide +kernel
theorem dX10_item_0 : decode cX10_item 0 = .ok (.iload_n 1, 1) := by decide +kernel
theorem dX10_item_1 : decode cX10_item 1 = .ok (.invokestatic 267, 3) := by decide +kernel
theorem dX10_item_4 : decode cX10_item 4 = .ok (.ifCond .ne 7, 3) := by decide +kernel
theorem dX10_item_7 : decode cX10_item 7 = .ok (.ldc2_w 200, 3) := by decide +kernel
theorem dX10_item_10 : decode cX10_item 10 = .ok (.lreturn, 1) := by decide +kernel
theorem dX10_item_11 : decode cX10_item 11 = .ok (.aload_n 0, 1) := by decide +kernel
theorem dX10_item_12 : decode cX10_item 12 = .ok (.getfield 59, 3) := by decide +kernel
theorem dX10_item_15 : decode cX10_item 15 = .ok (.iload_n 1, 1) := by decide +kernel
theorem dX10_item_16 : decode cX10_item 16 = .ok (.aaload, 1) := by decide +kernel
theorem dX10_item_17 : decode cX10_item 17 = .ok (.invokevirtual 277, 3) := by decide +kernel
theorem dX10_item_20 : decode cX10_item 20 = .ok (.ifCond .eq 7, 3) := by decide +kernel
theorem dX10_item_23 : decode cX10_item 23 = .ok (.ldc2_w 284, 3) := by decide +kernel
theorem dX10_item_26 : decode cX10_item 26 = .ok (.lreturn, 1) := by decide +kernel
theorem dX10_item_27 : decode cX10_item 27 = .ok (.iload_n 2, 1) := by decide +kernel
theorem dX10_item_28 : decode cX10_item 28 = .ok (.iconst 0, 1) := by decide +kernel
theorem dX10_item_29 : decode cX10_item 29 = .ok (.aload_n 0, 1) := by decide +kernel
theorem dX10_item_30 : decode cX10_item 30 = .ok (.getfield 59, 3) := by decide +kernel
theorem dX10_item_33 : decode cX10_item 33 = .ok (.iload_n 1, 1) := by decide +kernel
theorem dX10_item_34 : decode cX10_item 34 = .ok (.aaload, 1) := by decide +kernel
theorem dX10_item_35 : decode cX10_item 35 = .ok (.invokevirtual 281, 3) := by decide +kernel
theorem dX10_item_38 : decode cX10_item 38 = .ok (.iconst 1, 1) := by decide +kernel
theorem dX10_item_39 : decode cX10_item 39 = .ok (.isub, 1) := by decide +kernel
theorem dX10_item_40 : decode cX10_item 40 = .ok (.invokestatic 85, 3) := by decide +kernel
theorem dX10_item_43 : decode cX10_item 43 = .ok (.ifCond .ne 7, 3) := by decide +kernel
theorem dX10_item_46 : decode cX10_item 46 = .ok (.ldc2_w 286, 3) := by decide +kernel
theorem dX10_item_49 : decode cX10_item 49 = .ok (.lreturn, 1) := by decide +kernel
theorem dX10_item_50 : decode cX10_item 50 = .ok (.aload_n 0, 1) := by decide +kernel
theorem dX10_item_51 : decode cX10_item 51 = .ok (.getfield 59, 3) := by decide +kernel
theorem dX10_item_54 : decode cX10_item 54 = .ok (.iload_n 1, 1) := by decide +kernel
theorem dX10_item_55 : decode cX10_item 55 = .ok (.aaload, 1) := by decide +kernel
theorem dX10_item_56 : decode cX10_item 56 = .ok (.iload_n 2, 1) := by decide +kernel
theorem dX10_item_57 : decode cX10_item 57 = .ok (.invokevirtual 288, 3) := by decide +kernel
theorem dX10_item_60 : decode cX10_item 60 = .ok (.lreturn, 1) := by decide +kernel
theorem dX10_copy_0 : decode cX10_copy 0 = .ok (.iload_n 1, 1) := by decide +kernel
theorem dX10_copy_1 : decode cX10_copy 1 = .ok (.invokestatic 267, 3) := by decide +kernel
theorem dX10_copy_4 : decode cX10_copy 4 = .ok (.ifCond .eq 10, 3) := by decide +kernel
theorem dX10_copy_7 : decode cX10_copy 7 = .ok (.iload_n 3, 1) := by decide +kernel
theorem dX10_copy_8 : decode cX10_copy 8 = .ok (.invokestatic 267, 3) := by decide +kernel
theorem dX10_copy_11 : decode cX10_copy 11 = .ok (.ifCond .ne 6, 3) := by decide +kernel
theorem dX10_copy_14 : decode cX10_copy 14 = .ok (.bipush (-2), 2) := by decide +kernel
theorem dX10_copy_16 : decode cX10_copy 16 = .ok (.ireturn, 1) := by decide +kernel
theorem dX10_copy_17 : decode cX10_copy 17 = .ok (.aload_n 0, 1) := by decide +kernel
theorem dX10_copy_18 : decode cX10_copy 18 = .ok (.getfield 59, 3) := by decide +kernel
theorem dX10_copy_21 : decode cX10_copy 21 = .ok (.iload_n 1, 1) := by decide +kernel
theorem dX10_copy_22 : decode cX10_copy 22 = .ok (.aaload, 1) := by decide +kernel
theorem dX10_copy_23 : decode cX10_copy 23 = .ok (.astore 6, 2) := by decide +kernel
theorem dX10_copy_25 : decode cX10_copy 25 = .ok (.aload_n 0, 1) := by decide +kernel
theorem dX10_copy_26 : decode cX10_copy 26 = .ok (.getfield 59, 3) := by decide +kernel
theorem dX10_copy_29 : decode cX10_copy 29 = .ok (.iload_n 3, 1) := by decide +kernel
theorem dX10_copy_30 : decode cX10_copy 30 = .ok (.aaload, 1) := by decide +kernel
theorem dX10_copy_31 : decode cX10_copy 31 = .ok (.astore 7, 2) := by decide +kernel
theorem dX10_copy_33 : decode cX10_copy 33 = .ok (.aload 6, 2) := by decide +kernel
theorem dX10_copy_35 : decode cX10_copy 35 = .ok (.invokevirtual 277, 3) := by decide +kernel
theorem dX10_copy_38 : decode cX10_copy 38 = .ok (.ifCond .ne 11, 3) := by decide +kernel
theorem dX10_copy_41 : decode cX10_copy 41 = .ok (.aload 7, 2) := by decide +kernel
theorem dX10_copy_43 : decode cX10_copy 43 = .ok (.invokevirtual 277, 3) := by decide +kernel
theorem dX10_copy_46 : decode cX10_copy 46 = .ok (.ifCond .eq 6, 3) := by decide +kernel
theorem dX10_copy_49 : decode cX10_copy 49 = .ok (.bipush (-11), 2) := by decide +kernel
theorem dX10_copy_51 : decode cX10_copy 51 = .ok (.ireturn, 1) := by decide +kernel
theorem dX10_copy_52 : decode cX10_copy 52 = .ok (.aload 6, 2) := by decide +kernel
theorem dX10_copy_54 : decode cX10_copy 54 = .ok (.invokevirtual 291, 3) := by decide +kernel
theorem dX10_copy_57 : decode cX10_copy 57 = .ok (.aload 7, 2) := by decide +kernel
theorem dX10_copy_59 : decode cX10_copy 59 = .ok (.invokevirtual 291, 3) := by decide +kernel
theorem dX10_copy_62 : decode cX10_copy 62 = .ok (.if_icmp .eq 6, 3) := by decide +kernel
theorem dX10_copy_65 : decode cX10_copy 65 = .ok (.bipush (-13), 2) := by decide +kernel
theorem dX10_copy_67 : decode cX10_copy 67 = .ok (.ireturn, 1) := by decide +kernel
theorem dX10_copy_68 : decode cX10_copy 68 = .ok (.aload 6, 2) := by decide +kernel
theorem dX10_copy_70 : decode cX10_copy 70 = .ok (.iload_n 2, 1) := by decide +kernel
theorem dX10_copy_71 : decode cX10_copy 71 = .ok (.iload 5, 2) := by decide +kernel
theorem dX10_copy_73 : decode cX10_copy 73 = .ok (.invokevirtual 294, 3) := by decide +kernel
theorem dX10_copy_76 : decode cX10_copy 76 = .ok (.ifCond .eq 15, 3) := by decide +kernel
theorem dX10_copy_79 : decode cX10_copy 79 = .ok (.aload 7, 2) := by decide +kernel
theorem dX10_copy_81 : decode cX10_copy 81 = .ok (.iload 4, 2) := by decide +kernel
theorem dX10_copy_83 : decode cX10_copy 83 = .ok (.iload 5, 2) := by decide +kernel
theorem dX10_copy_85 : decode cX10_copy 85 = .ok (.invokevirtual 294, 3) := by decide +kernel
theorem dX10_copy_88 : decode cX10_copy 88 = .ok (.ifCond .ne 6, 3) := by decide +kernel
theorem dX10_copy_91 : decode cX10_copy 91 = .ok (.bipush (-12), 2) := by decide +kernel
theorem dX10_copy_93 : decode cX10_copy 93 = .ok (.ireturn, 1) := by decide +kernel
theorem dX10_copy_94 : decode cX10_copy 94 = .ok (.aload 7, 2) := by decide +kernel
theorem dX10_copy_96 : decode cX10_copy 96 = .ok (.iload 4, 2) := by decide +kernel
theorem dX10_copy_98 : decode cX10_copy 98 = .ok (.aload 6, 2) := by decide +kernel
theorem dX10_copy_100 : decode cX10_copy 100 = .ok (.iload_n 2, 1) := by decide +kernel
theorem dX10_copy_101 : decode cX10_copy 101 = .ok (.iload 5, 2) := by decide +kernel
theorem dX10_copy_103 : decode cX10_copy 103 = .ok (.invokevirtual 297, 3) := by decide +kernel
theorem dX10_copy_106 : decode cX10_copy 106 = .ok (.iload 5, 2) := by decide +kernel
theorem dX10_copy_108 : decode cX10_copy 108 = .ok (.ireturn, 1) := by decide +kernel
theorem dX10_lay_0 : decode cX10_lay 0 = .ok (.iload_n 1, 1) := by decide +kernel
theorem dX10_lay_1 : decode cX10_lay 1 = .ok (.iload_n 2, 1) := by decide +kernel
theorem dX10_lay_2 : decode cX10_lay 2 = .ok (.iload_n 3, 1) := by decide +kernel
theorem dX10_lay_3 : decode cX10_lay 3 = .ok (.invokestatic 161, 3) := by decide +kernel
theorem dX10_lay_6 : decode cX10_lay 6 = .ok (.ifCond .eq 11, 3) := by decide +kernel
theorem dX10_lay_9 : decode cX10_lay 9 = .ok (.iload 4, 2) := by decide +kernel
theorem dX10_lay_11 : decode cX10_lay 11 = .ok (.invokestatic 267, 3) := by decide +kernel
theorem dX10_lay_14 : decode cX10_lay 14 = .ok (.ifCond .ne 6, 3) := by decide +kernel
theorem dX10_lay_17 : decode cX10_lay 17 = .ok (.bipush (-2), 2) := by decide +kernel
theorem dX10_lay_19 : decode cX10_lay 19 = .ok (.ireturn, 1) := by decide +kernel
theorem dX10_lay_20 : decode cX10_lay 20 = .ok (.aload_n 0, 1) := by decide +kernel
theorem dX10_lay_21 : decode cX10_lay 21 = .ok (.getfield 59, 3) := by decide +kernel
theorem dX10_lay_24 : decode cX10_lay 24 = .ok (.iload 4, 2) := by decide +kernel
theorem dX10_lay_26 : decode cX10_lay 26 = .ok (.aaload, 1) := by decide +kernel
theorem dX10_lay_27 : decode cX10_lay 27 = .ok (.invokevirtual 277, 3) := by decide +kernel
theorem dX10_lay_30 : decode cX10_lay 30 = .ok (.ifCond .eq 6, 3) := by decide +kernel
theorem dX10_lay_33 : decode cX10_lay 33 = .ok (.bipush (-11), 2) := by decide +kernel
theorem dX10_lay_35 : decode cX10_lay 35 = .ok (.ireturn, 1) := by decide +kernel
theorem dX10_lay_36 : decode cX10_lay 36 = .ok (.aload_n 0, 1) := by decide +kernel
theorem dX10_lay_37 : decode cX10_lay 37 = .ok (.getfield 52, 3) := by decide +kernel
theorem dX10_lay_40 : decode cX10_lay 40 = .ok (.aload_n 0, 1) := by decide +kernel
theorem dX10_lay_41 : decode cX10_lay 41 = .ok (.getfield 10, 3) := by decide +kernel
theorem dX10_lay_44 : decode cX10_lay 44 = .ok (.iload_n 1, 1) := by decide +kernel
theorem dX10_lay_45 : decode cX10_lay 45 = .ok (.iload_n 2, 1) := by decide +kernel
theorem dX10_lay_46 : decode cX10_lay 46 = .ok (.iload_n 3, 1) := by decide +kernel
theorem dX10_lay_47 : decode cX10_lay 47 = .ok (.invokevirtual 164, 3) := by decide +kernel
theorem dX10_lay_50 : decode cX10_lay 50 = .ok (.aload_n 0, 1) := by decide +kernel
theorem dX10_lay_51 : decode cX10_lay 51 = .ok (.getfield 52, 3) := by decide +kernel
theorem dX10_lay_54 : decode cX10_lay 54 = .ok (.invokevirtual 301, 3) := by decide +kernel
theorem dX10_lay_57 : decode cX10_lay 57 = .ok (.aload_n 0, 1) := by decide +kernel
theorem dX10_lay_58 : decode cX10_lay 58 = .ok (.getfield 59, 3) := by decide +kernel
theorem dX10_lay_61 : decode cX10_lay 61 = .ok (.iload 4, 2) := by decide +kernel
theorem dX10_lay_63 : decode cX10_lay 63 = .ok (.aaload, 1) := by decide +kernel
theorem dX10_lay_64 : decode cX10_lay 64 = .ok (.invokevirtual 281, 3) := by decide +kernel
theorem dX10_lay_67 : decode cX10_lay 67 = .ok (.invokestatic 302, 3) := by decide +kernel
theorem dX10_lay_70 : decode cX10_lay 70 = .ok (.istore 5, 2) := by decide +kernel
theorem dX10_lay_72 : decode cX10_lay 72 = .ok (.iconst 0, 1) := by decide +kernel
theorem dX10_lay_73 : decode cX10_lay 73 = .ok (.istore 6, 2) := by decide +kernel
theorem dX10_lay_75 : decode cX10_lay 75 = .ok (.iload 6, 2) := by decide +kernel
theorem dX10_lay_77 : decode cX10_lay 77 = .ok (.iload 5, 2) := by decide +kernel
theorem dX10_lay_79 : decode cX10_lay 79 = .ok (.if_icmp .ge 30, 3) := by decide +kernel
theorem dX10_lay_82 : decode cX10_lay 82 = .ok (.aload_n 0, 1) := by decide +kernel
theorem dX10_lay_83 : decode cX10_lay 83 = .ok (.getfield 59, 3) := by decide +kernel
theorem dX10_lay_86 : decode cX10_lay 86 = .ok (.iload 4, 2) := by decide +kernel
theorem dX10_lay_88 : decode cX10_lay 88 = .ok (.aaload, 1) := by decide +kernel
theorem dX10_lay_89 : decode cX10_lay 89 = .ok (.iload 6, 2) := by decide +kernel
theorem dX10_lay_91 : decode cX10_lay 91 = .ok (.aload_n 0, 1) := by decide +kernel
theorem dX10_lay_92 : decode cX10_lay 92 = .ok (.getfield 52, 3) := by decide +kernel
theorem dX10_lay_95 : decode cX10_lay 95 = .ok (.iload 6, 2) := by decide +kernel
theorem dX10_lay_97 : decode cX10_lay 97 = .ok (.invokevirtual 171, 3) := by decide +kernel
theorem dX10_lay_100 : decode cX10_lay 100 = .ok (.invokevirtual 282, 3) := by decide +kernel
theorem dX10_lay_103 : decode cX10_lay 103 = .ok (.iinc 6 1, 3) := by decide +kernel
theorem dX10_lay_106 : decode cX10_lay 106 = .ok (.goto (-31), 3) := by decide +kernel
theorem dX10_lay_109 : decode cX10_lay 109 = .ok (.iload 5, 2) := by decide +kernel
theorem dX10_lay_111 : decode cX10_lay 111 = .ok (.ireturn, 1) := by decide +kernel
theorem dX10_image_0 : decode cX10_image 0 = .ok (.aload_n 0, 1) := by decide +kernel
theorem dX10_image_1 : decode cX10_image 1 = .ok (.getfield 67, 3) := by decide +kernel
theorem dX10_image_4 : decode cX10_image 4 = .ok (.aload_n 0, 1) := by decide +kernel
theorem dX10_image_5 : decode cX10_image 5 = .ok (.getfield 10, 3) := by decide +kernel
theorem dX10_image_8 : decode cX10_image 8 = .ok (.invokevirtual 221, 3) := by decide +kernel
theorem dX10_image_11 : decode cX10_image 11 = .ok (.aload_n 0, 1) := by decide +kernel
theorem dX10_image_12 : decode cX10_image 12 = .ok (.getfield 70, 3) := by decide +kernel
theorem dX10_image_15 : decode cX10_image 15 = .ok (.aload_n 0, 1) := by decide +kernel
theorem dX10_image_16 : decode cX10_image 16 = .ok (.getfield 22, 3) := by decide +kernel
theorem dX10_image_19 : decode cX10_image 19 = .ok (.invokevirtual 307, 3) := by decide +kernel
theorem dX10_image_22 : decode cX10_image 22 = .ok (.aload_n 0, 1) := by decide +kernel
theorem dX10_image_23 : decode cX10_image 23 = .ok (.aload_n 0, 1) := by decide +kernel
theorem dX10_image_24 : decode cX10_image 24 = .ok (.getfield 29, 3) := by decide +kernel
theorem dX10_image_27 : decode cX10_image 27 = .ok (.getfield 208, 3) := by decide +kernel
theorem dX10_image_30 : decode cX10_image 30 = .ok (.putfield 73, 3) := by decide +kernel
theorem dX10_image_33 : decode cX10_image 33 = .ok (.aload_n 0, 1) := by decide +kernel
theorem dX10_image_34 : decode cX10_image 34 = .ok (.iconst 1, 1) := by decide +kernel
theorem dX10_image_35 : decode cX10_image 35 = .ok (.putfield 63, 3) := by decide +kernel
theorem dX10_image_38 : decode cX10_image 38 = .ok (.aload_n 0, 1) := by decide +kernel
theorem dX10_image_39 : decode cX10_image 39 = .ok (.getfield 10, 3) := by decide +kernel
theorem dX10_image_42 : decode cX10_image 42 = .ok (.invokevirtual 113, 3) := by decide +kernel
theorem dX10_image_45 : decode cX10_image 45 = .ok (.ireturn, 1) := by decide +kernel
theorem dX10_back_0 : decode cX10_back 0 = .ok (.aload_n 0, 1) := by decide +kernel
theorem dX10_back_1 : decode cX10_back 1 = .ok (.getfield 63, 3) := by decide +kernel
theorem dX10_back_4 : decode cX10_back 4 = .ok (.ifCond .ne 6, 3) := by decide +kernel
theorem dX10_back_7 : decode cX10_back 7 = .ok (.bipush (-3), 2) := by decide +kernel
theorem dX10_back_9 : decode cX10_back 9 = .ok (.ireturn, 1) := by decide +kernel
theorem dX10_back_10 : decode cX10_back 10 = .ok (.aload_n 0, 1) := by decide +kernel
theorem dX10_back_11 : decode cX10_back 11 = .ok (.getfield 10, 3) := by decide +kernel
theorem dX10_back_14 : decode cX10_back 14 = .ok (.aload_n 0, 1) := by decide +kernel
theorem dX10_back_15 : decode cX10_back 15 = .ok (.getfield 67, 3) := by decide +kernel
theorem dX10_back_18 : decode cX10_back 18 = .ok (.invokevirtual 221, 3) := by decide +kernel
theorem dX10_back_21 : decode cX10_back 21 = .ok (.aload_n 0, 1) := by decide +kernel
theorem dX10_back_22 : decode cX10_back 22 = .ok (.getfield 22, 3) := by decide +kernel
theorem dX10_back_25 : decode cX10_back 25 = .ok (.aload_n 0, 1) := by decide +kernel
theorem dX10_back_26 : decode cX10_back 26 = .ok (.getfield 70, 3) := by decide +kernel
theorem dX10_back_29 : decode cX10_back 29 = .ok (.invokevirtual 307, 3) := by decide +kernel
theorem dX10_back_32 : decode cX10_back 32 = .ok (.aload_n 0, 1) := by decide +kernel
theorem dX10_back_33 : decode cX10_back 33 = .ok (.getfield 29, 3) := by decide +kernel
theorem dX10_back_36 : decode cX10_back 36 = .ok (.aload_n 0, 1) := by decide +kernel
theorem dX10_back_37 : decode cX10_back 37 = .ok (.getfield 73, 3) := by decide +kernel
theorem dX10_back_40 : decode cX10_back 40 = .ok (.putfield 208, 3) := by decide +kernel
theorem dX10_back_43 : decode cX10_back 43 = .ok (.aload_n 0, 1) := by decide +kernel
theorem dX10_back_44 : decode cX10_back 44 = .ok (.getfield 10, 3) := by decide +kernel
theorem dX10_back_47 : decode cX10_back 47 = .ok (.invokevirtual 113, 3) := by decide +kernel
theorem dX10_back_50 : decode cX10_back 50 = .ok (.ireturn, 1) := by decide +kernel
theorem dX10_count_0 : decode cX10_count 0 = .ok (.iload_n 1, 1) := by decide +kernel
theorem dX10_count_1 : decode cX10_count 1 = .ok (.tableswitch 63 0 3 #[31, 39, 47, 55], 31) := by decide +kernel
theorem dX10_count_32 : decode cX10_count 32 = .ok (.aload_n 0, 1) := by decide +kernel
theorem dX10_count_33 : decode cX10_count 33 = .ok (.getfield 10, 3) := by decide +kernel
theorem dX10_count_36 : decode cX10_count 36 = .ok (.invokevirtual 113, 3) := by decide +kernel
theorem dX10_count_39 : decode cX10_count 39 = .ok (.ireturn, 1) := by decide +kernel
theorem dX10_count_40 : decode cX10_count 40 = .ok (.aload_n 0, 1) := by decide +kernel
theorem dX10_count_41 : decode cX10_count 41 = .ok (.getfield 22, 3) := by decide +kernel
theorem dX10_count_44 : decode cX10_count 44 = .ok (.invokevirtual 252, 3) := by decide +kernel
theorem dX10_count_47 : decode cX10_count 47 = .ok (.ireturn, 1) := by decide +kernel
theorem dX10_count_48 : decode cX10_count 48 = .ok (.aload_n 0, 1) := by decide +kernel
theorem dX10_count_49 : decode cX10_count 49 = .ok (.getfield 36, 3) := by decide +kernel
theorem dX10_count_52 : decode cX10_count 52 = .ok (.invokevirtual 256, 3) := by decide +kernel
theorem dX10_count_55 : decode cX10_count 55 = .ok (.ireturn, 1) := by decide +kernel
theorem dX10_count_56 : decode cX10_count 56 = .ok (.aload_n 0, 1) := by decide +kernel
theorem dX10_count_57 : decode cX10_count 57 = .ok (.getfield 29, 3) := by decide +kernel
theorem dX10_count_60 : decode cX10_count 60 = .ok (.getfield 208, 3) := by decide +kernel
theorem dX10_count_63 : decode cX10_count 63 = .ok (.ireturn, 1) := by decide +kernel
theorem dX10_count_64 : decode cX10_count 64 = .ok (.bipush (-2), 2) := by decide +kernel
theorem dX10_count_66 : decode cX10_count 66 = .ok (.ireturn, 1) := by decide +kernel
theorem dX10_within_0 : decode cX10_within 0 = .ok (.iload_n 0, 1) := by decide +kernel
theorem dX10_within_1 : decode cX10_within 1 = .ok (.iload_n 1, 1) := by decide +kernel
theorem dX10_within_2 : decode cX10_within 2 = .ok (.if_icmp .lt 12, 3) := by decide +kernel
theorem dX10_within_5 : decode cX10_within 5 = .ok (.iload_n 0, 1) := by decide +kernel
theorem dX10_within_6 : decode cX10_within 6 = .ok (.iload_n 2, 1) := by decide +kernel
theorem dX10_within_7 : decode cX10_within 7 = .ok (.if_icmp .gt 7, 3) := by decide +kernel
theorem dX10_within_10 : decode cX10_within 10 = .ok (.iconst 1, 1) := by decide +kernel
theorem dX10_within_11 : decode cX10_within 11 = .ok (.goto 4, 3) := by decide +kernel
theorem dX10_within_14 : decode cX10_within 14 = .ok (.iconst 0, 1) := by decide +kernel
theorem dX10_within_15 : decode cX10_within 15 = .ok (.ireturn, 1) := by decide +kernel
theorem dX10_isProfile_0 : decode cX10_isProfile 0 = .ok (.iload_n 0, 1) := by decide +kernel
theorem dX10_isProfile_1 : decode cX10_isProfile 1 = .ok (.iconst 0, 1) := by decide +kernel
theorem dX10_isProfile_2 : decode cX10_isProfile 2 = .ok (.ldc_w 310, 3) := by decide +kernel
theorem dX10_isProfile_5 : decode cX10_isProfile 5 = .ok (.invokestatic 85, 3) := by decide +kernel
theorem dX10_isProfile_8 : decode cX10_isProfile 8 = .ok (.ireturn, 1) := by decide +kernel
theorem dX10_isDay_0 : decode cX10_isDay 0 = .ok (.iload_n 0, 1) := by decide +kernel
theorem dX10_isDay_1 : decode cX10_isDay 1 = .ok (.iconst 0, 1) := by decide +kernel
theorem dX10_isDay_2 : decode cX10_isDay 2 = .ok (.sipush 999, 3) := by decide +kernel
theorem dX10_isDay_5 : decode cX10_isDay 5 = .ok (.invokestatic 85, 3) := by decide +kernel
theorem dX10_isDay_8 : decode cX10_isDay 8 = .ok (.ireturn, 1) := by decide +kernel
theorem dX10_isAlong_0 : decode cX10_isAlong 0 = .ok (.iload_n 0, 1) := by decide +kernel
theorem dX10_isAlong_1 : decode cX10_isAlong 1 = .ok (.invokestatic 129, 3) := by decide +kernel
theorem dX10_isAlong_4 : decode cX10_isAlong 4 = .ok (.ifCond .eq 23, 3) := by decide +kernel
theorem dX10_isAlong_7 : decode cX10_isAlong 7 = .ok (.iload_n 1, 1) := by decide +kernel
theorem dX10_isAlong_8 : decode cX10_isAlong 8 = .ok (.invokestatic 110, 3) := by decide +kernel
theorem dX10_isAlong_11 : decode cX10_isAlong 11 = .ok (.ifCond .eq 16, 3) := by decide +kernel
theorem dX10_isAlong_14 : decode cX10_isAlong 14 = .ok (.iload_n 2, 1) := by decide +kernel
theorem dX10_isAlong_15 : decode cX10_isAlong 15 = .ok (.iconst 0, 1) := by decide +kernel
theorem dX10_isAlong_16 : decode cX10_isAlong 16 = .ok (.iconst 3, 1) := by decide +kernel
theorem dX10_isAlong_17 : decode cX10_isAlong 17 = .ok (.invokestatic 85, 3) := by decide +kernel
theorem dX10_isAlong_20 : decode cX10_isAlong 20 = .ok (.ifCond .eq 7, 3) := by decide +kernel
theorem dX10_isAlong_23 : decode cX10_isAlong 23 = .ok (.iconst 1, 1) := by decide +kernel
theorem dX10_isAlong_24 : decode cX10_isAlong 24 = .ok (.goto 4, 3) := by decide +kernel
theorem dX10_isAlong_27 : decode cX10_isAlong 27 = .ok (.iconst 0, 1) := by decide +kernel
theorem dX10_isAlong_28 : decode cX10_isAlong 28 = .ok (.ireturn, 1) := by decide +kernel
theorem dX10_isSheet_0 : decode cX10_isSheet 0 = .ok (.iload_n 0, 1) := by decide +kernel
theorem dX10_isSheet_1 : decode cX10_isSheet 1 = .ok (.iconst 0, 1) := by decide +kernel
theorem dX10_isSheet_2 : decode cX10_isSheet 2 = .ok (.iconst 3, 1) := by decide +kernel
theorem dX10_isSheet_3 : decode cX10_isSheet 3 = .ok (.invokestatic 85, 3) := by decide +kernel
theorem dX10_isSheet_6 : decode cX10_isSheet 6 = .ok (.ireturn, 1) := by decide +kernel
theorem dX11_init_0 : decode cX11_init 0 = .ok (.aload_n 0, 1) := by decide +kernel
theorem dX11_init_1 : decode cX11_init 1 = .ok (.invokespecial 1, 3) := by decide +kernel
theorem dX11_init_4 : decode cX11_init 4 = .ok (.aload_n 0, 1) := by decide +kernel
theorem dX11_init_5 : decode cX11_init 5 = .ok (.sipush 132, 3) := by decide +kernel
theorem dX11_init_8 : decode cX11_init 8 = .ok (.newarray .int, 2) := by decide +kernel
theorem dX11_init_10 : decode cX11_init 10 = .ok (.putfield 7, 3) := by decide +kernel
theorem dX11_init_13 : decode cX11_init 13 = .ok (.aload_n 0, 1) := by decide +kernel
theorem dX11_init_14 : decode cX11_init 14 = .ok (.sipush 132, 3) := by decide +kernel
theorem dX11_init_17 : decode cX11_init 17 = .ok (.newarray .int, 2) := by decide +kernel
theorem dX11_init_19 : decode cX11_init 19 = .ok (.putfield 13, 3) := by decide +kernel
theorem dX11_init_22 : decode cX11_init 22 = .ok (.aload_n 0, 1) := by decide +kernel
theorem dX11_init_23 : decode cX11_init 23 = .ok (.sipush 132, 3) := by decide +kernel
theorem dX11_init_26 : decode cX11_init 26 = .ok (.newarray .int, 2) := by decide +kernel
theorem dX11_init_28 : decode cX11_init 28 = .ok (.putfield 16, 3) := by decide +kernel
theorem dX11_init_31 : decode cX11_init 31 = .ok (.aload_n 0, 1) := by decide +kernel
theorem dX11_init_32 : decode cX11_init 32 = .ok (.iconst 1, 1) := by decide +kernel
theorem dX11_init_33 : decode cX11_init 33 = .ok (.putfield 19, 3) := by decide +kernel
theorem dX11_init_36 : decode cX11_init 36 = .ok (.aload_n 0, 1) := by decide +kernel
theorem dX11_init_37 : decode cX11_init 37 = .ok (.sipush 128, 3) := by decide +kernel
theorem dX11_init_40 : decode cX11_init 40 = .ok (.newarray .int, 2) := by decide +kernel
theorem dX11_init_42 : decode cX11_init 42 = .ok (.putfield 23, 3) := by decide +kernel
theorem dX11_init_45 : decode cX11_init 45 = .ok (.aload_n 0, 1) := by decide +kernel
theorem dX11_init_46 : decode cX11_init 46 = .ok (.bipush 16, 2) := by decide +kernel
theorem dX11_init_48 : decode cX11_init 48 = .ok (.newarray .int, 2) := by decide +kernel
theorem dX11_init_50 : decode cX11_init 50 = .ok (.putfield 26, 3) := by decide +kernel
theorem dX11_init_53 : decode cX11_init 53 = .ok (.aload_n 0, 1) := by decide +kernel
theorem dX11_init_54 : decode cX11_init 54 = .ok (.bipush 120, 2) := by decide +kernel
theorem dX11_init_56 : decode cX11_init 56 = .ok (.newarray .int, 2) := by decide +kernel
theorem dX11_init_58 : decode cX11_init 58 = .ok (.putfield 29, 3) := by decide +kernel
theorem dX11_init_61 : decode cX11_init 61 = .ok (.aload_n 0, 1) := by decide +kernel
theorem dX11_init_62 : decode cX11_init 62 = .ok (.iconst 4, 1) := by decide +kernel
theorem dX11_init_63 : decode cX11_init 63 = .ok (.anewarray 32, 3) := by decide +kernel
theorem dX11_init_66 : decode cX11_init 66 = .ok (.dup, 1) := by decide +kernel
theorem dX11_init_67 : decode cX11_init 67 = .ok (.iconst 0, 1) := by decide +kernel
theorem dX11_init_68 : decode cX11_init 68 = .ok (.ldc 34, 2) := by decide +kernel
theorem dX11_init_70 : decode cX11_init 70 = .ok (.aastore, 1) := by decide +kernel
theorem dX11_init_71 : decode cX11_init 71 = .ok (.dup, 1) := by decide +kernel
theorem dX11_init_72 : decode cX11_init 72 = .ok (.iconst 1, 1) := by decide +kernel
theorem dX11_init_73 : decode cX11_init 73 = .ok (.ldc 36, 2) := by decide +kernel
theorem dX11_init_75 : decode cX11_init 75 = .ok (.aastore, 1) := by decide +kernel
theorem dX11_init_76 : decode cX11_init 76 = .ok (.dup, 1) := by decide +kernel
theorem dX11_init_77 : decode cX11_init 77 = .ok (.iconst 2, 1) := by decide +kernel
theorem dX11_init_78 : decode cX11_init 78 = .ok (.ldc 38, 2) := by decide +kernel
theorem dX11_init_80 : decode cX11_init 80 = .ok (.aastore, 1) := by decide +kernel
theorem dX11_init_81 : decode cX11_init 81 = .ok (.dup, 1) := by decide +kernel
theorem dX11_init_82 : decode cX11_init 82 = .ok (.iconst 3, 1) := by decide +kernel
theorem dX11_init_83 : decode cX11_init 83 = .ok (.ldc 40, 2) := by decide +kernel
theorem dX11_init_85 : decode cX11_init 85 = .ok (.aastore, 1) := by decide +kernel
theorem dX11_init_86 : decode cX11_init 86 = .ok (.putfield 42, 3) := by decide +kernel
theorem dX11_init_89 : decode cX11_init 89 = .ok (.aload_n 0, 1) := by decide +kernel
theorem dX11_init_90 : decode cX11_init 90 = .ok (.iconst 4, 1) := by decide +kernel
theorem dX11_init_91 : decode cX11_init 91 = .ok (.newarray .int, 2) := by decide +kernel
theorem dX11_init_93 : decode cX11_init 93 = .ok (.dup, 1) := by decide +kernel
theorem dX11_init_94 : decode cX11_init 94 = .ok (.iconst 0, 1) := by decide +kernel
theorem dX11_init_95 : decode cX11_init 95 = .ok (.iconst (-1), 1) := by decide +kernel
theorem dX11_init_96 : decode cX11_init 96 = .ok (.iastore, 1) := by decide +kernel
theorem dX11_init_97 : decode cX11_init 97 = .ok (.dup, 1) := by decide +kernel
theorem dX11_init_98 : decode cX11_init 98 = .ok (.iconst 1, 1) := by decide +kernel
theorem dX11_init_99 : decode cX11_init 99 = .ok (.iconst (-1), 1) := by decide +kernel
theorem dX11_init_100 : decode cX11_init 100 = .ok (.iastore, 1) := by decide +kernel
theorem dX11_init_101 : decode cX11_init 101 = .ok (.dup, 1) := by decide +kernel
theorem dX11_init_102 : decode cX11_init 102 = .ok (.iconst 2, 1) := by decide +kernel
theorem dX11_init_103 : decode cX11_init 103 = .ok (.iconst (-1), 1) := by decide +kernel
theorem dX11_init_104 : decode cX11_init 104 = .ok (.iastore, 1) := by decide +kernel
theorem dX11_init_105 : decode cX11_init 105 = .ok (.dup, 1) := by decide +kernel
theorem dX11_init_106 : decode cX11_init 106 = .ok (.iconst 3, 1) := by decide +kernel
theorem dX11_init_107 : decode cX11_init 107 = .ok (.iconst (-1), 1) := by decide +kernel
theorem dX11_init_108 : decode cX11_init 108 = .ok (.iastore, 1) := by decide +kernel
theorem dX11_init_109 : decode cX11_init 109 = .ok (.putfield 46, 3) := by decide +kernel
theorem dX11_init_112 : decode cX11_init 112 = .ok (.aload_n 0, 1) := by decide +kernel
theorem dX11_init_113 : decode cX11_init 113 = .ok (.iconst 4, 1) := by decide +kernel
theorem dX11_init_114 : decode cX11_init 114 = .ok (.newarray .int, 2) := by decide +kernel
theorem dX11_init_116 : decode cX11_init 116 = .ok (.putfield 49, 3) := by decide +kernel
theorem dX11_init_119 : decode cX11_init 119 = .ok (.aload_n 0, 1) := by decide +kernel
theorem dX11_init_120 : decode cX11_init 120 = .ok (.sipush 160, 3) := by decide +kernel
theorem dX11_init_123 : decode cX11_init 123 = .ok (.newarray .int, 2) := by decide +kernel
theorem dX11_init_125 : decode cX11_init 125 = .ok (.putfield 52, 3) := by decide +kernel
theorem dX11_init_128 : decode cX11_init 128 = .ok (.aload_n 0, 1) := by decide +kernel
theorem dX11_init_129 : decode cX11_init 129 = .ok (.sipush 128, 3) := by decide +kernel
theorem dX11_init_132 : decode cX11_init 132 = .ok (.newarray .int, 2) := by decide +kernel
theorem dX11_init_134 : decode cX11_init 134 = .ok (.putfield 55, 3) := by decide +kernel
theorem dX11_init_137 : decode cX11_init 137 = .ok (.aload_n 0, 1) := by decide +kernel
theorem dX11_init_138 : decode cX11_init 138 = .ok (.bipush 16, 2) := by decide +kernel
theorem dX11_init_140 : decode cX11_init 140 = .ok (.newarray .int, 2) := by decide +kernel
theorem dX11_init_142 : decode cX11_init 142 = .ok (.putfield 58, 3) := by decide +kernel
theorem dX11_init_145 : decode cX11_init 145 = .ok (.return_, 1) := by decide +kernel
theorem dX11_in_0 : decode cX11_in 0 = .ok (.iload_n 0, 1) := by decide +kernel
theorem dX11_in_1 : decode cX11_in 1 = .ok (.iload_n 1, 1) := by decide +kernel
theorem dX11_in_2 : decode cX11_in 2 = .ok (.if_icmp .lt 12, 3) := by decide +kernel
theorem dX11_in_5 : decode cX11_in 5 = .ok (.iload_n 0, 1) := by decide +kernel
theorem dX11_in_6 : decode cX11_in 6 = .ok (.iload_n 2, 1) := by decide +kernel
theorem dX11_in_7 : decode cX11_in 7 = .ok (.if_icmp .gt 7, 3) := by decide +kernel
theorem dX11_in_10 : decode cX11_in 10 = .ok (.iconst 1, 1) := by decide +kernel
theorem dX11_in_11 : decode cX11_in 11 = .ok (.goto 4, 3) := by decide +kernel
theorem dX11_in_14 : decode cX11_in 14 = .ok (.iconst 0, 1) := by decide +kernel
theorem dX11_in_15 : decode cX11_in 15 = .ok (.ireturn, 1) := by decide +kernel
theorem dX11_isClause_0 : decode cX11_isClause 0 = .ok (.iload_n 1, 1) := by decide +kernel
theorem dX11_isClause_1 : decode cX11_isClause 1 = .ok (.iconst 0, 1) := by decide +kernel
theorem dX11_isClause_2 : decode cX11_isClause 2 = .ok (.aload_n 0, 1) := by decide +kernel
theorem dX11_isClause_3 : decode cX11_isClause 3 = .ok (.getfield 61, 3) := by decide +kernel
theorem dX11_isClause_6 : decode cX11_isClause 6 = .ok (.iconst 1, 1) := by decide +kernel
theorem dX11_isClause_7 : decode cX11_isClause 7 = .ok (.isub, 1) := by decide +kernel
theorem dX11_isClause_8 : decode cX11_isClause 8 = .ok (.invokestatic 64, 3) := by decide +kernel
theorem dX11_isClause_11 : decode cX11_isClause 11 = .ok (.ireturn, 1) := by decide +kernel
theorem dX11_is_0 : decode cX11_is 0 = .ok (.aload_n 0, 1) := by decide +kernel
theorem dX11_is_1 : decode cX11_is 1 = .ok (.getfield 7, 3) := by decide +kernel
theorem dX11_is_4 : decode cX11_is 4 = .ok (.bipush 11, 2) := by decide +kernel
theorem dX11_is_6 : decode cX11_is 6 = .ok (.iload_n 1, 1) := by decide +kernel
theorem dX11_is_7 : decode cX11_is 7 = .ok (.imul, 1) := by decide +kernel
theorem dX11_is_8 : decode cX11_is 8 = .ok (.iload_n 2, 1) := by decide +kernel
theorem dX11_is_9 : decode cX11_is 9 = .ok (.iadd, 1) := by decide +kernel
theorem dX11_is_10 : decode cX11_is 10 = .ok (.iaload, 1) := by decide +kernel
theorem dX11_is_11 : decode cX11_is 11 = .ok (.ireturn, 1) := by decide +kernel
theorem dX11_sets_0 : decode cX11_sets 0 = .ok (.aload_n 0, 1) := by decide +kernel
theorem dX11_sets_1 : decode cX11_sets 1 = .ok (.getfield 7, 3) := by decide +kernel
theorem dX11_sets_4 : decode cX11_sets 4 = .ok (.bipush 11, 2) := by decide +kernel
theorem dX11_sets_6 : decode cX11_sets 6 = .ok (.iload_n 1, 1) := by decide +kernel
theorem dX11_sets_7 : decode cX11_sets 7 = .ok (.imul, 1) := by decide +kernel
theorem dX11_sets_8 : decode cX11_sets 8 = .ok (.iload_n 2, 1) := by decide +kernel
theorem dX11_sets_9 : decode cX11_sets 9 = .ok (.iadd, 1) := by decide +kernel
theorem dX11_sets_10 : decode cX11_sets 10 = .ok (.iload_n 3, 1) := by decide +kernel
theorem dX11_sets_11 : decode cX11_sets 11 = .ok (.iastore, 1) := by decide +kernel
theorem dX11_sets_12 : decode cX11_sets 12 = .ok (.return_, 1) := by decide +kernel
theorem dX11_comes_0 : decode cX11_comes 0 = .ok (.iconst 0, 1) := by decide +kernel
theorem dX11_comes_1 : decode cX11_comes 1 = .ok (.istore_n 1, 1) := by decide +kernel
theorem dX11_comes_2 : decode cX11_comes 2 = .ok (.iload_n 1, 1) := by decide +kernel
theorem dX11_comes_3 : decode cX11_comes 3 = .ok (.bipush 11, 2) := by decide +kernel
theorem dX11_comes_5 : decode cX11_comes 5 = .ok (.if_icmp .ge 19, 3) := by decide +kernel
theorem dX11_comes_8 : decode cX11_comes 8 = .ok (.aload_n 0, 1) := by decide +kernel
theorem dX11_comes_9 : decode cX11_comes 9 = .ok (.aload_n 0, 1) := by decide +kernel
theorem dX11_comes_10 : decode cX11_comes 10 = .ok (.getfield 61, 3) := by decide +kernel
theorem dX11_comes_13 : decode cX11_comes 13 = .ok (.iload_n 1, 1) := by decide +kernel
theorem dX11_comes_14 : decode cX11_comes 14 = .ok (.iconst 0, 1) := by decide +kernel
theorem dX11_comes_15 : decode cX11_comes 15 = .ok (.invokevirtual 68, 3) := by decide +kernel
theorem dX11_comes_18 : decode cX11_comes 18 = .ok (.iinc 1 1, 3) := by decide +kernel
theorem dX11_comes_21 : decode cX11_comes 21 = .ok (.goto (-19), 3) := by decide +kernel
theorem dX11_comes_24 : decode cX11_comes 24 = .ok (.aload_n 0, 1) := by decide +kernel
theorem dX11_comes_25 : decode cX11_comes 25 = .ok (.aload_n 0, 1) := by decide +kernel
theorem dX11_comes_26 : decode cX11_comes 26 = .ok (.getfield 61, 3) := by decide +kernel
theorem dX11_comes_29 : decode cX11_comes 29 = .ok (.bipush 9, 2) := by decide +kernel
theorem dX11_comes_31 : decode cX11_comes 31 = .ok (.sipush 999, 3) := by decide +kernel
theorem dX11_comes_34 : decode cX11_comes 34 = .ok (.invokevirtual 68, 3) := by decide +kernel
theorem dX11_comes_37 : decode cX11_comes 37 = .ok (.aload_n 0, 1) := by decide +kernel
theorem dX11_comes_38 : decode cX11_comes 38 = .ok (.aload_n 0, 1) := by decide +kernel
theorem dX11_comes_39 : decode cX11_comes 39 = .ok (.getfield 61, 3) := by decide +kernel
theorem dX11_comes_42 : decode cX11_comes 42 = .ok (.bipush 10, 2) := by decide +kernel
theorem dX11_comes_44 : decode cX11_comes 44 = .ok (.iconst (-1), 1) := by decide +kernel
theorem dX11_comes_45 : decode cX11_comes 45 = .ok (.invokevirtual 68, 3) := by decide +kernel
theorem dX11_comes_48 : decode cX11_comes 48 = .ok (.aload_n 0, 1) := by decide +kernel
theorem dX11_comes_49 : decode cX11_comes 49 = .ok (.dup, 1) := by decide +kernel
theorem dX11_comes_50 : decode cX11_comes 50 = .ok (.getfield 61, 3) := by decide +kernel
theorem dX11_comes_53 : decode cX11_comes 53 = .ok (.iconst 1, 1) := by decide +kernel
theorem dX11_comes_54 : decode cX11_comes 54 = .ok (.iadd, 1) := by decide +kernel
theorem dX11_comes_55 : decode cX11_comes 55 = .ok (.putfield 61, 3) := by decide +kernel
theorem dX11_comes_58 : decode cX11_comes 58 = .ok (.return_, 1) := by decide +kernel
theorem dX11_clause_0 : decode cX11_clause 0 = .ok (.aload_n 0, 1) := by decide +kernel
theorem dX11_clause_1 : decode cX11_clause 1 = .ok (.getfield 61, 3) := by decide +kernel
theorem dX11_clause_4 : decode cX11_clause 4 = .ok (.bipush 12, 2) := by decide +kernel
theorem dX11_clause_6 : decode cX11_clause 6 = .ok (.if_icmp .ne 6, 3) := by decide +kernel
theorem dX11_clause_9 : decode cX11_clause 9 = .ok (.bipush (-4), 2) := by decide +kernel
theorem dX11_clause_11 : decode cX11_clause 11 = .ok (.ireturn, 1) := by decide +kernel
theorem dX11_clause_12 : decode cX11_clause 12 = .ok (.aload_n 0, 1) := by decide +kernel
theorem dX11_clause_13 : decode cX11_clause 13 = .ok (.invokevirtual 72, 3) := by decide +kernel
theorem dX11_clause_16 : decode cX11_clause 16 = .ok (.aload_n 0, 1) := by decide +kernel
theorem dX11_clause_17 : decode cX11_clause 17 = .ok (.getfield 61, 3) := by decide +kernel
theorem dX11_clause_20 : decode cX11_clause 20 = .ok (.iconst 1, 1) := by decide +kernel
theorem dX11_clause_21 : decode cX11_clause 21 = .ok (.isub, 1) := by decide +kernel
theorem dX11_clause_22 : decode cX11_clause 22 = .ok (.ireturn, 1) := by decide +kernel
theorem dX11_isTrait_0 : decode cX11_isTrait 0 = .ok (.iload_n 0, 1) := by decide +kernel
theorem dX11_isTrait_1 : decode cX11_isTrait 1 = .ok (.ifCond .eq 12, 3) := by decide +kernel
theorem dX11_isTrait_4 : decode cX11_isTrait 4 = .ok (.iload_n 1, 1) := by decide +kernel
theorem dX11_isTrait_5 : decode cX11_isTrait 5 = .ok (.iconst 0, 1) := by decide +kernel
theorem dX11_isTrait_6 : decode cX11_isTrait 6 = .ok (.iconst 3, 1) := by decide +kernel
theorem dX11_isTrait_7 : decode cX11_isTrait 7 = .ok (.invokestatic 64, 3) := by decide +kernel
theorem dX11_isTrait_10 : decode cX11_isTrait 10 = .ok (.goto 12, 3) := by decide +kernel
theorem dX11_isTrait_13 : decode cX11_isTrait 13 = .ok (.iload_n 1, 1) := by decide +kernel
theorem dX11_isTrait_14 : decode cX11_isTrait 14 = .ok (.ifCond .ne 7, 3) := by decide +kernel
theorem dX11_isTrait_17 : decode cX11_isTrait 17 = .ok (.iconst 1, 1) := by decide +kernel
theorem dX11_isTrait_18 : decode cX11_isTrait 18 = .ok (.goto 4, 3) := by decide +kernel
theorem dX11_isTrait_21 : decode cX11_isTrait 21 = .ok (.iconst 0, 1) := by decide +kernel
theorem dX11_isTrait_22 : decode cX11_isTrait 22 = .ok (.ireturn, 1) := by decide +kernel
theorem dX11_test_0 : decode cX11_test 0 = .ok (.iload_n 2, 1) := by decide +kernel
theorem dX11_test_1 : decode cX11_test 1 = .ok (.iconst 3, 1) := by decide +kernel
theorem dX11_test_2 : decode cX11_test 2 = .ok (.if_icmp .ne 8, 3) := by decide +kernel
theorem dX11_test_5 : decode cX11_test 5 = .ok (.bipush 31, 2) := by decide +kernel
theorem dX11_test_7 : decode cX11_test 7 = .ok (.goto 5, 3) := by decide +kernel
theorem dX11_test_10 : decode cX11_test 10 = .ok (.bipush 99, 2) := by decide +kernel
theorem dX11_test_12 : decode cX11_test 12 = .ok (.istore 6, 2) := by decide +kernel
theorem dX11_test_14 : decode cX11_test 14 = .ok (.aload_n 0, 1) := by decide +kernel
theorem dX11_test_15 : decode cX11_test 15 = .ok (.iload_n 1, 1) := by decide +kernel
theorem dX11_test_16 : decode cX11_test 16 = .ok (.invokevirtual 75, 3) := by decide +kernel
theorem dX11_test_19 : decode cX11_test 19 = .ok (.ifCond .eq 61, 3) := by decide +kernel
theorem dX11_test_22 : decode cX11_test 22 = .ok (.iload_n 2, 1) := by decide +kernel
theorem dX11_test_23 : decode cX11_test 23 = .ok (.iconst 0, 1) := by decide +kernel
theorem dX11_test_24 : decode cX11_test 24 = .ok (.iconst 5, 1) := by decide +kernel
theorem dX11_test_25 : decode cX11_test 25 = .ok (.invokestatic 64, 3) := by decide +kernel
theorem dX11_test_28 : decode cX11_test 28 = .ok (.ifCond .eq 52, 3) := by decide +kernel
theorem dX11_test_31 : decode cX11_test 31 = .ok (.iload_n 2, 1) := by decide +kernel
theorem dX11_test_32 : decode cX11_test 32 = .ok (.iconst 1, 1) := by decide +kernel
theorem dX11_test_33 : decode cX11_test 33 = .ok (.if_icmp .eq 13, 3) := by decide +kernel
theorem dX11_test_36 : decode cX11_test 36 = .ok (.iload_n 2, 1) := by decide +kernel
theorem dX11_test_37 : decode cX11_test 37 = .ok (.iconst 2, 1) := by decide +kernel
theorem dX11_test_38 : decode cX11_test 38 = .ok (.if_icmp .eq 8, 3) := by decide +kernel
theorem dX11_test_41 : decode cX11_test 41 = .ok (.iload_n 2, 1) := by decide +kernel
theorem dX11_test_42 : decode cX11_test 42 = .ok (.iconst 4, 1) := by decide +kernel
theorem dX11_test_43 : decode cX11_test 43 = .ok (.if_icmp .ne 7, 3) := by decide +kernel
theorem dX11_test_46 : decode cX11_test 46 = .ok (.iconst 1, 1) := by decide +kernel
theorem dX11_test_47 : decode cX11_test 47 = .ok (.goto 4, 3) := by decide +kernel
theorem dX11_test_50 : decode cX11_test 50 = .ok (.iconst 0, 1) := by decide +kernel
theorem dX11_test_51 : decode cX11_test 51 = .ok (.iload_n 3, 1) := by decide +kernel
theorem dX11_test_52 : decode cX11_test 52 = .ok (.invokestatic 79, 3) := by decide +kernel
theorem dX11_test_55 : decode cX11_test 55 = .ok (.ifCond .eq 25, 3) := by decide +kernel
theorem dX11_test_58 : decode cX11_test 58 = .ok (.iload 4, 2) := by decide +kernel
theorem dX11_test_60 : decode cX11_test 60 = .ok (.iconst 0, 1) := by decide +kernel
theorem dX11_test_61 : decode cX11_test 61 = .ok (.iload 6, 2) := by decide +kernel
theorem dX11_test_63 : decode cX11_test 63 = .ok (.invokestatic 64, 3) := by decide +kernel
theorem dX11_test_66 : decode cX11_test 66 = .ok (.ifCond .eq 14, 3) := by decide +kernel
theorem dX11_test_69 : decode cX11_test 69 = .ok (.iload 5, 2) := by decide +kernel
theorem dX11_test_71 : decode cX11_test 71 = .ok (.iconst 0, 1) := by decide +kernel
theorem dX11_test_72 : decode cX11_test 72 = .ok (.iload 6, 2) := by decide +kernel
theorem dX11_test_74 : decode cX11_test 74 = .ok (.invokestatic 64, 3) := by decide +kernel
theorem dX11_test_77 : decode cX11_test 77 = .ok (.ifCond .ne 6, 3) := by decide +kernel
theorem dX11_test_80 : decode cX11_test 80 = .ok (.bipush (-2), 2) := by decide +kernel
theorem dX11_test_82 : decode cX11_test 82 = .ok (.ireturn, 1) := by decide +kernel
theorem dX11_test_83 : decode cX11_test 83 = .ok (.aload_n 0, 1) := by decide +kernel
theorem dX11_test_84 : decode cX11_test 84 = .ok (.iload_n 1, 1) := by decide +kernel
theorem dX11_test_85 : decode cX11_test 85 = .ok (.iconst 0, 1) := by decide +kernel
theorem dX11_test_86 : decode cX11_test 86 = .ok (.invokevirtual 83, 3) := by decide +kernel
theorem dX11_test_89 : decode cX11_test 89 = .ok (.istore 7, 2) := by decide +kernel
theorem dX11_test_91 : decode cX11_test 91 = .ok (.aload_n 0, 1) := by decide +kernel
theorem dX11_test_92 : decode cX11_test 92 = .ok (.iload_n 1, 1) := by decide +kernel
theorem dX11_test_93 : decode cX11_test 93 = .ok (.iconst 0, 1) := by decide +kernel
theorem dX11_test_94 : decode cX11_test 94 = .ok (.iload_n 2, 1) := by decide +kernel
theorem dX11_test_95 : decode cX11_test 95 = .ok (.invokevirtual 68, 3) := by decide +kernel
theorem dX11_test_98 : decode cX11_test 98 = .ok (.aload_n 0, 1) := by decide +kernel
theorem dX11_test_99 : decode cX11_test 99 = .ok (.iload_n 1, 1) := by decide +kernel
theorem dX11_test_100 : decode cX11_test 100 = .ok (.iconst 1, 1) := by decide +kernel
theorem dX11_test_101 : decode cX11_test 101 = .ok (.iload_n 3, 1) := by decide +kernel
theorem dX11_test_102 : decode cX11_test 102 = .ok (.invokevirtual 68, 3) := by decide +kernel
theorem dX11_test_105 : decode cX11_test 105 = .ok (.aload_n 0, 1) := by decide +kernel
theorem dX11_test_106 : decode cX11_test 106 = .ok (.iload_n 1, 1) := by decide +kernel
theorem dX11_test_107 : decode cX11_test 107 = .ok (.iconst 2, 1) := by decide +kernel
theorem dX11_test_108 : decode cX11_test 108 = .ok (.iload 4, 2) := by decide +kernel
theorem dX11_test_110 : decode cX11_test 110 = .ok (.invokevirtual 68, 3) := by decide +kernel
theorem dX11_test_113 : decode cX11_test 113 = .ok (.aload_n 0, 1) := by decide +kernel
theorem dX11_test_114 : decode cX11_test 114 = .ok (.iload_n 1, 1) := by decide +kernel
theorem dX11_test_115 : decode cX11_test 115 = .ok (.iconst 3, 1) := by decide +kernel
theorem dX11_test_116 : decode cX11_test 116 = .ok (.iload 5, 2) := by decide +kernel
theorem dX11_test_118 : decode cX11_test 118 = .ok (.invokevirtual 68, 3) := by decide +kernel
theorem dX11_test_121 : decode cX11_test 121 = .ok (.iload 7, 2) := by decide +kernel
theorem dX11_test_123 : decode cX11_test 123 = .ok (.ireturn, 1) := by decide +kernel
theorem dX11_isLess_0 : decode cX11_isLess 0 = .ok (.iload_n 0, 1) := by decide +kernel
theorem dX11_isLess_1 : decode cX11_isLess 1 = .ok (.iconst 1, 1) := by decide +kernel
theorem dX11_isLess_2 : decode cX11_isLess 2 = .ok (.if_icmp .ne 13, 3) := by decide +kernel
theorem dX11_isLess_5 : decode cX11_isLess 5 = .ok (.iload_n 1, 1) := by decide +kernel
theorem dX11_isLess_6 : decode cX11_isLess 6 = .ok (.iconst 1, 1) := by decide +kernel
theorem dX11_isLess_7 : decode cX11_isLess 7 = .ok (.bipush 99, 2) := by decide +kernel
theorem dX11_isLess_9 : decode cX11_isLess 9 = .ok (.invokestatic 64, 3) := by decide +kernel
theorem dX11_isLess_12 : decode cX11_isLess 12 = .ok (.goto 27, 3) := by decide +kernel
theorem dX11_isLess_15 : decode cX11_isLess 15 = .ok (.iload_n 0, 1) := by decide +kernel
theorem dX11_isLess_16 : decode cX11_isLess 16 = .ok (.iconst 2, 1) := by decide +kernel
theorem dX11_isLess_17 : decode cX11_isLess 17 = .ok (.if_icmp .ne 13, 3) := by decide +kernel
theorem dX11_isLess_20 : decode cX11_isLess 20 = .ok (.iload_n 1, 1) := by decide +kernel
theorem dX11_isLess_21 : decode cX11_isLess 21 = .ok (.iconst 0, 1) := by decide +kernel
theorem dX11_isLess_22 : decode cX11_isLess 22 = .ok (.bipush 99, 2) := by decide +kernel
theorem dX11_isLess_24 : decode cX11_isLess 24 = .ok (.invokestatic 64, 3) := by decide +kernel
theorem dX11_isLess_27 : decode cX11_isLess 27 = .ok (.goto 12, 3) := by decide +kernel
theorem dX11_isLess_30 : decode cX11_isLess 30 = .ok (.iload_n 1, 1) := by decide +kernel
theorem dX11_isLess_31 : decode cX11_isLess 31 = .ok (.ifCond .ne 7, 3) := by decide +kernel
theorem dX11_isLess_34 : decode cX11_isLess 34 = .ok (.iconst 1, 1) := by decide +kernel
theorem dX11_isLess_35 : decode cX11_isLess 35 = .ok (.goto 4, 3) := by decide +kernel
theorem dX11_isLess_38 : decode cX11_isLess 38 = .ok (.iconst 0, 1) := by decide +kernel
theorem dX11_isLess_39 : decode cX11_isLess 39 = .ok (.ireturn, 1) := by decide +kernel
theorem dX11_grant_0 : decode cX11_grant 0 = .ok (.aload_n 0, 1) := by decide +kernel
theorem dX11_grant_1 : decode cX11_grant 1 = .ok (.iload_n 1, 1) := by decide +kernel
theorem dX11_grant_2 : decode cX11_grant 2 = .ok (.invokevirtual 75, 3) := by decide +kernel
theorem dX11_grant_5 : decode cX11_grant 5 = .ok (.ifCond .eq 60, 3) := by decide +kernel
theorem dX11_grant_8 : decode cX11_grant 8 = .ok (.iload_n 2, 1) := by decide +kernel
theorem dX11_grant_9 : decode cX11_grant 9 = .ok (.iconst 0, 1) := by decide +kernel
theorem dX11_grant_10 : decode cX11_grant 10 = .ok (.iconst 4, 1) := by decide +kernel
theorem dX11_grant_11 : decode cX11_grant 11 = .ok (.invokestatic 64, 3) := by decide +kernel
theorem dX11_grant_14 : decode cX11_grant 14 = .ok (.ifCond .eq 51, 3) := by decide +kernel
theorem dX11_grant_17 : decode cX11_grant 17 = .ok (.iload_n 2, 1) := by decide +kernel
theorem dX11_grant_18 : decode cX11_grant 18 = .ok (.iconst 1, 1) := by decide +kernel
theorem dX11_grant_19 : decode cX11_grant 19 = .ok (.if_icmp .eq 13, 3) := by decide +kernel
theorem dX11_grant_22 : decode cX11_grant 22 = .ok (.iload_n 2, 1) := by decide +kernel
theorem dX11_grant_23 : decode cX11_grant 23 = .ok (.iconst 2, 1) := by decide +kernel
theorem dX11_grant_24 : decode cX11_grant 24 = .ok (.if_icmp .eq 8, 3) := by decide +kernel
theorem dX11_grant_27 : decode cX11_grant 27 = .ok (.iload_n 2, 1) := by decide +kernel
theorem dX11_grant_28 : decode cX11_grant 28 = .ok (.iconst 4, 1) := by decide +kernel
theorem dX11_grant_29 : decode cX11_grant 29 = .ok (.if_icmp .ne 7, 3) := by decide +kernel
theorem dX11_grant_32 : decode cX11_grant 32 = .ok (.iconst 1, 1) := by decide +kernel
theorem dX11_grant_33 : decode cX11_grant 33 = .ok (.goto 4, 3) := by decide +kernel
theorem dX11_grant_36 : decode cX11_grant 36 = .ok (.iconst 0, 1) := by decide +kernel
theorem dX11_grant_37 : decode cX11_grant 37 = .ok (.iload_n 3, 1) := by decide +kernel
theorem dX11_grant_38 : decode cX11_grant 38 = .ok (.invokestatic 79, 3) := by decide +kernel
theorem dX11_grant_41 : decode cX11_grant 41 = .ok (.ifCond .eq 24, 3) := by decide +kernel
theorem dX11_grant_44 : decode cX11_grant 44 = .ok (.iload 4, 2) := by decide +kernel
theorem dX11_grant_46 : decode cX11_grant 46 = .ok (.iconst 0, 1) := by decide +kernel
theorem dX11_grant_47 : decode cX11_grant 47 = .ok (.sipush 999, 3) := by decide +kernel
theorem dX11_grant_50 : decode cX11_grant 50 = .ok (.invokestatic 64, 3) := by decide +kernel
theorem dX11_grant_53 : decode cX11_grant 53 = .ok (.ifCond .eq 12, 3) := by decide +kernel
theorem dX11_grant_56 : decode cX11_grant 56 = .ok (.iload_n 2, 1) := by decide +kernel
theorem dX11_grant_57 : decode cX11_grant 57 = .ok (.iload 5, 2) := by decide +kernel
theorem dX11_grant_59 : decode cX11_grant 59 = .ok (.invokestatic 87, 3) := by decide +kernel
theorem dX11_grant_62 : decode cX11_grant 62 = .ok (.ifCond .ne 6, 3) := by decide +kernel
theorem dX11_grant_65 : decode cX11_grant 65 = .ok (.bipush (-2), 2) := by decide +kernel
theorem dX11_grant_67 : decode cX11_grant 67 = .ok (.ireturn, 1) := by decide +kernel
theorem dX11_grant_68 : decode cX11_grant 68 = .ok (.aload_n 0, 1) := by decide +kernel
theorem dX11_grant_69 : decode cX11_grant 69 = .ok (.iload_n 1, 1) := by decide +kernel
theorem dX11_grant_70 : decode cX11_grant 70 = .ok (.iconst 4, 1) := by decide +kernel
theorem dX11_grant_71 : decode cX11_grant 71 = .ok (.invokevirtual 83, 3) := by decide +kernel
theorem dX11_grant_74 : decode cX11_grant 74 = .ok (.istore 6, 2) := by decide +kernel
theorem dX11_grant_76 : decode cX11_grant 76 = .ok (.aload_n 0, 1) := by decide +kernel
theorem dX11_grant_77 : decode cX11_grant 77 = .ok (.iload_n 1, 1) := by decide +kernel
theorem dX11_grant_78 : decode cX11_grant 78 = .ok (.iconst 4, 1) := by decide +kernel
theorem dX11_grant_79 : decode cX11_grant 79 = .ok (.iload_n 2, 1) := by decide +kernel
theorem dX11_grant_80 : decode cX11_grant 80 = .ok (.invokevirtual 68, 3) := by decide +kernel
theorem dX11_grant_83 : decode cX11_grant 83 = .ok (.aload_n 0, 1) := by decide +kernel
theorem dX11_grant_84 : decode cX11_grant 84 = .ok (.iload_n 1, 1) := by decide +kernel
theorem dX11_grant_85 : decode cX11_grant 85 = .ok (.iconst 5, 1) := by decide +kernel
theorem dX11_grant_86 : decode cX11_grant 86 = .ok (.iload_n 3, 1) := by decide +kernel
theorem dX11_grant_87 : decode cX11_grant 87 = .ok (.invokevirtual 68, 3) := by decide +kernel
theorem dX11_grant_90 : decode cX11_grant 90 = .ok (.aload_n 0, 1) := by decide +kernel
theorem dX11_grant_91 : decode cX11_grant 91 = .ok (.iload_n 1, 1) := by decide +kernel
theorem dX11_grant_92 : decode cX11_grant 92 = .ok (.bipush 6, 2) := by decide +kernel
theorem dX11_grant_94 : decode cX11_grant 94 = .ok (.iload 4, 2) := by decide +kernel
theorem dX11_grant_96 : decode cX11_grant 96 = .ok (.invokevirtual 68, 3) := by decide +kernel
theorem dX11_grant_99 : decode cX11_grant 99 = .ok (.aload_n 0, 1) := by decide +kernel
theorem dX11_grant_100 : decode cX11_grant 100 = .ok (.iload_n 1, 1) := by decide +kernel
theorem dX11_grant_101 : decode cX11_grant 101 = .ok (.bipush 7, 2) := by decide +kernel
theorem dX11_grant_103 : decode cX11_grant 103 = .ok (.iload 5, 2) := by decide +kernel
theorem dX11_grant_105 : decode cX11_grant 105 = .ok (.invokevirtual 68, 3) := by decide +kernel
theorem dX11_grant_108 : decode cX11_grant 108 = .ok (.iload 6, 2) := by decide +kernel
theorem dX11_grant_110 : decode cX11_grant 110 = .ok (.ireturn, 1) := by decide +kernel
theorem dX11_span_0 : decode cX11_span 0 = .ok (.aload_n 0, 1) := by decide +kernel
theorem dX11_span_1 : decode cX11_span 1 = .ok (.iload_n 1, 1) := by decide +kernel
theorem dX11_span_2 : decode cX11_span 2 = .ok (.invokevirtual 75, 3) := by decide +kernel
theorem dX11_span_5 : decode cX11_span 5 = .ok (.ifCond .eq 25, 3) := by decide +kernel
theorem dX11_span_8 : decode cX11_span 8 = .ok (.iload_n 2, 1) := by decide +kernel
theorem dX11_span_9 : decode cX11_span 9 = .ok (.iconst 0, 1) := by decide +kernel
theorem dX11_span_10 : decode cX11_span 10 = .ok (.sipush 999, 3) := by decide +kernel
theorem dX11_span_13 : decode cX11_span 13 = .ok (.invokestatic 64, 3) := by decide +kernel
theorem dX11_span_16 : decode cX11_span 16 = .ok (.ifCond .eq 14, 3) := by decide +kernel
theorem dX11_span_19 : decode cX11_span 19 = .ok (.iload_n 3, 1) := by decide +kernel
theorem dX11_span_20 : decode cX11_span 20 = .ok (.iload_n 2, 1) := by decide +kernel
theorem dX11_span_21 : decode cX11_span 21 = .ok (.sipush 999, 3) := by decide +kernel
theorem dX11_span_24 : decode cX11_span 24 = .ok (.invokestatic 64, 3) := by decide +kernel
theorem dX11_span_27 : decode cX11_span 27 = .ok (.ifCond .ne 6, 3) := by decide +kernel
theorem dX11_span_30 : decode cX11_span 30 = .ok (.bipush (-2), 2) := by decide +kernel
theorem dX11_span_32 : decode cX11_span 32 = .ok (.ireturn, 1) := by decide +kernel
theorem dX11_span_33 : decode cX11_span 33 = .ok (.aload_n 0, 1) := by decide +kernel
theorem dX11_span_34 : decode cX11_span 34 = .ok (.iload_n 1, 1) := by decide +kernel
theorem dX11_span_35 : decode cX11_span 35 = .ok (.bipush 8, 2) := by decide +kernel
theorem dX11_span_37 : decode cX11_span 37 = .ok (.iload_n 2, 1) := by decide +kernel
theorem dX11_span_38 : decode cX11_span 38 = .ok (.invokevirtual 68, 3) := by decide +kernel
theorem dX11_span_41 : decode cX11_span 41 = .ok (.aload_n 0, 1) := by decide +kernel
theorem dX11_span_42 : decode cX11_span 42 = .ok (.iload_n 1, 1) := by decide +kernel
theorem dX11_span_43 : decode cX11_span 43 = .ok (.bipush 9, 2) := by decide +kernel
theorem dX11_span_45 : decode cX11_span 45 = .ok (.iload_n 3, 1) := by decide +kernel
theorem dX11_span_46 : decode cX11_span 46 = .ok (.invokevirtual 68, 3) := by decide +kernel
theorem dX11_span_49 : decode cX11_span 49 = .ok (.iconst 1, 1) := by decide +kernel
theorem dX11_span_50 : decode cX11_span 50 = .ok (.ireturn, 1) := by decide +kernel
theorem dX11_except_0 : decode cX11_except 0 = .ok (.aload_n 0, 1) := by decide +kernel
theorem dX11_except_1 : decode cX11_except 1 = .ok (.iload_n 1, 1) := by decide +kernel
theorem dX11_except_2 : decode cX11_except 2 = .ok (.invokevirtual 75, 3) := by decide +kernel
theorem dX11_except_5 : decode cX11_except 5 = .ok (.ifCond .eq 14, 3) := by decide +kernel
theorem dX11_except_8 : decode cX11_except 8 = .ok (.iload_n 2, 1) := by decide +kernel
theorem dX11_except_9 : decode cX11_except 9 = .ok (.iconst (-1), 1) := by decide +kernel
theorem dX11_except_10 : decode cX11_except 10 = .ok (.iload_n 1, 1) := by decide +kernel
theorem dX11_except_11 : decode cX11_except 11 = .ok (.iconst 1, 1) := by decide +kernel
theorem dX11_except_12 : decode cX11_except 12 = .ok (.isub, 1) := by decide +kernel
theorem dX11_except_13 : decode cX11_except 13 = .ok (.invokestatic 64, 3) := by decide +kernel
theorem dX11_except_16 : decode cX11_except 16 = .ok (.ifCond .ne 6, 3) := by decide +kernel
theorem dX11_except_19 : decode cX11_except 19 = .ok (.bipush (-2), 2) := by decide +kernel
theorem dX11_except_21 : decode cX11_except 21 = .ok (.ireturn, 1) := by decide +kernel
theorem dX11_except_22 : decode cX11_except 22 = .ok (.aload_n 0, 1) := by decide +kernel
theorem dX11_except_23 : decode cX11_except 23 = .ok (.iload_n 1, 1) := by decide +kernel
theorem dX11_except_24 : decode cX11_except 24 = .ok (.bipush 10, 2) := by decide +kernel
theorem dX11_except_26 : decode cX11_except 26 = .ok (.invokevirtual 83, 3) := by decide +kernel
theorem dX11_except_29 : decode cX11_except 29 = .ok (.istore_n 3, 1) := by decide +kernel
theorem dX11_except_30 : decode cX11_except 30 = .ok (.aload_n 0, 1) := by decide +kernel
theorem dX11_except_31 : decode cX11_except 31 = .ok (.iload_n 1, 1) := by decide +kernel
theorem dX11_except_32 : decode cX11_except 32 = .ok (.bipush 10, 2) := by decide +kernel
theorem dX11_except_34 : decode cX11_except 34 = .ok (.iload_n 2, 1) := by decide +kernel
theorem dX11_except_35 : decode cX11_except 35 = .ok (.invokevirtual 68, 3) := by decide +kernel
theorem dX11_except_38 : decode cX11_except 38 = .ok (.iload_n 3, 1) := by decide +kernel
theorem dX11_except_39 : decode cX11_except 39 = .ok (.ireturn, 1) := by decide +kernel
theorem dX11_of_0 : decode cX11_of 0 = .ok (.aload_n 0, 1) := by decide +kernel
theorem dX11_of_1 : decode cX11_of 1 = .ok (.iload_n 1, 1) := by decide +kernel
theorem dX11_of_2 : decode cX11_of 2 = .ok (.invokevirtual 75, 3) := by decide +kernel
theorem dX11_of_5 : decode cX11_of 5 = .ok (.ifCond .eq 22, 3) := by decide +kernel
theorem dX11_of_8 : decode cX11_of 8 = .ok (.iload_n 2, 1) := by decide +kernel
theorem dX11_of_9 : decode cX11_of 9 = .ok (.iconst 0, 1) := by decide +kernel
theorem dX11_of_10 : decode cX11_of 10 = .ok (.bipush 10, 2) := by decide +kernel
theorem dX11_of_12 : decode cX11_of 12 = .ok (.invokestatic 64, 3) := by decide +kernel
theorem dX11_of_15 : decode cX11_of 15 = .ok (.ifCond .eq 12, 3) := by decide +kernel
theorem dX11_of_18 : decode cX11_of 18 = .ok (.aload_n 0, 1) := by decide +kernel
theorem dX11_of_19 : decode cX11_of 19 = .ok (.iload_n 1, 1) := by decide +kernel
theorem dX11_of_20 : decode cX11_of 20 = .ok (.iload_n 2, 1) := by decide +kernel
theorem dX11_of_21 : decode cX11_of 21 = .ok (.invokevirtual 83, 3) := by decide +kernel
theorem dX11_of_24 : decode cX11_of 24 = .ok (.goto 5, 3) := by decide +kernel
theorem dX11_of_27 : decode cX11_of 27 = .ok (.bipush (-2), 2) := by decide +kernel
theorem dX11_of_29 : decode cX11_of 29 = .ok (.ireturn, 1) := by decide +kernel
theorem dX11_drop_0 : decode cX11_drop 0 = .ok (.aload_n 0, 1) := by decide +kernel
theorem dX11_drop_1 : decode cX11_drop 1 = .ok (.getfield 61, 3) := by decide +kernel
theorem dX11_drop_4 : decode cX11_drop 4 = .ok (.ifCond .ne 6, 3) := by decide +kernel
theorem dX11_drop_7 : decode cX11_drop 7 = .ok (.bipush (-3), 2) := by decide +kernel
theorem dX11_drop_9 : decode cX11_drop 9 = .ok (.ireturn, 1) := by decide +kernel
theorem dX11_drop_10 : decode cX11_drop 10 = .ok (.aload_n 0, 1) := by decide +kernel
theorem dX11_drop_11 : decode cX11_drop 11 = .ok (.dup, 1) := by decide +kernel
theorem dX11_drop_12 : decode cX11_drop 12 = .ok (.getfield 61, 3) := by decide +kernel
theorem dX11_drop_15 : decode cX11_drop 15 = .ok (.iconst 1, 1) := by decide +kernel
theorem dX11_drop_16 : decode cX11_drop 16 = .ok (.isub, 1) := by decide +kernel
theorem dX11_drop_17 : decode cX11_drop 17 = .ok (.putfield 61, 3) := by decide +kernel
theorem dX11_drop_20 : decode cX11_drop 20 = .ok (.aload_n 0, 1) := by decide +kernel
theorem dX11_drop_21 : decode cX11_drop 21 = .ok (.getfield 61, 3) := by decide +kernel
theorem dX11_drop_24 : decode cX11_drop 24 = .ok (.ireturn, 1) := by decide +kernel
theorem dX11_isProfile_0 : decode cX11_isProfile 0 = .ok (.iload_n 0, 1) := by decide +kernel
theorem dX11_isProfile_1 : decode cX11_isProfile 1 = .ok (.iconst 0, 1) := by decide +kernel
theorem dX11_isProfile_2 : decode cX11_isProfile 2 = .ok (.ldc 91, 2) := by decide +kernel
theorem dX11_isProfile_4 : decode cX11_isProfile 4 = .ok (.invokestatic 64, 3) := by decide +kernel
theorem dX11_isProfile_7 : decode cX11_isProfile 7 = .ok (.ireturn, 1) := by decide +kernel
theorem dX11_isDay_0 : decode cX11_isDay 0 = .ok (.iload_n 0, 1) := by decide +kernel
theorem dX11_isDay_1 : decode cX11_isDay 1 = .ok (.iconst 0, 1) := by decide +kernel
theorem dX11_isDay_2 : decode cX11_isDay 2 = .ok (.sipush 999, 3) := by decide +kernel
theorem dX11_isDay_5 : decode cX11_isDay 5 = .ok (.invokestatic 64, 3) := by decide +kernel
theorem dX11_isDay_8 : decode cX11_isDay 8 = .ok (.ireturn, 1) := by decide +kernel
theorem dX11_sizeOf_0 : decode cX11_sizeOf 0 = .ok (.iload_n 0, 1) := by decide +kernel
theorem dX11_sizeOf_1 : decode cX11_sizeOf 1 = .ok (.iconst 2, 1) := by decide +kernel
theorem dX11_sizeOf_2 : decode cX11_sizeOf 2 = .ok (.if_icmp .ge 8, 3) := by decide +kernel
theorem dX11_sizeOf_5 : decode cX11_sizeOf 5 = .ok (.bipush 100, 2) := by decide +kernel
theorem dX11_sizeOf_7 : decode cX11_sizeOf 7 = .ok (.goto 25, 3) := by decide +kernel
theorem dX11_sizeOf_10 : decode cX11_sizeOf 10 = .ok (.iload_n 0, 1) := by decide +kernel
theorem dX11_sizeOf_11 : decode cX11_sizeOf 11 = .ok (.iconst 2, 1) := by decide +kernel
theorem dX11_sizeOf_12 : decode cX11_sizeOf 12 = .ok (.if_icmp .ne 8, 3) := by decide +kernel
theorem dX11_sizeOf_15 : decode cX11_sizeOf 15 = .ok (.bipush 10, 2) := by decide +kernel
theorem dX11_sizeOf_17 : decode cX11_sizeOf 17 = .ok (.goto 15, 3) := by decide +kernel
theorem dX11_sizeOf_20 : decode cX11_sizeOf 20 = .ok (.iload_n 0, 1) := by decide +kernel
theorem dX11_sizeOf_21 : decode cX11_sizeOf 21 = .ok (.iconst 3, 1) := by decide +kernel
theorem dX11_sizeOf_22 : decode cX11_sizeOf 22 = .ok (.if_icmp .ne 8, 3) := by decide +kernel
theorem dX11_sizeOf_25 : decode cX11_sizeOf 25 = .ok (.bipush 8, 2) := by decide +kernel
theorem dX11_sizeOf_27 : decode cX11_sizeOf 27 = .ok (.goto 5, 3) := by decide +kernel
theorem dX11_sizeOf_30 : decode cX11_sizeOf 30 = .ok (.bipush 32, 2) := by decide +kernel
theorem dX11_sizeOf_32 : decode cX11_sizeOf 32 = .ok (.ireturn, 1) := by decide +kernel
theorem dX11_by_0 : decode cX11_by 0 = .ok (.iload_n 0, 1) := by decide +kernel
