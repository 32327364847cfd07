theorem dX5_keep_24 : decode cX5_keep 24 = .ok (.aload_n 0, 1) := by decide +kernel
theorem dX5_keep_25 : decode cX5_keep 25 = .ok (.getfield 20, 3) := by decide +kernel
theorem dX5_keep_28 : decode cX5_keep 28 = .ok (.istore_n 3, 1) := by decide +kernel
theorem dX5_keep_29 : decode cX5_keep 29 = .ok (.aload_n 0, 1) := by decide +kernel
theorem dX5_keep_30 : decode cX5_keep 30 = .ok (.dup, 1) := by decide +kernel
theorem dX5_keep_31 : decode cX5_keep 31 = .ok (.getfield 20, 3) := by decide +kernel
theorem dX5_keep_34 : decode cX5_keep 34 = .ok (.iconst 1, 1) := by decide +kernel
theorem dX5_keep_35 : decode cX5_keep 35 = .ok (.iadd, 1) := by decide +kernel
theorem dX5_keep_36 : decode cX5_keep 36 = .ok (.putfield 20, 3) := by decide +kernel
theorem dX5_keep_39 : decode cX5_keep 39 = .ok (.aload_n 0, 1) := by decide +kernel
theorem dX5_keep_40 : decode cX5_keep 40 = .ok (.getfield 17, 3) := by decide +kernel
theorem dX5_keep_43 : decode cX5_keep 43 = .ok (.iload_n 3, 1) := by decide +kernel
theorem dX5_keep_44 : decode cX5_keep 44 = .ok (.iconst 0, 1) := by decide +kernel
theorem dX5_keep_45 : decode cX5_keep 45 = .ok (.iastore, 1) := by decide +kernel
theorem dX5_keep_46 : decode cX5_keep 46 = .ok (.iconst 0, 1) := by decide +kernel
theorem dX5_keep_47 : decode cX5_keep 47 = .ok (.istore 4, 2) := by decide +kernel
theorem dX5_keep_49 : decode cX5_keep 49 = .ok (.iload 4, 2) := by decide +kernel
theorem dX5_keep_51 : decode cX5_keep 51 = .ok (.bipush 8, 2) := by decide +kernel
theorem dX5_keep_53 : decode cX5_keep 53 = .ok (.if_icmp .ge 28, 3) := by decide +kernel
theorem dX5_keep_56 : decode cX5_keep 56 = .ok (.aload_n 0, 1) := by decide +kernel
theorem dX5_keep_57 : decode cX5_keep 57 = .ok (.getfield 11, 3) := by decide +kernel
theorem dX5_keep_60 : decode cX5_keep 60 = .ok (.iload_n 3, 1) := by decide +kernel
theorem dX5_keep_61 : decode cX5_keep 61 = .ok (.bipush 8, 2) := by decide +kernel
theorem dX5_keep_63 : decode cX5_keep 63 = .ok (.imul, 1) := by decide +kernel
theorem dX5_keep_64 : decode cX5_keep 64 = .ok (.iload 4, 2) := by decide +kernel
theorem dX5_keep_66 : decode cX5_keep 66 = .ok (.iadd, 1) := by decide +kernel
theorem dX5_keep_67 : decode cX5_keep 67 = .ok (.aload_n 1, 1) := by decide +kernel
theorem dX5_keep_68 : decode cX5_keep 68 = .ok (.iload_n 2, 1) := by decide +kernel
theorem dX5_keep_69 : decode cX5_keep 69 = .ok (.iload 4, 2) := by decide +kernel
theorem dX5_keep_71 : decode cX5_keep 71 = .ok (.invokevirtual 34, 3) := by decide +kernel
theorem dX5_keep_74 : decode cX5_keep 74 = .ok (.iastore, 1) := by decide +kernel
theorem dX5_keep_75 : decode cX5_keep 75 = .ok (.iinc 4 1, 3) := by decide +kernel
theorem dX5_keep_78 : decode cX5_keep 78 = .ok (.goto (-29), 3) := by decide +kernel
theorem dX5_keep_81 : decode cX5_keep 81 = .ok (.aload_n 0, 1) := by decide +kernel
theorem dX5_keep_82 : decode cX5_keep 82 = .ok (.getfield 17, 3) := by decide +kernel
theorem dX5_keep_85 : decode cX5_keep 85 = .ok (.iload_n 3, 1) := by decide +kernel
theorem dX5_keep_86 : decode cX5_keep 86 = .ok (.dup2, 1) := by decide +kernel
theorem dX5_keep_87 : decode cX5_keep 87 = .ok (.iaload, 1) := by decide +kernel
theorem dX5_keep_88 : decode cX5_keep 88 = .ok (.iconst 1, 1) := by decide +kernel
theorem dX5_keep_89 : decode cX5_keep 89 = .ok (.iadd, 1) := by decide +kernel
theorem dX5_keep_90 : decode cX5_keep 90 = .ok (.iastore, 1) := by decide +kernel
theorem dX5_keep_91 : decode cX5_keep 91 = .ok (.iload_n 3, 1) := by decide +kernel
theorem dX5_keep_92 : decode cX5_keep 92 = .ok (.ireturn, 1) := by decide +kernel
theorem dX6_init_0 : decode cX6_init 0 = .ok (.aload_n 0, 1) := by decide +kernel
theorem dX6_init_1 : decode cX6_init 1 = .ok (.invokespecial 3, 3) := by decide +kernel
theorem dX6_init_4 : decode cX6_init 4 = .ok (.aload_n 0, 1) := by decide +kernel
theorem dX6_init_5 : decode cX6_init 5 = .ok (.bipush 40, 2) := by decide +kernel
theorem dX6_init_7 : decode cX6_init 7 = .ok (.newarray .int, 2) := by decide +kernel
theorem dX6_init_9 : decode cX6_init 9 = .ok (.putfield 9, 3) := by decide +kernel
theorem dX6_init_12 : decode cX6_init 12 = .ok (.aload_n 0, 1) := by decide +kernel
theorem dX6_init_13 : decode cX6_init 13 = .ok (.iconst (-1), 1) := by decide +kernel
theorem dX6_init_14 : decode cX6_init 14 = .ok (.putfield 15, 3) := by decide +kernel
theorem dX6_init_17 : decode cX6_init 17 = .ok (.aload_n 0, 1) := by decide +kernel
theorem dX6_init_18 : decode cX6_init 18 = .ok (.iconst 0, 1) := by decide +kernel
theorem dX6_init_19 : decode cX6_init 19 = .ok (.putfield 19, 3) := by decide +kernel
theorem dX6_init_22 : decode cX6_init 22 = .ok (.return_, 1) := by decide +kernel
theorem dX6_isMissing_0 : decode cX6_isMissing 0 = .ok (.aload_n 0, 1) := by decide +kernel
theorem dX6_isMissing_1 : decode cX6_isMissing 1 = .ok (.getfield 15, 3) := by decide +kernel
theorem dX6_isMissing_4 : decode cX6_isMissing 4 = .ok (.iconst (-1), 1) := by decide +kernel
theorem dX6_isMissing_5 : decode cX6_isMissing 5 = .ok (.if_icmp .ne 7, 3) := by decide +kernel
theorem dX6_isMissing_8 : decode cX6_isMissing 8 = .ok (.iconst 1, 1) := by decide +kernel
theorem dX6_isMissing_9 : decode cX6_isMissing 9 = .ok (.goto 4, 3) := by decide +kernel
theorem dX6_isMissing_12 : decode cX6_isMissing 12 = .ok (.iconst 0, 1) := by decide +kernel
theorem dX6_isMissing_13 : decode cX6_isMissing 13 = .ok (.ireturn, 1) := by decide +kernel
theorem dX6_sort_0 : decode cX6_sort 0 = .ok (.aload_n 0, 1) := by decide +kernel
theorem dX6_sort_1 : decode cX6_sort 1 = .ok (.getfield 15, 3) := by decide +kernel
theorem dX6_sort_4 : decode cX6_sort 4 = .ok (.ireturn, 1) := by decide +kernel
theorem dX6_size_0 : decode cX6_size 0 = .ok (.aload_n 0, 1) := by decide +kernel
theorem dX6_size_1 : decode cX6_size 1 = .ok (.getfield 19, 3) := by decide +kernel
theorem dX6_size_4 : decode cX6_size 4 = .ok (.ireturn, 1) := by decide +kernel
theorem dX6_lose_0 : decode cX6_lose 0 = .ok (.aload_n 0, 1) := by decide +kernel
theorem dX6_lose_1 : decode cX6_lose 1 = .ok (.iconst (-1), 1) := by decide +kernel
theorem dX6_lose_2 : decode cX6_lose 2 = .ok (.putfield 15, 3) := by decide +kernel
theorem dX6_lose_5 : decode cX6_lose 5 = .ok (.aload_n 0, 1) := by decide +kernel
theorem dX6_lose_6 : decode cX6_lose 6 = .ok (.iconst 0, 1) := by decide +kernel
theorem dX6_lose_7 : decode cX6_lose 7 = .ok (.putfield 19, 3) := by decide +kernel
theorem dX6_lose_10 : decode cX6_lose 10 = .ok (.return_, 1) := by decide +kernel
theorem dX6_begin_0 : decode cX6_begin 0 = .ok (.aload_n 0, 1) := by decide +kernel
theorem dX6_begin_1 : decode cX6_begin 1 = .ok (.iload_n 1, 1) := by decide +kernel
theorem dX6_begin_2 : decode cX6_begin 2 = .ok (.putfield 15, 3) := by decide +kernel
theorem dX6_begin_5 : decode cX6_begin 5 = .ok (.aload_n 0, 1) := by decide +kernel
theorem dX6_begin_6 : decode cX6_begin 6 = .ok (.iload_n 2, 1) := by decide +kernel
theorem dX6_begin_7 : decode cX6_begin 7 = .ok (.putfield 19, 3) := by decide +kernel
theorem dX6_begin_10 : decode cX6_begin 10 = .ok (.iconst 0, 1) := by decide +kernel
theorem dX6_begin_11 : decode cX6_begin 11 = .ok (.istore_n 3, 1) := by decide +kernel
theorem dX6_begin_12 : decode cX6_begin 12 = .ok (.iload_n 3, 1) := by decide +kernel
theorem dX6_begin_13 : decode cX6_begin 13 = .ok (.iload_n 2, 1) := by decide +kernel
theorem dX6_begin_14 : decode cX6_begin 14 = .ok (.if_icmp .ge 16, 3) := by decide +kernel
theorem dX6_begin_17 : decode cX6_begin 17 = .ok (.aload_n 0, 1) := by decide +kernel
theorem dX6_begin_18 : decode cX6_begin 18 = .ok (.getfield 9, 3) := by decide +kernel
theorem dX6_begin_21 : decode cX6_begin 21 = .ok (.iload_n 3, 1) := by decide +kernel
theorem dX6_begin_22 : decode cX6_begin 22 = .ok (.iconst 0, 1) := by decide +kernel
theorem dX6_begin_23 : decode cX6_begin 23 = .ok (.iastore, 1) := by decide +kernel
theorem dX6_begin_24 : decode cX6_begin 24 = .ok (.iinc 3 1, 3) := by decide +kernel
theorem dX6_begin_27 : decode cX6_begin 27 = .ok (.goto (-15), 3) := by decide +kernel
theorem dX6_begin_30 : decode cX6_begin 30 = .ok (.return_, 1) := by decide +kernel
theorem dX6_put_0 : decode cX6_put 0 = .ok (.aload_n 0, 1) := by decide +kernel
theorem dX6_put_1 : decode cX6_put 1 = .ok (.getfield 9, 3) := by decide +kernel
theorem dX6_put_4 : decode cX6_put 4 = .ok (.iload_n 1, 1) := by decide +kernel
theorem dX6_put_5 : decode cX6_put 5 = .ok (.aload_n 0, 1) := by decide +kernel
theorem dX6_put_6 : decode cX6_put 6 = .ok (.getfield 15, 3) := by decide +kernel
theorem dX6_put_9 : decode cX6_put 9 = .ok (.iconst 1, 1) := by decide +kernel
theorem dX6_put_10 : decode cX6_put 10 = .ok (.if_icmp .ne 11, 3) := by decide +kernel
theorem dX6_put_13 : decode cX6_put 13 = .ok (.iload_n 2, 1) := by decide +kernel
theorem dX6_put_14 : decode cX6_put 14 = .ok (.ifCond .eq 7, 3) := by decide +kernel
theorem dX6_put_17 : decode cX6_put 17 = .ok (.iconst 1, 1) := by decide +kernel
theorem dX6_put_18 : decode cX6_put 18 = .ok (.goto 4, 3) := by decide +kernel
theorem dX6_put_21 : decode cX6_put 21 = .ok (.iload_n 2, 1) := by decide +kernel
theorem dX6_put_22 : decode cX6_put 22 = .ok (.iastore, 1) := by decide +kernel
theorem dX6_put_23 : decode cX6_put 23 = .ok (.return_, 1) := by decide +kernel
theorem dX6_told_0 : decode cX6_told 0 = .ok (.aload_n 0, 1) := by decide +kernel
theorem dX6_told_1 : decode cX6_told 1 = .ok (.getfield 15, 3) := by decide +kernel
theorem dX6_told_4 : decode cX6_told 4 = .ok (.ifCond .ne 20, 3) := by decide +kernel
theorem dX6_told_7 : decode cX6_told 7 = .ok (.aload_n 0, 1) := by decide +kernel
theorem dX6_told_8 : decode cX6_told 8 = .ok (.getfield 9, 3) := by decide +kernel
theorem dX6_told_11 : decode cX6_told 11 = .ok (.iload_n 1, 1) := by decide +kernel
theorem dX6_told_12 : decode cX6_told 12 = .ok (.iaload, 1) := by decide +kernel
theorem dX6_told_13 : decode cX6_told 13 = .ok (.i2d, 1) := by decide +kernel
theorem dX6_told_14 : decode cX6_told 14 = .ok (.ldc2_w 22, 3) := by decide +kernel
theorem dX6_told_17 : decode cX6_told 17 = .ok (.ddiv, 1) := by decide +kernel
theorem dX6_told_18 : decode cX6_told 18 = .ok (.invokestatic 24, 3) := by decide +kernel
theorem dX6_told_21 : decode cX6_told 21 = .ok (.goto 10, 3) := by decide +kernel
theorem dX6_told_24 : decode cX6_told 24 = .ok (.aload_n 0, 1) := by decide +kernel
theorem dX6_told_25 : decode cX6_told 25 = .ok (.getfield 9, 3) := by decide +kernel
theorem dX6_told_28 : decode cX6_told 28 = .ok (.iload_n 1, 1) := by decide +kernel
theorem dX6_told_29 : decode cX6_told 29 = .ok (.iaload, 1) := by decide +kernel
theorem dX6_told_30 : decode cX6_told 30 = .ok (.i2l, 1) := by decide +kernel
theorem dX6_told_31 : decode cX6_told 31 = .ok (.lreturn, 1) := by decide +kernel
theorem dX6_hasRun_0 : decode cX6_hasRun 0 = .ok (.iload_n 1, 1) := by decide +kernel
theorem dX6_hasRun_1 : decode cX6_hasRun 1 = .ok (.ifCond .lt 21, 3) := by decide +kernel
theorem dX6_hasRun_4 : decode cX6_hasRun 4 = .ok (.iload_n 2, 1) := by decide +kernel
theorem dX6_hasRun_5 : decode cX6_hasRun 5 = .ok (.ifCond .lt 17, 3) := by decide +kernel
theorem dX6_hasRun_8 : decode cX6_hasRun 8 = .ok (.iload_n 1, 1) := by decide +kernel
theorem dX6_hasRun_9 : decode cX6_hasRun 9 = .ok (.aload_n 0, 1) := by decide +kernel
theorem dX6_hasRun_10 : decode cX6_hasRun 10 = .ok (.getfield 19, 3) := by decide +kernel
theorem dX6_hasRun_13 : decode cX6_hasRun 13 = .ok (.iload_n 2, 1) := by decide +kernel
theorem dX6_hasRun_14 : decode cX6_hasRun 14 = .ok (.isub, 1) := by decide +kernel
theorem dX6_hasRun_15 : decode cX6_hasRun 15 = .ok (.if_icmp .gt 7, 3) := by decide +kernel
theorem dX6_hasRun_18 : decode cX6_hasRun 18 = .ok (.iconst 1, 1) := by decide +kernel
theorem dX6_hasRun_19 : decode cX6_hasRun 19 = .ok (.goto 4, 3) := by decide +kernel
theorem dX6_hasRun_22 : decode cX6_hasRun 22 = .ok (.iconst 0, 1) := by decide +kernel
theorem dX6_hasRun_23 : decode cX6_hasRun 23 = .ok (.ireturn, 1) := by decide +kernel
theorem dX6_takeRun_0 : decode cX6_takeRun 0 = .ok (.aload_n 2, 1) := by decide +kernel
theorem dX6_takeRun_1 : decode cX6_takeRun 1 = .ok (.getfield 9, 3) := by decide +kernel
theorem dX6_takeRun_4 : decode cX6_takeRun 4 = .ok (.iload_n 3, 1) := by decide +kernel
theorem dX6_takeRun_5 : decode cX6_takeRun 5 = .ok (.aload_n 0, 1) := by decide +kernel
theorem dX6_takeRun_6 : decode cX6_takeRun 6 = .ok (.getfield 9, 3) := by decide +kernel
theorem dX6_takeRun_9 : decode cX6_takeRun 9 = .ok (.iload_n 1, 1) := by decide +kernel
theorem dX6_takeRun_10 : decode cX6_takeRun 10 = .ok (.iload 4, 2) := by decide +kernel
theorem dX6_takeRun_12 : decode cX6_takeRun 12 = .ok (.invokestatic 30, 3) := by decide +kernel
theorem dX6_takeRun_15 : decode cX6_takeRun 15 = .ok (.return_, 1) := by decide +kernel
theorem dX7_init_0 : decode cX7_init 0 = .ok (.aload_n 0, 1) := by decide +kernel
theorem dX7_init_1 : decode cX7_init 1 = .ok (.invokespecial 3, 3) := by decide +kernel
theorem dX7_init_4 : decode cX7_init 4 = .ok (.aload_n 0, 1) := by decide +kernel
theorem dX7_init_5 : decode cX7_init 5 = .ok (.bipush 120, 2) := by decide +kernel
theorem dX7_init_7 : decode cX7_init 7 = .ok (.newarray .int, 2) := by decide +kernel
theorem dX7_init_9 : decode cX7_init 9 = .ok (.putfield 9, 3) := by decide +kernel
theorem dX7_init_12 : decode cX7_init 12 = .ok (.aload_n 0, 1) := by decide +kernel
theorem dX7_init_13 : decode cX7_init 13 = .ok (.iconst 0, 1) := by decide +kernel
theorem dX7_init_14 : decode cX7_init 14 = .ok (.putfield 15, 3) := by decide +kernel
theorem dX7_init_17 : decode cX7_init 17 = .ok (.return_, 1) := by decide +kernel
theorem dX7_size_0 : decode cX7_size 0 = .ok (.aload_n 0, 1) := by decide +kernel
theorem dX7_size_1 : decode cX7_size 1 = .ok (.getfield 15, 3) := by decide +kernel
theorem dX7_size_4 : decode cX7_size 4 = .ok (.ireturn, 1) := by decide +kernel
theorem dX7_isLetter_0 : decode cX7_isLetter 0 = .ok (.iload_n 0, 1) := by decide +kernel
theorem dX7_isLetter_1 : decode cX7_isLetter 1 = .ok (.bipush 97, 2) := by decide +kernel
theorem dX7_isLetter_3 : decode cX7_isLetter 3 = .ok (.if_icmp .lt 13, 3) := by decide +kernel
theorem dX7_isLetter_6 : decode cX7_isLetter 6 = .ok (.iload_n 0, 1) := by decide +kernel
theorem dX7_isLetter_7 : decode cX7_isLetter 7 = .ok (.bipush 122, 2) := by decide +kernel
theorem dX7_isLetter_9 : decode cX7_isLetter 9 = .ok (.if_icmp .gt 7, 3) := by decide +kernel
theorem dX7_isLetter_12 : decode cX7_isLetter 12 = .ok (.iconst 1, 1) := by decide +kernel
theorem dX7_isLetter_13 : decode cX7_isLetter 13 = .ok (.goto 4, 3) := by decide +kernel
theorem dX7_isLetter_16 : decode cX7_isLetter 16 = .ok (.iconst 0, 1) := by decide +kernel
theorem dX7_isLetter_17 : decode cX7_isLetter 17 = .ok (.ireturn, 1) := by decide +kernel
theorem dX7_isDigit_0 : decode cX7_isDigit 0 = .ok (.iload_n 0, 1) := by decide +kernel
theorem dX7_isDigit_1 : decode cX7_isDigit 1 = .ok (.bipush 48, 2) := by decide +kernel
theorem dX7_isDigit_3 : decode cX7_isDigit 3 = .ok (.if_icmp .lt 13, 3) := by decide +kernel
theorem dX7_isDigit_6 : decode cX7_isDigit 6 = .ok (.iload_n 0, 1) := by decide +kernel
theorem dX7_isDigit_7 : decode cX7_isDigit 7 = .ok (.bipush 57, 2) := by decide +kernel
theorem dX7_isDigit_9 : decode cX7_isDigit 9 = .ok (.if_icmp .gt 7, 3) := by decide +kernel
theorem dX7_isDigit_12 : decode cX7_isDigit 12 = .ok (.iconst 1, 1) := by decide +kernel
theorem dX7_isDigit_13 : decode cX7_isDigit 13 = .ok (.goto 4, 3) := by decide +kernel
theorem dX7_isDigit_16 : decode cX7_isDigit 16 = .ok (.iconst 0, 1) := by decide +kernel
theorem dX7_isDigit_17 : decode cX7_isDigit 17 = .ok (.ireturn, 1) := by decide +kernel
theorem dX7_at_0 : decode cX7_at 0 = .ok (.iload_n 1, 1) := by decide +kernel
theorem dX7_at_1 : decode cX7_at 1 = .ok (.ifCond .lt 20, 3) := by decide +kernel
theorem dX7_at_4 : decode cX7_at 4 = .ok (.iload_n 1, 1) := by decide +kernel
theorem dX7_at_5 : decode cX7_at 5 = .ok (.aload_n 0, 1) := by decide +kernel
theorem dX7_at_6 : decode cX7_at 6 = .ok (.getfield 15, 3) := by decide +kernel
theorem dX7_at_9 : decode cX7_at 9 = .ok (.if_icmp .ge 12, 3) := by decide +kernel
theorem dX7_at_12 : decode cX7_at 12 = .ok (.aload_n 0, 1) := by decide +kernel
theorem dX7_at_13 : decode cX7_at 13 = .ok (.getfield 9, 3) := by decide +kernel
theorem dX7_at_16 : decode cX7_at 16 = .ok (.iload_n 1, 1) := by decide +kernel
theorem dX7_at_17 : decode cX7_at 17 = .ok (.iaload, 1) := by decide +kernel
theorem dX7_at_18 : decode cX7_at 18 = .ok (.goto 4, 3) := by decide +kernel
theorem dX7_at_21 : decode cX7_at 21 = .ok (.iconst 0, 1) := by decide +kernel
theorem dX7_at_22 : decode cX7_at 22 = .ok (.ireturn, 1) := by decide +kernel
theorem dX7_behindBlanks_0 : decode cX7_behindBlanks 0 = .ok (.iload_n 1, 1) := by decide +kernel
theorem dX7_behindBlanks_1 : decode cX7_behindBlanks 1 = .ok (.istore_n 2, 1) := by decide +kernel
theorem dX7_behindBlanks_2 : decode cX7_behindBlanks 2 = .ok (.iload_n 2, 1) := by decide +kernel
theorem dX7_behindBlanks_3 : decode cX7_behindBlanks 3 = .ok (.aload_n 0, 1) := by decide +kernel
theorem dX7_behindBlanks_4 : decode cX7_behindBlanks 4 = .ok (.getfield 15, 3) := by decide +kernel
theorem dX7_behindBlanks_7 : decode cX7_behindBlanks 7 = .ok (.if_icmp .ge 19, 3) := by decide +kernel
theorem dX7_behindBlanks_10 : decode cX7_behindBlanks 10 = .ok (.aload_n 0, 1) := by decide +kernel
theorem dX7_behindBlanks_11 : decode cX7_behindBlanks 11 = .ok (.iload_n 2, 1) := by decide +kernel
theorem dX7_behindBlanks_12 : decode cX7_behindBlanks 12 = .ok (.invokevirtual 19, 3) := by decide +kernel
theorem dX7_behindBlanks_15 : decode cX7_behindBlanks 15 = .ok (.bipush 32, 2) := by decide +kernel
theorem dX7_behindBlanks_17 : decode cX7_behindBlanks 17 = .ok (.if_icmp .ne 9, 3) := by decide +kernel
theorem dX7_behindBlanks_20 : decode cX7_behindBlanks 20 = .ok (.iinc 2 1, 3) := by decide +kernel
theorem dX7_behindBlanks_23 : decode cX7_behindBlanks 23 = .ok (.goto (-21), 3) := by decide +kernel
theorem dX7_behindBlanks_26 : decode cX7_behindBlanks 26 = .ok (.iload_n 2, 1) := by decide +kernel
theorem dX7_behindBlanks_27 : decode cX7_behindBlanks 27 = .ok (.ireturn, 1) := by decide +kernel
theorem dX7_behindLetters_0 : decode cX7_behindLetters 0 = .ok (.iload_n 1, 1) := by decide +kernel
theorem dX7_behindLetters_1 : decode cX7_behindLetters 1 = .ok (.istore_n 2, 1) := by decide +kernel
theorem dX7_behindLetters_2 : decode cX7_behindLetters 2 = .ok (.iload_n 2, 1) := by decide +kernel
theorem dX7_behindLetters_3 : decode cX7_behindLetters 3 = .ok (.aload_n 0, 1) := by decide +kernel
theorem dX7_behindLetters_4 : decode cX7_behindLetters 4 = .ok (.getfield 15, 3) := by decide +kernel
theorem dX7_behindLetters_7 : decode cX7_behindLetters 7 = .ok (.if_icmp .ge 20, 3) := by decide +kernel
theorem dX7_behindLetters_10 : decode cX7_behindLetters 10 = .ok (.aload_n 0, 1) := by decide +kernel
theorem dX7_behindLetters_11 : decode cX7_behindLetters 11 = .ok (.iload_n 2, 1) := by decide +kernel
theorem dX7_behindLetters_12 : decode cX7_behindLetters 12 = .ok (.invokevirtual 19, 3) := by decide +kernel
theorem dX7_behindLetters_15 : decode cX7_behindLetters 15 = .ok (.invokestatic 23, 3) := by decide +kernel
theorem dX7_behindLetters_18 : decode cX7_behindLetters 18 = .ok (.ifCond .eq 9, 3) := by decide +kernel
theorem dX7_behindLetters_21 : decode cX7_behindLetters 21 = .ok (.iinc 2 1, 3) := by decide +kernel
theorem dX7_behindLetters_24 : decode cX7_behindLetters 24 = .ok (.goto (-22), 3) := by decide +kernel
theorem dX7_behindLetters_27 : decode cX7_behindLetters 27 = .ok (.iload_n 2, 1) := by decide +kernel
theorem dX7_behindLetters_28 : decode cX7_behindLetters 28 = .ok (.ireturn, 1) := by decide +kernel
theorem dX7_behindDigits_0 : decode cX7_behindDigits 0 = .ok (.iload_n 1, 1) := by decide +kernel
theorem dX7_behindDigits_1 : decode cX7_behindDigits 1 = .ok (.istore_n 2, 1) := by decide +kernel
theorem dX7_behindDigits_2 : decode cX7_behindDigits 2 = .ok (.iload_n 2, 1) := by decide +kernel
theorem dX7_behindDigits_3 : decode cX7_behindDigits 3 = .ok (.aload_n 0, 1) := by decide +kernel
theorem dX7_behindDigits_4 : decode cX7_behindDigits 4 = .ok (.getfield 15, 3) := by decide +kernel
theorem dX7_behindDigits_7 : decode cX7_behindDigits 7 = .ok (.if_icmp .ge 20, 3) := by decide +kernel
theorem dX7_behindDigits_10 : decode cX7_behindDigits 10 = .ok (.aload_n 0, 1) := by decide +kernel
theorem dX7_behindDigits_11 : decode cX7_behindDigits 11 = .ok (.iload_n 2, 1) := by decide +kernel
theorem dX7_behindDigits_12 : decode cX7_behindDigits 12 = .ok (.invokevirtual 19, 3) := by decide +kernel
theorem dX7_behindDigits_15 : decode cX7_behindDigits 15 = .ok (.invokestatic 27, 3) := by decide +kernel
theorem dX7_behindDigits_18 : decode cX7_behindDigits 18 = .ok (.ifCond .eq 9, 3) := by decide +kernel
theorem dX7_behindDigits_21 : decode cX7_behindDigits 21 = .ok (.iinc 2 1, 3) := by decide +kernel
theorem dX7_behindDigits_24 : decode cX7_behindDigits 24 = .ok (.goto (-22), 3) := by decide +kernel
theorem dX7_behindDigits_27 : decode cX7_behindDigits 27 = .ok (.iload_n 2, 1) := by decide +kernel
theorem dX7_behindDigits_28 : decode cX7_behindDigits 28 = .ok (.ireturn, 1) := by decide +kernel
theorem dX7_numberBetween_0 : decode cX7_numberBetween 0 = .ok (.iconst 0, 1) := by decide +kernel
theorem dX7_numberBetween_1 : decode cX7_numberBetween 1 = .ok (.istore_n 3, 1) := by decide +kernel
theorem dX7_numberBetween_2 : decode cX7_numberBetween 2 = .ok (.iload_n 1, 1) := by decide +kernel
theorem dX7_numberBetween_3 : decode cX7_numberBetween 3 = .ok (.istore 4, 2) := by decide +kernel
theorem dX7_numberBetween_5 : decode cX7_numberBetween 5 = .ok (.iload 4, 2) := by decide +kernel
theorem dX7_numberBetween_7 : decode cX7_numberBetween 7 = .ok (.iload_n 2, 1) := by decide +kernel
theorem dX7_numberBetween_8 : decode cX7_numberBetween 8 = .ok (.if_icmp .ge 30, 3) := by decide +kernel
theorem dX7_numberBetween_11 : decode cX7_numberBetween 11 = .ok (.sipush 1000, 3) := by decide +kernel
theorem dX7_numberBetween_14 : decode cX7_numberBetween 14 = .ok (.bipush 10, 2) := by decide +kernel
theorem dX7_numberBetween_16 : decode cX7_numberBetween 16 = .ok (.iload_n 3, 1) := by decide +kernel
theorem dX7_numberBetween_17 : decode cX7_numberBetween 17 = .ok (.imul, 1) := by decide +kernel
theorem dX7_numberBetween_18 : decode cX7_numberBetween 18 = .ok (.aload_n 0, 1) := by decide +kernel
theorem dX7_numberBetween_19 : decode cX7_numberBetween 19 = .ok (.iload 4, 2) := by decide +kernel
theorem dX7_numberBetween_21 : decode cX7_numberBetween 21 = .ok (.invokevirtual 19, 3) := by decide +kernel
theorem dX7_numberBetween_24 : decode cX7_numberBetween 24 = .ok (.iadd, 1) := by decide +kernel
theorem dX7_numberBetween_25 : decode cX7_numberBetween 25 = .ok (.bipush 48, 2) := by decide +kernel
theorem dX7_numberBetween_27 : decode cX7_numberBetween 27 = .ok (.isub, 1) := by decide +kernel
theorem dX7_numberBetween_28 : decode cX7_numberBetween 28 = .ok (.invokestatic 30, 3) := by decide +kernel
theorem dX7_numberBetween_31 : decode cX7_numberBetween 31 = .ok (.istore_n 3, 1) := by decide +kernel
theorem dX7_numberBetween_32 : decode cX7_numberBetween 32 = .ok (.iinc 4 1, 3) := by decide +kernel
theorem dX7_numberBetween_35 : decode cX7_numberBetween 35 = .ok (.goto (-30), 3) := by decide +kernel
theorem dX7_numberBetween_38 : decode cX7_numberBetween 38 = .ok (.iload_n 3, 1) := by decide +kernel
theorem dX7_numberBetween_39 : decode cX7_numberBetween 39 = .ok (.ireturn, 1) := by decide +kernel
theorem dX7_hasBetween_0 : decode cX7_hasBetween 0 = .ok (.iload_n 2, 1) := by decide +kernel
theorem dX7_hasBetween_1 : decode cX7_hasBetween 1 = .ok (.iload_n 1, 1) := by decide +kernel
theorem dX7_hasBetween_2 : decode cX7_hasBetween 2 = .ok (.isub, 1) := by decide +kernel
theorem dX7_hasBetween_3 : decode cX7_hasBetween 3 = .ok (.aload_n 3, 1) := by decide +kernel
theorem dX7_hasBetween_4 : decode cX7_hasBetween 4 = .ok (.invokevirtual 36, 3) := by decide +kernel
theorem dX7_hasBetween_7 : decode cX7_hasBetween 7 = .ok (.if_icmp .eq 5, 3) := by decide +kernel
theorem dX7_hasBetween_10 : decode cX7_hasBetween 10 = .ok (.iconst 0, 1) := by decide +kernel
theorem dX7_hasBetween_11 : decode cX7_hasBetween 11 = .ok (.ireturn, 1) := by decide +kernel
theorem dX7_hasBetween_12 : decode cX7_hasBetween 12 = .ok (.iconst 0, 1) := by decide +kernel
theorem dX7_hasBetween_13 : decode cX7_hasBetween 13 = .ok (.istore 4, 2) := by decide +kernel
theorem dX7_hasBetween_15 : decode cX7_hasBetween 15 = .ok (.iload 4, 2) := by decide +kernel
theorem dX7_hasBetween_17 : decode cX7_hasBetween 17 = .ok (.aload_n 3, 1) := by decide +kernel
theorem dX7_hasBetween_18 : decode cX7_hasBetween 18 = .ok (.invokevirtual 36, 3) := by decide +kernel
theorem dX7_hasBetween_21 : decode cX7_hasBetween 21 = .ok (.if_icmp .ge 28, 3) := by decide +kernel
theorem dX7_hasBetween_24 : decode cX7_hasBetween 24 = .ok (.aload_n 0, 1) := by decide +kernel
theorem dX7_hasBetween_25 : decode cX7_hasBetween 25 = .ok (.iload_n 1, 1) := by decide +kernel
theorem dX7_hasBetween_26 : decode cX7_hasBetween 26 = .ok (.iload 4, 2) := by decide +kernel
theorem dX7_hasBetween_28 : decode cX7_hasBetween 28 = .ok (.iadd, 1) := by decide +kernel
theorem dX7_hasBetween_29 : decode cX7_hasBetween 29 = .ok (.invokevirtual 19, 3) := by decide +kernel
theorem dX7_hasBetween_32 : decode cX7_hasBetween 32 = .ok (.aload_n 3, 1) := by decide +kernel
theorem dX7_hasBetween_33 : decode cX7_hasBetween 33 = .ok (.iload 4, 2) := by decide +kernel
theorem dX7_hasBetween_35 : decode cX7_hasBetween 35 = .ok (.invokevirtual 42, 3) := by decide +kernel
theorem dX7_hasBetween_38 : decode cX7_hasBetween 38 = .ok (.if_icmp .eq 5, 3) := by decide +kernel
theorem dX7_hasBetween_41 : decode cX7_hasBetween 41 = .ok (.iconst 0, 1) := by decide +kernel
theorem dX7_hasBetween_42 : decode cX7_hasBetween 42 = .ok (.ireturn, 1) := by decide +kernel
theorem dX7_hasBetween_43 : decode cX7_hasBetween 43 = .ok (.iinc 4 1, 3) := by decide +kernel
theorem dX7_hasBetween_46 : decode cX7_hasBetween 46 = .ok (.goto (-31), 3) := by decide +kernel
theorem dX7_hasBetween_49 : decode cX7_hasBetween 49 = .ok (.iconst 1, 1) := by decide +kernel
theorem dX7_hasBetween_50 : decode cX7_hasBetween 50 = .ok (.ireturn, 1) := by decide +kernel
theorem dX7_append_0 : decode cX7_append 0 = .ok (.aload_n 0, 1) := by decide +kernel
theorem dX7_append_1 : decode cX7_append 1 = .ok (.getfield 15, 3) := by decide +kernel
theorem dX7_append_4 : decode cX7_append 4 = .ok (.bipush 120, 2) := by decide +kernel
theorem dX7_append_6 : decode cX7_append 6 = .ok (.if_icmp .lt 4, 3) := by decide +kernel
theorem dX7_append_9 : decode cX7_append 9 = .ok (.return_, 1) := by decide +kernel
theorem dX7_append_10 : decode cX7_append 10 = .ok (.aload_n 0, 1) := by decide +kernel
theorem dX7_append_11 : decode cX7_append 11 = .ok (.getfield 9, 3) := by decide +kernel
theorem dX7_append_14 : decode cX7_append 14 = .ok (.aload_n 0, 1) := by decide +kernel
theorem dX7_append_15 : decode cX7_append 15 = .ok (.getfield 15, 3) := by decide +kernel
theorem dX7_append_18 : decode cX7_append 18 = .ok (.iload_n 1, 1) := by decide +kernel
theorem dX7_append_19 : decode cX7_append 19 = .ok (.iastore, 1) := by decide +kernel
theorem dX7_append_20 : decode cX7_append 20 = .ok (.aload_n 0, 1) := by decide +kernel
theorem dX7_append_21 : decode cX7_append 21 = .ok (.dup, 1) := by decide +kernel
theorem dX7_append_22 : decode cX7_append 22 = .ok (.getfield 15, 3) := by decide +kernel
theorem dX7_append_25 : decode cX7_append 25 = .ok (.iconst 1, 1) := by decide +kernel
theorem dX7_append_26 : decode cX7_append 26 = .ok (.iadd, 1) := by decide +kernel
theorem dX7_append_27 : decode cX7_append 27 = .ok (.putfield 15, 3) := by decide +kernel
theorem dX7_append_30 : decode cX7_append 30 = .ok (.return_, 1) := by decide +kernel
theorem dX7_empty_0 : decode cX7_empty 0 = .ok (.aload_n 0, 1) := by decide +kernel
theorem dX7_empty_1 : decode cX7_empty 1 = .ok (.iconst 0, 1) := by decide +kernel
theorem dX7_empty_2 : decode cX7_empty 2 = .ok (.putfield 15, 3) := by decide +kernel
theorem dX7_empty_5 : decode cX7_empty 5 = .ok (.return_, 1) := by decide +kernel
theorem dX8_init_0 : decode cX8_init 0 = .ok (.aload_n 0, 1) := by decide +kernel
theorem dX8_init_1 : decode cX8_init 1 = .ok (.invokespecial 3, 3) := by decide +kernel
theorem dX8_init_4 : decode cX8_init 4 = .ok (.aload_n 0, 1) := by decide +kernel
theorem dX8_init_5 : decode cX8_init 5 = .ok (.bipush 121, 2) := by decide +kernel
theorem dX8_init_7 : decode cX8_init 7 = .ok (.newarray .int, 2) := by decide +kernel
theorem dX8_init_9 : decode cX8_init 9 = .ok (.putfield 11, 3) := by decide +kernel
theorem dX8_init_12 : decode cX8_init 12 = .ok (.aload_n 0, 1) := by decide +kernel
theorem dX8_init_13 : decode cX8_init 13 = .ok (.bipush 121, 2) := by decide +kernel
theorem dX8_init_15 : decode cX8_init 15 = .ok (.newarray .int, 2) := by decide +kernel
theorem dX8_init_17 : decode cX8_init 17 = .ok (.putfield 15, 3) := by decide +kernel
theorem dX8_init_20 : decode cX8_init 20 = .ok (.aload_n 0, 1) := by decide +kernel
theorem dX8_init_21 : decode cX8_init 21 = .ok (.bipush 121, 2) := by decide +kernel
theorem dX8_init_23 : decode cX8_init 23 = .ok (.newarray .int, 2) := by decide +kernel
theorem dX8_init_25 : decode cX8_init 25 = .ok (.putfield 18, 3) := by decide +kernel
theorem dX8_init_28 : decode cX8_init 28 = .ok (.aload_n 0, 1) := by decide +kernel
theorem dX8_init_29 : decode cX8_init 29 = .ok (.iconst 0, 1) := by decide +kernel
theorem dX8_init_30 : decode cX8_init 30 = .ok (.putfield 21, 3) := by decide +kernel
theorem dX8_init_33 : decode cX8_init 33 = .ok (.return_, 1) := by decide +kernel
theorem dX8_kindAt_0 : decode cX8_kindAt 0 = .ok (.iload_n 1, 1) := by decide +kernel
theorem dX8_kindAt_1 : decode cX8_kindAt 1 = .ok (.ifCond .lt 20, 3) := by decide +kernel
theorem dX8_kindAt_4 : decode cX8_kindAt 4 = .ok (.iload_n 1, 1) := by decide +kernel
theorem dX8_kindAt_5 : decode cX8_kindAt 5 = .ok (.aload_n 0, 1) := by decide +kernel
theorem dX8_kindAt_6 : decode cX8_kindAt 6 = .ok (.getfield 21, 3) := by decide +kernel
theorem dX8_kindAt_9 : decode cX8_kindAt 9 = .ok (.if_icmp .ge 12, 3) := by decide +kernel
theorem dX8_kindAt_12 : decode cX8_kindAt 12 = .ok (.aload_n 0, 1) := by decide +kernel
theorem dX8_kindAt_13 : decode cX8_kindAt 13 = .ok (.getfield 11, 3) := by decide +kernel
theorem dX8_kindAt_16 : decode cX8_kindAt 16 = .ok (.iload_n 1, 1) := by decide +kernel
theorem dX8_kindAt_17 : decode cX8_kindAt 17 = .ok (.iaload, 1) := by decide +kernel
theorem dX8_kindAt_18 : decode cX8_kindAt 18 = .ok (.goto 4, 3) := by decide +kernel
theorem dX8_kindAt_21 : decode cX8_kindAt 21 = .ok (.iconst 0, 1) := by decide +kernel
theorem dX8_kindAt_22 : decode cX8_kindAt 22 = .ok (.ireturn, 1) := by decide +kernel
theorem dX8_startAt_0 : decode cX8_startAt 0 = .ok (.iload_n 1, 1) := by decide +kernel
theorem dX8_startAt_1 : decode cX8_startAt 1 = .ok (.ifCond .lt 20, 3) := by decide +kernel
theorem dX8_startAt_4 : decode cX8_startAt 4 = .ok (.iload_n 1, 1) := by decide +kernel
theorem dX8_startAt_5 : decode cX8_startAt 5 = .ok (.aload_n 0, 1) := by decide +kernel
theorem dX8_startAt_6 : decode cX8_startAt 6 = .ok (.getfield 21, 3) := by decide +kernel
theorem dX8_startAt_9 : decode cX8_startAt 9 = .ok (.if_icmp .ge 12, 3) := by decide +kernel
theorem dX8_startAt_12 : decode cX8_startAt 12 = .ok (.aload_n 0, 1) := by decide +kernel
theorem dX8_startAt_13 : decode cX8_startAt 13 = .ok (.getfield 15, 3) := by decide +kernel
theorem dX8_startAt_16 : decode cX8_startAt 16 = .ok (.iload_n 1, 1) := by decide +kernel
theorem dX8_startAt_17 : decode cX8_startAt 17 = .ok (.iaload, 1) := by decide +kernel
theorem dX8_startAt_18 : decode cX8_startAt 18 = .ok (.goto 4, 3) := by decide +kernel
theorem dX8_startAt_21 : decode cX8_startAt 21 = .ok (.iconst 0, 1) := by decide +kernel
theorem dX8_startAt_22 : decode cX8_startAt 22 = .ok (.ireturn, 1) := by decide +kernel
theorem dX8_valueAt_0 : decode cX8_valueAt 0 = .ok (.iload_n 1, 1) := by decide +kernel
theorem dX8_valueAt_1 : decode cX8_valueAt 1 = .ok (.ifCond .lt 20, 3) := by decide +kernel
theorem dX8_valueAt_4 : decode cX8_valueAt 4 = .ok (.iload_n 1, 1) := by decide +kernel
theorem dX8_valueAt_5 : decode cX8_valueAt 5 = .ok (.aload_n 0, 1) := by decide +kernel
theorem dX8_valueAt_6 : decode cX8_valueAt 6 = .ok (.getfield 21, 3) := by decide +kernel
theorem dX8_valueAt_9 : decode cX8_valueAt 9 = .ok (.if_icmp .ge 12, 3) := by decide +kernel
theorem dX8_valueAt_12 : decode cX8_valueAt 12 = .ok (.aload_n 0, 1) := by decide +kernel
theorem dX8_valueAt_13 : decode cX8_valueAt 13 = .ok (.getfield 18, 3) := by decide +kernel
theorem dX8_valueAt_16 : decode cX8_valueAt 16 = .ok (.iload_n 1, 1) := by decide +kernel
theorem dX8_valueAt_17 : decode cX8_valueAt 17 = .ok (.iaload, 1) := by decide +kernel
theorem dX8_valueAt_18 : decode cX8_valueAt 18 = .ok (.goto 4, 3) := by decide +kernel
theorem dX8_valueAt_21 : decode cX8_valueAt 21 = .ok (.iconst 0, 1) := by decide +kernel
theorem dX8_valueAt_22 : decode cX8_valueAt 22 = .ok (.ireturn, 1) := by decide +kernel
theorem dX8_cut_0 : decode cX8_cut 0 = .ok (.aload_n 0, 1) := by decide +kernel
theorem dX8_cut_1 : decode cX8_cut 1 = .ok (.iconst 0, 1) := by decide +kernel
theorem dX8_cut_2 : decode cX8_cut 2 = .ok (.putfield 21, 3) := by decide +kernel
theorem dX8_cut_5 : decode cX8_cut 5 = .ok (.aload_n 1, 1) := by decide +kernel
theorem dX8_cut_6 : decode cX8_cut 6 = .ok (.iconst 0, 1) := by decide +kernel
theorem dX8_cut_7 : decode cX8_cut 7 = .ok (.invokevirtual 25, 3) := by decide +kernel
theorem dX8_cut_10 : decode cX8_cut 10 = .ok (.istore_n 2, 1) := by decide +kernel
theorem dX8_cut_11 : decode cX8_cut 11 = .ok (.iconst 0, 1) := by decide +kernel
theorem dX8_cut_12 : decode cX8_cut 12 = .ok (.istore_n 3, 1) := by decide +kernel
theorem dX8_cut_13 : decode cX8_cut 13 = .ok (.iload_n 3, 1) := by decide +kernel
theorem dX8_cut_14 : decode cX8_cut 14 = .ok (.bipush 120, 2) := by decide +kernel
theorem dX8_cut_16 : decode cX8_cut 16 = .ok (.if_icmp .ge 118, 3) := by decide +kernel
theorem dX8_cut_19 : decode cX8_cut 19 = .ok (.iload_n 2, 1) := by decide +kernel
theorem dX8_cut_20 : decode cX8_cut 20 = .ok (.aload_n 1, 1) := by decide +kernel
theorem dX8_cut_21 : decode cX8_cut 21 = .ok (.invokevirtual 31, 3) := by decide +kernel
theorem dX8_cut_24 : decode cX8_cut 24 = .ok (.if_icmp .ge 110, 3) := by decide +kernel
theorem dX8_cut_27 : decode cX8_cut 27 = .ok (.iload_n 2, 1) := by decide +kernel
theorem dX8_cut_28 : decode cX8_cut 28 = .ok (.iconst 1, 1) := by decide +kernel
theorem dX8_cut_29 : decode cX8_cut 29 = .ok (.iadd, 1) := by decide +kernel
theorem dX8_cut_30 : decode cX8_cut 30 = .ok (.istore 4, 2) := by decide +kernel
theorem dX8_cut_32 : decode cX8_cut 32 = .ok (.aload_n 1, 1) := by decide +kernel
theorem dX8_cut_33 : decode cX8_cut 33 = .ok (.iload_n 2, 1) := by decide +kernel
theorem dX8_cut_34 : decode cX8_cut 34 = .ok (.invokevirtual 34, 3) := by decide +kernel
theorem dX8_cut_37 : decode cX8_cut 37 = .ok (.invokestatic 37, 3) := by decide +kernel
theorem dX8_cut_40 : decode cX8_cut 40 = .ok (.ifCond .eq 26, 3) := by decide +kernel
theorem dX8_cut_43 : decode cX8_cut 43 = .ok (.aload_n 1, 1) := by decide +kernel
theorem dX8_cut_44 : decode cX8_cut 44 = .ok (.iload_n 2, 1) := by decide +kernel
theorem dX8_cut_45 : decode cX8_cut 45 = .ok (.invokevirtual 41, 3) := by decide +kernel
theorem dX8_cut_48 : decode cX8_cut 48 = .ok (.istore 4, 2) := by decide +kernel
theorem dX8_cut_50 : decode cX8_cut 50 = .ok (.aload_n 0, 1) := by decide +kernel
theorem dX8_cut_51 : decode cX8_cut 51 = .ok (.iconst 1, 1) := by decide +kernel
theorem dX8_cut_52 : decode cX8_cut 52 = .ok (.iload_n 2, 1) := by decide +kernel
theorem dX8_cut_53 : decode cX8_cut 53 = .ok (.aload_n 1, 1) := by decide +kernel
theorem dX8_cut_54 : decode cX8_cut 54 = .ok (.iload_n 2, 1) := by decide +kernel
theorem dX8_cut_55 : decode cX8_cut 55 = .ok (.iload 4, 2) := by decide +kernel
theorem dX8_cut_57 : decode cX8_cut 57 = .ok (.invokestatic 44, 3) := by decide +kernel
theorem dX8_cut_60 : decode cX8_cut 60 = .ok (.invokevirtual 48, 3) := by decide +kernel
theorem dX8_cut_63 : decode cX8_cut 63 = .ok (.goto 58, 3) := by decide +kernel
theorem dX8_cut_66 : decode cX8_cut 66 = .ok (.aload_n 1, 1) := by decide +kernel
theorem dX8_cut_67 : decode cX8_cut 67 = .ok (.iload_n 2, 1) := by decide +kernel
theorem dX8_cut_68 : decode cX8_cut 68 = .ok (.invokevirtual 34, 3) := by decide +kernel
theorem dX8_cut_71 : decode cX8_cut 71 = .ok (.invokestatic 52, 3) := by decide +kernel
theorem dX8_cut_74 : decode cX8_cut 74 = .ok (.ifCond .eq 26, 3) := by decide +kernel
theorem dX8_cut_77 : decode cX8_cut 77 = .ok (.aload_n 1, 1) := by decide +kernel
theorem dX8_cut_78 : decode cX8_cut 78 = .ok (.iload_n 2, 1) := by decide +kernel
theorem dX8_cut_79 : decode cX8_cut 79 = .ok (.invokevirtual 55, 3) := by decide +kernel
theorem dX8_cut_82 : decode cX8_cut 82 = .ok (.istore 4, 2) := by decide +kernel
theorem dX8_cut_84 : decode cX8_cut 84 = .ok (.aload_n 0, 1) := by decide +kernel
theorem dX8_cut_85 : decode cX8_cut 85 = .ok (.iconst 2, 1) := by decide +kernel
theorem dX8_cut_86 : decode cX8_cut 86 = .ok (.iload_n 2, 1) := by decide +kernel
theorem dX8_cut_87 : decode cX8_cut 87 = .ok (.aload_n 1, 1) := by decide +kernel
theorem dX8_cut_88 : decode cX8_cut 88 = .ok (.iload_n 2, 1) := by decide +kernel
theorem dX8_cut_89 : decode cX8_cut 89 = .ok (.iload 4, 2) := by decide +kernel
theorem dX8_cut_91 : decode cX8_cut 91 = .ok (.invokevirtual 58, 3) := by decide +kernel
theorem dX8_cut_94 : decode cX8_cut 94 = .ok (.invokevirtual 48, 3) := by decide +kernel
theorem dX8_cut_97 : decode cX8_cut 97 = .ok (.goto 24, 3) := by decide +kernel
theorem dX8_cut_100 : decode cX8_cut 100 = .ok (.aload_n 0, 1) := by decide +kernel
theorem dX8_cut_101 : decode cX8_cut 101 = .ok (.aload_n 1, 1) := by decide +kernel
theorem dX8_cut_102 : decode cX8_cut 102 = .ok (.iload_n 2, 1) := by decide +kernel
theorem dX8_cut_103 : decode cX8_cut 103 = .ok (.invokevirtual 34, 3) := by decide +kernel
theorem dX8_cut_106 : decode cX8_cut 106 = .ok (.bipush 59, 2) := by decide +kernel
theorem dX8_cut_108 : decode cX8_cut 108 = .ok (.if_icmp .ne 7, 3) := by decide +kernel
theorem dX8_cut_111 : decode cX8_cut 111 = .ok (.iconst 3, 1) := by decide +kernel
theorem dX8_cut_112 : decode cX8_cut 112 = .ok (.goto 4, 3) := by decide +kernel
theorem dX8_cut_115 : decode cX8_cut 115 = .ok (.iconst 4, 1) := by decide +kernel
theorem dX8_cut_116 : decode cX8_cut 116 = .ok (.iload_n 2, 1) := by decide +kernel
theorem dX8_cut_117 : decode cX8_cut 117 = .ok (.iconst 0, 1) := by decide +kernel
theorem dX8_cut_118 : decode cX8_cut 118 = .ok (.invokevirtual 48, 3) := by decide +kernel
theorem dX8_cut_121 : decode cX8_cut 121 = .ok (.aload_n 1, 1) := by decide +kernel
theorem dX8_cut_122 : decode cX8_cut 122 = .ok (.iload 4, 2) := by decide +kernel
theorem dX8_cut_124 : decode cX8_cut 124 = .ok (.invokevirtual 25, 3) := by decide +kernel
theorem dX8_cut_127 : decode cX8_cut 127 = .ok (.istore_n 2, 1) := by decide +kernel
theorem dX8_cut_128 : decode cX8_cut 128 = .ok (.iinc 3 1, 3) := by decide +kernel
theorem dX8_cut_131 : decode cX8_cut 131 = .ok (.goto (-118), 3) := by decide +kernel
theorem dX8_cut_134 : decode cX8_cut 134 = .ok (.aload_n 0, 1) := by decide +kernel
theorem dX8_cut_135 : decode cX8_cut 135 = .ok (.iconst 0, 1) := by decide +kernel
theorem dX8_cut_136 : decode cX8_cut 136 = .ok (.aload_n 1, 1) := by decide +kernel
theorem dX8_cut_137 : decode cX8_cut 137 = .ok (.invokevirtual 31, 3) := by decide +kernel
theorem dX8_cut_140 : decode cX8_cut 140 = .ok (.iconst 0, 1) := by decide +kernel
theorem dX8_cut_141 : decode cX8_cut 141 = .ok (.invokevirtual 48, 3) := by decide +kernel
theorem dX8_cut_144 : decode cX8_cut 144 = .ok (.return_, 1) := by decide +kernel
theorem dX8_add_0 : decode cX8_add 0 = .ok (.aload_n 0, 1) := by decide +kernel
theorem dX8_add_1 : decode cX8_add 1 = .ok (.getfield 21, 3) := by decide +kernel
theorem dX8_add_4 : decode cX8_add 4 = .ok (.bipush 121, 2) := by decide +kernel
theorem dX8_add_6 : decode cX8_add 6 = .ok (.if_icmp .lt 4, 3) := by decide +kernel
theorem dX8_add_9 : decode cX8_add 9 = .ok (.return_, 1) := by decide +kernel
theorem dX8_add_10 : decode cX8_add 10 = .ok (.aload_n 0, 1) := by decide +kernel
theorem dX8_add_11 : decode cX8_add 11 = .ok (.getfield 11, 3) := by decide +kernel
theorem dX8_add_14 : decode cX8_add 14 = .ok (.aload_n 0, 1) := by decide +kernel
theorem dX8_add_15 : decode cX8_add 15 = .ok (.getfield 21, 3) := by decide +kernel
theorem dX8_add_18 : decode cX8_add 18 = .ok (.iload_n 1, 1) := by decide +kernel
theorem dX8_add_19 : decode cX8_add 19 = .ok (.iastore, 1) := by decide +kernel
theorem dX8_add_20 : decode cX8_add 20 = .ok (.aload_n 0, 1) := by decide +kernel
theorem dX8_add_21 : decode cX8_add 21 = .ok (.getfield 15, 3) := by decide +kernel
theorem dX8_add_24 : decode cX8_add 24 = .ok (.aload_n 0, 1) := by decide +kernel
theorem dX8_add_25 : decode cX8_add 25 = .ok (.getfield 21, 3) := by decide +kernel
theorem dX8_add_28 : decode cX8_add 28 = .ok (.iload_n 2, 1) := by decide +kernel
theorem dX8_add_29 : decode cX8_add 29 = .ok (.iastore, 1) := by decide +kernel
theorem dX8_add_30 : decode cX8_add 30 = .ok (.aload_n 0, 1) := by decide +kernel
theorem dX8_add_31 : decode cX8_add 31 = .ok (.getfield 18, 3) := by decide +kernel
theorem dX8_add_34 : decode cX8_add 34 = .ok (.aload_n 0, 1) := by decide +kernel
theorem dX8_add_35 : decode cX8_add 35 = .ok (.getfield 21, 3) := by decide +kernel
theorem dX8_add_38 : decode cX8_add 38 = .ok (.iload_n 3, 1) := by decide +kernel
theorem dX8_add_39 : decode cX8_add 39 = .ok (.iastore, 1) := by decide +kernel
theorem dX8_add_40 : decode cX8_add 40 = .ok (.aload_n 0, 1) := by decide +kernel
theorem dX8_add_41 : decode cX8_add 41 = .ok (.dup, 1) := by decide +kernel
theorem dX8_add_42 : decode cX8_add 42 = .ok (.getfield 21, 3) := by decide +kernel
theorem dX8_add_45 : decode cX8_add 45 = .ok (.iconst 1, 1) := by decide +kernel
theorem dX8_add_46 : decode cX8_add 46 = .ok (.iadd, 1) := by decide +kernel
theorem dX8_add_47 : decode cX8_add 47 = .ok (.putfield 21, 3) := by decide +kernel
theorem dX8_add_50 : decode cX8_add 50 = .ok (.return_, 1) := by decide +kernel
theorem dX8_wordBetween_0 : decode cX8_wordBetween 0 = .ok (.iconst 0, 1) := by decide +kernel
theorem dX8_wordBetween_1 : decode cX8_wordBetween 1 = .ok (.istore_n 3, 1) := by decide +kernel
theorem dX8_wordBetween_2 : decode cX8_wordBetween 2 = .ok (.iload_n 3, 1) := by decide +kernel
theorem dX8_wordBetween_3 : decode cX8_wordBetween 3 = .ok (.bipush 16, 2) := by decide +kernel
theorem dX8_wordBetween_5 : decode cX8_wordBetween 5 = .ok (.if_icmp .gt 24, 3) := by decide +kernel
theorem dX8_wordBetween_8 : decode cX8_wordBetween 8 = .ok (.aload_n 0, 1) := by decide +kernel
theorem dX8_wordBetween_9 : decode cX8_wordBetween 9 = .ok (.iload_n 1, 1) := by decide +kernel
theorem dX8_wordBetween_10 : decode cX8_wordBetween 10 = .ok (.iload_n 2, 1) := by decide +kernel
theorem dX8_wordBetween_11 : decode cX8_wordBetween 11 = .ok (.iload_n 3, 1) := by decide +kernel
theorem dX8_wordBetween_12 : decode cX8_wordBetween 12 = .ok (.invokestatic 62, 3) := by decide +kernel
theorem dX8_wordBetween_15 : decode cX8_wordBetween 15 = .ok (.invokevirtual 66, 3) := by decide +kernel
theorem dX8_wordBetween_18 : decode cX8_wordBetween 18 = .ok (.ifCond .eq 5, 3) := by decide +kernel
theorem dX8_wordBetween_21 : decode cX8_wordBetween 21 = .ok (.iload_n 3, 1) := by decide +kernel
theorem dX8_wordBetween_22 : decode cX8_wordBetween 22 = .ok (.ireturn, 1) := by decide +kernel
theorem dX8_wordBetween_23 : decode cX8_wordBetween 23 = .ok (.iinc 3 1, 3) := by decide +kernel
theorem dX8_wordBetween_26 : decode cX8_wordBetween 26 = .ok (.goto (-24), 3) := by decide +kernel
theorem dX8_wordBetween_29 : decode cX8_wordBetween 29 = .ok (.iconst (-1), 1) := by decide +kernel
theorem dX8_wordBetween_30 : decode cX8_wordBetween 30 = .ok (.ireturn, 1) := by decide +kernel
theorem dX8_spelled_0 : decode cX8_spelled 0 = .ok (.iload_n 0, 1) := by decide +kernel
theorem dX8_spelled_1 : decode cX8_spelled 1 = .ok (.tableswitch 127 0 15 #[79, 82, 85, 88, 91, 94, 97, 100, 103, 106, 109, 112, 115, 118, 121, 124], 79) := by decide +kernel
theorem dX8_spelled_80 : decode cX8_spelled 80 = .ok (.ldc 70, 2) := by decide +kernel
theorem dX8_spelled_82 : decode cX8_spelled 82 = .ok (.areturn, 1) := by decide +kernel
theorem dX8_spelled_83 : decode cX8_spelled 83 = .ok (.ldc 72, 2) := by decide +kernel
theorem dX8_spelled_85 : decode cX8_spelled 85 = .ok (.areturn, 1) := by decide +kernel
theorem dX8_spelled_86 : decode cX8_spelled 86 = .ok (.ldc 74, 2) := by decide +kernel
theorem dX8_spelled_88 : decode cX8_spelled 88 = .ok (.areturn, 1) := by decide +kernel
theorem dX8_spelled_89 : decode cX8_spelled 89 = .ok (.ldc 76, 2) := by decide +kernel
theorem dX8_spelled_91 : decode cX8_spelled 91 = .ok (.areturn, 1) := by decide +kernel
theorem dX8_spelled_92 : decode cX8_spelled 92 = .ok (.ldc 78, 2) := by decide +kernel
theorem dX8_spelled_94 : decode cX8_spelled 94 = .ok (.areturn, 1) := by decide +kernel
theorem dX8_spelled_95 : decode cX8_spelled 95 = .ok (.ldc 80, 2) := by decide +kernel
theorem dX8_spelled_97 : decode cX8_spelled 97 = .ok (.areturn, 1) := by decide +kernel
theorem dX8_spelled_98 : decode cX8_spelled 98 = .ok (.ldc 82, 2) := by decide +kernel
theorem dX8_spelled_100 : decode cX8_spelled 100 = .ok (.areturn, 1) := by decide +kernel
theorem dX8_spelled_101 : decode cX8_spelled 101 = .ok (.ldc 84, 2) := by decide +kernel
theorem dX8_spelled_103 : decode cX8_spelled 103 = .ok (.areturn, 1) := by decide +kernel
theorem dX8_spelled_104 : decode cX8_spelled 104 = .ok (.ldc 86, 2) := by decide +kernel
theorem dX8_spelled_106 : decode cX8_spelled 106 = .ok (.areturn, 1) := by decide +kernel
theorem dX8_spelled_107 : decode cX8_spelled 107 = .ok (.ldc 88, 2) := by decide +kernel
theorem dX8_spelled_109 : decode cX8_spelled 109 = .ok (.areturn, 1) := by decide +kernel
theorem dX8_spelled_110 : decode cX8_spelled 110 = .ok (.ldc 90, 2) := by decide +kernel
theorem dX8_spelled_112 : decode cX8_spelled 112 = .ok (.areturn, 1) := by decide +kernel
theorem dX8_spelled_113 : decode cX8_spelled 113 = .ok (.ldc 92, 2) := by decide +kernel
theorem dX8_spelled_115 : decode cX8_spelled 115 = .ok (.areturn, 1) := by decide +kernel
theorem dX8_spelled_116 : decode cX8_spelled 116 = .ok (.ldc 94, 2) := by decide +kernel
theorem dX8_spelled_118 : decode cX8_spelled 118 = .ok (.areturn, 1) := by decide +kernel
theorem dX8_spelled_119 : decode cX8_spelled 119 = .ok (.ldc 96, 2) := by decide +kernel
theorem dX8_spelled_121 : decode cX8_spelled 121 = .ok (.areturn, 1) := by decide +kernel
theorem dX8_spelled_122 : decode cX8_spelled 122 = .ok (.ldc 98, 2) := by decide +kernel
theorem dX8_spelled_124 : decode cX8_spelled 124 = .ok (.areturn, 1) := by decide +kernel
theorem dX8_spelled_125 : decode cX8_spelled 125 = .ok (.ldc 100, 2) := by decide +kernel
theorem dX8_spelled_127 : decode cX8_spelled 127 = .ok (.areturn, 1) := by decide +kernel
theorem dX8_spelled_128 : decode cX8_spelled 128 = .ok (.ldc 102, 2) := by decide +kernel
theorem dX8_spelled_130 : decode cX8_spelled 130 = .ok (.areturn, 1) := by decide +kernel
theorem dX9_last_0 : decode cX9_last 0 = .ok (.iload_n 0, 1) := by decide +kernel
theorem dX9_last_1 : decode cX9_last 1 = .ok (.tableswitch 43 0 3 #[31, 34, 37, 40], 31) := by decide +kernel
theorem dX9_last_32 : decode cX9_last 32 = .ok (.bipush 99, 2) := by decide +kernel
theorem dX9_last_34 : decode cX9_last 34 = .ok (.ireturn, 1) := by decide +kernel
theorem dX9_last_35 : decode cX9_last 35 = .ok (.bipush 99, 2) := by decide +kernel
theorem dX9_last_37 : decode cX9_last 37 = .ok (.ireturn, 1) := by decide +kernel
theorem dX9_last_38 : decode cX9_last 38 = .ok (.bipush 9, 2) := by decide +kernel
theorem dX9_last_40 : decode cX9_last 40 = .ok (.ireturn, 1) := by decide +kernel
theorem dX9_last_41 : decode cX9_last 41 = .ok (.bipush 7, 2) := by decide +kernel
theorem dX9_last_43 : decode cX9_last 43 = .ok (.ireturn, 1) := by decide +kernel
theorem dX9_last_44 : decode cX9_last 44 = .ok (.bipush 31, 2) := by decide +kernel
theorem dX9_last_46 : decode cX9_last 46 = .ok (.ireturn, 1) := by decide +kernel
theorem dX9_told_0 : decode cX9_told 0 = .ok (.iload_n 1, 1) := by decide +kernel
theorem dX9_told_1 : decode cX9_told 1 = .ok (.tableswitch 61 0 3 #[31, 36, 44, 53], 31) := by decide +kernel
theorem dX9_told_32 : decode cX9_told 32 = .ok (.iload_n 0, 1) := by decide +kernel
theorem dX9_told_33 : decode cX9_told 33 = .ok (.bipush 100, 2) := by decide +kernel
theorem dX9_told_35 : decode cX9_told 35 = .ok (.irem, 1) := by decide +kernel
theorem dX9_told_36 : decode cX9_told 36 = .ok (.ireturn, 1) := by decide +kernel
theorem dX9_told_37 : decode cX9_told 37 = .ok (.iload_n 0, 1) := by decide +kernel
theorem dX9_told_38 : decode cX9_told 38 = .ok (.bipush 100, 2) := by decide +kernel
theorem dX9_told_40 : decode cX9_told 40 = .ok (.idiv, 1) := by decide +kernel
theorem dX9_told_41 : decode cX9_told 41 = .ok (.bipush 100, 2) := by decide +kernel
theorem dX9_told_43 : decode cX9_told 43 = .ok (.irem, 1) := by decide +kernel
theorem dX9_told_44 : decode cX9_told 44 = .ok (.ireturn, 1) := by decide +kernel
theorem dX9_told_45 : decode cX9_told 45 = .ok (.iload_n 0, 1) := by decide +kernel
theorem dX9_told_46 : decode cX9_told 46 = .ok (.sipush 10000, 3) := by decide +kernel
theorem dX9_told_49 : decode cX9_told 49 = .ok (.idiv, 1) := by decide +kernel
theorem dX9_told_50 : decode cX9_told 50 = .ok (.bipush 10, 2) := by decide +kernel
theorem dX9_told_52 : decode cX9_told 52 = .ok (.irem, 1) := by decide +kernel
theorem dX9_told_53 : decode cX9_told 53 = .ok (.ireturn, 1) := by decide +kernel
theorem dX9_told_54 : decode cX9_told 54 = .ok (.iload_n 0, 1) := by decide +kernel
theorem dX9_told_55 : decode cX9_told 55 = .ok (.ldc 11, 2) := by decide +kernel
theorem dX9_told_57 : decode cX9_told 57 = .ok (.idiv, 1) := by decide +kernel
theorem dX9_told_58 : decode cX9_told 58 = .ok (.bipush 8, 2) := by decide +kernel
theorem dX9_told_60 : decode cX9_told 60 = .ok (.irem, 1) := by decide +kernel
theorem dX9_told_61 : decode cX9_told 61 = .ok (.ireturn, 1) := by decide +kernel
theorem dX9_told_62 : decode cX9_told 62 = .ok (.iload_n 0, 1) := by decide +kernel
theorem dX9_told_63 : decode cX9_told 63 = .ok (.ldc 12, 2) := by decide +kernel
theorem dX9_told_65 : decode cX9_told 65 = .ok (.idiv, 1) := by decide +kernel
theorem dX9_told_66 : decode cX9_told 66 = .ok (.ireturn, 1) := by decide +kernel
theorem dX9_together_0 : decode cX9_together 0 = .ok (.iload_n 0, 1) := by decide +kernel
theorem dX9_together_1 : decode cX9_together 1 = .ok (.bipush 100, 2) := by decide +kernel
theorem dX9_together_3 : decode cX9_together 3 = .ok (.iload_n 1, 1) := by decide +kernel
theorem dX9_together_4 : decode cX9_together 4 = .ok (.imul, 1) := by decide +kernel
theorem dX9_together_5 : decode cX9_together 5 = .ok (.iadd, 1) := by decide +kernel
theorem dX9_together_6 : decode cX9_together 6 = .ok (.sipush 10000, 3) := by decide +kernel
theorem dX9_together_9 : decode cX9_together 9 = .ok (.iload_n 2, 1) := by decide +kernel
theorem dX9_together_10 : decode cX9_together 10 = .ok (.imul, 1) := by decide +kernel
theorem dX9_together_11 : decode cX9_together 11 = .ok (.iadd, 1) := by decide +kernel
theorem dX9_together_12 : decode cX9_together 12 = .ok (.ldc 11, 2) := by decide +kernel
theorem dX9_together_14 : decode cX9_together 14 = .ok (.iload_n 3, 1) := by decide +kernel
theorem dX9_together_15 : decode cX9_together 15 = .ok (.imul, 1) := by decide +kernel
theorem dX9_together_16 : decode cX9_together 16 = .ok (.iadd, 1) := by decide +kernel
theorem dX9_together_17 : decode cX9_together 17 = .ok (.ldc 12, 2) := by decide +kernel
theorem dX9_together_19 : decode cX9_together 19 = .ok (.iload 4, 2) := by decide +kernel
theorem dX9_together_21 : decode cX9_together 21 = .ok (.imul, 1) := by decide +kernel
theorem dX9_together_22 : decode cX9_together 22 = .ok (.iadd, 1) := by decide +kernel
theorem dX9_together_23 : decode cX9_together 23 = .ok (.ireturn, 1) := by decide +kernel
theorem dX9_changed_0 : decode cX9_changed 0 = .ok (.iload_n 0, 1) := by decide +kernel
theorem dX9_changed_1 : decode cX9_changed 1 = .ok (.iload_n 2, 1) := by decide +kernel
theorem dX9_changed_2 : decode cX9_changed 2 = .ok (.iload_n 0, 1) := by decide +kernel
theorem dX9_changed_3 : decode cX9_changed 3 = .ok (.iload_n 1, 1) := by decide +kernel
theorem dX9_changed_4 : decode cX9_changed 4 = .ok (.invokestatic 13, 3) := by decide +kernel
theorem dX9_changed_7 : decode cX9_changed 7 = .ok (.isub, 1) := by decide +kernel
theorem dX9_changed_8 : decode cX9_changed 8 = .ok (.iload_n 1, 1) := by decide +kernel
theorem dX9_changed_9 : decode cX9_changed 9 = .ok (.invokestatic 17, 3) := by decide +kernel
theorem dX9_changed_12 : decode cX9_changed 12 = .ok (.imul, 1) := by decide +kernel
theorem dX9_changed_13 : decode cX9_changed 13 = .ok (.iadd, 1) := by decide +kernel
theorem dX9_changed_14 : decode cX9_changed 14 = .ok (.ireturn, 1) := by decide +kernel
theorem dX9_weight_0 : decode cX9_weight 0 = .ok (.iload_n 0, 1) := by decide +kernel
theorem dX9_weight_1 : decode cX9_weight 1 = .ok (.tableswitch 43 0 3 #[31, 33, 36, 40], 31) := by decide +kernel
theorem dX9_weight_32 : decode cX9_weight 32 = .ok (.iconst 1, 1) := by decide +kernel
theorem dX9_weight_33 : decode cX9_weight 33 = .ok (.ireturn, 1) := by decide +kernel
theorem dX9_weight_34 : decode cX9_weight 34 = .ok (.bipush 100, 2) := by decide +kernel
theorem dX9_weight_36 : decode cX9_weight 36 = .ok (.ireturn, 1) := by decide +kernel
theorem dX9_weight_37 : decode cX9_weight 37 = .ok (.sipush 10000, 3) := by decide +kernel
theorem dX9_weight_40 : decode cX9_weight 40 = .ok (.ireturn, 1) := by decide +kernel
theorem dX9_weight_41 : decode cX9_weight 41 = .ok (.ldc 11, 2) := by decide +kernel
theorem dX9_weight_43 : decode cX9_weight 43 = .ok (.ireturn, 1) := by decide +kernel
theorem dX9_weight_44 : decode cX9_weight 44 = .ok (.ldc 12, 2) := by decide +kernel
theorem dX9_weight_46 : decode cX9_weight 46 = .ok (.ireturn, 1) := by decide +kernel
theorem dX10_init_0 : decode cX10_init 0 = .ok (.aload_n 0, 1) := by decide +kernel
theorem dX10_init_1 : decode cX10_init 1 = .ok (.invokespecial 1, 3) := by decide +kernel
theorem dX10_init_4 : decode cX10_init 4 = .ok (.aload_n 0, 1) := by decide +kernel
theorem dX10_init_5 : decode cX10_init 5 = .ok (.new 7, 3) := by decide +kernel
theorem dX10_init_8 : decode cX10_init 8 = .ok (.dup, 1) := by decide +kernel
theorem dX10_init_9 : decode cX10_init 9 = .ok (.invokespecial 9, 3) := by decide +kernel
theorem dX10_init_12 : decode cX10_init 12 = .ok (.putfield 10, 3) := by decide +kernel
theorem dX10_init_15 : decode cX10_init 15 = .ok (.aload_n 0, 1) := by decide +kernel
theorem dX10_init_16 : decode cX10_init 16 = .ok (.new 7, 3) := by decide +kernel
theorem dX10_init_19 : decode cX10_init 19 = .ok (.dup, 1) := by decide +kernel
theorem dX10_init_20 : decode cX10_init 20 = .ok (.invokespecial 9, 3) := by decide +kernel
theorem dX10_init_23 : decode cX10_init 23 = .ok (.putfield 16, 3) := by decide +kernel
theorem dX10_init_26 : decode cX10_init 26 = .ok (.aload_n 0, 1) := by decide +kernel
theorem dX10_init_27 : decode cX10_init 27 = .ok (.new 19, 3) := by decide +kernel
theorem dX10_init_30 : decode cX10_init 30 = .ok (.dup, 1) := by decide +kernel
theorem dX10_init_31 : decode cX10_init 31 = .ok (.invokespecial 21, 3) := by decide +kernel
theorem dX10_init_34 : decode cX10_init 34 = .ok (.putfield 22, 3) := by decide +kernel
theorem dX10_init_37 : decode cX10_init 37 = .ok (.aload_n 0, 1) := by decide +kernel
theorem dX10_init_38 : decode cX10_init 38 = .ok (.new 26, 3) := by decide +kernel
theorem dX10_init_41 : decode cX10_init 41 = .ok (.dup, 1) := by decide +kernel
theorem dX10_init_42 : decode cX10_init 42 = .ok (.invokespecial 28, 3) := by decide +kernel
theorem dX10_init_45 : decode cX10_init 45 = .ok (.putfield 29, 3) := by decide +kernel
theorem dX10_init_48 : decode cX10_init 48 = .ok (.aload_n 0, 1) := by decide +kernel
theorem dX10_init_49 : decode cX10_init 49 = .ok (.new 33, 3) := by decide +kernel
theorem dX10_init_52 : decode cX10_init 52 = .ok (.dup, 1) := by decide +kernel
theorem dX10_init_53 : decode cX10_init 53 = .ok (.invokespecial 35, 3) := by decide +kernel
theorem dX10_init_56 : decode cX10_init 56 = .ok (.putfield 36, 3) := by decide +kernel
theorem dX10_init_59 : decode cX10_init 59 = .ok (.aload_n 0, 1) := by decide +kernel
theorem dX10_init_60 : decode cX10_init 60 = .ok (.new 40, 3) := by decide +kernel
theorem dX10_init_63 : decode cX10_init 63 = .ok (.dup, 1) := by decide +kernel
theorem dX10_init_64 : decode cX10_init 64 = .ok (.aload_n 0, 1) := by decide +kernel
theorem dX10_init_65 : decode cX10_init 65 = .ok (.getfield 10, 3) := by decide +kernel
theorem dX10_init_68 : decode cX10_init 68 = .ok (.invokespecial 42, 3) := by decide +kernel
theorem dX10_init_71 : decode cX10_init 71 = .ok (.putfield 45, 3) := by decide +kernel
theorem dX10_init_74 : decode cX10_init 74 = .ok (.aload_n 0, 1) := by decide +kernel
theorem dX10_init_75 : decode cX10_init 75 = .ok (.new 49, 3) := by decide +kernel
theorem dX10_init_78 : decode cX10_init 78 = .ok (.dup, 1) := by decide +kernel
theorem dX10_init_79 : decode cX10_init 79 = .ok (.invokespecial 51, 3) := by decide +kernel
theorem dX10_init_82 : decode cX10_init 82 = .ok (.putfield 52, 3) := by decide +kernel
theorem dX10_init_85 : decode cX10_init 85 = .ok (.aload_n 0, 1) := by decide +kernel
theorem dX10_init_86 : decode cX10_init 86 = .ok (.iconst 4, 1) := by decide +kernel
theorem dX10_init_87 : decode cX10_init 87 = .ok (.anewarray 56, 3) := by decide +kernel
theorem dX10_init_90 : decode cX10_init 90 = .ok (.dup, 1) := by decide +kernel
theorem dX10_init_91 : decode cX10_init 91 = .ok (.iconst 0, 1) := by decide +kernel
theorem dX10_init_92 : decode cX10_init 92 = .ok (.new 56, 3) := by decide +kernel
theorem dX10_init_95 : decode cX10_init 95 = .ok (.dup, 1) := by decide +kernel
theorem dX10_init_96 : decode cX10_init 96 = .ok (.invokespecial 58, 3) := by decide +kernel
theorem dX10_init_99 : decode cX10_init 99 = .ok (.aastore, 1) := by decide +kernel
theorem dX10_init_100 : decode cX10_init 100 = .ok (.dup, 1) := by decide +kernel
theorem dX10_init_101 : decode cX10_init 101 = .ok (.iconst 1, 1) := by decide +kernel
theorem dX10_init_102 : decode cX10_init 102 = .ok (.new 56, 3) := by decide +kernel
theorem dX10_init_105 : decode cX10_init 105 = .ok (.dup, 1) := by decide +kernel
theorem dX10_init_106 : decode cX10_init 106 = .ok (.invokespecial 58, 3) := by decide +kernel
theorem dX10_init_109 : decode cX10_init 109 = .ok (.aastore, 1) := by decide +kernel
theorem dX10_init_110 : decode cX10_init 110 = .ok (.dup, 1) := by decide +kernel
theorem dX10_init_111 : decode cX10_init 111 = .ok (.iconst 2, 1) := by decide +kernel
theorem dX10_init_112 : decode cX10_init 112 = .ok (.new 56, 3) := by decide +kernel
theorem dX10_init_115 : decode cX10_init 115 = .ok (.dup, 1) := by decide +kernel
theorem dX10_init_116 : decode cX10_init 116 = .ok (.invokespecial 58, 3) := by decide +kernel
theorem dX10_init_119 : decode cX10_init 119 = .ok (.aastore, 1) := by decide +kernel
theorem dX10_init_120 : decode cX10_init 120 = .ok (.dup, 1) := by decide +kernel
theorem dX10_init_121 : decode cX10_init 121 = .ok (.iconst 3, 1) := by decide +kernel
theorem dX10_init_122 : decode cX10_init 122 = .ok (.new 56, 3) := by decide +kernel
theorem dX10_init_125 : decode cX10_init 125 = .ok (.dup, 1) := by decide +kernel
theorem dX10_init_126 : decode cX10_init 126 = .ok (.invokespecial 58, 3) := by decide +kernel
theorem dX10_init_129 : decode cX10_init 129 = .ok (.aastore, 1) := by decide +kernel
theorem dX10_init_130 : decode cX10_init 130 = .ok (.putfield 59, 3) := by decide +kernel
theorem dX10_init_133 : decode cX10_init 133 = .ok (.aload_n 0, 1) := by decide +kernel
theorem dX10_init_134 : decode cX10_init 134 = .ok (.iconst 0, 1) := by decide +kernel
theorem dX10_init_135 : decode cX10_init 135 = .ok (.putfield 63, 3) := by decide +kernel
theorem dX10_init_138 : decode cX10_init 138 = .ok (.aload_n 0, 1) := by decide +kernel
theorem dX10_init_139 : decode cX10_init 139 = .ok (.new 7, 3) := by decide +kernel
theorem dX10_init_142 : decode cX10_init 142 = .ok (.dup, 1) := by decide +kernel
theorem dX10_init_143 : decode cX10_init 143 = .ok (.invokespecial 9, 3) := by decide +kernel
theorem dX10_init_146 : decode cX10_init 146 = .ok (.putfield 67, 3) := by decide +kernel
theorem dX10_init_149 : decode cX10_init 149 = .ok (.aload_n 0, 1) := by decide +kernel
theorem dX10_init_150 : decode cX10_init 150 = .ok (.new 19, 3) := by decide +kernel
theorem dX10_init_153 : decode cX10_init 153 = .ok (.dup, 1) := by decide +kernel
theorem dX10_init_154 : decode cX10_init 154 = .ok (.invokespecial 21, 3) := by decide +kernel
theorem dX10_init_157 : decode cX10_init 157 = .ok (.putfield 70, 3) := by decide +kernel
theorem dX10_init_160 : decode cX10_init 160 = .ok (.aload_n 0, 1) := by decide +kernel
theorem dX10_init_161 : decode cX10_init 161 = .ok (.iconst 0, 1) := by decide +kernel
theorem dX10_init_162 : decode cX10_init 162 = .ok (.putfield 73, 3) := by decide +kernel
theorem dX10_init_165 : decode cX10_init 165 = .ok (.return_, 1) := by decide +kernel
theorem dX10_clause_0 : decode cX10_clause 0 = .ok (.aload_n 0, 1) := by decide +kernel
theorem dX10_clause_1 : decode cX10_clause 1 = .ok (.getfield 10, 3) := by decide +kernel
theorem dX10_clause_4 : decode cX10_clause 4 = .ok (.invokevirtual 77, 3) := by decide +kernel
theorem dX10_clause_7 : decode cX10_clause 7 = .ok (.ireturn, 1) := by decide +kernel
theorem dX10_test_0 : decode cX10_test 0 = .ok (.aload_n 0, 1) := by decide +kernel
theorem dX10_test_1 : decode cX10_test 1 = .ok (.getfield 10, 3) := by decide +kernel
theorem dX10_test_4 : decode cX10_test 4 = .ok (.iload_n 1, 1) := by decide +kernel
theorem dX10_test_5 : decode cX10_test 5 = .ok (.invokevirtual 81, 3) := by decide +kernel
theorem dX10_test_8 : decode cX10_test 8 = .ok (.ifCond .eq 12, 3) := by decide +kernel
theorem dX10_test_11 : decode cX10_test 11 = .ok (.iload_n 2, 1) := by decide +kernel
theorem dX10_test_12 : decode cX10_test 12 = .ok (.iconst 0, 1) := by decide +kernel
theorem dX10_test_13 : decode cX10_test 13 = .ok (.iconst 5, 1) := by decide +kernel
theorem dX10_test_14 : decode cX10_test 14 = .ok (.invokestatic 85, 3) := by decide +kernel
theorem dX10_test_17 : decode cX10_test 17 = .ok (.ifCond .ne 6, 3) := by decide +kernel
theorem dX10_test_20 : decode cX10_test 20 = .ok (.bipush (-2), 2) := by decide +kernel
theorem dX10_test_22 : decode cX10_test 22 = .ok (.ireturn, 1) := by decide +kernel
theorem dX10_test_23 : decode cX10_test 23 = .ok (.iload_n 3, 1) := by decide +kernel
theorem dX10_test_24 : decode cX10_test 24 = .ok (.iconst 0, 1) := by decide +kernel
theorem dX10_test_25 : decode cX10_test 25 = .ok (.iload_n 2, 1) := by decide +kernel
theorem dX10_test_26 : decode cX10_test 26 = .ok (.invokestatic 89, 3) := by decide +kernel
theorem dX10_test_29 : decode cX10_test 29 = .ok (.ifCond .eq 7, 3) := by decide +kernel
theorem dX10_test_32 : decode cX10_test 32 = .ok (.iconst 3, 1) := by decide +kernel
theorem dX10_test_33 : decode cX10_test 33 = .ok (.goto 4, 3) := by decide +kernel
theorem dX10_test_36 : decode cX10_test 36 = .ok (.iconst 0, 1) := by decide +kernel
theorem dX10_test_37 : decode cX10_test 37 = .ok (.invokestatic 85, 3) := by decide +kernel
theorem dX10_test_40 : decode cX10_test 40 = .ok (.ifCond .ne 6, 3) := by decide +kernel
theorem dX10_test_43 : decode cX10_test 43 = .ok (.bipush (-2), 2) := by decide +kernel
theorem dX10_test_45 : decode cX10_test 45 = .ok (.ireturn, 1) := by decide +kernel
theorem dX10_test_46 : decode cX10_test 46 = .ok (.iload_n 2, 1) := by decide +kernel
theorem dX10_test_47 : decode cX10_test 47 = .ok (.iconst 3, 1) := by decide +kernel
theorem dX10_test_48 : decode cX10_test 48 = .ok (.if_icmp .ne 8, 3) := by decide +kernel
theorem dX10_test_51 : decode cX10_test 51 = .ok (.bipush 31, 2) := by decide +kernel
theorem dX10_test_53 : decode cX10_test 53 = .ok (.goto 5, 3) := by decide +kernel
theorem dX10_test_56 : decode cX10_test 56 = .ok (.bipush 99, 2) := by decide +kernel
theorem dX10_test_58 : decode cX10_test 58 = .ok (.istore 6, 2) := by decide +kernel
theorem dX10_test_60 : decode cX10_test 60 = .ok (.iload 4, 2) := by decide +kernel
theorem dX10_test_62 : decode cX10_test 62 = .ok (.iconst 0, 1) := by decide +kernel
theorem dX10_test_63 : decode cX10_test 63 = .ok (.iload 6, 2) := by decide +kernel
theorem dX10_test_65 : decode cX10_test 65 = .ok (.invokestatic 85, 3) := by decide +kernel
theorem dX10_test_68 : decode cX10_test 68 = .ok (.ifCond .eq 14, 3) := by decide +kernel
theorem dX10_test_71 : decode cX10_test 71 = .ok (.iload 5, 2) := by decide +kernel
theorem dX10_test_73 : decode cX10_test 73 = .ok (.iconst 0, 1) := by decide +kernel
theorem dX10_test_74 : decode cX10_test 74 = .ok (.iload 6, 2) := by decide +kernel
theorem dX10_test_76 : decode cX10_test 76 = .ok (.invokestatic 85, 3) := by decide +kernel
theorem dX10_test_79 : decode cX10_test 79 = .ok (.ifCond .ne 6, 3) := by decide +kernel
theorem dX10_test_82 : decode cX10_test 82 = .ok (.bipush (-2), 2) := by decide +kernel
theorem dX10_test_84 : decode cX10_test 84 = .ok (.ireturn, 1) := by decide +kernel
theorem dX10_test_85 : decode cX10_test 85 = .ok (.aload_n 0, 1) := by decide +kernel
theorem dX10_test_86 : decode cX10_test 86 = .ok (.getfield 10, 3) := by decide +kernel
theorem dX10_test_89 : decode cX10_test 89 = .ok (.iload_n 1, 1) := by decide +kernel
theorem dX10_test_90 : decode cX10_test 90 = .ok (.iconst 0, 1) := by decide +kernel
theorem dX10_test_91 : decode cX10_test 91 = .ok (.invokevirtual 92, 3) := by decide +kernel
theorem dX10_test_94 : decode cX10_test 94 = .ok (.istore 7, 2) := by decide +kernel
theorem dX10_test_96 : decode cX10_test 96 = .ok (.aload_n 0, 1) := by decide +kernel
theorem dX10_test_97 : decode cX10_test 97 = .ok (.getfield 10, 3) := by decide +kernel
theorem dX10_test_100 : decode cX10_test 100 = .ok (.iload_n 1, 1) := by decide +kernel
theorem dX10_test_101 : decode cX10_test 101 = .ok (.iconst 0, 1) := by decide +kernel
theorem dX10_test_102 : decode cX10_test 102 = .ok (.iload_n 2, 1) := by decide +kernel
theorem dX10_test_103 : decode cX10_test 103 = .ok (.invokevirtual 96, 3) := by decide +kernel
theorem dX10_test_106 : decode cX10_test 106 = .ok (.aload_n 0, 1) := by decide +kernel
theorem dX10_test_107 : decode cX10_test 107 = .ok (.getfield 10, 3) := by decide +kernel
theorem dX10_test_110 : decode cX10_test 110 = .ok (.iload_n 1, 1) := by decide +kernel
theorem dX10_test_111 : decode cX10_test 111 = .ok (.iconst 1, 1) := by decide +kernel
theorem dX10_test_112 : decode cX10_test 112 = .ok (.iload_n 3, 1) := by decide +kernel
theorem dX10_test_113 : decode cX10_test 113 = .ok (.invokevirtual 96, 3) := by decide +kernel
theorem dX10_test_116 : decode cX10_test 116 = .ok (.aload_n 0, 1) := by decide +kernel
theorem dX10_test_117 : decode cX10_test 117 = .ok (.getfield 10, 3) := by decide +kernel
theorem dX10_test_120 : decode cX10_test 120 = .ok (.iload_n 1, 1) := by decide +kernel
theorem dX10_test_121 : decode cX10_test 121 = .ok (.iconst 2, 1) := by decide +kernel
theorem dX10_test_122 : decode cX10_test 122 = .ok (.iload 4, 2) := by decide +kernel
theorem dX10_test_124 : decode cX10_test 124 = .ok (.invokevirtual 96, 3) := by decide +kernel
theorem dX10_test_127 : decode cX10_test 127 = .ok (.aload_n 0, 1) := by decide +kernel
theorem dX10_test_128 : decode cX10_test 128 = .ok (.getfield 10, 3) := by decide +kernel
theorem dX10_test_131 : decode cX10_test 131 = .ok (.iload_n 1, 1) := by decide +kernel
theorem dX10_test_132 : decode cX10_test 132 = .ok (.iconst 3, 1) := by decide +kernel
theorem dX10_test_133 : decode cX10_test 133 = .ok (.iload 5, 2) := by decide +kernel
theorem dX10_test_135 : decode cX10_test 135 = .ok (.invokevirtual 96, 3) := by decide +kernel
theorem dX10_test_138 : decode cX10_test 138 = .ok (.iload 7, 2) := by decide +kernel
theorem dX10_test_140 : decode cX10_test 140 = .ok (.ireturn, 1) := by decide +kernel
theorem dX10_grant_0 : decode cX10_grant 0 = .ok (.aload_n 0, 1) := by decide +kernel
theorem dX10_grant_1 : decode cX10_grant 1 = .ok (.getfield 10, 3) := by decide +kernel
theorem dX10_grant_4 : decode cX10_grant 4 = .ok (.iload_n 1, 1) := by decide +kernel
theorem dX10_grant_5 : decode cX10_grant 5 = .ok (.invokevirtual 81, 3) := by decide +kernel
theorem dX10_grant_8 : decode cX10_grant 8 = .ok (.ifCond .eq 12, 3) := by decide +kernel
theorem dX10_grant_11 : decode cX10_grant 11 = .ok (.iload_n 2, 1) := by decide +kernel
theorem dX10_grant_12 : decode cX10_grant 12 = .ok (.iconst 0, 1) := by decide +kernel
theorem dX10_grant_13 : decode cX10_grant 13 = .ok (.iconst 4, 1) := by decide +kernel
theorem dX10_grant_14 : decode cX10_grant 14 = .ok (.invokestatic 85, 3) := by decide +kernel
theorem dX10_grant_17 : decode cX10_grant 17 = .ok (.ifCond .ne 6, 3) := by decide +kernel
theorem dX10_grant_20 : decode cX10_grant 20 = .ok (.bipush (-2), 2) := by decide +kernel
theorem dX10_grant_22 : decode cX10_grant 22 = .ok (.ireturn, 1) := by decide +kernel
theorem dX10_grant_23 : decode cX10_grant 23 = .ok (.iload_n 3, 1) := by decide +kernel
theorem dX10_grant_24 : decode cX10_grant 24 = .ok (.iconst 0, 1) := by decide +kernel
theorem dX10_grant_25 : decode cX10_grant 25 = .ok (.iload_n 2, 1) := by decide +kernel
theorem dX10_grant_26 : decode cX10_grant 26 = .ok (.invokestatic 100, 3) := by decide +kernel
theorem dX10_grant_29 : decode cX10_grant 29 = .ok (.ifCond .eq 7, 3) := by decide +kernel
theorem dX10_grant_32 : decode cX10_grant 32 = .ok (.iconst 3, 1) := by decide +kernel
