theorem dX3_leastOfMost_3 : decode cX3_leastOfMost 3 = .ok (.istore_n 2, 1) := by decide +kernel
theorem dX3_leastOfMost_4 : decode cX3_leastOfMost 4 = .ok (.iload_n 2, 1) := by decide +kernel
theorem dX3_leastOfMost_5 : decode cX3_leastOfMost 5 = .ok (.aload_n 0, 1) := by decide +kernel
theorem dX3_leastOfMost_6 : decode cX3_leastOfMost 6 = .ok (.getfield 15, 3) := by decide +kernel
theorem dX3_leastOfMost_9 : decode cX3_leastOfMost 9 = .ok (.if_icmp .ge 26, 3) := by decide +kernel
theorem dX3_leastOfMost_12 : decode cX3_leastOfMost 12 = .ok (.aload_n 0, 1) := by decide +kernel
theorem dX3_leastOfMost_13 : decode cX3_leastOfMost 13 = .ok (.getfield 9, 3) := by decide +kernel
theorem dX3_leastOfMost_16 : decode cX3_leastOfMost 16 = .ok (.iload_n 2, 1) := by decide +kernel
theorem dX3_leastOfMost_17 : decode cX3_leastOfMost 17 = .ok (.iaload, 1) := by decide +kernel
theorem dX3_leastOfMost_18 : decode cX3_leastOfMost 18 = .ok (.aload_n 0, 1) := by decide +kernel
theorem dX3_leastOfMost_19 : decode cX3_leastOfMost 19 = .ok (.getfield 9, 3) := by decide +kernel
theorem dX3_leastOfMost_22 : decode cX3_leastOfMost 22 = .ok (.iload_n 1, 1) := by decide +kernel
theorem dX3_leastOfMost_23 : decode cX3_leastOfMost 23 = .ok (.iaload, 1) := by decide +kernel
theorem dX3_leastOfMost_24 : decode cX3_leastOfMost 24 = .ok (.if_icmp .le 5, 3) := by decide +kernel
theorem dX3_leastOfMost_27 : decode cX3_leastOfMost 27 = .ok (.iload_n 2, 1) := by decide +kernel
theorem dX3_leastOfMost_28 : decode cX3_leastOfMost 28 = .ok (.istore_n 1, 1) := by decide +kernel
theorem dX3_leastOfMost_29 : decode cX3_leastOfMost 29 = .ok (.iinc 2 1, 3) := by decide +kernel
theorem dX3_leastOfMost_32 : decode cX3_leastOfMost 32 = .ok (.goto (-28), 3) := by decide +kernel
theorem dX3_leastOfMost_35 : decode cX3_leastOfMost 35 = .ok (.iload_n 1, 1) := by decide +kernel
theorem dX3_leastOfMost_36 : decode cX3_leastOfMost 36 = .ok (.ireturn, 1) := by decide +kernel
theorem dX3_leastReaching_0 : decode cX3_leastReaching 0 = .ok (.iconst 0, 1) := by decide +kernel
theorem dX3_leastReaching_1 : decode cX3_leastReaching 1 = .ok (.istore_n 2, 1) := by decide +kernel
theorem dX3_leastReaching_2 : decode cX3_leastReaching 2 = .ok (.iload_n 2, 1) := by decide +kernel
theorem dX3_leastReaching_3 : decode cX3_leastReaching 3 = .ok (.aload_n 0, 1) := by decide +kernel
theorem dX3_leastReaching_4 : decode cX3_leastReaching 4 = .ok (.getfield 15, 3) := by decide +kernel
theorem dX3_leastReaching_7 : decode cX3_leastReaching 7 = .ok (.if_icmp .ge 21, 3) := by decide +kernel
theorem dX3_leastReaching_10 : decode cX3_leastReaching 10 = .ok (.aload_n 0, 1) := by decide +kernel
theorem dX3_leastReaching_11 : decode cX3_leastReaching 11 = .ok (.getfield 9, 3) := by decide +kernel
theorem dX3_leastReaching_14 : decode cX3_leastReaching 14 = .ok (.iload_n 2, 1) := by decide +kernel
theorem dX3_leastReaching_15 : decode cX3_leastReaching 15 = .ok (.iaload, 1) := by decide +kernel
theorem dX3_leastReaching_16 : decode cX3_leastReaching 16 = .ok (.iload_n 1, 1) := by decide +kernel
theorem dX3_leastReaching_17 : decode cX3_leastReaching 17 = .ok (.if_icmp .lt 5, 3) := by decide +kernel
theorem dX3_leastReaching_20 : decode cX3_leastReaching 20 = .ok (.iload_n 2, 1) := by decide +kernel
theorem dX3_leastReaching_21 : decode cX3_leastReaching 21 = .ok (.ireturn, 1) := by decide +kernel
theorem dX3_leastReaching_22 : decode cX3_leastReaching 22 = .ok (.iinc 2 1, 3) := by decide +kernel
theorem dX3_leastReaching_25 : decode cX3_leastReaching 25 = .ok (.goto (-23), 3) := by decide +kernel
theorem dX3_leastReaching_28 : decode cX3_leastReaching 28 = .ok (.iconst (-1), 1) := by decide +kernel
theorem dX3_leastReaching_29 : decode cX3_leastReaching 29 = .ok (.ireturn, 1) := by decide +kernel
theorem dX3_isJump_0 : decode cX3_isJump 0 = .ok (.aload_n 0, 1) := by decide +kernel
theorem dX3_isJump_1 : decode cX3_isJump 1 = .ok (.getfield 9, 3) := by decide +kernel
theorem dX3_isJump_4 : decode cX3_isJump 4 = .ok (.iload_n 1, 1) := by decide +kernel
theorem dX3_isJump_5 : decode cX3_isJump 5 = .ok (.iaload, 1) := by decide +kernel
theorem dX3_isJump_6 : decode cX3_isJump 6 = .ok (.aload_n 0, 1) := by decide +kernel
theorem dX3_isJump_7 : decode cX3_isJump 7 = .ok (.getfield 9, 3) := by decide +kernel
theorem dX3_isJump_10 : decode cX3_isJump 10 = .ok (.iload_n 1, 1) := by decide +kernel
theorem dX3_isJump_11 : decode cX3_isJump 11 = .ok (.iconst 1, 1) := by decide +kernel
theorem dX3_isJump_12 : decode cX3_isJump 12 = .ok (.isub, 1) := by decide +kernel
theorem dX3_isJump_13 : decode cX3_isJump 13 = .ok (.iaload, 1) := by decide +kernel
theorem dX3_isJump_14 : decode cX3_isJump 14 = .ok (.if_icmp .eq 7, 3) := by decide +kernel
theorem dX3_isJump_17 : decode cX3_isJump 17 = .ok (.iconst 1, 1) := by decide +kernel
theorem dX3_isJump_18 : decode cX3_isJump 18 = .ok (.goto 4, 3) := by decide +kernel
theorem dX3_isJump_21 : decode cX3_isJump 21 = .ok (.iconst 0, 1) := by decide +kernel
theorem dX3_isJump_22 : decode cX3_isJump 22 = .ok (.ireturn, 1) := by decide +kernel
theorem dX3_jumpCount_0 : decode cX3_jumpCount 0 = .ok (.iconst 0, 1) := by decide +kernel
theorem dX3_jumpCount_1 : decode cX3_jumpCount 1 = .ok (.istore_n 1, 1) := by decide +kernel
theorem dX3_jumpCount_2 : decode cX3_jumpCount 2 = .ok (.iconst 1, 1) := by decide +kernel
theorem dX3_jumpCount_3 : decode cX3_jumpCount 3 = .ok (.istore_n 2, 1) := by decide +kernel
theorem dX3_jumpCount_4 : decode cX3_jumpCount 4 = .ok (.iload_n 2, 1) := by decide +kernel
theorem dX3_jumpCount_5 : decode cX3_jumpCount 5 = .ok (.aload_n 0, 1) := by decide +kernel
theorem dX3_jumpCount_6 : decode cX3_jumpCount 6 = .ok (.getfield 15, 3) := by decide +kernel
theorem dX3_jumpCount_9 : decode cX3_jumpCount 9 = .ok (.if_icmp .ge 20, 3) := by decide +kernel
theorem dX3_jumpCount_12 : decode cX3_jumpCount 12 = .ok (.aload_n 0, 1) := by decide +kernel
theorem dX3_jumpCount_13 : decode cX3_jumpCount 13 = .ok (.iload_n 2, 1) := by decide +kernel
theorem dX3_jumpCount_14 : decode cX3_jumpCount 14 = .ok (.invokevirtual 35, 3) := by decide +kernel
theorem dX3_jumpCount_17 : decode cX3_jumpCount 17 = .ok (.ifCond .eq 6, 3) := by decide +kernel
theorem dX3_jumpCount_20 : decode cX3_jumpCount 20 = .ok (.iinc 1 1, 3) := by decide +kernel
theorem dX3_jumpCount_23 : decode cX3_jumpCount 23 = .ok (.iinc 2 1, 3) := by decide +kernel
theorem dX3_jumpCount_26 : decode cX3_jumpCount 26 = .ok (.goto (-22), 3) := by decide +kernel
theorem dX3_jumpCount_29 : decode cX3_jumpCount 29 = .ok (.iload_n 1, 1) := by decide +kernel
theorem dX3_jumpCount_30 : decode cX3_jumpCount 30 = .ok (.ireturn, 1) := by decide +kernel
theorem dX3_firstJump_0 : decode cX3_firstJump 0 = .ok (.iconst 1, 1) := by decide +kernel
theorem dX3_firstJump_1 : decode cX3_firstJump 1 = .ok (.istore_n 1, 1) := by decide +kernel
theorem dX3_firstJump_2 : decode cX3_firstJump 2 = .ok (.iload_n 1, 1) := by decide +kernel
theorem dX3_firstJump_3 : decode cX3_firstJump 3 = .ok (.aload_n 0, 1) := by decide +kernel
theorem dX3_firstJump_4 : decode cX3_firstJump 4 = .ok (.getfield 15, 3) := by decide +kernel
theorem dX3_firstJump_7 : decode cX3_firstJump 7 = .ok (.if_icmp .ge 19, 3) := by decide +kernel
theorem dX3_firstJump_10 : decode cX3_firstJump 10 = .ok (.aload_n 0, 1) := by decide +kernel
theorem dX3_firstJump_11 : decode cX3_firstJump 11 = .ok (.iload_n 1, 1) := by decide +kernel
theorem dX3_firstJump_12 : decode cX3_firstJump 12 = .ok (.invokevirtual 35, 3) := by decide +kernel
theorem dX3_firstJump_15 : decode cX3_firstJump 15 = .ok (.ifCond .eq 5, 3) := by decide +kernel
theorem dX3_firstJump_18 : decode cX3_firstJump 18 = .ok (.iload_n 1, 1) := by decide +kernel
theorem dX3_firstJump_19 : decode cX3_firstJump 19 = .ok (.ireturn, 1) := by decide +kernel
theorem dX3_firstJump_20 : decode cX3_firstJump 20 = .ok (.iinc 1 1, 3) := by decide +kernel
theorem dX3_firstJump_23 : decode cX3_firstJump 23 = .ok (.goto (-21), 3) := by decide +kernel
theorem dX3_firstJump_26 : decode cX3_firstJump 26 = .ok (.iconst (-1), 1) := by decide +kernel
theorem dX3_firstJump_27 : decode cX3_firstJump 27 = .ok (.ireturn, 1) := by decide +kernel
theorem dX3_cliffCount_0 : decode cX3_cliffCount 0 = .ok (.iconst 0, 1) := by decide +kernel
theorem dX3_cliffCount_1 : decode cX3_cliffCount 1 = .ok (.istore_n 1, 1) := by decide +kernel
theorem dX3_cliffCount_2 : decode cX3_cliffCount 2 = .ok (.iconst 1, 1) := by decide +kernel
theorem dX3_cliffCount_3 : decode cX3_cliffCount 3 = .ok (.istore_n 2, 1) := by decide +kernel
theorem dX3_cliffCount_4 : decode cX3_cliffCount 4 = .ok (.iload_n 2, 1) := by decide +kernel
theorem dX3_cliffCount_5 : decode cX3_cliffCount 5 = .ok (.aload_n 0, 1) := by decide +kernel
theorem dX3_cliffCount_6 : decode cX3_cliffCount 6 = .ok (.getfield 15, 3) := by decide +kernel
theorem dX3_cliffCount_9 : decode cX3_cliffCount 9 = .ok (.if_icmp .ge 20, 3) := by decide +kernel
theorem dX3_cliffCount_12 : decode cX3_cliffCount 12 = .ok (.aload_n 0, 1) := by decide +kernel
theorem dX3_cliffCount_13 : decode cX3_cliffCount 13 = .ok (.iload_n 2, 1) := by decide +kernel
theorem dX3_cliffCount_14 : decode cX3_cliffCount 14 = .ok (.invokevirtual 39, 3) := by decide +kernel
theorem dX3_cliffCount_17 : decode cX3_cliffCount 17 = .ok (.ifCond .le 6, 3) := by decide +kernel
theorem dX3_cliffCount_20 : decode cX3_cliffCount 20 = .ok (.iinc 1 1, 3) := by decide +kernel
theorem dX3_cliffCount_23 : decode cX3_cliffCount 23 = .ok (.iinc 2 1, 3) := by decide +kernel
theorem dX3_cliffCount_26 : decode cX3_cliffCount 26 = .ok (.goto (-22), 3) := by decide +kernel
theorem dX3_cliffCount_29 : decode cX3_cliffCount 29 = .ok (.iload_n 1, 1) := by decide +kernel
theorem dX3_cliffCount_30 : decode cX3_cliffCount 30 = .ok (.ireturn, 1) := by decide +kernel
theorem dX3_highestCliff_0 : decode cX3_highestCliff 0 = .ok (.iconst (-1), 1) := by decide +kernel
theorem dX3_highestCliff_1 : decode cX3_highestCliff 1 = .ok (.istore_n 1, 1) := by decide +kernel
theorem dX3_highestCliff_2 : decode cX3_highestCliff 2 = .ok (.iconst 1, 1) := by decide +kernel
theorem dX3_highestCliff_3 : decode cX3_highestCliff 3 = .ok (.istore_n 2, 1) := by decide +kernel
theorem dX3_highestCliff_4 : decode cX3_highestCliff 4 = .ok (.iload_n 2, 1) := by decide +kernel
theorem dX3_highestCliff_5 : decode cX3_highestCliff 5 = .ok (.aload_n 0, 1) := by decide +kernel
theorem dX3_highestCliff_6 : decode cX3_highestCliff 6 = .ok (.getfield 15, 3) := by decide +kernel
theorem dX3_highestCliff_9 : decode cX3_highestCliff 9 = .ok (.if_icmp .ge 24, 3) := by decide +kernel
theorem dX3_highestCliff_12 : decode cX3_highestCliff 12 = .ok (.aload_n 0, 1) := by decide +kernel
theorem dX3_highestCliff_13 : decode cX3_highestCliff 13 = .ok (.iload_n 2, 1) := by decide +kernel
theorem dX3_highestCliff_14 : decode cX3_highestCliff 14 = .ok (.invokevirtual 39, 3) := by decide +kernel
theorem dX3_highestCliff_17 : decode cX3_highestCliff 17 = .ok (.aload_n 0, 1) := by decide +kernel
theorem dX3_highestCliff_18 : decode cX3_highestCliff 18 = .ok (.iload_n 1, 1) := by decide +kernel
theorem dX3_highestCliff_19 : decode cX3_highestCliff 19 = .ok (.invokevirtual 39, 3) := by decide +kernel
theorem dX3_highestCliff_22 : decode cX3_highestCliff 22 = .ok (.if_icmp .le 5, 3) := by decide +kernel
theorem dX3_highestCliff_25 : decode cX3_highestCliff 25 = .ok (.iload_n 2, 1) := by decide +kernel
theorem dX3_highestCliff_26 : decode cX3_highestCliff 26 = .ok (.istore_n 1, 1) := by decide +kernel
theorem dX3_highestCliff_27 : decode cX3_highestCliff 27 = .ok (.iinc 2 1, 3) := by decide +kernel
theorem dX3_highestCliff_30 : decode cX3_highestCliff 30 = .ok (.goto (-26), 3) := by decide +kernel
theorem dX3_highestCliff_33 : decode cX3_highestCliff 33 = .ok (.iload_n 1, 1) := by decide +kernel
theorem dX3_highestCliff_34 : decode cX3_highestCliff 34 = .ok (.ireturn, 1) := by decide +kernel
theorem dX3_cliffHeight_0 : decode cX3_cliffHeight 0 = .ok (.iload_n 1, 1) := by decide +kernel
theorem dX3_cliffHeight_1 : decode cX3_cliffHeight 1 = .ok (.iconst 1, 1) := by decide +kernel
theorem dX3_cliffHeight_2 : decode cX3_cliffHeight 2 = .ok (.if_icmp .lt 11, 3) := by decide +kernel
theorem dX3_cliffHeight_5 : decode cX3_cliffHeight 5 = .ok (.iload_n 1, 1) := by decide +kernel
theorem dX3_cliffHeight_6 : decode cX3_cliffHeight 6 = .ok (.aload_n 0, 1) := by decide +kernel
theorem dX3_cliffHeight_7 : decode cX3_cliffHeight 7 = .ok (.getfield 15, 3) := by decide +kernel
theorem dX3_cliffHeight_10 : decode cX3_cliffHeight 10 = .ok (.if_icmp .lt 5, 3) := by decide +kernel
theorem dX3_cliffHeight_13 : decode cX3_cliffHeight 13 = .ok (.iconst 0, 1) := by decide +kernel
theorem dX3_cliffHeight_14 : decode cX3_cliffHeight 14 = .ok (.ireturn, 1) := by decide +kernel
theorem dX3_cliffHeight_15 : decode cX3_cliffHeight 15 = .ok (.iconst 0, 1) := by decide +kernel
theorem dX3_cliffHeight_16 : decode cX3_cliffHeight 16 = .ok (.aload_n 0, 1) := by decide +kernel
theorem dX3_cliffHeight_17 : decode cX3_cliffHeight 17 = .ok (.getfield 9, 3) := by decide +kernel
theorem dX3_cliffHeight_20 : decode cX3_cliffHeight 20 = .ok (.iload_n 1, 1) := by decide +kernel
theorem dX3_cliffHeight_21 : decode cX3_cliffHeight 21 = .ok (.iconst 1, 1) := by decide +kernel
theorem dX3_cliffHeight_22 : decode cX3_cliffHeight 22 = .ok (.isub, 1) := by decide +kernel
theorem dX3_cliffHeight_23 : decode cX3_cliffHeight 23 = .ok (.iaload, 1) := by decide +kernel
theorem dX3_cliffHeight_24 : decode cX3_cliffHeight 24 = .ok (.aload_n 0, 1) := by decide +kernel
theorem dX3_cliffHeight_25 : decode cX3_cliffHeight 25 = .ok (.getfield 9, 3) := by decide +kernel
theorem dX3_cliffHeight_28 : decode cX3_cliffHeight 28 = .ok (.iload_n 1, 1) := by decide +kernel
theorem dX3_cliffHeight_29 : decode cX3_cliffHeight 29 = .ok (.iaload, 1) := by decide +kernel
theorem dX3_cliffHeight_30 : decode cX3_cliffHeight 30 = .ok (.isub, 1) := by decide +kernel
theorem dX3_cliffHeight_31 : decode cX3_cliffHeight 31 = .ok (.invokestatic 42, 3) := by decide +kernel
theorem dX3_cliffHeight_34 : decode cX3_cliffHeight 34 = .ok (.ireturn, 1) := by decide +kernel
theorem dX3_isBend_0 : decode cX3_isBend 0 = .ok (.aload_n 0, 1) := by decide +kernel
theorem dX3_isBend_1 : decode cX3_isBend 1 = .ok (.getfield 9, 3) := by decide +kernel
theorem dX3_isBend_4 : decode cX3_isBend 4 = .ok (.iload_n 1, 1) := by decide +kernel
theorem dX3_isBend_5 : decode cX3_isBend 5 = .ok (.iaload, 1) := by decide +kernel
theorem dX3_isBend_6 : decode cX3_isBend 6 = .ok (.aload_n 0, 1) := by decide +kernel
theorem dX3_isBend_7 : decode cX3_isBend 7 = .ok (.getfield 9, 3) := by decide +kernel
theorem dX3_isBend_10 : decode cX3_isBend 10 = .ok (.iload_n 1, 1) := by decide +kernel
theorem dX3_isBend_11 : decode cX3_isBend 11 = .ok (.iconst 1, 1) := by decide +kernel
theorem dX3_isBend_12 : decode cX3_isBend 12 = .ok (.isub, 1) := by decide +kernel
theorem dX3_isBend_13 : decode cX3_isBend 13 = .ok (.iaload, 1) := by decide +kernel
theorem dX3_isBend_14 : decode cX3_isBend 14 = .ok (.isub, 1) := by decide +kernel
theorem dX3_isBend_15 : decode cX3_isBend 15 = .ok (.aload_n 0, 1) := by decide +kernel
theorem dX3_isBend_16 : decode cX3_isBend 16 = .ok (.getfield 9, 3) := by decide +kernel
theorem dX3_isBend_19 : decode cX3_isBend 19 = .ok (.iload_n 1, 1) := by decide +kernel
theorem dX3_isBend_20 : decode cX3_isBend 20 = .ok (.iconst 1, 1) := by decide +kernel
theorem dX3_isBend_21 : decode cX3_isBend 21 = .ok (.isub, 1) := by decide +kernel
theorem dX3_isBend_22 : decode cX3_isBend 22 = .ok (.iaload, 1) := by decide +kernel
theorem dX3_isBend_23 : decode cX3_isBend 23 = .ok (.aload_n 0, 1) := by decide +kernel
theorem dX3_isBend_24 : decode cX3_isBend 24 = .ok (.getfield 9, 3) := by decide +kernel
theorem dX3_isBend_27 : decode cX3_isBend 27 = .ok (.iload_n 1, 1) := by decide +kernel
theorem dX3_isBend_28 : decode cX3_isBend 28 = .ok (.iconst 2, 1) := by decide +kernel
theorem dX3_isBend_29 : decode cX3_isBend 29 = .ok (.isub, 1) := by decide +kernel
theorem dX3_isBend_30 : decode cX3_isBend 30 = .ok (.iaload, 1) := by decide +kernel
theorem dX3_isBend_31 : decode cX3_isBend 31 = .ok (.isub, 1) := by decide +kernel
theorem dX3_isBend_32 : decode cX3_isBend 32 = .ok (.if_icmp .eq 7, 3) := by decide +kernel
theorem dX3_isBend_35 : decode cX3_isBend 35 = .ok (.iconst 1, 1) := by decide +kernel
theorem dX3_isBend_36 : decode cX3_isBend 36 = .ok (.goto 4, 3) := by decide +kernel
theorem dX3_isBend_39 : decode cX3_isBend 39 = .ok (.iconst 0, 1) := by decide +kernel
theorem dX3_isBend_40 : decode cX3_isBend 40 = .ok (.ireturn, 1) := by decide +kernel
theorem dX3_bendCount_0 : decode cX3_bendCount 0 = .ok (.iconst 0, 1) := by decide +kernel
theorem dX3_bendCount_1 : decode cX3_bendCount 1 = .ok (.istore_n 1, 1) := by decide +kernel
theorem dX3_bendCount_2 : decode cX3_bendCount 2 = .ok (.iconst 2, 1) := by decide +kernel
theorem dX3_bendCount_3 : decode cX3_bendCount 3 = .ok (.istore_n 2, 1) := by decide +kernel
theorem dX3_bendCount_4 : decode cX3_bendCount 4 = .ok (.iload_n 2, 1) := by decide +kernel
theorem dX3_bendCount_5 : decode cX3_bendCount 5 = .ok (.aload_n 0, 1) := by decide +kernel
theorem dX3_bendCount_6 : decode cX3_bendCount 6 = .ok (.getfield 15, 3) := by decide +kernel
theorem dX3_bendCount_9 : decode cX3_bendCount 9 = .ok (.if_icmp .ge 20, 3) := by decide +kernel
theorem dX3_bendCount_12 : decode cX3_bendCount 12 = .ok (.aload_n 0, 1) := by decide +kernel
theorem dX3_bendCount_13 : decode cX3_bendCount 13 = .ok (.iload_n 2, 1) := by decide +kernel
theorem dX3_bendCount_14 : decode cX3_bendCount 14 = .ok (.invokevirtual 47, 3) := by decide +kernel
theorem dX3_bendCount_17 : decode cX3_bendCount 17 = .ok (.ifCond .eq 6, 3) := by decide +kernel
theorem dX3_bendCount_20 : decode cX3_bendCount 20 = .ok (.iinc 1 1, 3) := by decide +kernel
theorem dX3_bendCount_23 : decode cX3_bendCount 23 = .ok (.iinc 2 1, 3) := by decide +kernel
theorem dX3_bendCount_26 : decode cX3_bendCount 26 = .ok (.goto (-22), 3) := by decide +kernel
theorem dX3_bendCount_29 : decode cX3_bendCount 29 = .ok (.iload_n 1, 1) := by decide +kernel
theorem dX3_bendCount_30 : decode cX3_bendCount 30 = .ok (.ireturn, 1) := by decide +kernel
theorem dX3_firstBend_0 : decode cX3_firstBend 0 = .ok (.iconst 2, 1) := by decide +kernel
theorem dX3_firstBend_1 : decode cX3_firstBend 1 = .ok (.istore_n 1, 1) := by decide +kernel
theorem dX3_firstBend_2 : decode cX3_firstBend 2 = .ok (.iload_n 1, 1) := by decide +kernel
theorem dX3_firstBend_3 : decode cX3_firstBend 3 = .ok (.aload_n 0, 1) := by decide +kernel
theorem dX3_firstBend_4 : decode cX3_firstBend 4 = .ok (.getfield 15, 3) := by decide +kernel
theorem dX3_firstBend_7 : decode cX3_firstBend 7 = .ok (.if_icmp .ge 19, 3) := by decide +kernel
theorem dX3_firstBend_10 : decode cX3_firstBend 10 = .ok (.aload_n 0, 1) := by decide +kernel
theorem dX3_firstBend_11 : decode cX3_firstBend 11 = .ok (.iload_n 1, 1) := by decide +kernel
theorem dX3_firstBend_12 : decode cX3_firstBend 12 = .ok (.invokevirtual 47, 3) := by decide +kernel
theorem dX3_firstBend_15 : decode cX3_firstBend 15 = .ok (.ifCond .eq 5, 3) := by decide +kernel
theorem dX3_firstBend_18 : decode cX3_firstBend 18 = .ok (.iload_n 1, 1) := by decide +kernel
theorem dX3_firstBend_19 : decode cX3_firstBend 19 = .ok (.ireturn, 1) := by decide +kernel
theorem dX3_firstBend_20 : decode cX3_firstBend 20 = .ok (.iinc 1 1, 3) := by decide +kernel
theorem dX3_firstBend_23 : decode cX3_firstBend 23 = .ok (.goto (-21), 3) := by decide +kernel
theorem dX3_firstBend_26 : decode cX3_firstBend 26 = .ok (.iconst (-1), 1) := by decide +kernel
theorem dX3_firstBend_27 : decode cX3_firstBend 27 = .ok (.ireturn, 1) := by decide +kernel
theorem dX3_longestLevel_0 : decode cX3_longestLevel 0 = .ok (.iconst 1, 1) := by decide +kernel
theorem dX3_longestLevel_1 : decode cX3_longestLevel 1 = .ok (.istore_n 1, 1) := by decide +kernel
theorem dX3_longestLevel_2 : decode cX3_longestLevel 2 = .ok (.iconst 1, 1) := by decide +kernel
theorem dX3_longestLevel_3 : decode cX3_longestLevel 3 = .ok (.istore_n 2, 1) := by decide +kernel
theorem dX3_longestLevel_4 : decode cX3_longestLevel 4 = .ok (.iconst 1, 1) := by decide +kernel
theorem dX3_longestLevel_5 : decode cX3_longestLevel 5 = .ok (.istore_n 3, 1) := by decide +kernel
theorem dX3_longestLevel_6 : decode cX3_longestLevel 6 = .ok (.iload_n 3, 1) := by decide +kernel
theorem dX3_longestLevel_7 : decode cX3_longestLevel 7 = .ok (.aload_n 0, 1) := by decide +kernel
theorem dX3_longestLevel_8 : decode cX3_longestLevel 8 = .ok (.getfield 15, 3) := by decide +kernel
theorem dX3_longestLevel_11 : decode cX3_longestLevel 11 = .ok (.if_icmp .ge 31, 3) := by decide +kernel
theorem dX3_longestLevel_14 : decode cX3_longestLevel 14 = .ok (.aload_n 0, 1) := by decide +kernel
theorem dX3_longestLevel_15 : decode cX3_longestLevel 15 = .ok (.iload_n 3, 1) := by decide +kernel
theorem dX3_longestLevel_16 : decode cX3_longestLevel 16 = .ok (.invokevirtual 35, 3) := by decide +kernel
theorem dX3_longestLevel_19 : decode cX3_longestLevel 19 = .ok (.ifCond .eq 7, 3) := by decide +kernel
theorem dX3_longestLevel_22 : decode cX3_longestLevel 22 = .ok (.iconst 1, 1) := by decide +kernel
theorem dX3_longestLevel_23 : decode cX3_longestLevel 23 = .ok (.goto 6, 3) := by decide +kernel
theorem dX3_longestLevel_26 : decode cX3_longestLevel 26 = .ok (.iload_n 2, 1) := by decide +kernel
theorem dX3_longestLevel_27 : decode cX3_longestLevel 27 = .ok (.iconst 1, 1) := by decide +kernel
theorem dX3_longestLevel_28 : decode cX3_longestLevel 28 = .ok (.iadd, 1) := by decide +kernel
theorem dX3_longestLevel_29 : decode cX3_longestLevel 29 = .ok (.istore_n 2, 1) := by decide +kernel
theorem dX3_longestLevel_30 : decode cX3_longestLevel 30 = .ok (.iload_n 1, 1) := by decide +kernel
theorem dX3_longestLevel_31 : decode cX3_longestLevel 31 = .ok (.iload_n 2, 1) := by decide +kernel
theorem dX3_longestLevel_32 : decode cX3_longestLevel 32 = .ok (.invokestatic 42, 3) := by decide +kernel
theorem dX3_longestLevel_35 : decode cX3_longestLevel 35 = .ok (.istore_n 1, 1) := by decide +kernel
theorem dX3_longestLevel_36 : decode cX3_longestLevel 36 = .ok (.iinc 3 1, 3) := by decide +kernel
theorem dX3_longestLevel_39 : decode cX3_longestLevel 39 = .ok (.goto (-33), 3) := by decide +kernel
theorem dX3_longestLevel_42 : decode cX3_longestLevel 42 = .ok (.iload_n 1, 1) := by decide +kernel
theorem dX3_longestLevel_43 : decode cX3_longestLevel 43 = .ok (.ireturn, 1) := by decide +kernel
theorem dX3_otherThanZeroCount_0 : decode cX3_otherThanZeroCount 0 = .ok (.iconst 0, 1) := by decide +kernel
theorem dX3_otherThanZeroCount_1 : decode cX3_otherThanZeroCount 1 = .ok (.istore_n 1, 1) := by decide +kernel
theorem dX3_otherThanZeroCount_2 : decode cX3_otherThanZeroCount 2 = .ok (.iconst 0, 1) := by decide +kernel
theorem dX3_otherThanZeroCount_3 : decode cX3_otherThanZeroCount 3 = .ok (.istore_n 2, 1) := by decide +kernel
theorem dX3_otherThanZeroCount_4 : decode cX3_otherThanZeroCount 4 = .ok (.iload_n 2, 1) := by decide +kernel
theorem dX3_otherThanZeroCount_5 : decode cX3_otherThanZeroCount 5 = .ok (.aload_n 0, 1) := by decide +kernel
theorem dX3_otherThanZeroCount_6 : decode cX3_otherThanZeroCount 6 = .ok (.getfield 15, 3) := by decide +kernel
theorem dX3_otherThanZeroCount_9 : decode cX3_otherThanZeroCount 9 = .ok (.if_icmp .ge 21, 3) := by decide +kernel
theorem dX3_otherThanZeroCount_12 : decode cX3_otherThanZeroCount 12 = .ok (.aload_n 0, 1) := by decide +kernel
theorem dX3_otherThanZeroCount_13 : decode cX3_otherThanZeroCount 13 = .ok (.getfield 9, 3) := by decide +kernel
theorem dX3_otherThanZeroCount_16 : decode cX3_otherThanZeroCount 16 = .ok (.iload_n 2, 1) := by decide +kernel
theorem dX3_otherThanZeroCount_17 : decode cX3_otherThanZeroCount 17 = .ok (.iaload, 1) := by decide +kernel
theorem dX3_otherThanZeroCount_18 : decode cX3_otherThanZeroCount 18 = .ok (.ifCond .eq 6, 3) := by decide +kernel
theorem dX3_otherThanZeroCount_21 : decode cX3_otherThanZeroCount 21 = .ok (.iinc 1 1, 3) := by decide +kernel
theorem dX3_otherThanZeroCount_24 : decode cX3_otherThanZeroCount 24 = .ok (.iinc 2 1, 3) := by decide +kernel
theorem dX3_otherThanZeroCount_27 : decode cX3_otherThanZeroCount 27 = .ok (.goto (-23), 3) := by decide +kernel
theorem dX3_otherThanZeroCount_30 : decode cX3_otherThanZeroCount 30 = .ok (.iload_n 1, 1) := by decide +kernel
theorem dX3_otherThanZeroCount_31 : decode cX3_otherThanZeroCount 31 = .ok (.ireturn, 1) := by decide +kernel
theorem dX3_firstOtherThanZero_0 : decode cX3_firstOtherThanZero 0 = .ok (.iconst 0, 1) := by decide +kernel
theorem dX3_firstOtherThanZero_1 : decode cX3_firstOtherThanZero 1 = .ok (.istore_n 1, 1) := by decide +kernel
theorem dX3_firstOtherThanZero_2 : decode cX3_firstOtherThanZero 2 = .ok (.iload_n 1, 1) := by decide +kernel
theorem dX3_firstOtherThanZero_3 : decode cX3_firstOtherThanZero 3 = .ok (.aload_n 0, 1) := by decide +kernel
theorem dX3_firstOtherThanZero_4 : decode cX3_firstOtherThanZero 4 = .ok (.getfield 15, 3) := by decide +kernel
theorem dX3_firstOtherThanZero_7 : decode cX3_firstOtherThanZero 7 = .ok (.if_icmp .ge 20, 3) := by decide +kernel
theorem dX3_firstOtherThanZero_10 : decode cX3_firstOtherThanZero 10 = .ok (.aload_n 0, 1) := by decide +kernel
theorem dX3_firstOtherThanZero_11 : decode cX3_firstOtherThanZero 11 = .ok (.getfield 9, 3) := by decide +kernel
theorem dX3_firstOtherThanZero_14 : decode cX3_firstOtherThanZero 14 = .ok (.iload_n 1, 1) := by decide +kernel
theorem dX3_firstOtherThanZero_15 : decode cX3_firstOtherThanZero 15 = .ok (.iaload, 1) := by decide +kernel
theorem dX3_firstOtherThanZero_16 : decode cX3_firstOtherThanZero 16 = .ok (.ifCond .eq 5, 3) := by decide +kernel
theorem dX3_firstOtherThanZero_19 : decode cX3_firstOtherThanZero 19 = .ok (.iload_n 1, 1) := by decide +kernel
theorem dX3_firstOtherThanZero_20 : decode cX3_firstOtherThanZero 20 = .ok (.ireturn, 1) := by decide +kernel
theorem dX3_firstOtherThanZero_21 : decode cX3_firstOtherThanZero 21 = .ok (.iinc 1 1, 3) := by decide +kernel
theorem dX3_firstOtherThanZero_24 : decode cX3_firstOtherThanZero 24 = .ok (.goto (-22), 3) := by decide +kernel
theorem dX3_firstOtherThanZero_27 : decode cX3_firstOtherThanZero 27 = .ok (.iconst (-1), 1) := by decide +kernel
theorem dX3_firstOtherThanZero_28 : decode cX3_firstOtherThanZero 28 = .ok (.ireturn, 1) := by decide +kernel
theorem dX3_farthestFromZero_0 : decode cX3_farthestFromZero 0 = .ok (.iconst 0, 1) := by decide +kernel
theorem dX3_farthestFromZero_1 : decode cX3_farthestFromZero 1 = .ok (.istore_n 1, 1) := by decide +kernel
theorem dX3_farthestFromZero_2 : decode cX3_farthestFromZero 2 = .ok (.iconst 0, 1) := by decide +kernel
theorem dX3_farthestFromZero_3 : decode cX3_farthestFromZero 3 = .ok (.istore_n 2, 1) := by decide +kernel
theorem dX3_farthestFromZero_4 : decode cX3_farthestFromZero 4 = .ok (.iload_n 2, 1) := by decide +kernel
theorem dX3_farthestFromZero_5 : decode cX3_farthestFromZero 5 = .ok (.aload_n 0, 1) := by decide +kernel
theorem dX3_farthestFromZero_6 : decode cX3_farthestFromZero 6 = .ok (.getfield 15, 3) := by decide +kernel
theorem dX3_farthestFromZero_9 : decode cX3_farthestFromZero 9 = .ok (.if_icmp .ge 23, 3) := by decide +kernel
theorem dX3_farthestFromZero_12 : decode cX3_farthestFromZero 12 = .ok (.iload_n 1, 1) := by decide +kernel
theorem dX3_farthestFromZero_13 : decode cX3_farthestFromZero 13 = .ok (.aload_n 0, 1) := by decide +kernel
theorem dX3_farthestFromZero_14 : decode cX3_farthestFromZero 14 = .ok (.getfield 9, 3) := by decide +kernel
theorem dX3_farthestFromZero_17 : decode cX3_farthestFromZero 17 = .ok (.iload_n 2, 1) := by decide +kernel
theorem dX3_farthestFromZero_18 : decode cX3_farthestFromZero 18 = .ok (.iaload, 1) := by decide +kernel
theorem dX3_farthestFromZero_19 : decode cX3_farthestFromZero 19 = .ok (.invokestatic 50, 3) := by decide +kernel
theorem dX3_farthestFromZero_22 : decode cX3_farthestFromZero 22 = .ok (.invokestatic 42, 3) := by decide +kernel
theorem dX3_farthestFromZero_25 : decode cX3_farthestFromZero 25 = .ok (.istore_n 1, 1) := by decide +kernel
theorem dX3_farthestFromZero_26 : decode cX3_farthestFromZero 26 = .ok (.iinc 2 1, 3) := by decide +kernel
theorem dX3_farthestFromZero_29 : decode cX3_farthestFromZero 29 = .ok (.goto (-25), 3) := by decide +kernel
theorem dX3_farthestFromZero_32 : decode cX3_farthestFromZero 32 = .ok (.iload_n 1, 1) := by decide +kernel
theorem dX3_farthestFromZero_33 : decode cX3_farthestFromZero 33 = .ok (.ireturn, 1) := by decide +kernel
theorem dX3_belowZeroCount_0 : decode cX3_belowZeroCount 0 = .ok (.iconst 0, 1) := by decide +kernel
theorem dX3_belowZeroCount_1 : decode cX3_belowZeroCount 1 = .ok (.istore_n 1, 1) := by decide +kernel
theorem dX3_belowZeroCount_2 : decode cX3_belowZeroCount 2 = .ok (.iconst 0, 1) := by decide +kernel
theorem dX3_belowZeroCount_3 : decode cX3_belowZeroCount 3 = .ok (.istore_n 2, 1) := by decide +kernel
theorem dX3_belowZeroCount_4 : decode cX3_belowZeroCount 4 = .ok (.iload_n 2, 1) := by decide +kernel
theorem dX3_belowZeroCount_5 : decode cX3_belowZeroCount 5 = .ok (.aload_n 0, 1) := by decide +kernel
theorem dX3_belowZeroCount_6 : decode cX3_belowZeroCount 6 = .ok (.getfield 15, 3) := by decide +kernel
theorem dX3_belowZeroCount_9 : decode cX3_belowZeroCount 9 = .ok (.if_icmp .ge 21, 3) := by decide +kernel
theorem dX3_belowZeroCount_12 : decode cX3_belowZeroCount 12 = .ok (.aload_n 0, 1) := by decide +kernel
theorem dX3_belowZeroCount_13 : decode cX3_belowZeroCount 13 = .ok (.getfield 9, 3) := by decide +kernel
theorem dX3_belowZeroCount_16 : decode cX3_belowZeroCount 16 = .ok (.iload_n 2, 1) := by decide +kernel
theorem dX3_belowZeroCount_17 : decode cX3_belowZeroCount 17 = .ok (.iaload, 1) := by decide +kernel
theorem dX3_belowZeroCount_18 : decode cX3_belowZeroCount 18 = .ok (.ifCond .ge 6, 3) := by decide +kernel
theorem dX3_belowZeroCount_21 : decode cX3_belowZeroCount 21 = .ok (.iinc 1 1, 3) := by decide +kernel
theorem dX3_belowZeroCount_24 : decode cX3_belowZeroCount 24 = .ok (.iinc 2 1, 3) := by decide +kernel
theorem dX3_belowZeroCount_27 : decode cX3_belowZeroCount 27 = .ok (.goto (-23), 3) := by decide +kernel
theorem dX3_belowZeroCount_30 : decode cX3_belowZeroCount 30 = .ok (.iload_n 1, 1) := by decide +kernel
theorem dX3_belowZeroCount_31 : decode cX3_belowZeroCount 31 = .ok (.ireturn, 1) := by decide +kernel
theorem dX4_init_0 : decode cX4_init 0 = .ok (.aload_n 0, 1) := by decide +kernel
theorem dX4_init_1 : decode cX4_init 1 = .ok (.invokespecial 3, 3) := by decide +kernel
theorem dX4_init_4 : decode cX4_init 4 = .ok (.aload_n 0, 1) := by decide +kernel
theorem dX4_init_5 : decode cX4_init 5 = .ok (.new 9, 3) := by decide +kernel
theorem dX4_init_8 : decode cX4_init 8 = .ok (.dup, 1) := by decide +kernel
theorem dX4_init_9 : decode cX4_init 9 = .ok (.invokespecial 11, 3) := by decide +kernel
theorem dX4_init_12 : decode cX4_init 12 = .ok (.putfield 12, 3) := by decide +kernel
theorem dX4_init_15 : decode cX4_init 15 = .ok (.aload_n 0, 1) := by decide +kernel
theorem dX4_init_16 : decode cX4_init 16 = .ok (.iconst 0, 1) := by decide +kernel
theorem dX4_init_17 : decode cX4_init 17 = .ok (.putfield 18, 3) := by decide +kernel
theorem dX4_init_20 : decode cX4_init 20 = .ok (.aload_n 0, 1) := by decide +kernel
theorem dX4_init_21 : decode cX4_init 21 = .ok (.iconst 0, 1) := by decide +kernel
theorem dX4_init_22 : decode cX4_init 22 = .ok (.putfield 22, 3) := by decide +kernel
theorem dX4_init_25 : decode cX4_init 25 = .ok (.aload_n 0, 1) := by decide +kernel
theorem dX4_init_26 : decode cX4_init 26 = .ok (.aload_n 1, 1) := by decide +kernel
theorem dX4_init_27 : decode cX4_init 27 = .ok (.putfield 25, 3) := by decide +kernel
theorem dX4_init_30 : decode cX4_init 30 = .ok (.return_, 1) := by decide +kernel
theorem dX4_place_0 : decode cX4_place 0 = .ok (.aload_n 0, 1) := by decide +kernel
theorem dX4_place_1 : decode cX4_place 1 = .ok (.getfield 12, 3) := by decide +kernel
theorem dX4_place_4 : decode cX4_place 4 = .ok (.aload_n 0, 1) := by decide +kernel
theorem dX4_place_5 : decode cX4_place 5 = .ok (.getfield 18, 3) := by decide +kernel
theorem dX4_place_8 : decode cX4_place 8 = .ok (.invokevirtual 29, 3) := by decide +kernel
theorem dX4_place_11 : decode cX4_place 11 = .ok (.ireturn, 1) := by decide +kernel
theorem dX4_readText_0 : decode cX4_readText 0 = .ok (.aload_n 0, 1) := by decide +kernel
theorem dX4_readText_1 : decode cX4_readText 1 = .ok (.getfield 12, 3) := by decide +kernel
theorem dX4_readText_4 : decode cX4_readText 4 = .ok (.aload_n 1, 1) := by decide +kernel
theorem dX4_readText_5 : decode cX4_readText 5 = .ok (.invokevirtual 33, 3) := by decide +kernel
theorem dX4_readText_8 : decode cX4_readText 8 = .ok (.aload_n 0, 1) := by decide +kernel
theorem dX4_readText_9 : decode cX4_readText 9 = .ok (.iconst 0, 1) := by decide +kernel
theorem dX4_readText_10 : decode cX4_readText 10 = .ok (.putfield 18, 3) := by decide +kernel
theorem dX4_readText_13 : decode cX4_readText 13 = .ok (.iconst 0, 1) := by decide +kernel
theorem dX4_readText_14 : decode cX4_readText 14 = .ok (.istore_n 2, 1) := by decide +kernel
theorem dX4_readText_15 : decode cX4_readText 15 = .ok (.iload_n 2, 1) := by decide +kernel
theorem dX4_readText_16 : decode cX4_readText 16 = .ok (.bipush 12, 2) := by decide +kernel
theorem dX4_readText_18 : decode cX4_readText 18 = .ok (.if_icmp .gt 61, 3) := by decide +kernel
theorem dX4_readText_21 : decode cX4_readText 21 = .ok (.aload_n 0, 1) := by decide +kernel
theorem dX4_readText_22 : decode cX4_readText 22 = .ok (.invokevirtual 37, 3) := by decide +kernel
theorem dX4_readText_25 : decode cX4_readText 25 = .ok (.ifCond .ne 5, 3) := by decide +kernel
theorem dX4_readText_28 : decode cX4_readText 28 = .ok (.iconst 0, 1) := by decide +kernel
theorem dX4_readText_29 : decode cX4_readText 29 = .ok (.ireturn, 1) := by decide +kernel
theorem dX4_readText_30 : decode cX4_readText 30 = .ok (.aload_n 0, 1) := by decide +kernel
theorem dX4_readText_31 : decode cX4_readText 31 = .ok (.getfield 12, 3) := by decide +kernel
theorem dX4_readText_34 : decode cX4_readText 34 = .ok (.aload_n 0, 1) := by decide +kernel
theorem dX4_readText_35 : decode cX4_readText 35 = .ok (.getfield 18, 3) := by decide +kernel
theorem dX4_readText_38 : decode cX4_readText 38 = .ok (.invokevirtual 41, 3) := by decide +kernel
theorem dX4_readText_41 : decode cX4_readText 41 = .ok (.ifCond .ne 5, 3) := by decide +kernel
theorem dX4_readText_44 : decode cX4_readText 44 = .ok (.iconst 1, 1) := by decide +kernel
theorem dX4_readText_45 : decode cX4_readText 45 = .ok (.ireturn, 1) := by decide +kernel
theorem dX4_readText_46 : decode cX4_readText 46 = .ok (.aload_n 0, 1) := by decide +kernel
theorem dX4_readText_47 : decode cX4_readText 47 = .ok (.getfield 12, 3) := by decide +kernel
theorem dX4_readText_50 : decode cX4_readText 50 = .ok (.aload_n 0, 1) := by decide +kernel
theorem dX4_readText_51 : decode cX4_readText 51 = .ok (.getfield 18, 3) := by decide +kernel
theorem dX4_readText_54 : decode cX4_readText 54 = .ok (.invokevirtual 41, 3) := by decide +kernel
theorem dX4_readText_57 : decode cX4_readText 57 = .ok (.iconst 3, 1) := by decide +kernel
theorem dX4_readText_58 : decode cX4_readText 58 = .ok (.if_icmp .eq 5, 3) := by decide +kernel
theorem dX4_readText_61 : decode cX4_readText 61 = .ok (.iconst 0, 1) := by decide +kernel
theorem dX4_readText_62 : decode cX4_readText 62 = .ok (.ireturn, 1) := by decide +kernel
theorem dX4_readText_63 : decode cX4_readText 63 = .ok (.aload_n 0, 1) := by decide +kernel
theorem dX4_readText_64 : decode cX4_readText 64 = .ok (.dup, 1) := by decide +kernel
theorem dX4_readText_65 : decode cX4_readText 65 = .ok (.getfield 18, 3) := by decide +kernel
theorem dX4_readText_68 : decode cX4_readText 68 = .ok (.iconst 1, 1) := by decide +kernel
theorem dX4_readText_69 : decode cX4_readText 69 = .ok (.iadd, 1) := by decide +kernel
theorem dX4_readText_70 : decode cX4_readText 70 = .ok (.putfield 18, 3) := by decide +kernel
theorem dX4_readText_73 : decode cX4_readText 73 = .ok (.iinc 2 1, 3) := by decide +kernel
theorem dX4_readText_76 : decode cX4_readText 76 = .ok (.goto (-61), 3) := by decide +kernel
theorem dX4_readText_79 : decode cX4_readText 79 = .ok (.iconst 0, 1) := by decide +kernel
theorem dX4_readText_80 : decode cX4_readText 80 = .ok (.ireturn, 1) := by decide +kernel
theorem dX4_readLaw_0 : decode cX4_readLaw 0 = .ok (.aload_n 0, 1) := by decide +kernel
theorem dX4_readLaw_1 : decode cX4_readLaw 1 = .ok (.bipush 9, 2) := by decide +kernel
theorem dX4_readLaw_3 : decode cX4_readLaw 3 = .ok (.bipush 9, 2) := by decide +kernel
theorem dX4_readLaw_5 : decode cX4_readLaw 5 = .ok (.invokevirtual 44, 3) := by decide +kernel
theorem dX4_readLaw_8 : decode cX4_readLaw 8 = .ok (.ifCond .ne 5, 3) := by decide +kernel
theorem dX4_readLaw_11 : decode cX4_readLaw 11 = .ok (.iconst 0, 1) := by decide +kernel
theorem dX4_readLaw_12 : decode cX4_readLaw 12 = .ok (.ireturn, 1) := by decide +kernel
theorem dX4_readLaw_13 : decode cX4_readLaw 13 = .ok (.aload_n 0, 1) := by decide +kernel
theorem dX4_readLaw_14 : decode cX4_readLaw 14 = .ok (.aload_n 0, 1) := by decide +kernel
theorem dX4_readLaw_15 : decode cX4_readLaw 15 = .ok (.getfield 25, 3) := by decide +kernel
theorem dX4_readLaw_18 : decode cX4_readLaw 18 = .ok (.invokevirtual 48, 3) := by decide +kernel
theorem dX4_readLaw_21 : decode cX4_readLaw 21 = .ok (.putfield 22, 3) := by decide +kernel
theorem dX4_readLaw_24 : decode cX4_readLaw 24 = .ok (.aload_n 0, 1) := by decide +kernel
theorem dX4_readLaw_25 : decode cX4_readLaw 25 = .ok (.getfield 22, 3) := by decide +kernel
theorem dX4_readLaw_28 : decode cX4_readLaw 28 = .ok (.bipush (-4), 2) := by decide +kernel
theorem dX4_readLaw_30 : decode cX4_readLaw 30 = .ok (.if_icmp .ne 5, 3) := by decide +kernel
theorem dX4_readLaw_33 : decode cX4_readLaw 33 = .ok (.iconst 0, 1) := by decide +kernel
theorem dX4_readLaw_34 : decode cX4_readLaw 34 = .ok (.ireturn, 1) := by decide +kernel
theorem dX4_readLaw_35 : decode cX4_readLaw 35 = .ok (.aload_n 0, 1) := by decide +kernel
theorem dX4_readLaw_36 : decode cX4_readLaw 36 = .ok (.dup, 1) := by decide +kernel
theorem dX4_readLaw_37 : decode cX4_readLaw 37 = .ok (.getfield 18, 3) := by decide +kernel
theorem dX4_readLaw_40 : decode cX4_readLaw 40 = .ok (.iconst 1, 1) := by decide +kernel
theorem dX4_readLaw_41 : decode cX4_readLaw 41 = .ok (.iadd, 1) := by decide +kernel
theorem dX4_readLaw_42 : decode cX4_readLaw 42 = .ok (.putfield 18, 3) := by decide +kernel
theorem dX4_readLaw_45 : decode cX4_readLaw 45 = .ok (.aload_n 0, 1) := by decide +kernel
theorem dX4_readLaw_46 : decode cX4_readLaw 46 = .ok (.invokevirtual 54, 3) := by decide +kernel
theorem dX4_readLaw_49 : decode cX4_readLaw 49 = .ok (.ifCond .eq 37, 3) := by decide +kernel
theorem dX4_readLaw_52 : decode cX4_readLaw 52 = .ok (.aload_n 0, 1) := by decide +kernel
theorem dX4_readLaw_53 : decode cX4_readLaw 53 = .ok (.bipush 10, 2) := by decide +kernel
theorem dX4_readLaw_55 : decode cX4_readLaw 55 = .ok (.invokevirtual 57, 3) := by decide +kernel
theorem dX4_readLaw_58 : decode cX4_readLaw 58 = .ok (.ifCond .eq 28, 3) := by decide +kernel
theorem dX4_readLaw_61 : decode cX4_readLaw 61 = .ok (.aload_n 0, 1) := by decide +kernel
theorem dX4_readLaw_62 : decode cX4_readLaw 62 = .ok (.invokevirtual 61, 3) := by decide +kernel
theorem dX4_readLaw_65 : decode cX4_readLaw 65 = .ok (.ifCond .eq 21, 3) := by decide +kernel
theorem dX4_readLaw_68 : decode cX4_readLaw 68 = .ok (.aload_n 0, 1) := by decide +kernel
theorem dX4_readLaw_69 : decode cX4_readLaw 69 = .ok (.invokevirtual 64, 3) := by decide +kernel
theorem dX4_readLaw_72 : decode cX4_readLaw 72 = .ok (.ifCond .eq 14, 3) := by decide +kernel
theorem dX4_readLaw_75 : decode cX4_readLaw 75 = .ok (.aload_n 0, 1) := by decide +kernel
theorem dX4_readLaw_76 : decode cX4_readLaw 76 = .ok (.invokevirtual 67, 3) := by decide +kernel
theorem dX4_readLaw_79 : decode cX4_readLaw 79 = .ok (.ifCond .eq 7, 3) := by decide +kernel
theorem dX4_readLaw_82 : decode cX4_readLaw 82 = .ok (.iconst 1, 1) := by decide +kernel
theorem dX4_readLaw_83 : decode cX4_readLaw 83 = .ok (.goto 4, 3) := by decide +kernel
theorem dX4_readLaw_86 : decode cX4_readLaw 86 = .ok (.iconst 0, 1) := by decide +kernel
theorem dX4_readLaw_87 : decode cX4_readLaw 87 = .ok (.ireturn, 1) := by decide +kernel
theorem dX4_readTest_0 : decode cX4_readTest 0 = .ok (.aload_n 0, 1) := by decide +kernel
theorem dX4_readTest_1 : decode cX4_readTest 1 = .ok (.bipush 11, 2) := by decide +kernel
theorem dX4_readTest_3 : decode cX4_readTest 3 = .ok (.invokevirtual 57, 3) := by decide +kernel
theorem dX4_readTest_6 : decode cX4_readTest 6 = .ok (.ifCond .eq 5, 3) := by decide +kernel
theorem dX4_readTest_9 : decode cX4_readTest 9 = .ok (.iconst 1, 1) := by decide +kernel
theorem dX4_readTest_10 : decode cX4_readTest 10 = .ok (.ireturn, 1) := by decide +kernel
theorem dX4_readTest_11 : decode cX4_readTest 11 = .ok (.aload_n 0, 1) := by decide +kernel
theorem dX4_readTest_12 : decode cX4_readTest 12 = .ok (.bipush 13, 2) := by decide +kernel
theorem dX4_readTest_14 : decode cX4_readTest 14 = .ok (.invokevirtual 57, 3) := by decide +kernel
theorem dX4_readTest_17 : decode cX4_readTest 17 = .ok (.ifCond .eq 11, 3) := by decide +kernel
theorem dX4_readTest_20 : decode cX4_readTest 20 = .ok (.aload_n 0, 1) := by decide +kernel
theorem dX4_readTest_21 : decode cX4_readTest 21 = .ok (.iconst 3, 1) := by decide +kernel
theorem dX4_readTest_22 : decode cX4_readTest 22 = .ok (.bipush 31, 2) := by decide +kernel
theorem dX4_readTest_24 : decode cX4_readTest 24 = .ok (.invokevirtual 70, 3) := by decide +kernel
theorem dX4_readTest_27 : decode cX4_readTest 27 = .ok (.ireturn, 1) := by decide +kernel
theorem dX4_readTest_28 : decode cX4_readTest 28 = .ok (.aload_n 0, 1) := by decide +kernel
theorem dX4_readTest_29 : decode cX4_readTest 29 = .ok (.iconst 1, 1) := by decide +kernel
theorem dX4_readTest_30 : decode cX4_readTest 30 = .ok (.invokevirtual 73, 3) := by decide +kernel
theorem dX4_readTest_33 : decode cX4_readTest 33 = .ok (.ifCond .ne 5, 3) := by decide +kernel
theorem dX4_readTest_36 : decode cX4_readTest 36 = .ok (.iconst 0, 1) := by decide +kernel
theorem dX4_readTest_37 : decode cX4_readTest 37 = .ok (.ireturn, 1) := by decide +kernel
theorem dX4_readTest_38 : decode cX4_readTest 38 = .ok (.aload_n 0, 1) := by decide +kernel
theorem dX4_readTest_39 : decode cX4_readTest 39 = .ok (.aload_n 0, 1) := by decide +kernel
theorem dX4_readTest_40 : decode cX4_readTest 40 = .ok (.bipush 12, 2) := by decide +kernel
theorem dX4_readTest_42 : decode cX4_readTest 42 = .ok (.invokevirtual 57, 3) := by decide +kernel
theorem dX4_readTest_45 : decode cX4_readTest 45 = .ok (.ifCond .eq 7, 3) := by decide +kernel
theorem dX4_readTest_48 : decode cX4_readTest 48 = .ok (.iconst 2, 1) := by decide +kernel
theorem dX4_readTest_49 : decode cX4_readTest 49 = .ok (.goto 4, 3) := by decide +kernel
theorem dX4_readTest_52 : decode cX4_readTest 52 = .ok (.iconst 1, 1) := by decide +kernel
theorem dX4_readTest_53 : decode cX4_readTest 53 = .ok (.bipush 99, 2) := by decide +kernel
theorem dX4_readTest_55 : decode cX4_readTest 55 = .ok (.invokevirtual 70, 3) := by decide +kernel
theorem dX4_readTest_58 : decode cX4_readTest 58 = .ok (.ireturn, 1) := by decide +kernel
theorem dX4_readLowAndHigh_0 : decode cX4_readLowAndHigh 0 = .ok (.aload_n 0, 1) := by decide +kernel
theorem dX4_readLowAndHigh_1 : decode cX4_readLowAndHigh 1 = .ok (.getfield 25, 3) := by decide +kernel
theorem dX4_readLowAndHigh_4 : decode cX4_readLowAndHigh 4 = .ok (.aload_n 0, 1) := by decide +kernel
theorem dX4_readLowAndHigh_5 : decode cX4_readLowAndHigh 5 = .ok (.getfield 22, 3) := by decide +kernel
theorem dX4_readLowAndHigh_8 : decode cX4_readLowAndHigh 8 = .ok (.iconst 0, 1) := by decide +kernel
theorem dX4_readLowAndHigh_9 : decode cX4_readLowAndHigh 9 = .ok (.iload_n 1, 1) := by decide +kernel
theorem dX4_readLowAndHigh_10 : decode cX4_readLowAndHigh 10 = .ok (.invokevirtual 76, 3) := by decide +kernel
theorem dX4_readLowAndHigh_13 : decode cX4_readLowAndHigh 13 = .ok (.aload_n 0, 1) := by decide +kernel
theorem dX4_readLowAndHigh_14 : decode cX4_readLowAndHigh 14 = .ok (.iconst 2, 1) := by decide +kernel
theorem dX4_readLowAndHigh_15 : decode cX4_readLowAndHigh 15 = .ok (.iconst 0, 1) := by decide +kernel
theorem dX4_readLowAndHigh_16 : decode cX4_readLowAndHigh 16 = .ok (.iload_n 2, 1) := by decide +kernel
theorem dX4_readLowAndHigh_17 : decode cX4_readLowAndHigh 17 = .ok (.invokevirtual 80, 3) := by decide +kernel
theorem dX4_readLowAndHigh_20 : decode cX4_readLowAndHigh 20 = .ok (.ifCond .eq 17, 3) := by decide +kernel
theorem dX4_readLowAndHigh_23 : decode cX4_readLowAndHigh 23 = .ok (.aload_n 0, 1) := by decide +kernel
theorem dX4_readLowAndHigh_24 : decode cX4_readLowAndHigh 24 = .ok (.iconst 3, 1) := by decide +kernel
theorem dX4_readLowAndHigh_25 : decode cX4_readLowAndHigh 25 = .ok (.iconst 0, 1) := by decide +kernel
theorem dX4_readLowAndHigh_26 : decode cX4_readLowAndHigh 26 = .ok (.iload_n 2, 1) := by decide +kernel
theorem dX4_readLowAndHigh_27 : decode cX4_readLowAndHigh 27 = .ok (.invokevirtual 80, 3) := by decide +kernel
theorem dX4_readLowAndHigh_30 : decode cX4_readLowAndHigh 30 = .ok (.ifCond .eq 7, 3) := by decide +kernel
theorem dX4_readLowAndHigh_33 : decode cX4_readLowAndHigh 33 = .ok (.iconst 1, 1) := by decide +kernel
theorem dX4_readLowAndHigh_34 : decode cX4_readLowAndHigh 34 = .ok (.goto 4, 3) := by decide +kernel
theorem dX4_readLowAndHigh_37 : decode cX4_readLowAndHigh 37 = .ok (.iconst 0, 1) := by decide +kernel
theorem dX4_readLowAndHigh_38 : decode cX4_readLowAndHigh 38 = .ok (.ireturn, 1) := by decide +kernel
theorem dX4_readGrant_0 : decode cX4_readGrant 0 = .ok (.aload_n 0, 1) := by decide +kernel
theorem dX4_readGrant_1 : decode cX4_readGrant 1 = .ok (.iconst 4, 1) := by decide +kernel
theorem dX4_readGrant_2 : decode cX4_readGrant 2 = .ok (.bipush 8, 2) := by decide +kernel
theorem dX4_readGrant_4 : decode cX4_readGrant 4 = .ok (.invokevirtual 44, 3) := by decide +kernel
theorem dX4_readGrant_7 : decode cX4_readGrant 7 = .ok (.ifCond .ne 5, 3) := by decide +kernel
theorem dX4_readGrant_10 : decode cX4_readGrant 10 = .ok (.iconst 0, 1) := by decide +kernel
theorem dX4_readGrant_11 : decode cX4_readGrant 11 = .ok (.ireturn, 1) := by decide +kernel
theorem dX4_readGrant_12 : decode cX4_readGrant 12 = .ok (.aload_n 0, 1) := by decide +kernel
theorem dX4_readGrant_13 : decode cX4_readGrant 13 = .ok (.getfield 12, 3) := by decide +kernel
theorem dX4_readGrant_16 : decode cX4_readGrant 16 = .ok (.aload_n 0, 1) := by decide +kernel
theorem dX4_readGrant_17 : decode cX4_readGrant 17 = .ok (.getfield 18, 3) := by decide +kernel
theorem dX4_readGrant_20 : decode cX4_readGrant 20 = .ok (.invokevirtual 84, 3) := by decide +kernel
theorem dX4_readGrant_23 : decode cX4_readGrant 23 = .ok (.iconst 4, 1) := by decide +kernel
theorem dX4_readGrant_24 : decode cX4_readGrant 24 = .ok (.isub, 1) := by decide +kernel
theorem dX4_readGrant_25 : decode cX4_readGrant 25 = .ok (.istore_n 1, 1) := by decide +kernel
theorem dX4_readGrant_26 : decode cX4_readGrant 26 = .ok (.aload_n 0, 1) := by decide +kernel
theorem dX4_readGrant_27 : decode cX4_readGrant 27 = .ok (.getfield 25, 3) := by decide +kernel
theorem dX4_readGrant_30 : decode cX4_readGrant 30 = .ok (.aload_n 0, 1) := by decide +kernel
theorem dX4_readGrant_31 : decode cX4_readGrant 31 = .ok (.getfield 22, 3) := by decide +kernel
theorem dX4_readGrant_34 : decode cX4_readGrant 34 = .ok (.iconst 4, 1) := by decide +kernel
theorem dX4_readGrant_35 : decode cX4_readGrant 35 = .ok (.iload_n 1, 1) := by decide +kernel
theorem dX4_readGrant_36 : decode cX4_readGrant 36 = .ok (.invokevirtual 76, 3) := by decide +kernel
theorem dX4_readGrant_39 : decode cX4_readGrant 39 = .ok (.aload_n 0, 1) := by decide +kernel
theorem dX4_readGrant_40 : decode cX4_readGrant 40 = .ok (.dup, 1) := by decide +kernel
theorem dX4_readGrant_41 : decode cX4_readGrant 41 = .ok (.getfield 18, 3) := by decide +kernel
theorem dX4_readGrant_44 : decode cX4_readGrant 44 = .ok (.iconst 1, 1) := by decide +kernel
theorem dX4_readGrant_45 : decode cX4_readGrant 45 = .ok (.iadd, 1) := by decide +kernel
theorem dX4_readGrant_46 : decode cX4_readGrant 46 = .ok (.putfield 18, 3) := by decide +kernel
theorem dX4_readGrant_49 : decode cX4_readGrant 49 = .ok (.iload_n 1, 1) := by decide +kernel
theorem dX4_readGrant_50 : decode cX4_readGrant 50 = .ok (.iconst 3, 1) := by decide +kernel
theorem dX4_readGrant_51 : decode cX4_readGrant 51 = .ok (.if_icmp .ne 5, 3) := by decide +kernel
theorem dX4_readGrant_54 : decode cX4_readGrant 54 = .ok (.iconst 1, 1) := by decide +kernel
theorem dX4_readGrant_55 : decode cX4_readGrant 55 = .ok (.ireturn, 1) := by decide +kernel
theorem dX4_readGrant_56 : decode cX4_readGrant 56 = .ok (.iload_n 1, 1) := by decide +kernel
theorem dX4_readGrant_57 : decode cX4_readGrant 57 = .ok (.invokestatic 87, 3) := by decide +kernel
theorem dX4_readGrant_60 : decode cX4_readGrant 60 = .ok (.ifCond .eq 13, 3) := by decide +kernel
theorem dX4_readGrant_63 : decode cX4_readGrant 63 = .ok (.aload_n 0, 1) := by decide +kernel
theorem dX4_readGrant_64 : decode cX4_readGrant 64 = .ok (.iconst 5, 1) := by decide +kernel
theorem dX4_readGrant_65 : decode cX4_readGrant 65 = .ok (.invokevirtual 73, 3) := by decide +kernel
theorem dX4_readGrant_68 : decode cX4_readGrant 68 = .ok (.ifCond .ne 5, 3) := by decide +kernel
theorem dX4_readGrant_71 : decode cX4_readGrant 71 = .ok (.iconst 0, 1) := by decide +kernel
theorem dX4_readGrant_72 : decode cX4_readGrant 72 = .ok (.ireturn, 1) := by decide +kernel
theorem dX4_readGrant_73 : decode cX4_readGrant 73 = .ok (.aload_n 0, 1) := by decide +kernel
theorem dX4_readGrant_74 : decode cX4_readGrant 74 = .ok (.bipush 6, 2) := by decide +kernel
theorem dX4_readGrant_76 : decode cX4_readGrant 76 = .ok (.iconst 0, 1) := by decide +kernel
theorem dX4_readGrant_77 : decode cX4_readGrant 77 = .ok (.sipush 999, 3) := by decide +kernel
theorem dX4_readGrant_80 : decode cX4_readGrant 80 = .ok (.invokevirtual 80, 3) := by decide +kernel
theorem dX4_readGrant_83 : decode cX4_readGrant 83 = .ok (.ifCond .ne 5, 3) := by decide +kernel
theorem dX4_readGrant_86 : decode cX4_readGrant 86 = .ok (.iconst 0, 1) := by decide +kernel
theorem dX4_readGrant_87 : decode cX4_readGrant 87 = .ok (.ireturn, 1) := by decide +kernel
theorem dX4_readGrant_88 : decode cX4_readGrant 88 = .ok (.iload_n 1, 1) := by decide +kernel
theorem dX4_readGrant_89 : decode cX4_readGrant 89 = .ok (.invokestatic 90, 3) := by decide +kernel
theorem dX4_readGrant_92 : decode cX4_readGrant 92 = .ok (.ifCond .eq 20, 3) := by decide +kernel
theorem dX4_readGrant_95 : decode cX4_readGrant 95 = .ok (.aload_n 0, 1) := by decide +kernel
theorem dX4_readGrant_96 : decode cX4_readGrant 96 = .ok (.bipush 7, 2) := by decide +kernel
theorem dX4_readGrant_98 : decode cX4_readGrant 98 = .ok (.iload_n 1, 1) := by decide +kernel
theorem dX4_readGrant_99 : decode cX4_readGrant 99 = .ok (.invokestatic 93, 3) := by decide +kernel
theorem dX4_readGrant_102 : decode cX4_readGrant 102 = .ok (.iload_n 1, 1) := by decide +kernel
theorem dX4_readGrant_103 : decode cX4_readGrant 103 = .ok (.invokestatic 90, 3) := by decide +kernel
theorem dX4_readGrant_106 : decode cX4_readGrant 106 = .ok (.invokevirtual 80, 3) := by decide +kernel
theorem dX4_readGrant_109 : decode cX4_readGrant 109 = .ok (.ifCond .eq 7, 3) := by decide +kernel
theorem dX4_readGrant_112 : decode cX4_readGrant 112 = .ok (.iconst 1, 1) := by decide +kernel
theorem dX4_readGrant_113 : decode cX4_readGrant 113 = .ok (.goto 4, 3) := by decide +kernel
theorem dX4_readGrant_116 : decode cX4_readGrant 116 = .ok (.iconst 0, 1) := by decide +kernel
theorem dX4_readGrant_117 : decode cX4_readGrant 117 = .ok (.ireturn, 1) := by decide +kernel
theorem dX4_readSpan_0 : decode cX4_readSpan 0 = .ok (.aload_n 0, 1) := by decide +kernel
theorem dX4_readSpan_1 : decode cX4_readSpan 1 = .ok (.bipush 14, 2) := by decide +kernel
theorem dX4_readSpan_3 : decode cX4_readSpan 3 = .ok (.invokevirtual 57, 3) := by decide +kernel
theorem dX4_readSpan_6 : decode cX4_readSpan 6 = .ok (.ifCond .ne 5, 3) := by decide +kernel
theorem dX4_readSpan_9 : decode cX4_readSpan 9 = .ok (.iconst 1, 1) := by decide +kernel
theorem dX4_readSpan_10 : decode cX4_readSpan 10 = .ok (.ireturn, 1) := by decide +kernel
theorem dX4_readSpan_11 : decode cX4_readSpan 11 = .ok (.aload_n 0, 1) := by decide +kernel
theorem dX4_readSpan_12 : decode cX4_readSpan 12 = .ok (.bipush 8, 2) := by decide +kernel
theorem dX4_readSpan_14 : decode cX4_readSpan 14 = .ok (.iconst 0, 1) := by decide +kernel
theorem dX4_readSpan_15 : decode cX4_readSpan 15 = .ok (.sipush 999, 3) := by decide +kernel
theorem dX4_readSpan_18 : decode cX4_readSpan 18 = .ok (.invokevirtual 80, 3) := by decide +kernel
theorem dX4_readSpan_21 : decode cX4_readSpan 21 = .ok (.ifCond .eq 41, 3) := by decide +kernel
theorem dX4_readSpan_24 : decode cX4_readSpan 24 = .ok (.aload_n 0, 1) := by decide +kernel
theorem dX4_readSpan_25 : decode cX4_readSpan 25 = .ok (.bipush 15, 2) := by decide +kernel
theorem dX4_readSpan_27 : decode cX4_readSpan 27 = .ok (.invokevirtual 57, 3) := by decide +kernel
theorem dX4_readSpan_30 : decode cX4_readSpan 30 = .ok (.ifCond .eq 32, 3) := by decide +kernel
theorem dX4_readSpan_33 : decode cX4_readSpan 33 = .ok (.aload_n 0, 1) := by decide +kernel
theorem dX4_readSpan_34 : decode cX4_readSpan 34 = .ok (.bipush 9, 2) := by decide +kernel
theorem dX4_readSpan_36 : decode cX4_readSpan 36 = .ok (.aload_n 0, 1) := by decide +kernel
theorem dX4_readSpan_37 : decode cX4_readSpan 37 = .ok (.getfield 25, 3) := by decide +kernel
theorem dX4_readSpan_40 : decode cX4_readSpan 40 = .ok (.aload_n 0, 1) := by decide +kernel
theorem dX4_readSpan_41 : decode cX4_readSpan 41 = .ok (.getfield 22, 3) := by decide +kernel
theorem dX4_readSpan_44 : decode cX4_readSpan 44 = .ok (.bipush 8, 2) := by decide +kernel
theorem dX4_readSpan_46 : decode cX4_readSpan 46 = .ok (.invokevirtual 96, 3) := by decide +kernel
theorem dX4_readSpan_49 : decode cX4_readSpan 49 = .ok (.sipush 999, 3) := by decide +kernel
theorem dX4_readSpan_52 : decode cX4_readSpan 52 = .ok (.invokevirtual 80, 3) := by decide +kernel
theorem dX4_readSpan_55 : decode cX4_readSpan 55 = .ok (.ifCond .eq 7, 3) := by decide +kernel
theorem dX4_readSpan_58 : decode cX4_readSpan 58 = .ok (.iconst 1, 1) := by decide +kernel
theorem dX4_readSpan_59 : decode cX4_readSpan 59 = .ok (.goto 4, 3) := by decide +kernel
theorem dX4_readSpan_62 : decode cX4_readSpan 62 = .ok (.iconst 0, 1) := by decide +kernel
theorem dX4_readSpan_63 : decode cX4_readSpan 63 = .ok (.ireturn, 1) := by decide +kernel
theorem dX4_readException_0 : decode cX4_readException 0 = .ok (.aload_n 0, 1) := by decide +kernel
theorem dX4_readException_1 : decode cX4_readException 1 = .ok (.bipush 16, 2) := by decide +kernel
theorem dX4_readException_3 : decode cX4_readException 3 = .ok (.invokevirtual 57, 3) := by decide +kernel
theorem dX4_readException_6 : decode cX4_readException 6 = .ok (.ifCond .ne 5, 3) := by decide +kernel
theorem dX4_readException_9 : decode cX4_readException 9 = .ok (.iconst 1, 1) := by decide +kernel
theorem dX4_readException_10 : decode cX4_readException 10 = .ok (.ireturn, 1) := by decide +kernel
theorem dX4_readException_11 : decode cX4_readException 11 = .ok (.aload_n 0, 1) := by decide +kernel
theorem dX4_readException_12 : decode cX4_readException 12 = .ok (.bipush 10, 2) := by decide +kernel
theorem dX4_readException_14 : decode cX4_readException 14 = .ok (.iconst 0, 1) := by decide +kernel
theorem dX4_readException_15 : decode cX4_readException 15 = .ok (.aload_n 0, 1) := by decide +kernel
theorem dX4_readException_16 : decode cX4_readException 16 = .ok (.getfield 22, 3) := by decide +kernel
theorem dX4_readException_19 : decode cX4_readException 19 = .ok (.iconst 1, 1) := by decide +kernel
theorem dX4_readException_20 : decode cX4_readException 20 = .ok (.isub, 1) := by decide +kernel
theorem dX4_readException_21 : decode cX4_readException 21 = .ok (.invokevirtual 80, 3) := by decide +kernel
theorem dX4_readException_24 : decode cX4_readException 24 = .ok (.ireturn, 1) := by decide +kernel
theorem dX4_takeTrait_0 : decode cX4_takeTrait 0 = .ok (.aload_n 0, 1) := by decide +kernel
theorem dX4_takeTrait_1 : decode cX4_takeTrait 1 = .ok (.iconst 0, 1) := by decide +kernel
theorem dX4_takeTrait_2 : decode cX4_takeTrait 2 = .ok (.iconst 3, 1) := by decide +kernel
theorem dX4_takeTrait_3 : decode cX4_takeTrait 3 = .ok (.invokevirtual 44, 3) := by decide +kernel
theorem dX4_takeTrait_6 : decode cX4_takeTrait 6 = .ok (.ifCond .ne 5, 3) := by decide +kernel
theorem dX4_takeTrait_9 : decode cX4_takeTrait 9 = .ok (.iconst 0, 1) := by decide +kernel
theorem dX4_takeTrait_10 : decode cX4_takeTrait 10 = .ok (.ireturn, 1) := by decide +kernel
theorem dX4_takeTrait_11 : decode cX4_takeTrait 11 = .ok (.aload_n 0, 1) := by decide +kernel
theorem dX4_takeTrait_12 : decode cX4_takeTrait 12 = .ok (.getfield 25, 3) := by decide +kernel
theorem dX4_takeTrait_15 : decode cX4_takeTrait 15 = .ok (.aload_n 0, 1) := by decide +kernel
theorem dX4_takeTrait_16 : decode cX4_takeTrait 16 = .ok (.getfield 22, 3) := by decide +kernel
theorem dX4_takeTrait_19 : decode cX4_takeTrait 19 = .ok (.iload_n 1, 1) := by decide +kernel
theorem dX4_takeTrait_20 : decode cX4_takeTrait 20 = .ok (.aload_n 0, 1) := by decide +kernel
theorem dX4_takeTrait_21 : decode cX4_takeTrait 21 = .ok (.getfield 12, 3) := by decide +kernel
theorem dX4_takeTrait_24 : decode cX4_takeTrait 24 = .ok (.aload_n 0, 1) := by decide +kernel
theorem dX4_takeTrait_25 : decode cX4_takeTrait 25 = .ok (.getfield 18, 3) := by decide +kernel
theorem dX4_takeTrait_28 : decode cX4_takeTrait 28 = .ok (.invokevirtual 84, 3) := by decide +kernel
theorem dX4_takeTrait_31 : decode cX4_takeTrait 31 = .ok (.iconst 0, 1) := by decide +kernel
theorem dX4_takeTrait_32 : decode cX4_takeTrait 32 = .ok (.isub, 1) := by decide +kernel
theorem dX4_takeTrait_33 : decode cX4_takeTrait 33 = .ok (.invokevirtual 76, 3) := by decide +kernel
theorem dX4_takeTrait_36 : decode cX4_takeTrait 36 = .ok (.aload_n 0, 1) := by decide +kernel
theorem dX4_takeTrait_37 : decode cX4_takeTrait 37 = .ok (.dup, 1) := by decide +kernel
theorem dX4_takeTrait_38 : decode cX4_takeTrait 38 = .ok (.getfield 18, 3) := by decide +kernel
theorem dX4_takeTrait_41 : decode cX4_takeTrait 41 = .ok (.iconst 1, 1) := by decide +kernel
theorem dX4_takeTrait_42 : decode cX4_takeTrait 42 = .ok (.iadd, 1) := by decide +kernel
theorem dX4_takeTrait_43 : decode cX4_takeTrait 43 = .ok (.putfield 18, 3) := by decide +kernel
theorem dX4_takeTrait_46 : decode cX4_takeTrait 46 = .ok (.iconst 1, 1) := by decide +kernel
theorem dX4_takeTrait_47 : decode cX4_takeTrait 47 = .ok (.ireturn, 1) := by decide +kernel
theorem dX4_takeNumber_0 : decode cX4_takeNumber 0 = .ok (.aload_n 0, 1) := by decide +kernel
theorem dX4_takeNumber_1 : decode cX4_takeNumber 1 = .ok (.getfield 12, 3) := by decide +kernel
theorem dX4_takeNumber_4 : decode cX4_takeNumber 4 = .ok (.aload_n 0, 1) := by decide +kernel
theorem dX4_takeNumber_5 : decode cX4_takeNumber 5 = .ok (.getfield 18, 3) := by decide +kernel
theorem dX4_takeNumber_8 : decode cX4_takeNumber 8 = .ok (.invokevirtual 84, 3) := by decide +kernel
theorem dX4_takeNumber_11 : decode cX4_takeNumber 11 = .ok (.istore 4, 2) := by decide +kernel
theorem dX4_takeNumber_13 : decode cX4_takeNumber 13 = .ok (.aload_n 0, 1) := by decide +kernel
theorem dX4_takeNumber_14 : decode cX4_takeNumber 14 = .ok (.getfield 12, 3) := by decide +kernel
theorem dX4_takeNumber_17 : decode cX4_takeNumber 17 = .ok (.aload_n 0, 1) := by decide +kernel
theorem dX4_takeNumber_18 : decode cX4_takeNumber 18 = .ok (.getfield 18, 3) := by decide +kernel
theorem dX4_takeNumber_21 : decode cX4_takeNumber 21 = .ok (.invokevirtual 41, 3) := by decide +kernel
theorem dX4_takeNumber_24 : decode cX4_takeNumber 24 = .ok (.iconst 2, 1) := by decide +kernel
theorem dX4_takeNumber_25 : decode cX4_takeNumber 25 = .ok (.if_icmp .ne 13, 3) := by decide +kernel
theorem dX4_takeNumber_28 : decode cX4_takeNumber 28 = .ok (.iload 4, 2) := by decide +kernel
theorem dX4_takeNumber_30 : decode cX4_takeNumber 30 = .ok (.iload_n 2, 1) := by decide +kernel
theorem dX4_takeNumber_31 : decode cX4_takeNumber 31 = .ok (.iload_n 3, 1) := by decide +kernel
theorem dX4_takeNumber_32 : decode cX4_takeNumber 32 = .ok (.invokestatic 100, 3) := by decide +kernel
theorem dX4_takeNumber_35 : decode cX4_takeNumber 35 = .ok (.ifCond .ne 5, 3) := by decide +kernel
theorem dX4_takeNumber_38 : decode cX4_takeNumber 38 = .ok (.iconst 0, 1) := by decide +kernel
theorem dX4_takeNumber_39 : decode cX4_takeNumber 39 = .ok (.ireturn, 1) := by decide +kernel
theorem dX4_takeNumber_40 : decode cX4_takeNumber 40 = .ok (.aload_n 0, 1) := by decide +kernel
theorem dX4_takeNumber_41 : decode cX4_takeNumber 41 = .ok (.getfield 25, 3) := by decide +kernel
theorem dX4_takeNumber_44 : decode cX4_takeNumber 44 = .ok (.aload_n 0, 1) := by decide +kernel
theorem dX4_takeNumber_45 : decode cX4_takeNumber 45 = .ok (.getfield 22, 3) := by decide +kernel
theorem dX4_takeNumber_48 : decode cX4_takeNumber 48 = .ok (.iload_n 1, 1) := by decide +kernel
theorem dX4_takeNumber_49 : decode cX4_takeNumber 49 = .ok (.iload 4, 2) := by decide +kernel
theorem dX4_takeNumber_51 : decode cX4_takeNumber 51 = .ok (.invokevirtual 76, 3) := by decide +kernel
theorem dX4_takeNumber_54 : decode cX4_takeNumber 54 = .ok (.aload_n 0, 1) := by decide +kernel
theorem dX4_takeNumber_55 : decode cX4_takeNumber 55 = .ok (.dup, 1) := by decide +kernel
theorem dX4_takeNumber_56 : decode cX4_takeNumber 56 = .ok (.getfield 18, 3) := by decide +kernel
theorem dX4_takeNumber_59 : decode cX4_takeNumber 59 = .ok (.iconst 1, 1) := by decide +kernel
theorem dX4_takeNumber_60 : decode cX4_takeNumber 60 = .ok (.iadd, 1) := by decide +kernel
theorem dX4_takeNumber_61 : decode cX4_takeNumber 61 = .ok (.putfield 18, 3) := by decide +kernel
theorem dX4_takeNumber_64 : decode cX4_takeNumber 64 = .ok (.iconst 1, 1) := by decide +kernel
theorem dX4_takeNumber_65 : decode cX4_takeNumber 65 = .ok (.ireturn, 1) := by decide +kernel
theorem dX4_takeWord_0 : decode cX4_takeWord 0 = .ok (.aload_n 0, 1) := by decide +kernel
theorem dX4_takeWord_1 : decode cX4_takeWord 1 = .ok (.iload_n 1, 1) := by decide +kernel
theorem dX4_takeWord_2 : decode cX4_takeWord 2 = .ok (.iload_n 1, 1) := by decide +kernel
theorem dX4_takeWord_3 : decode cX4_takeWord 3 = .ok (.invokevirtual 44, 3) := by decide +kernel
theorem dX4_takeWord_6 : decode cX4_takeWord 6 = .ok (.ifCond .ne 5, 3) := by decide +kernel
theorem dX4_takeWord_9 : decode cX4_takeWord 9 = .ok (.iconst 0, 1) := by decide +kernel
theorem dX4_takeWord_10 : decode cX4_takeWord 10 = .ok (.ireturn, 1) := by decide +kernel
theorem dX4_takeWord_11 : decode cX4_takeWord 11 = .ok (.aload_n 0, 1) := by decide +kernel
theorem dX4_takeWord_12 : decode cX4_takeWord 12 = .ok (.dup, 1) := by decide +kernel
theorem dX4_takeWord_13 : decode cX4_takeWord 13 = .ok (.getfield 18, 3) := by decide +kernel
theorem dX4_takeWord_16 : decode cX4_takeWord 16 = .ok (.iconst 1, 1) := by decide +kernel
theorem dX4_takeWord_17 : decode cX4_takeWord 17 = .ok (.iadd, 1) := by decide +kernel
theorem dX4_takeWord_18 : decode cX4_takeWord 18 = .ok (.putfield 18, 3) := by decide +kernel
theorem dX4_takeWord_21 : decode cX4_takeWord 21 = .ok (.iconst 1, 1) := by decide +kernel
theorem dX4_takeWord_22 : decode cX4_takeWord 22 = .ok (.ireturn, 1) := by decide +kernel
theorem dX4_isWord_0 : decode cX4_isWord 0 = .ok (.aload_n 0, 1) := by decide +kernel
theorem dX4_isWord_1 : decode cX4_isWord 1 = .ok (.getfield 12, 3) := by decide +kernel
theorem dX4_isWord_4 : decode cX4_isWord 4 = .ok (.aload_n 0, 1) := by decide +kernel
theorem dX4_isWord_5 : decode cX4_isWord 5 = .ok (.getfield 18, 3) := by decide +kernel
theorem dX4_isWord_8 : decode cX4_isWord 8 = .ok (.invokevirtual 41, 3) := by decide +kernel
theorem dX4_isWord_11 : decode cX4_isWord 11 = .ok (.iconst 1, 1) := by decide +kernel
theorem dX4_isWord_12 : decode cX4_isWord 12 = .ok (.if_icmp .ne 26, 3) := by decide +kernel
theorem dX4_isWord_15 : decode cX4_isWord 15 = .ok (.aload_n 0, 1) := by decide +kernel
theorem dX4_isWord_16 : decode cX4_isWord 16 = .ok (.getfield 12, 3) := by decide +kernel
theorem dX4_isWord_19 : decode cX4_isWord 19 = .ok (.aload_n 0, 1) := by decide +kernel
theorem dX4_isWord_20 : decode cX4_isWord 20 = .ok (.getfield 18, 3) := by decide +kernel
theorem dX4_isWord_23 : decode cX4_isWord 23 = .ok (.invokevirtual 84, 3) := by decide +kernel
theorem dX4_isWord_26 : decode cX4_isWord 26 = .ok (.iload_n 1, 1) := by decide +kernel
theorem dX4_isWord_27 : decode cX4_isWord 27 = .ok (.iload_n 2, 1) := by decide +kernel
theorem dX4_isWord_28 : decode cX4_isWord 28 = .ok (.invokestatic 100, 3) := by decide +kernel
theorem dX4_isWord_31 : decode cX4_isWord 31 = .ok (.ifCond .eq 7, 3) := by decide +kernel
theorem dX4_isWord_34 : decode cX4_isWord 34 = .ok (.iconst 1, 1) := by decide +kernel
theorem dX4_isWord_35 : decode cX4_isWord 35 = .ok (.goto 4, 3) := by decide +kernel
theorem dX4_isWord_38 : decode cX4_isWord 38 = .ok (.iconst 0, 1) := by decide +kernel
theorem dX4_isWord_39 : decode cX4_isWord 39 = .ok (.ireturn, 1) := by decide +kernel
theorem dX5_init_0 : decode cX5_init 0 = .ok (.aload_n 0, 1) := by decide +kernel
theorem dX5_init_1 : decode cX5_init 1 = .ok (.invokespecial 3, 3) := by decide +kernel
theorem dX5_init_4 : decode cX5_init 4 = .ok (.aload_n 0, 1) := by decide +kernel
theorem dX5_init_5 : decode cX5_init 5 = .ok (.sipush 128, 3) := by decide +kernel
theorem dX5_init_8 : decode cX5_init 8 = .ok (.newarray .int, 2) := by decide +kernel
theorem dX5_init_10 : decode cX5_init 10 = .ok (.putfield 11, 3) := by decide +kernel
theorem dX5_init_13 : decode cX5_init 13 = .ok (.aload_n 0, 1) := by decide +kernel
theorem dX5_init_14 : decode cX5_init 14 = .ok (.bipush 16, 2) := by decide +kernel
theorem dX5_init_16 : decode cX5_init 16 = .ok (.newarray .int, 2) := by decide +kernel
theorem dX5_init_18 : decode cX5_init 18 = .ok (.putfield 17, 3) := by decide +kernel
theorem dX5_init_21 : decode cX5_init 21 = .ok (.aload_n 0, 1) := by decide +kernel
theorem dX5_init_22 : decode cX5_init 22 = .ok (.iconst 0, 1) := by decide +kernel
theorem dX5_init_23 : decode cX5_init 23 = .ok (.putfield 20, 3) := by decide +kernel
theorem dX5_init_26 : decode cX5_init 26 = .ok (.return_, 1) := by decide +kernel
theorem dX5_size_0 : decode cX5_size 0 = .ok (.aload_n 0, 1) := by decide +kernel
theorem dX5_size_1 : decode cX5_size 1 = .ok (.getfield 20, 3) := by decide +kernel
theorem dX5_size_4 : decode cX5_size 4 = .ok (.ireturn, 1) := by decide +kernel
theorem dX5_empty_0 : decode cX5_empty 0 = .ok (.aload_n 0, 1) := by decide +kernel
theorem dX5_empty_1 : decode cX5_empty 1 = .ok (.iconst 0, 1) := by decide +kernel
theorem dX5_empty_2 : decode cX5_empty 2 = .ok (.putfield 20, 3) := by decide +kernel
theorem dX5_empty_5 : decode cX5_empty 5 = .ok (.return_, 1) := by decide +kernel
theorem dX5_become_0 : decode cX5_become 0 = .ok (.aload_n 0, 1) := by decide +kernel
theorem dX5_become_1 : decode cX5_become 1 = .ok (.aload_n 1, 1) := by decide +kernel
theorem dX5_become_2 : decode cX5_become 2 = .ok (.getfield 20, 3) := by decide +kernel
theorem dX5_become_5 : decode cX5_become 5 = .ok (.putfield 20, 3) := by decide +kernel
theorem dX5_become_8 : decode cX5_become 8 = .ok (.aload_n 1, 1) := by decide +kernel
theorem dX5_become_9 : decode cX5_become 9 = .ok (.getfield 11, 3) := by decide +kernel
theorem dX5_become_12 : decode cX5_become 12 = .ok (.iconst 0, 1) := by decide +kernel
theorem dX5_become_13 : decode cX5_become 13 = .ok (.aload_n 0, 1) := by decide +kernel
theorem dX5_become_14 : decode cX5_become 14 = .ok (.getfield 11, 3) := by decide +kernel
theorem dX5_become_17 : decode cX5_become 17 = .ok (.iconst 0, 1) := by decide +kernel
theorem dX5_become_18 : decode cX5_become 18 = .ok (.aload_n 0, 1) := by decide +kernel
theorem dX5_become_19 : decode cX5_become 19 = .ok (.getfield 11, 3) := by decide +kernel
theorem dX5_become_22 : decode cX5_become 22 = .ok (.arraylength, 1) := by decide +kernel
theorem dX5_become_23 : decode cX5_become 23 = .ok (.invokestatic 24, 3) := by decide +kernel
theorem dX5_become_26 : decode cX5_become 26 = .ok (.aload_n 1, 1) := by decide +kernel
theorem dX5_become_27 : decode cX5_become 27 = .ok (.getfield 17, 3) := by decide +kernel
theorem dX5_become_30 : decode cX5_become 30 = .ok (.iconst 0, 1) := by decide +kernel
theorem dX5_become_31 : decode cX5_become 31 = .ok (.aload_n 0, 1) := by decide +kernel
theorem dX5_become_32 : decode cX5_become 32 = .ok (.getfield 17, 3) := by decide +kernel
theorem dX5_become_35 : decode cX5_become 35 = .ok (.iconst 0, 1) := by decide +kernel
theorem dX5_become_36 : decode cX5_become 36 = .ok (.aload_n 0, 1) := by decide +kernel
theorem dX5_become_37 : decode cX5_become 37 = .ok (.getfield 17, 3) := by decide +kernel
theorem dX5_become_40 : decode cX5_become 40 = .ok (.arraylength, 1) := by decide +kernel
theorem dX5_become_41 : decode cX5_become 41 = .ok (.invokestatic 24, 3) := by decide +kernel
theorem dX5_become_44 : decode cX5_become 44 = .ok (.return_, 1) := by decide +kernel
theorem dX5_find_0 : decode cX5_find 0 = .ok (.iconst 0, 1) := by decide +kernel
theorem dX5_find_1 : decode cX5_find 1 = .ok (.istore_n 3, 1) := by decide +kernel
theorem dX5_find_2 : decode cX5_find 2 = .ok (.iload_n 3, 1) := by decide +kernel
theorem dX5_find_3 : decode cX5_find 3 = .ok (.aload_n 0, 1) := by decide +kernel
theorem dX5_find_4 : decode cX5_find 4 = .ok (.getfield 20, 3) := by decide +kernel
theorem dX5_find_7 : decode cX5_find 7 = .ok (.if_icmp .ge 21, 3) := by decide +kernel
theorem dX5_find_10 : decode cX5_find 10 = .ok (.aload_n 0, 1) := by decide +kernel
theorem dX5_find_11 : decode cX5_find 11 = .ok (.iload_n 3, 1) := by decide +kernel
theorem dX5_find_12 : decode cX5_find 12 = .ok (.aload_n 1, 1) := by decide +kernel
theorem dX5_find_13 : decode cX5_find 13 = .ok (.iload_n 2, 1) := by decide +kernel
theorem dX5_find_14 : decode cX5_find 14 = .ok (.invokevirtual 30, 3) := by decide +kernel
theorem dX5_find_17 : decode cX5_find 17 = .ok (.ifCond .eq 5, 3) := by decide +kernel
theorem dX5_find_20 : decode cX5_find 20 = .ok (.iload_n 3, 1) := by decide +kernel
theorem dX5_find_21 : decode cX5_find 21 = .ok (.ireturn, 1) := by decide +kernel
theorem dX5_find_22 : decode cX5_find 22 = .ok (.iinc 3 1, 3) := by decide +kernel
theorem dX5_find_25 : decode cX5_find 25 = .ok (.goto (-23), 3) := by decide +kernel
theorem dX5_find_28 : decode cX5_find 28 = .ok (.iconst (-1), 1) := by decide +kernel
theorem dX5_find_29 : decode cX5_find 29 = .ok (.ireturn, 1) := by decide +kernel
theorem dX5_saysSame_0 : decode cX5_saysSame 0 = .ok (.iconst 0, 1) := by decide +kernel
theorem dX5_saysSame_1 : decode cX5_saysSame 1 = .ok (.istore 4, 2) := by decide +kernel
theorem dX5_saysSame_3 : decode cX5_saysSame 3 = .ok (.iload 4, 2) := by decide +kernel
theorem dX5_saysSame_5 : decode cX5_saysSame 5 = .ok (.bipush 8, 2) := by decide +kernel
theorem dX5_saysSame_7 : decode cX5_saysSame 7 = .ok (.if_icmp .ge 33, 3) := by decide +kernel
theorem dX5_saysSame_10 : decode cX5_saysSame 10 = .ok (.aload_n 0, 1) := by decide +kernel
theorem dX5_saysSame_11 : decode cX5_saysSame 11 = .ok (.getfield 11, 3) := by decide +kernel
theorem dX5_saysSame_14 : decode cX5_saysSame 14 = .ok (.iload_n 1, 1) := by decide +kernel
theorem dX5_saysSame_15 : decode cX5_saysSame 15 = .ok (.bipush 8, 2) := by decide +kernel
theorem dX5_saysSame_17 : decode cX5_saysSame 17 = .ok (.imul, 1) := by decide +kernel
theorem dX5_saysSame_18 : decode cX5_saysSame 18 = .ok (.iload 4, 2) := by decide +kernel
theorem dX5_saysSame_20 : decode cX5_saysSame 20 = .ok (.iadd, 1) := by decide +kernel
theorem dX5_saysSame_21 : decode cX5_saysSame 21 = .ok (.iaload, 1) := by decide +kernel
theorem dX5_saysSame_22 : decode cX5_saysSame 22 = .ok (.aload_n 2, 1) := by decide +kernel
theorem dX5_saysSame_23 : decode cX5_saysSame 23 = .ok (.iload_n 3, 1) := by decide +kernel
theorem dX5_saysSame_24 : decode cX5_saysSame 24 = .ok (.iload 4, 2) := by decide +kernel
theorem dX5_saysSame_26 : decode cX5_saysSame 26 = .ok (.invokevirtual 34, 3) := by decide +kernel
theorem dX5_saysSame_29 : decode cX5_saysSame 29 = .ok (.if_icmp .eq 5, 3) := by decide +kernel
theorem dX5_saysSame_32 : decode cX5_saysSame 32 = .ok (.iconst 0, 1) := by decide +kernel
theorem dX5_saysSame_33 : decode cX5_saysSame 33 = .ok (.ireturn, 1) := by decide +kernel
theorem dX5_saysSame_34 : decode cX5_saysSame 34 = .ok (.iinc 4 1, 3) := by decide +kernel
theorem dX5_saysSame_37 : decode cX5_saysSame 37 = .ok (.goto (-34), 3) := by decide +kernel
theorem dX5_saysSame_40 : decode cX5_saysSame 40 = .ok (.iconst 1, 1) := by decide +kernel
theorem dX5_saysSame_41 : decode cX5_saysSame 41 = .ok (.ireturn, 1) := by decide +kernel
theorem dX5_timesAt_0 : decode cX5_timesAt 0 = .ok (.iload_n 1, 1) := by decide +kernel
theorem dX5_timesAt_1 : decode cX5_timesAt 1 = .ok (.ifCond .lt 20, 3) := by decide +kernel
theorem dX5_timesAt_4 : decode cX5_timesAt 4 = .ok (.iload_n 1, 1) := by decide +kernel
theorem dX5_timesAt_5 : decode cX5_timesAt 5 = .ok (.aload_n 0, 1) := by decide +kernel
theorem dX5_timesAt_6 : decode cX5_timesAt 6 = .ok (.getfield 20, 3) := by decide +kernel
theorem dX5_timesAt_9 : decode cX5_timesAt 9 = .ok (.if_icmp .ge 12, 3) := by decide +kernel
theorem dX5_timesAt_12 : decode cX5_timesAt 12 = .ok (.aload_n 0, 1) := by decide +kernel
theorem dX5_timesAt_13 : decode cX5_timesAt 13 = .ok (.getfield 17, 3) := by decide +kernel
theorem dX5_timesAt_16 : decode cX5_timesAt 16 = .ok (.iload_n 1, 1) := by decide +kernel
theorem dX5_timesAt_17 : decode cX5_timesAt 17 = .ok (.iaload, 1) := by decide +kernel
theorem dX5_timesAt_18 : decode cX5_timesAt 18 = .ok (.goto 4, 3) := by decide +kernel
theorem dX5_timesAt_21 : decode cX5_timesAt 21 = .ok (.iconst 0, 1) := by decide +kernel
theorem dX5_timesAt_22 : decode cX5_timesAt 22 = .ok (.ireturn, 1) := by decide +kernel
theorem dX5_keep_0 : decode cX5_keep 0 = .ok (.aload_n 0, 1) := by decide +kernel
theorem dX5_keep_1 : decode cX5_keep 1 = .ok (.aload_n 1, 1) := by decide +kernel
theorem dX5_keep_2 : decode cX5_keep 2 = .ok (.iload_n 2, 1) := by decide +kernel
theorem dX5_keep_3 : decode cX5_keep 3 = .ok (.invokevirtual 38, 3) := by decide +kernel
theorem dX5_keep_6 : decode cX5_keep 6 = .ok (.istore_n 3, 1) := by decide +kernel
theorem dX5_keep_7 : decode cX5_keep 7 = .ok (.iload_n 3, 1) := by decide +kernel
theorem dX5_keep_8 : decode cX5_keep 8 = .ok (.iconst (-1), 1) := by decide +kernel
theorem dX5_keep_9 : decode cX5_keep 9 = .ok (.if_icmp .ne 72, 3) := by decide +kernel
theorem dX5_keep_12 : decode cX5_keep 12 = .ok (.aload_n 0, 1) := by decide +kernel
theorem dX5_keep_13 : decode cX5_keep 13 = .ok (.getfield 20, 3) := by decide +kernel
theorem dX5_keep_16 : decode cX5_keep 16 = .ok (.bipush 16, 2) := by decide +kernel
theorem dX5_keep_18 : decode cX5_keep 18 = .ok (.if_icmp .lt 6, 3) := by decide +kernel
theorem dX5_keep_21 : decode cX5_keep 21 = .ok (.bipush (-4), 2) := by decide +kernel
theorem dX5_keep_23 : decode cX5_keep 23 = .ok (.ireturn, 1) := by decide +kernel
