theorem dX7_init_0 : decode cX7_init 0 = .ok (.aload_n 0, 1) := by decide +kernel
theorem dX7_init_1 : decode cX7_init 1 = .ok (.invokespecial 1, 3) := by decide +kernel
theorem dX7_init_4 : decode cX7_init 4 = .ok (.aload_n 0, 1) := by decide +kernel
theorem dX7_init_5 : decode cX7_init 5 = .ok (.sipush 424, 3) := by decide +kernel
theorem dX7_init_8 : decode cX7_init 8 = .ok (.newarray .int, 2) := by decide +kernel
theorem dX7_init_10 : decode cX7_init 10 = .ok (.putfield 7, 3) := by decide +kernel
theorem dX7_init_13 : decode cX7_init 13 = .ok (.aload_n 0, 1) := by decide +kernel
theorem dX7_init_14 : decode cX7_init 14 = .ok (.sipush 1696, 3) := by decide +kernel
theorem dX7_init_17 : decode cX7_init 17 = .ok (.newarray .int, 2) := by decide +kernel
theorem dX7_init_19 : decode cX7_init 19 = .ok (.putfield 13, 3) := by decide +kernel
theorem dX7_init_22 : decode cX7_init 22 = .ok (.aload_n 0, 1) := by decide +kernel
theorem dX7_init_23 : decode cX7_init 23 = .ok (.sipush 424, 3) := by decide +kernel
theorem dX7_init_26 : decode cX7_init 26 = .ok (.newarray .int, 2) := by decide +kernel
theorem dX7_init_28 : decode cX7_init 28 = .ok (.putfield 16, 3) := by decide +kernel
theorem dX7_init_31 : decode cX7_init 31 = .ok (.aload_n 0, 1) := by decide +kernel
theorem dX7_init_32 : decode cX7_init 32 = .ok (.bipush 100, 2) := by decide +kernel
theorem dX7_init_34 : decode cX7_init 34 = .ok (.newarray .int, 2) := by decide +kernel
theorem dX7_init_36 : decode cX7_init 36 = .ok (.putfield 19, 3) := by decide +kernel
theorem dX7_init_39 : decode cX7_init 39 = .ok (.aload_n 0, 1) := by decide +kernel
theorem dX7_init_40 : decode cX7_init 40 = .ok (.iconst 4, 1) := by decide +kernel
theorem dX7_init_41 : decode cX7_init 41 = .ok (.newarray .int, 2) := by decide +kernel
theorem dX7_init_43 : decode cX7_init 43 = .ok (.putfield 22, 3) := by decide +kernel
theorem dX7_init_46 : decode cX7_init 46 = .ok (.aload_n 0, 1) := by decide +kernel
theorem dX7_init_47 : decode cX7_init 47 = .ok (.getfield 7, 3) := by decide +kernel
theorem dX7_init_50 : decode cX7_init 50 = .ok (.bipush 8, 2) := by decide +kernel
theorem dX7_init_52 : decode cX7_init 52 = .ok (.iconst 3, 1) := by decide +kernel
theorem dX7_init_53 : decode cX7_init 53 = .ok (.iastore, 1) := by decide +kernel
theorem dX7_init_54 : decode cX7_init 54 = .ok (.aload_n 0, 1) := by decide +kernel
theorem dX7_init_55 : decode cX7_init 55 = .ok (.getfield 7, 3) := by decide +kernel
theorem dX7_init_58 : decode cX7_init 58 = .ok (.bipush 9, 2) := by decide +kernel
theorem dX7_init_60 : decode cX7_init 60 = .ok (.bipush 10, 2) := by decide +kernel
theorem dX7_init_62 : decode cX7_init 62 = .ok (.iastore, 1) := by decide +kernel
theorem dX7_init_63 : decode cX7_init 63 = .ok (.aload_n 0, 1) := by decide +kernel
theorem dX7_init_64 : decode cX7_init 64 = .ok (.getfield 7, 3) := by decide +kernel
theorem dX7_init_67 : decode cX7_init 67 = .ok (.bipush 12, 2) := by decide +kernel
theorem dX7_init_69 : decode cX7_init 69 = .ok (.bipush 10, 2) := by decide +kernel
theorem dX7_init_71 : decode cX7_init 71 = .ok (.iastore, 1) := by decide +kernel
theorem dX7_init_72 : decode cX7_init 72 = .ok (.aload_n 0, 1) := by decide +kernel
theorem dX7_init_73 : decode cX7_init 73 = .ok (.getfield 7, 3) := by decide +kernel
theorem dX7_init_76 : decode cX7_init 76 = .ok (.bipush 13, 2) := by decide +kernel
theorem dX7_init_78 : decode cX7_init 78 = .ok (.bipush 8, 2) := by decide +kernel
theorem dX7_init_80 : decode cX7_init 80 = .ok (.iastore, 1) := by decide +kernel
theorem dX7_init_81 : decode cX7_init 81 = .ok (.aload_n 0, 1) := by decide +kernel
theorem dX7_init_82 : decode cX7_init 82 = .ok (.getfield 7, 3) := by decide +kernel
theorem dX7_init_85 : decode cX7_init 85 = .ok (.bipush 14, 2) := by decide +kernel
theorem dX7_init_87 : decode cX7_init 87 = .ok (.bipush 6, 2) := by decide +kernel
theorem dX7_init_89 : decode cX7_init 89 = .ok (.iastore, 1) := by decide +kernel
theorem dX7_init_90 : decode cX7_init 90 = .ok (.aload_n 0, 1) := by decide +kernel
theorem dX7_init_91 : decode cX7_init 91 = .ok (.getfield 7, 3) := by decide +kernel
theorem dX7_init_94 : decode cX7_init 94 = .ok (.bipush 15, 2) := by decide +kernel
theorem dX7_init_96 : decode cX7_init 96 = .ok (.iconst 4, 1) := by decide +kernel
theorem dX7_init_97 : decode cX7_init 97 = .ok (.iastore, 1) := by decide +kernel
theorem dX7_init_98 : decode cX7_init 98 = .ok (.return_, 1) := by decide +kernel
theorem dX7_thrown_0 : decode cX7_thrown 0 = .ok (.aload_n 0, 1) := by decide +kernel
theorem dX7_thrown_1 : decode cX7_thrown 1 = .ok (.getfield 25, 3) := by decide +kernel
theorem dX7_thrown_4 : decode cX7_thrown 4 = .ok (.ireturn, 1) := by decide +kernel
theorem dX7_in_0 : decode cX7_in 0 = .ok (.iload_n 0, 1) := by decide +kernel
theorem dX7_in_1 : decode cX7_in 1 = .ok (.iload_n 1, 1) := by decide +kernel
theorem dX7_in_2 : decode cX7_in 2 = .ok (.if_icmp .lt 12, 3) := by decide +kernel
theorem dX7_in_5 : decode cX7_in 5 = .ok (.iload_n 0, 1) := by decide +kernel
theorem dX7_in_6 : decode cX7_in 6 = .ok (.iload_n 2, 1) := by decide +kernel
theorem dX7_in_7 : decode cX7_in 7 = .ok (.if_icmp .gt 7, 3) := by decide +kernel
theorem dX7_in_10 : decode cX7_in 10 = .ok (.iconst 1, 1) := by decide +kernel
theorem dX7_in_11 : decode cX7_in 11 = .ok (.goto 4, 3) := by decide +kernel
theorem dX7_in_14 : decode cX7_in 14 = .ok (.iconst 0, 1) := by decide +kernel
theorem dX7_in_15 : decode cX7_in 15 = .ok (.ireturn, 1) := by decide +kernel
theorem dX7_fails_0 : decode cX7_fails 0 = .ok (.aload_n 0, 1) := by decide +kernel
theorem dX7_fails_1 : decode cX7_fails 1 = .ok (.iload_n 1, 1) := by decide +kernel
theorem dX7_fails_2 : decode cX7_fails 2 = .ok (.putfield 25, 3) := by decide +kernel
theorem dX7_fails_5 : decode cX7_fails 5 = .ok (.iconst 0, 1) := by decide +kernel
theorem dX7_fails_6 : decode cX7_fails 6 = .ok (.ireturn, 1) := by decide +kernel
theorem dX7_tells_0 : decode cX7_tells 0 = .ok (.aload_n 0, 1) := by decide +kernel
theorem dX7_tells_1 : decode cX7_tells 1 = .ok (.iconst 0, 1) := by decide +kernel
theorem dX7_tells_2 : decode cX7_tells 2 = .ok (.putfield 25, 3) := by decide +kernel
theorem dX7_tells_5 : decode cX7_tells 5 = .ok (.iload_n 1, 1) := by decide +kernel
theorem dX7_tells_6 : decode cX7_tells 6 = .ok (.ireturn, 1) := by decide +kernel
theorem dX7_laysAside_0 : decode cX7_laysAside 0 = .ok (.iconst 0, 1) := by decide +kernel
theorem dX7_laysAside_1 : decode cX7_laysAside 1 = .ok (.istore_n 1, 1) := by decide +kernel
theorem dX7_laysAside_2 : decode cX7_laysAside 2 = .ok (.iload_n 1, 1) := by decide +kernel
theorem dX7_laysAside_3 : decode cX7_laysAside 3 = .ok (.sipush 424, 3) := by decide +kernel
theorem dX7_laysAside_6 : decode cX7_laysAside 6 = .ok (.if_icmp .ge 21, 3) := by decide +kernel
theorem dX7_laysAside_9 : decode cX7_laysAside 9 = .ok (.aload_n 0, 1) := by decide +kernel
theorem dX7_laysAside_10 : decode cX7_laysAside 10 = .ok (.getfield 16, 3) := by decide +kernel
theorem dX7_laysAside_13 : decode cX7_laysAside 13 = .ok (.iload_n 1, 1) := by decide +kernel
theorem dX7_laysAside_14 : decode cX7_laysAside 14 = .ok (.aload_n 0, 1) := by decide +kernel
theorem dX7_laysAside_15 : decode cX7_laysAside 15 = .ok (.getfield 7, 3) := by decide +kernel
theorem dX7_laysAside_18 : decode cX7_laysAside 18 = .ok (.iload_n 1, 1) := by decide +kernel
theorem dX7_laysAside_19 : decode cX7_laysAside 19 = .ok (.iaload, 1) := by decide +kernel
theorem dX7_laysAside_20 : decode cX7_laysAside 20 = .ok (.iastore, 1) := by decide +kernel
theorem dX7_laysAside_21 : decode cX7_laysAside 21 = .ok (.iinc 1 1, 3) := by decide +kernel
theorem dX7_laysAside_24 : decode cX7_laysAside 24 = .ok (.goto (-22), 3) := by decide +kernel
theorem dX7_laysAside_27 : decode cX7_laysAside 27 = .ok (.return_, 1) := by decide +kernel
theorem dX7_bringsBack_0 : decode cX7_bringsBack 0 = .ok (.iconst 0, 1) := by decide +kernel
theorem dX7_bringsBack_1 : decode cX7_bringsBack 1 = .ok (.istore_n 1, 1) := by decide +kernel
theorem dX7_bringsBack_2 : decode cX7_bringsBack 2 = .ok (.iload_n 1, 1) := by decide +kernel
theorem dX7_bringsBack_3 : decode cX7_bringsBack 3 = .ok (.sipush 424, 3) := by decide +kernel
theorem dX7_bringsBack_6 : decode cX7_bringsBack 6 = .ok (.if_icmp .ge 21, 3) := by decide +kernel
theorem dX7_bringsBack_9 : decode cX7_bringsBack 9 = .ok (.aload_n 0, 1) := by decide +kernel
theorem dX7_bringsBack_10 : decode cX7_bringsBack 10 = .ok (.getfield 7, 3) := by decide +kernel
theorem dX7_bringsBack_13 : decode cX7_bringsBack 13 = .ok (.iload_n 1, 1) := by decide +kernel
theorem dX7_bringsBack_14 : decode cX7_bringsBack 14 = .ok (.aload_n 0, 1) := by decide +kernel
theorem dX7_bringsBack_15 : decode cX7_bringsBack 15 = .ok (.getfield 16, 3) := by decide +kernel
theorem dX7_bringsBack_18 : decode cX7_bringsBack 18 = .ok (.iload_n 1, 1) := by decide +kernel
theorem dX7_bringsBack_19 : decode cX7_bringsBack 19 = .ok (.iaload, 1) := by decide +kernel
theorem dX7_bringsBack_20 : decode cX7_bringsBack 20 = .ok (.iastore, 1) := by decide +kernel
theorem dX7_bringsBack_21 : decode cX7_bringsBack 21 = .ok (.iinc 1 1, 3) := by decide +kernel
theorem dX7_bringsBack_24 : decode cX7_bringsBack 24 = .ok (.goto (-22), 3) := by decide +kernel
theorem dX7_bringsBack_27 : decode cX7_bringsBack 27 = .ok (.return_, 1) := by decide +kernel
theorem dX7_keeps_0 : decode cX7_keeps 0 = .ok (.aload_n 0, 1) := by decide +kernel
theorem dX7_keeps_1 : decode cX7_keeps 1 = .ok (.getfield 29, 3) := by decide +kernel
theorem dX7_keeps_4 : decode cX7_keeps 4 = .ok (.iconst 4, 1) := by decide +kernel
theorem dX7_keeps_5 : decode cX7_keeps 5 = .ok (.if_icmp .ne 44, 3) := by decide +kernel
theorem dX7_keeps_8 : decode cX7_keeps 8 = .ok (.iconst 0, 1) := by decide +kernel
theorem dX7_keeps_9 : decode cX7_keeps 9 = .ok (.istore_n 1, 1) := by decide +kernel
theorem dX7_keeps_10 : decode cX7_keeps 10 = .ok (.iload_n 1, 1) := by decide +kernel
theorem dX7_keeps_11 : decode cX7_keeps 11 = .ok (.sipush 1272, 3) := by decide +kernel
theorem dX7_keeps_14 : decode cX7_keeps 14 = .ok (.if_icmp .ge 25, 3) := by decide +kernel
theorem dX7_keeps_17 : decode cX7_keeps 17 = .ok (.aload_n 0, 1) := by decide +kernel
theorem dX7_keeps_18 : decode cX7_keeps 18 = .ok (.getfield 13, 3) := by decide +kernel
theorem dX7_keeps_21 : decode cX7_keeps 21 = .ok (.iload_n 1, 1) := by decide +kernel
theorem dX7_keeps_22 : decode cX7_keeps 22 = .ok (.aload_n 0, 1) := by decide +kernel
theorem dX7_keeps_23 : decode cX7_keeps 23 = .ok (.getfield 13, 3) := by decide +kernel
theorem dX7_keeps_26 : decode cX7_keeps 26 = .ok (.iload_n 1, 1) := by decide +kernel
theorem dX7_keeps_27 : decode cX7_keeps 27 = .ok (.sipush 424, 3) := by decide +kernel
theorem dX7_keeps_30 : decode cX7_keeps 30 = .ok (.iadd, 1) := by decide +kernel
theorem dX7_keeps_31 : decode cX7_keeps 31 = .ok (.iaload, 1) := by decide +kernel
theorem dX7_keeps_32 : decode cX7_keeps 32 = .ok (.iastore, 1) := by decide +kernel
theorem dX7_keeps_33 : decode cX7_keeps 33 = .ok (.iinc 1 1, 3) := by decide +kernel
theorem dX7_keeps_36 : decode cX7_keeps 36 = .ok (.goto (-26), 3) := by decide +kernel
theorem dX7_keeps_39 : decode cX7_keeps 39 = .ok (.aload_n 0, 1) := by decide +kernel
theorem dX7_keeps_40 : decode cX7_keeps 40 = .ok (.dup, 1) := by decide +kernel
theorem dX7_keeps_41 : decode cX7_keeps 41 = .ok (.getfield 29, 3) := by decide +kernel
theorem dX7_keeps_44 : decode cX7_keeps 44 = .ok (.iconst 1, 1) := by decide +kernel
theorem dX7_keeps_45 : decode cX7_keeps 45 = .ok (.isub, 1) := by decide +kernel
theorem dX7_keeps_46 : decode cX7_keeps 46 = .ok (.putfield 29, 3) := by decide +kernel
theorem dX7_keeps_49 : decode cX7_keeps 49 = .ok (.iconst 0, 1) := by decide +kernel
theorem dX7_keeps_50 : decode cX7_keeps 50 = .ok (.istore_n 1, 1) := by decide +kernel
theorem dX7_keeps_51 : decode cX7_keeps 51 = .ok (.iload_n 1, 1) := by decide +kernel
theorem dX7_keeps_52 : decode cX7_keeps 52 = .ok (.sipush 424, 3) := by decide +kernel
theorem dX7_keeps_55 : decode cX7_keeps 55 = .ok (.if_icmp .ge 30, 3) := by decide +kernel
theorem dX7_keeps_58 : decode cX7_keeps 58 = .ok (.aload_n 0, 1) := by decide +kernel
theorem dX7_keeps_59 : decode cX7_keeps 59 = .ok (.getfield 13, 3) := by decide +kernel
theorem dX7_keeps_62 : decode cX7_keeps 62 = .ok (.sipush 424, 3) := by decide +kernel
theorem dX7_keeps_65 : decode cX7_keeps 65 = .ok (.aload_n 0, 1) := by decide +kernel
theorem dX7_keeps_66 : decode cX7_keeps 66 = .ok (.getfield 29, 3) := by decide +kernel
theorem dX7_keeps_69 : decode cX7_keeps 69 = .ok (.imul, 1) := by decide +kernel
theorem dX7_keeps_70 : decode cX7_keeps 70 = .ok (.iload_n 1, 1) := by decide +kernel
theorem dX7_keeps_71 : decode cX7_keeps 71 = .ok (.iadd, 1) := by decide +kernel
theorem dX7_keeps_72 : decode cX7_keeps 72 = .ok (.aload_n 0, 1) := by decide +kernel
theorem dX7_keeps_73 : decode cX7_keeps 73 = .ok (.getfield 7, 3) := by decide +kernel
theorem dX7_keeps_76 : decode cX7_keeps 76 = .ok (.iload_n 1, 1) := by decide +kernel
theorem dX7_keeps_77 : decode cX7_keeps 77 = .ok (.iaload, 1) := by decide +kernel
theorem dX7_keeps_78 : decode cX7_keeps 78 = .ok (.iastore, 1) := by decide +kernel
theorem dX7_keeps_79 : decode cX7_keeps 79 = .ok (.iinc 1 1, 3) := by decide +kernel
theorem dX7_keeps_82 : decode cX7_keeps 82 = .ok (.goto (-31), 3) := by decide +kernel
theorem dX7_keeps_85 : decode cX7_keeps 85 = .ok (.aload_n 0, 1) := by decide +kernel
theorem dX7_keeps_86 : decode cX7_keeps 86 = .ok (.dup, 1) := by decide +kernel
theorem dX7_keeps_87 : decode cX7_keeps 87 = .ok (.getfield 29, 3) := by decide +kernel
theorem dX7_keeps_90 : decode cX7_keeps 90 = .ok (.iconst 1, 1) := by decide +kernel
theorem dX7_keeps_91 : decode cX7_keeps 91 = .ok (.iadd, 1) := by decide +kernel
theorem dX7_keeps_92 : decode cX7_keeps 92 = .ok (.putfield 29, 3) := by decide +kernel
theorem dX7_keeps_95 : decode cX7_keeps 95 = .ok (.return_, 1) := by decide +kernel
theorem dX7_of_0 : decode cX7_of 0 = .ok (.aload_n 0, 1) := by decide +kernel
theorem dX7_of_1 : decode cX7_of 1 = .ok (.getfield 7, 3) := by decide +kernel
theorem dX7_of_4 : decode cX7_of 4 = .ok (.bipush 104, 2) := by decide +kernel
theorem dX7_of_6 : decode cX7_of 6 = .ok (.bipush 8, 2) := by decide +kernel
theorem dX7_of_8 : decode cX7_of 8 = .ok (.iload_n 1, 1) := by decide +kernel
theorem dX7_of_9 : decode cX7_of 9 = .ok (.imul, 1) := by decide +kernel
theorem dX7_of_10 : decode cX7_of 10 = .ok (.iadd, 1) := by decide +kernel
theorem dX7_of_11 : decode cX7_of 11 = .ok (.iload_n 2, 1) := by decide +kernel
theorem dX7_of_12 : decode cX7_of 12 = .ok (.iadd, 1) := by decide +kernel
theorem dX7_of_13 : decode cX7_of 13 = .ok (.iaload, 1) := by decide +kernel
theorem dX7_of_14 : decode cX7_of 14 = .ok (.ireturn, 1) := by decide +kernel
theorem dX7_put_0 : decode cX7_put 0 = .ok (.aload_n 0, 1) := by decide +kernel
theorem dX7_put_1 : decode cX7_put 1 = .ok (.getfield 7, 3) := by decide +kernel
theorem dX7_put_4 : decode cX7_put 4 = .ok (.bipush 104, 2) := by decide +kernel
theorem dX7_put_6 : decode cX7_put 6 = .ok (.bipush 8, 2) := by decide +kernel
theorem dX7_put_8 : decode cX7_put 8 = .ok (.iload_n 1, 1) := by decide +kernel
theorem dX7_put_9 : decode cX7_put 9 = .ok (.imul, 1) := by decide +kernel
theorem dX7_put_10 : decode cX7_put 10 = .ok (.iadd, 1) := by decide +kernel
theorem dX7_put_11 : decode cX7_put 11 = .ok (.iload_n 2, 1) := by decide +kernel
theorem dX7_put_12 : decode cX7_put 12 = .ok (.iadd, 1) := by decide +kernel
theorem dX7_put_13 : decode cX7_put 13 = .ok (.iload_n 3, 1) := by decide +kernel
theorem dX7_put_14 : decode cX7_put 14 = .ok (.iastore, 1) := by decide +kernel
theorem dX7_put_15 : decode cX7_put 15 = .ok (.return_, 1) := by decide +kernel
theorem dX7_find_0 : decode cX7_find 0 = .ok (.iconst (-1), 1) := by decide +kernel
theorem dX7_find_1 : decode cX7_find 1 = .ok (.istore_n 2, 1) := by decide +kernel
theorem dX7_find_2 : decode cX7_find 2 = .ok (.iconst 0, 1) := by decide +kernel
theorem dX7_find_3 : decode cX7_find 3 = .ok (.istore_n 3, 1) := by decide +kernel
theorem dX7_find_4 : decode cX7_find 4 = .ok (.iload_n 3, 1) := by decide +kernel
theorem dX7_find_5 : decode cX7_find 5 = .ok (.aload_n 0, 1) := by decide +kernel
theorem dX7_find_6 : decode cX7_find 6 = .ok (.getfield 7, 3) := by decide +kernel
theorem dX7_find_9 : decode cX7_find 9 = .ok (.iconst 1, 1) := by decide +kernel
theorem dX7_find_10 : decode cX7_find 10 = .ok (.iaload, 1) := by decide +kernel
theorem dX7_find_11 : decode cX7_find 11 = .ok (.if_icmp .ge 25, 3) := by decide +kernel
theorem dX7_find_14 : decode cX7_find 14 = .ok (.aload_n 0, 1) := by decide +kernel
theorem dX7_find_15 : decode cX7_find 15 = .ok (.iload_n 3, 1) := by decide +kernel
theorem dX7_find_16 : decode cX7_find 16 = .ok (.iconst 0, 1) := by decide +kernel
theorem dX7_find_17 : decode cX7_find 17 = .ok (.invokevirtual 32, 3) := by decide +kernel
theorem dX7_find_20 : decode cX7_find 20 = .ok (.iload_n 1, 1) := by decide +kernel
theorem dX7_find_21 : decode cX7_find 21 = .ok (.if_icmp .ne 7, 3) := by decide +kernel
theorem dX7_find_24 : decode cX7_find 24 = .ok (.iload_n 3, 1) := by decide +kernel
theorem dX7_find_25 : decode cX7_find 25 = .ok (.goto 4, 3) := by decide +kernel
theorem dX7_find_28 : decode cX7_find 28 = .ok (.iload_n 2, 1) := by decide +kernel
theorem dX7_find_29 : decode cX7_find 29 = .ok (.istore_n 2, 1) := by decide +kernel
theorem dX7_find_30 : decode cX7_find 30 = .ok (.iinc 3 1, 3) := by decide +kernel
theorem dX7_find_33 : decode cX7_find 33 = .ok (.goto (-29), 3) := by decide +kernel
theorem dX7_find_36 : decode cX7_find 36 = .ok (.iload_n 2, 1) := by decide +kernel
theorem dX7_find_37 : decode cX7_find 37 = .ok (.ireturn, 1) := by decide +kernel
theorem dX7_isAhead_0 : decode cX7_isAhead 0 = .ok (.aload_n 0, 1) := by decide +kernel
theorem dX7_isAhead_1 : decode cX7_isAhead 1 = .ok (.iload_n 1, 1) := by decide +kernel
theorem dX7_isAhead_2 : decode cX7_isAhead 2 = .ok (.iconst 3, 1) := by decide +kernel
theorem dX7_isAhead_3 : decode cX7_isAhead 3 = .ok (.invokevirtual 32, 3) := by decide +kernel
theorem dX7_isAhead_6 : decode cX7_isAhead 6 = .ok (.aload_n 0, 1) := by decide +kernel
theorem dX7_isAhead_7 : decode cX7_isAhead 7 = .ok (.iload_n 2, 1) := by decide +kernel
theorem dX7_isAhead_8 : decode cX7_isAhead 8 = .ok (.iconst 3, 1) := by decide +kernel
theorem dX7_isAhead_9 : decode cX7_isAhead 9 = .ok (.invokevirtual 32, 3) := by decide +kernel
theorem dX7_isAhead_12 : decode cX7_isAhead 12 = .ok (.isub, 1) := by decide +kernel
theorem dX7_isAhead_13 : decode cX7_isAhead 13 = .ok (.istore_n 3, 1) := by decide +kernel
theorem dX7_isAhead_14 : decode cX7_isAhead 14 = .ok (.iload_n 3, 1) := by decide +kernel
theorem dX7_isAhead_15 : decode cX7_isAhead 15 = .ok (.ifCond .ne 19, 3) := by decide +kernel
theorem dX7_isAhead_18 : decode cX7_isAhead 18 = .ok (.aload_n 0, 1) := by decide +kernel
theorem dX7_isAhead_19 : decode cX7_isAhead 19 = .ok (.iload_n 1, 1) := by decide +kernel
theorem dX7_isAhead_20 : decode cX7_isAhead 20 = .ok (.iconst 4, 1) := by decide +kernel
theorem dX7_isAhead_21 : decode cX7_isAhead 21 = .ok (.invokevirtual 32, 3) := by decide +kernel
theorem dX7_isAhead_24 : decode cX7_isAhead 24 = .ok (.aload_n 0, 1) := by decide +kernel
theorem dX7_isAhead_25 : decode cX7_isAhead 25 = .ok (.iload_n 2, 1) := by decide +kernel
theorem dX7_isAhead_26 : decode cX7_isAhead 26 = .ok (.iconst 4, 1) := by decide +kernel
theorem dX7_isAhead_27 : decode cX7_isAhead 27 = .ok (.invokevirtual 32, 3) := by decide +kernel
theorem dX7_isAhead_30 : decode cX7_isAhead 30 = .ok (.isub, 1) := by decide +kernel
theorem dX7_isAhead_31 : decode cX7_isAhead 31 = .ok (.goto 4, 3) := by decide +kernel
theorem dX7_isAhead_34 : decode cX7_isAhead 34 = .ok (.iload_n 3, 1) := by decide +kernel
theorem dX7_isAhead_35 : decode cX7_isAhead 35 = .ok (.istore_n 3, 1) := by decide +kernel
theorem dX7_isAhead_36 : decode cX7_isAhead 36 = .ok (.iload_n 3, 1) := by decide +kernel
theorem dX7_isAhead_37 : decode cX7_isAhead 37 = .ok (.ifCond .gt 12, 3) := by decide +kernel
theorem dX7_isAhead_40 : decode cX7_isAhead 40 = .ok (.iload_n 3, 1) := by decide +kernel
theorem dX7_isAhead_41 : decode cX7_isAhead 41 = .ok (.ifCond .ne 12, 3) := by decide +kernel
theorem dX7_isAhead_44 : decode cX7_isAhead 44 = .ok (.iload_n 1, 1) := by decide +kernel
theorem dX7_isAhead_45 : decode cX7_isAhead 45 = .ok (.iload_n 2, 1) := by decide +kernel
theorem dX7_isAhead_46 : decode cX7_isAhead 46 = .ok (.if_icmp .ge 7, 3) := by decide +kernel
theorem dX7_isAhead_49 : decode cX7_isAhead 49 = .ok (.iconst 1, 1) := by decide +kernel
theorem dX7_isAhead_50 : decode cX7_isAhead 50 = .ok (.goto 4, 3) := by decide +kernel
theorem dX7_isAhead_53 : decode cX7_isAhead 53 = .ok (.iconst 0, 1) := by decide +kernel
theorem dX7_isAhead_54 : decode cX7_isAhead 54 = .ok (.ireturn, 1) := by decide +kernel
theorem dX7_placeOf_0 : decode cX7_placeOf 0 = .ok (.iconst 0, 1) := by decide +kernel
theorem dX7_placeOf_1 : decode cX7_placeOf 1 = .ok (.istore_n 2, 1) := by decide +kernel
theorem dX7_placeOf_2 : decode cX7_placeOf 2 = .ok (.iconst 0, 1) := by decide +kernel
theorem dX7_placeOf_3 : decode cX7_placeOf 3 = .ok (.istore_n 3, 1) := by decide +kernel
theorem dX7_placeOf_4 : decode cX7_placeOf 4 = .ok (.iload_n 3, 1) := by decide +kernel
theorem dX7_placeOf_5 : decode cX7_placeOf 5 = .ok (.aload_n 0, 1) := by decide +kernel
theorem dX7_placeOf_6 : decode cX7_placeOf 6 = .ok (.getfield 7, 3) := by decide +kernel
theorem dX7_placeOf_9 : decode cX7_placeOf 9 = .ok (.iconst 1, 1) := by decide +kernel
theorem dX7_placeOf_10 : decode cX7_placeOf 10 = .ok (.iaload, 1) := by decide +kernel
theorem dX7_placeOf_11 : decode cX7_placeOf 11 = .ok (.if_icmp .ge 31, 3) := by decide +kernel
theorem dX7_placeOf_14 : decode cX7_placeOf 14 = .ok (.iload_n 2, 1) := by decide +kernel
theorem dX7_placeOf_15 : decode cX7_placeOf 15 = .ok (.iload_n 3, 1) := by decide +kernel
theorem dX7_placeOf_16 : decode cX7_placeOf 16 = .ok (.iload_n 1, 1) := by decide +kernel
theorem dX7_placeOf_17 : decode cX7_placeOf 17 = .ok (.if_icmp .eq 16, 3) := by decide +kernel
theorem dX7_placeOf_20 : decode cX7_placeOf 20 = .ok (.aload_n 0, 1) := by decide +kernel
theorem dX7_placeOf_21 : decode cX7_placeOf 21 = .ok (.iload_n 3, 1) := by decide +kernel
theorem dX7_placeOf_22 : decode cX7_placeOf 22 = .ok (.iload_n 1, 1) := by decide +kernel
theorem dX7_placeOf_23 : decode cX7_placeOf 23 = .ok (.invokevirtual 36, 3) := by decide +kernel
theorem dX7_placeOf_26 : decode cX7_placeOf 26 = .ok (.ifCond .eq 7, 3) := by decide +kernel
theorem dX7_placeOf_29 : decode cX7_placeOf 29 = .ok (.iconst 1, 1) := by decide +kernel
theorem dX7_placeOf_30 : decode cX7_placeOf 30 = .ok (.goto 4, 3) := by decide +kernel
theorem dX7_placeOf_33 : decode cX7_placeOf 33 = .ok (.iconst 0, 1) := by decide +kernel
theorem dX7_placeOf_34 : decode cX7_placeOf 34 = .ok (.iadd, 1) := by decide +kernel
theorem dX7_placeOf_35 : decode cX7_placeOf 35 = .ok (.istore_n 2, 1) := by decide +kernel
theorem dX7_placeOf_36 : decode cX7_placeOf 36 = .ok (.iinc 3 1, 3) := by decide +kernel
theorem dX7_placeOf_39 : decode cX7_placeOf 39 = .ok (.goto (-35), 3) := by decide +kernel
theorem dX7_placeOf_42 : decode cX7_placeOf 42 = .ok (.iload_n 2, 1) := by decide +kernel
theorem dX7_placeOf_43 : decode cX7_placeOf 43 = .ok (.ireturn, 1) := by decide +kernel
theorem dX7_atPlace_0 : decode cX7_atPlace 0 = .ok (.iconst 0, 1) := by decide +kernel
theorem dX7_atPlace_1 : decode cX7_atPlace 1 = .ok (.istore_n 2, 1) := by decide +kernel
theorem dX7_atPlace_2 : decode cX7_atPlace 2 = .ok (.aload_n 0, 1) := by decide +kernel
theorem dX7_atPlace_3 : decode cX7_atPlace 3 = .ok (.iload_n 2, 1) := by decide +kernel
theorem dX7_atPlace_4 : decode cX7_atPlace 4 = .ok (.invokevirtual 40, 3) := by decide +kernel
theorem dX7_atPlace_7 : decode cX7_atPlace 7 = .ok (.iload_n 1, 1) := by decide +kernel
theorem dX7_atPlace_8 : decode cX7_atPlace 8 = .ok (.if_icmp .eq 9, 3) := by decide +kernel
theorem dX7_atPlace_11 : decode cX7_atPlace 11 = .ok (.iinc 2 1, 3) := by decide +kernel
theorem dX7_atPlace_14 : decode cX7_atPlace 14 = .ok (.goto (-12), 3) := by decide +kernel
theorem dX7_atPlace_17 : decode cX7_atPlace 17 = .ok (.iload_n 2, 1) := by decide +kernel
theorem dX7_atPlace_18 : decode cX7_atPlace 18 = .ok (.ireturn, 1) := by decide +kernel
theorem dX7_sentOf_0 : decode cX7_sentOf 0 = .ok (.iconst 0, 1) := by decide +kernel
theorem dX7_sentOf_1 : decode cX7_sentOf 1 = .ok (.istore_n 2, 1) := by decide +kernel
theorem dX7_sentOf_2 : decode cX7_sentOf 2 = .ok (.iconst 0, 1) := by decide +kernel
theorem dX7_sentOf_3 : decode cX7_sentOf 3 = .ok (.istore_n 3, 1) := by decide +kernel
theorem dX7_sentOf_4 : decode cX7_sentOf 4 = .ok (.iload_n 3, 1) := by decide +kernel
theorem dX7_sentOf_5 : decode cX7_sentOf 5 = .ok (.aload_n 0, 1) := by decide +kernel
theorem dX7_sentOf_6 : decode cX7_sentOf 6 = .ok (.getfield 7, 3) := by decide +kernel
theorem dX7_sentOf_9 : decode cX7_sentOf 9 = .ok (.iconst 1, 1) := by decide +kernel
theorem dX7_sentOf_10 : decode cX7_sentOf 10 = .ok (.iaload, 1) := by decide +kernel
theorem dX7_sentOf_11 : decode cX7_sentOf 11 = .ok (.if_icmp .ge 37, 3) := by decide +kernel
theorem dX7_sentOf_14 : decode cX7_sentOf 14 = .ok (.iload_n 2, 1) := by decide +kernel
theorem dX7_sentOf_15 : decode cX7_sentOf 15 = .ok (.aload_n 0, 1) := by decide +kernel
theorem dX7_sentOf_16 : decode cX7_sentOf 16 = .ok (.iload_n 3, 1) := by decide +kernel
theorem dX7_sentOf_17 : decode cX7_sentOf 17 = .ok (.iconst 1, 1) := by decide +kernel
theorem dX7_sentOf_18 : decode cX7_sentOf 18 = .ok (.invokevirtual 32, 3) := by decide +kernel
theorem dX7_sentOf_21 : decode cX7_sentOf 21 = .ok (.iload_n 1, 1) := by decide +kernel
theorem dX7_sentOf_22 : decode cX7_sentOf 22 = .ok (.if_icmp .eq 13, 3) := by decide +kernel
theorem dX7_sentOf_25 : decode cX7_sentOf 25 = .ok (.aload_n 0, 1) := by decide +kernel
theorem dX7_sentOf_26 : decode cX7_sentOf 26 = .ok (.iload_n 3, 1) := by decide +kernel
theorem dX7_sentOf_27 : decode cX7_sentOf 27 = .ok (.iconst 2, 1) := by decide +kernel
theorem dX7_sentOf_28 : decode cX7_sentOf 28 = .ok (.invokevirtual 32, 3) := by decide +kernel
theorem dX7_sentOf_31 : decode cX7_sentOf 31 = .ok (.iload_n 1, 1) := by decide +kernel
theorem dX7_sentOf_32 : decode cX7_sentOf 32 = .ok (.if_icmp .ne 7, 3) := by decide +kernel
theorem dX7_sentOf_35 : decode cX7_sentOf 35 = .ok (.iconst 1, 1) := by decide +kernel
theorem dX7_sentOf_36 : decode cX7_sentOf 36 = .ok (.goto 4, 3) := by decide +kernel
theorem dX7_sentOf_39 : decode cX7_sentOf 39 = .ok (.iconst 0, 1) := by decide +kernel
theorem dX7_sentOf_40 : decode cX7_sentOf 40 = .ok (.iadd, 1) := by decide +kernel
theorem dX7_sentOf_41 : decode cX7_sentOf 41 = .ok (.istore_n 2, 1) := by decide +kernel
theorem dX7_sentOf_42 : decode cX7_sentOf 42 = .ok (.iinc 3 1, 3) := by decide +kernel
theorem dX7_sentOf_45 : decode cX7_sentOf 45 = .ok (.goto (-41), 3) := by decide +kernel
theorem dX7_sentOf_48 : decode cX7_sentOf 48 = .ok (.iload_n 2, 1) := by decide +kernel
theorem dX7_sentOf_49 : decode cX7_sentOf 49 = .ok (.ireturn, 1) := by decide +kernel
theorem dX7_isRoom_0 : decode cX7_isRoom 0 = .ok (.aload_n 0, 1) := by decide +kernel
theorem dX7_isRoom_1 : decode cX7_isRoom 1 = .ok (.getfield 7, 3) := by decide +kernel
theorem dX7_isRoom_4 : decode cX7_isRoom 4 = .ok (.iconst 1, 1) := by decide +kernel
theorem dX7_isRoom_5 : decode cX7_isRoom 5 = .ok (.iaload, 1) := by decide +kernel
theorem dX7_isRoom_6 : decode cX7_isRoom 6 = .ok (.bipush 40, 2) := by decide +kernel
theorem dX7_isRoom_8 : decode cX7_isRoom 8 = .ok (.if_icmp .ge 42, 3) := by decide +kernel
theorem dX7_isRoom_11 : decode cX7_isRoom 11 = .ok (.aload_n 0, 1) := by decide +kernel
theorem dX7_isRoom_12 : decode cX7_isRoom 12 = .ok (.iload_n 1, 1) := by decide +kernel
theorem dX7_isRoom_13 : decode cX7_isRoom 13 = .ok (.invokevirtual 44, 3) := by decide +kernel
theorem dX7_isRoom_16 : decode cX7_isRoom 16 = .ok (.aload_n 0, 1) := by decide +kernel
theorem dX7_isRoom_17 : decode cX7_isRoom 17 = .ok (.getfield 7, 3) := by decide +kernel
theorem dX7_isRoom_20 : decode cX7_isRoom 20 = .ok (.bipush 8, 2) := by decide +kernel
theorem dX7_isRoom_22 : decode cX7_isRoom 22 = .ok (.iaload, 1) := by decide +kernel
theorem dX7_isRoom_23 : decode cX7_isRoom 23 = .ok (.if_icmp .ge 27, 3) := by decide +kernel
theorem dX7_isRoom_26 : decode cX7_isRoom 26 = .ok (.iload_n 2, 1) := by decide +kernel
theorem dX7_isRoom_27 : decode cX7_isRoom 27 = .ok (.iconst (-1), 1) := by decide +kernel
theorem dX7_isRoom_28 : decode cX7_isRoom 28 = .ok (.if_icmp .eq 18, 3) := by decide +kernel
theorem dX7_isRoom_31 : decode cX7_isRoom 31 = .ok (.aload_n 0, 1) := by decide +kernel
theorem dX7_isRoom_32 : decode cX7_isRoom 32 = .ok (.iload_n 2, 1) := by decide +kernel
theorem dX7_isRoom_33 : decode cX7_isRoom 33 = .ok (.invokevirtual 44, 3) := by decide +kernel
theorem dX7_isRoom_36 : decode cX7_isRoom 36 = .ok (.aload_n 0, 1) := by decide +kernel
theorem dX7_isRoom_37 : decode cX7_isRoom 37 = .ok (.getfield 7, 3) := by decide +kernel
theorem dX7_isRoom_40 : decode cX7_isRoom 40 = .ok (.bipush 8, 2) := by decide +kernel
theorem dX7_isRoom_42 : decode cX7_isRoom 42 = .ok (.iaload, 1) := by decide +kernel
theorem dX7_isRoom_43 : decode cX7_isRoom 43 = .ok (.if_icmp .ge 7, 3) := by decide +kernel
theorem dX7_isRoom_46 : decode cX7_isRoom 46 = .ok (.iconst 1, 1) := by decide +kernel
theorem dX7_isRoom_47 : decode cX7_isRoom 47 = .ok (.goto 4, 3) := by decide +kernel
theorem dX7_isRoom_50 : decode cX7_isRoom 50 = .ok (.iconst 0, 1) := by decide +kernel
theorem dX7_isRoom_51 : decode cX7_isRoom 51 = .ok (.ireturn, 1) := by decide +kernel
theorem dX7_louder_0 : decode cX7_louder 0 = .ok (.iload_n 0, 1) := by decide +kernel
theorem dX7_louder_1 : decode cX7_louder 1 = .ok (.iload_n 1, 1) := by decide +kernel
theorem dX7_louder_2 : decode cX7_louder 2 = .ok (.bipush 25, 2) := by decide +kernel
theorem dX7_louder_4 : decode cX7_louder 4 = .ok (.idiv, 1) := by decide +kernel
theorem dX7_louder_5 : decode cX7_louder 5 = .ok (.iadd, 1) := by decide +kernel
theorem dX7_louder_6 : decode cX7_louder 6 = .ok (.istore_n 2, 1) := by decide +kernel
theorem dX7_louder_7 : decode cX7_louder 7 = .ok (.iload_n 2, 1) := by decide +kernel
theorem dX7_louder_8 : decode cX7_louder 8 = .ok (.iconst 4, 1) := by decide +kernel
theorem dX7_louder_9 : decode cX7_louder 9 = .ok (.if_icmp .le 7, 3) := by decide +kernel
theorem dX7_louder_12 : decode cX7_louder 12 = .ok (.iconst 4, 1) := by decide +kernel
theorem dX7_louder_13 : decode cX7_louder 13 = .ok (.goto 4, 3) := by decide +kernel
theorem dX7_louder_16 : decode cX7_louder 16 = .ok (.iload_n 2, 1) := by decide +kernel
theorem dX7_louder_17 : decode cX7_louder 17 = .ok (.ireturn, 1) := by decide +kernel
theorem dX7_comes_0 : decode cX7_comes 0 = .ok (.aload_n 0, 1) := by decide +kernel
theorem dX7_comes_1 : decode cX7_comes 1 = .ok (.getfield 7, 3) := by decide +kernel
theorem dX7_comes_4 : decode cX7_comes 4 = .ok (.iconst 1, 1) := by decide +kernel
theorem dX7_comes_5 : decode cX7_comes 5 = .ok (.iaload, 1) := by decide +kernel
theorem dX7_comes_6 : decode cX7_comes 6 = .ok (.istore 6, 2) := by decide +kernel
theorem dX7_comes_8 : decode cX7_comes 8 = .ok (.aload_n 0, 1) := by decide +kernel
theorem dX7_comes_9 : decode cX7_comes 9 = .ok (.getfield 7, 3) := by decide +kernel
theorem dX7_comes_12 : decode cX7_comes 12 = .ok (.iconst 1, 1) := by decide +kernel
theorem dX7_comes_13 : decode cX7_comes 13 = .ok (.dup2, 1) := by decide +kernel
theorem dX7_comes_14 : decode cX7_comes 14 = .ok (.iaload, 1) := by decide +kernel
theorem dX7_comes_15 : decode cX7_comes 15 = .ok (.iconst 1, 1) := by decide +kernel
theorem dX7_comes_16 : decode cX7_comes 16 = .ok (.iadd, 1) := by decide +kernel
theorem dX7_comes_17 : decode cX7_comes 17 = .ok (.iastore, 1) := by decide +kernel
theorem dX7_comes_18 : decode cX7_comes 18 = .ok (.aload_n 0, 1) := by decide +kernel
theorem dX7_comes_19 : decode cX7_comes 19 = .ok (.iload 6, 2) := by decide +kernel
theorem dX7_comes_21 : decode cX7_comes 21 = .ok (.iconst 0, 1) := by decide +kernel
theorem dX7_comes_22 : decode cX7_comes 22 = .ok (.aload_n 0, 1) := by decide +kernel
theorem dX7_comes_23 : decode cX7_comes 23 = .ok (.getfield 7, 3) := by decide +kernel
theorem dX7_comes_26 : decode cX7_comes 26 = .ok (.iconst 2, 1) := by decide +kernel
theorem dX7_comes_27 : decode cX7_comes 27 = .ok (.iaload, 1) := by decide +kernel
theorem dX7_comes_28 : decode cX7_comes 28 = .ok (.invokevirtual 47, 3) := by decide +kernel
theorem dX7_comes_31 : decode cX7_comes 31 = .ok (.aload_n 0, 1) := by decide +kernel
theorem dX7_comes_32 : decode cX7_comes 32 = .ok (.iload 6, 2) := by decide +kernel
theorem dX7_comes_34 : decode cX7_comes 34 = .ok (.iconst 1, 1) := by decide +kernel
theorem dX7_comes_35 : decode cX7_comes 35 = .ok (.iload_n 1, 1) := by decide +kernel
theorem dX7_comes_36 : decode cX7_comes 36 = .ok (.invokevirtual 47, 3) := by decide +kernel
theorem dX7_comes_39 : decode cX7_comes 39 = .ok (.aload_n 0, 1) := by decide +kernel
theorem dX7_comes_40 : decode cX7_comes 40 = .ok (.iload 6, 2) := by decide +kernel
theorem dX7_comes_42 : decode cX7_comes 42 = .ok (.iconst 2, 1) := by decide +kernel
theorem dX7_comes_43 : decode cX7_comes 43 = .ok (.iload_n 2, 1) := by decide +kernel
theorem dX7_comes_44 : decode cX7_comes 44 = .ok (.invokevirtual 47, 3) := by decide +kernel
theorem dX7_comes_47 : decode cX7_comes 47 = .ok (.aload_n 0, 1) := by decide +kernel
theorem dX7_comes_48 : decode cX7_comes 48 = .ok (.iload 6, 2) := by decide +kernel
theorem dX7_comes_50 : decode cX7_comes 50 = .ok (.iconst 3, 1) := by decide +kernel
theorem dX7_comes_51 : decode cX7_comes 51 = .ok (.iload_n 3, 1) := by decide +kernel
theorem dX7_comes_52 : decode cX7_comes 52 = .ok (.iload 5, 2) := by decide +kernel
theorem dX7_comes_54 : decode cX7_comes 54 = .ok (.invokestatic 51, 3) := by decide +kernel
theorem dX7_comes_57 : decode cX7_comes 57 = .ok (.invokevirtual 47, 3) := by decide +kernel
theorem dX7_comes_60 : decode cX7_comes 60 = .ok (.aload_n 0, 1) := by decide +kernel
theorem dX7_comes_61 : decode cX7_comes 61 = .ok (.iload 6, 2) := by decide +kernel
theorem dX7_comes_63 : decode cX7_comes 63 = .ok (.iconst 4, 1) := by decide +kernel
theorem dX7_comes_64 : decode cX7_comes 64 = .ok (.iconst 0, 1) := by decide +kernel
theorem dX7_comes_65 : decode cX7_comes 65 = .ok (.invokevirtual 47, 3) := by decide +kernel
theorem dX7_comes_68 : decode cX7_comes 68 = .ok (.aload_n 0, 1) := by decide +kernel
theorem dX7_comes_69 : decode cX7_comes 69 = .ok (.iload 6, 2) := by decide +kernel
theorem dX7_comes_71 : decode cX7_comes 71 = .ok (.iconst 5, 1) := by decide +kernel
theorem dX7_comes_72 : decode cX7_comes 72 = .ok (.iconst 0, 1) := by decide +kernel
theorem dX7_comes_73 : decode cX7_comes 73 = .ok (.invokevirtual 47, 3) := by decide +kernel
theorem dX7_comes_76 : decode cX7_comes 76 = .ok (.aload_n 0, 1) := by decide +kernel
theorem dX7_comes_77 : decode cX7_comes 77 = .ok (.iload 6, 2) := by decide +kernel
theorem dX7_comes_79 : decode cX7_comes 79 = .ok (.bipush 6, 2) := by decide +kernel
theorem dX7_comes_81 : decode cX7_comes 81 = .ok (.iload 4, 2) := by decide +kernel
theorem dX7_comes_83 : decode cX7_comes 83 = .ok (.invokevirtual 47, 3) := by decide +kernel
theorem dX7_comes_86 : decode cX7_comes 86 = .ok (.aload_n 0, 1) := by decide +kernel
theorem dX7_comes_87 : decode cX7_comes 87 = .ok (.iload 6, 2) := by decide +kernel
theorem dX7_comes_89 : decode cX7_comes 89 = .ok (.bipush 7, 2) := by decide +kernel
theorem dX7_comes_91 : decode cX7_comes 91 = .ok (.iload 5, 2) := by decide +kernel
theorem dX7_comes_93 : decode cX7_comes 93 = .ok (.invokevirtual 47, 3) := by decide +kernel
theorem dX7_comes_96 : decode cX7_comes 96 = .ok (.aload_n 0, 1) := by decide +kernel
theorem dX7_comes_97 : decode cX7_comes 97 = .ok (.getfield 7, 3) := by decide +kernel
theorem dX7_comes_100 : decode cX7_comes 100 = .ok (.iconst 2, 1) := by decide +kernel
theorem dX7_comes_101 : decode cX7_comes 101 = .ok (.dup2, 1) := by decide +kernel
theorem dX7_comes_102 : decode cX7_comes 102 = .ok (.iaload, 1) := by decide +kernel
theorem dX7_comes_103 : decode cX7_comes 103 = .ok (.iconst 1, 1) := by decide +kernel
theorem dX7_comes_104 : decode cX7_comes 104 = .ok (.iadd, 1) := by decide +kernel
theorem dX7_comes_105 : decode cX7_comes 105 = .ok (.iastore, 1) := by decide +kernel
theorem dX7_comes_106 : decode cX7_comes 106 = .ok (.aload_n 0, 1) := by decide +kernel
theorem dX7_comes_107 : decode cX7_comes 107 = .ok (.getfield 7, 3) := by decide +kernel
theorem dX7_comes_110 : decode cX7_comes 110 = .ok (.iconst 2, 1) := by decide +kernel
theorem dX7_comes_111 : decode cX7_comes 111 = .ok (.iaload, 1) := by decide +kernel
theorem dX7_comes_112 : decode cX7_comes 112 = .ok (.iconst 1, 1) := by decide +kernel
theorem dX7_comes_113 : decode cX7_comes 113 = .ok (.isub, 1) := by decide +kernel
theorem dX7_comes_114 : decode cX7_comes 114 = .ok (.ireturn, 1) := by decide +kernel
theorem dX7_backOf_0 : decode cX7_backOf 0 = .ok (.aload_n 0, 1) := by decide +kernel
theorem dX7_backOf_1 : decode cX7_backOf 1 = .ok (.iload_n 1, 1) := by decide +kernel
theorem dX7_backOf_2 : decode cX7_backOf 2 = .ok (.bipush 7, 2) := by decide +kernel
theorem dX7_backOf_4 : decode cX7_backOf 4 = .ok (.invokevirtual 32, 3) := by decide +kernel
theorem dX7_backOf_7 : decode cX7_backOf 7 = .ok (.istore_n 3, 1) := by decide +kernel
theorem dX7_backOf_8 : decode cX7_backOf 8 = .ok (.iload_n 2, 1) := by decide +kernel
theorem dX7_backOf_9 : decode cX7_backOf 9 = .ok (.ifCond .ne 27, 3) := by decide +kernel
theorem dX7_backOf_12 : decode cX7_backOf 12 = .ok (.aload_n 0, 1) := by decide +kernel
theorem dX7_backOf_13 : decode cX7_backOf 13 = .ok (.iload_n 1, 1) := by decide +kernel
theorem dX7_backOf_14 : decode cX7_backOf 14 = .ok (.iconst 4, 1) := by decide +kernel
theorem dX7_backOf_15 : decode cX7_backOf 15 = .ok (.invokevirtual 32, 3) := by decide +kernel
theorem dX7_backOf_18 : decode cX7_backOf 18 = .ok (.aload_n 0, 1) := by decide +kernel
theorem dX7_backOf_19 : decode cX7_backOf 19 = .ok (.getfield 7, 3) := by decide +kernel
theorem dX7_backOf_22 : decode cX7_backOf 22 = .ok (.bipush 9, 2) := by decide +kernel
theorem dX7_backOf_24 : decode cX7_backOf 24 = .ok (.iaload, 1) := by decide +kernel
theorem dX7_backOf_25 : decode cX7_backOf 25 = .ok (.if_icmp .gt 7, 3) := by decide +kernel
theorem dX7_backOf_28 : decode cX7_backOf 28 = .ok (.iconst 0, 1) := by decide +kernel
theorem dX7_backOf_29 : decode cX7_backOf 29 = .ok (.goto 6, 3) := by decide +kernel
theorem dX7_backOf_32 : decode cX7_backOf 32 = .ok (.iload_n 3, 1) := by decide +kernel
theorem dX7_backOf_33 : decode cX7_backOf 33 = .ok (.iconst 2, 1) := by decide +kernel
theorem dX7_backOf_34 : decode cX7_backOf 34 = .ok (.idiv, 1) := by decide +kernel
theorem dX7_backOf_35 : decode cX7_backOf 35 = .ok (.ireturn, 1) := by decide +kernel
theorem dX7_backOf_36 : decode cX7_backOf 36 = .ok (.iload_n 2, 1) := by decide +kernel
theorem dX7_backOf_37 : decode cX7_backOf 37 = .ok (.iconst 1, 1) := by decide +kernel
theorem dX7_backOf_38 : decode cX7_backOf 38 = .ok (.if_icmp .ne 7, 3) := by decide +kernel
theorem dX7_backOf_41 : decode cX7_backOf 41 = .ok (.iload_n 3, 1) := by decide +kernel
theorem dX7_backOf_42 : decode cX7_backOf 42 = .ok (.goto 8, 3) := by decide +kernel
theorem dX7_backOf_45 : decode cX7_backOf 45 = .ok (.iload_n 3, 1) := by decide +kernel
theorem dX7_backOf_46 : decode cX7_backOf 46 = .ok (.iload_n 3, 1) := by decide +kernel
theorem dX7_backOf_47 : decode cX7_backOf 47 = .ok (.iconst 4, 1) := by decide +kernel
theorem dX7_backOf_48 : decode cX7_backOf 48 = .ok (.idiv, 1) := by decide +kernel
theorem dX7_backOf_49 : decode cX7_backOf 49 = .ok (.isub, 1) := by decide +kernel
theorem dX7_backOf_50 : decode cX7_backOf 50 = .ok (.ireturn, 1) := by decide +kernel
theorem dX7_leaves_0 : decode cX7_leaves 0 = .ok (.aload_n 0, 1) := by decide +kernel
theorem dX7_leaves_1 : decode cX7_leaves 1 = .ok (.iload_n 1, 1) := by decide +kernel
theorem dX7_leaves_2 : decode cX7_leaves 2 = .ok (.iload_n 2, 1) := by decide +kernel
theorem dX7_leaves_3 : decode cX7_leaves 3 = .ok (.invokevirtual 54, 3) := by decide +kernel
theorem dX7_leaves_6 : decode cX7_leaves 6 = .ok (.istore_n 3, 1) := by decide +kernel
theorem dX7_leaves_7 : decode cX7_leaves 7 = .ok (.bipush 79, 2) := by decide +kernel
theorem dX7_leaves_9 : decode cX7_leaves 9 = .ok (.istore 4, 2) := by decide +kernel
theorem dX7_leaves_11 : decode cX7_leaves 11 = .ok (.iload 4, 2) := by decide +kernel
theorem dX7_leaves_13 : decode cX7_leaves 13 = .ok (.iconst 4, 1) := by decide +kernel
theorem dX7_leaves_14 : decode cX7_leaves 14 = .ok (.if_icmp .le 31, 3) := by decide +kernel
theorem dX7_leaves_17 : decode cX7_leaves 17 = .ok (.aload_n 0, 1) := by decide +kernel
theorem dX7_leaves_18 : decode cX7_leaves 18 = .ok (.getfield 7, 3) := by decide +kernel
theorem dX7_leaves_21 : decode cX7_leaves 21 = .ok (.bipush 24, 2) := by decide +kernel
theorem dX7_leaves_23 : decode cX7_leaves 23 = .ok (.iload 4, 2) := by decide +kernel
theorem dX7_leaves_25 : decode cX7_leaves 25 = .ok (.iadd, 1) := by decide +kernel
theorem dX7_leaves_26 : decode cX7_leaves 26 = .ok (.aload_n 0, 1) := by decide +kernel
theorem dX7_leaves_27 : decode cX7_leaves 27 = .ok (.getfield 7, 3) := by decide +kernel
theorem dX7_leaves_30 : decode cX7_leaves 30 = .ok (.bipush 24, 2) := by decide +kernel
theorem dX7_leaves_32 : decode cX7_leaves 32 = .ok (.iload 4, 2) := by decide +kernel
theorem dX7_leaves_34 : decode cX7_leaves 34 = .ok (.iadd, 1) := by decide +kernel
theorem dX7_leaves_35 : decode cX7_leaves 35 = .ok (.iconst 5, 1) := by decide +kernel
theorem dX7_leaves_36 : decode cX7_leaves 36 = .ok (.isub, 1) := by decide +kernel
theorem dX7_leaves_37 : decode cX7_leaves 37 = .ok (.iaload, 1) := by decide +kernel
theorem dX7_leaves_38 : decode cX7_leaves 38 = .ok (.iastore, 1) := by decide +kernel
theorem dX7_leaves_39 : decode cX7_leaves 39 = .ok (.iinc 4 (-1), 3) := by decide +kernel
theorem dX7_leaves_42 : decode cX7_leaves 42 = .ok (.goto (-31), 3) := by decide +kernel
theorem dX7_leaves_45 : decode cX7_leaves 45 = .ok (.aload_n 0, 1) := by decide +kernel
theorem dX7_leaves_46 : decode cX7_leaves 46 = .ok (.getfield 7, 3) := by decide +kernel
theorem dX7_leaves_49 : decode cX7_leaves 49 = .ok (.bipush 24, 2) := by decide +kernel
theorem dX7_leaves_51 : decode cX7_leaves 51 = .ok (.aload_n 0, 1) := by decide +kernel
theorem dX7_leaves_52 : decode cX7_leaves 52 = .ok (.iload_n 1, 1) := by decide +kernel
theorem dX7_leaves_53 : decode cX7_leaves 53 = .ok (.iconst 0, 1) := by decide +kernel
theorem dX7_leaves_54 : decode cX7_leaves 54 = .ok (.invokevirtual 32, 3) := by decide +kernel
theorem dX7_leaves_57 : decode cX7_leaves 57 = .ok (.iastore, 1) := by decide +kernel
theorem dX7_leaves_58 : decode cX7_leaves 58 = .ok (.aload_n 0, 1) := by decide +kernel
theorem dX7_leaves_59 : decode cX7_leaves 59 = .ok (.getfield 7, 3) := by decide +kernel
theorem dX7_leaves_62 : decode cX7_leaves 62 = .ok (.bipush 25, 2) := by decide +kernel
theorem dX7_leaves_64 : decode cX7_leaves 64 = .ok (.iload_n 2, 1) := by decide +kernel
theorem dX7_leaves_65 : decode cX7_leaves 65 = .ok (.iastore, 1) := by decide +kernel
theorem dX7_leaves_66 : decode cX7_leaves 66 = .ok (.aload_n 0, 1) := by decide +kernel
theorem dX7_leaves_67 : decode cX7_leaves 67 = .ok (.getfield 7, 3) := by decide +kernel
theorem dX7_leaves_70 : decode cX7_leaves 70 = .ok (.bipush 26, 2) := by decide +kernel
theorem dX7_leaves_72 : decode cX7_leaves 72 = .ok (.aload_n 0, 1) := by decide +kernel
theorem dX7_leaves_73 : decode cX7_leaves 73 = .ok (.iload_n 1, 1) := by decide +kernel
theorem dX7_leaves_74 : decode cX7_leaves 74 = .ok (.iconst 4, 1) := by decide +kernel
theorem dX7_leaves_75 : decode cX7_leaves 75 = .ok (.invokevirtual 32, 3) := by decide +kernel
theorem dX7_leaves_78 : decode cX7_leaves 78 = .ok (.iastore, 1) := by decide +kernel
theorem dX7_leaves_79 : decode cX7_leaves 79 = .ok (.aload_n 0, 1) := by decide +kernel
theorem dX7_leaves_80 : decode cX7_leaves 80 = .ok (.getfield 7, 3) := by decide +kernel
theorem dX7_leaves_83 : decode cX7_leaves 83 = .ok (.bipush 27, 2) := by decide +kernel
theorem dX7_leaves_85 : decode cX7_leaves 85 = .ok (.iload_n 3, 1) := by decide +kernel
theorem dX7_leaves_86 : decode cX7_leaves 86 = .ok (.iastore, 1) := by decide +kernel
theorem dX7_leaves_87 : decode cX7_leaves 87 = .ok (.aload_n 0, 1) := by decide +kernel
theorem dX7_leaves_88 : decode cX7_leaves 88 = .ok (.getfield 7, 3) := by decide +kernel
theorem dX7_leaves_91 : decode cX7_leaves 91 = .ok (.bipush 28, 2) := by decide +kernel
theorem dX7_leaves_93 : decode cX7_leaves 93 = .ok (.aload_n 0, 1) := by decide +kernel
theorem dX7_leaves_94 : decode cX7_leaves 94 = .ok (.iload_n 1, 1) := by decide +kernel
theorem dX7_leaves_95 : decode cX7_leaves 95 = .ok (.iconst 3, 1) := by decide +kernel
theorem dX7_leaves_96 : decode cX7_leaves 96 = .ok (.invokevirtual 32, 3) := by decide +kernel
theorem dX7_leaves_99 : decode cX7_leaves 99 = .ok (.iastore, 1) := by decide +kernel
theorem dX7_leaves_100 : decode cX7_leaves 100 = .ok (.aload_n 0, 1) := by decide +kernel
theorem dX7_leaves_101 : decode cX7_leaves 101 = .ok (.getfield 7, 3) := by decide +kernel
theorem dX7_leaves_104 : decode cX7_leaves 104 = .ok (.bipush 11, 2) := by decide +kernel
theorem dX7_leaves_106 : decode cX7_leaves 106 = .ok (.dup2, 1) := by decide +kernel
theorem dX7_leaves_107 : decode cX7_leaves 107 = .ok (.iaload, 1) := by decide +kernel
theorem dX7_leaves_108 : decode cX7_leaves 108 = .ok (.aload_n 0, 1) := by decide +kernel
theorem dX7_leaves_109 : decode cX7_leaves 109 = .ok (.getfield 7, 3) := by decide +kernel
theorem dX7_leaves_112 : decode cX7_leaves 112 = .ok (.bipush 11, 2) := by decide +kernel
theorem dX7_leaves_114 : decode cX7_leaves 114 = .ok (.iaload, 1) := by decide +kernel
theorem dX7_leaves_115 : decode cX7_leaves 115 = .ok (.bipush 16, 2) := by decide +kernel
theorem dX7_leaves_117 : decode cX7_leaves 117 = .ok (.if_icmp .ge 7, 3) := by decide +kernel
theorem dX7_leaves_120 : decode cX7_leaves 120 = .ok (.iconst 1, 1) := by decide +kernel
theorem dX7_leaves_121 : decode cX7_leaves 121 = .ok (.goto 4, 3) := by decide +kernel
theorem dX7_leaves_124 : decode cX7_leaves 124 = .ok (.iconst 0, 1) := by decide +kernel
theorem dX7_leaves_125 : decode cX7_leaves 125 = .ok (.iadd, 1) := by decide +kernel
theorem dX7_leaves_126 : decode cX7_leaves 126 = .ok (.iastore, 1) := by decide +kernel
theorem dX7_leaves_127 : decode cX7_leaves 127 = .ok (.aload_n 0, 1) := by decide +kernel
theorem dX7_leaves_128 : decode cX7_leaves 128 = .ok (.getfield 7, 3) := by decide +kernel
theorem dX7_leaves_131 : decode cX7_leaves 131 = .ok (.iconst 3, 1) := by decide +kernel
theorem dX7_leaves_132 : decode cX7_leaves 132 = .ok (.iload_n 2, 1) := by decide +kernel
theorem dX7_leaves_133 : decode cX7_leaves 133 = .ok (.iadd, 1) := by decide +kernel
theorem dX7_leaves_134 : decode cX7_leaves 134 = .ok (.dup2, 1) := by decide +kernel
theorem dX7_leaves_135 : decode cX7_leaves 135 = .ok (.iaload, 1) := by decide +kernel
theorem dX7_leaves_136 : decode cX7_leaves 136 = .ok (.iconst 1, 1) := by decide +kernel
theorem dX7_leaves_137 : decode cX7_leaves 137 = .ok (.iadd, 1) := by decide +kernel
theorem dX7_leaves_138 : decode cX7_leaves 138 = .ok (.iastore, 1) := by decide +kernel
theorem dX7_leaves_139 : decode cX7_leaves 139 = .ok (.aload_n 0, 1) := by decide +kernel
theorem dX7_leaves_140 : decode cX7_leaves 140 = .ok (.getfield 7, 3) := by decide +kernel
theorem dX7_leaves_143 : decode cX7_leaves 143 = .ok (.bipush 7, 2) := by decide +kernel
theorem dX7_leaves_145 : decode cX7_leaves 145 = .ok (.dup2, 1) := by decide +kernel
theorem dX7_leaves_146 : decode cX7_leaves 146 = .ok (.iaload, 1) := by decide +kernel
theorem dX7_leaves_147 : decode cX7_leaves 147 = .ok (.iload_n 3, 1) := by decide +kernel
theorem dX7_leaves_148 : decode cX7_leaves 148 = .ok (.iadd, 1) := by decide +kernel
theorem dX7_leaves_149 : decode cX7_leaves 149 = .ok (.iastore, 1) := by decide +kernel
theorem dX7_leaves_150 : decode cX7_leaves 150 = .ok (.aload_n 0, 1) := by decide +kernel
theorem dX7_leaves_151 : decode cX7_leaves 151 = .ok (.getfield 7, 3) := by decide +kernel
theorem dX7_leaves_154 : decode cX7_leaves 154 = .ok (.bipush 6, 2) := by decide +kernel
theorem dX7_leaves_156 : decode cX7_leaves 156 = .ok (.dup2, 1) := by decide +kernel
theorem dX7_leaves_157 : decode cX7_leaves 157 = .ok (.iaload, 1) := by decide +kernel
theorem dX7_leaves_158 : decode cX7_leaves 158 = .ok (.aload_n 0, 1) := by decide +kernel
theorem dX7_leaves_159 : decode cX7_leaves 159 = .ok (.iload_n 1, 1) := by decide +kernel
theorem dX7_leaves_160 : decode cX7_leaves 160 = .ok (.bipush 7, 2) := by decide +kernel
theorem dX7_leaves_162 : decode cX7_leaves 162 = .ok (.invokevirtual 32, 3) := by decide +kernel
theorem dX7_leaves_165 : decode cX7_leaves 165 = .ok (.iload_n 3, 1) := by decide +kernel
theorem dX7_leaves_166 : decode cX7_leaves 166 = .ok (.isub, 1) := by decide +kernel
theorem dX7_leaves_167 : decode cX7_leaves 167 = .ok (.iadd, 1) := by decide +kernel
theorem dX7_leaves_168 : decode cX7_leaves 168 = .ok (.iastore, 1) := by decide +kernel
theorem dX7_leaves_169 : decode cX7_leaves 169 = .ok (.aload_n 0, 1) := by decide +kernel
theorem dX7_leaves_170 : decode cX7_leaves 170 = .ok (.getfield 7, 3) := by decide +kernel
theorem dX7_leaves_173 : decode cX7_leaves 173 = .ok (.bipush 16, 2) := by decide +kernel
theorem dX7_leaves_175 : decode cX7_leaves 175 = .ok (.aload_n 0, 1) := by decide +kernel
theorem dX7_leaves_176 : decode cX7_leaves 176 = .ok (.iload_n 1, 1) := by decide +kernel
theorem dX7_leaves_177 : decode cX7_leaves 177 = .ok (.iconst 1, 1) := by decide +kernel
theorem dX7_leaves_178 : decode cX7_leaves 178 = .ok (.invokevirtual 32, 3) := by decide +kernel
theorem dX7_leaves_181 : decode cX7_leaves 181 = .ok (.iadd, 1) := by decide +kernel
theorem dX7_leaves_182 : decode cX7_leaves 182 = .ok (.dup2, 1) := by decide +kernel
theorem dX7_leaves_183 : decode cX7_leaves 183 = .ok (.iaload, 1) := by decide +kernel
theorem dX7_leaves_184 : decode cX7_leaves 184 = .ok (.iload_n 3, 1) := by decide +kernel
theorem dX7_leaves_185 : decode cX7_leaves 185 = .ok (.iadd, 1) := by decide +kernel
theorem dX7_leaves_186 : decode cX7_leaves 186 = .ok (.iastore, 1) := by decide +kernel
theorem dX7_leaves_187 : decode cX7_leaves 187 = .ok (.aload_n 0, 1) := by decide +kernel
theorem dX7_leaves_188 : decode cX7_leaves 188 = .ok (.getfield 7, 3) := by decide +kernel
theorem dX7_leaves_191 : decode cX7_leaves 191 = .ok (.bipush 10, 2) := by decide +kernel
theorem dX7_leaves_193 : decode cX7_leaves 193 = .ok (.dup2, 1) := by decide +kernel
theorem dX7_leaves_194 : decode cX7_leaves 194 = .ok (.iaload, 1) := by decide +kernel
theorem dX7_leaves_195 : decode cX7_leaves 195 = .ok (.iload_n 2, 1) := by decide +kernel
theorem dX7_leaves_196 : decode cX7_leaves 196 = .ok (.ifCond .ne 12, 3) := by decide +kernel
theorem dX7_leaves_199 : decode cX7_leaves 199 = .ok (.aload_n 0, 1) := by decide +kernel
theorem dX7_leaves_200 : decode cX7_leaves 200 = .ok (.iload_n 1, 1) := by decide +kernel
theorem dX7_leaves_201 : decode cX7_leaves 201 = .ok (.iconst 4, 1) := by decide +kernel
theorem dX7_leaves_202 : decode cX7_leaves 202 = .ok (.invokevirtual 32, 3) := by decide +kernel
theorem dX7_leaves_205 : decode cX7_leaves 205 = .ok (.goto 4, 3) := by decide +kernel
theorem dX7_leaves_208 : decode cX7_leaves 208 = .ok (.iconst 0, 1) := by decide +kernel
theorem dX7_leaves_209 : decode cX7_leaves 209 = .ok (.iadd, 1) := by decide +kernel
theorem dX7_leaves_210 : decode cX7_leaves 210 = .ok (.iastore, 1) := by decide +kernel
theorem dX7_leaves_211 : decode cX7_leaves 211 = .ok (.aload_n 0, 1) := by decide +kernel
theorem dX7_leaves_212 : decode cX7_leaves 212 = .ok (.getfield 7, 3) := by decide +kernel
theorem dX7_leaves_215 : decode cX7_leaves 215 = .ok (.iconst 1, 1) := by decide +kernel
theorem dX7_leaves_216 : decode cX7_leaves 216 = .ok (.dup2, 1) := by decide +kernel
theorem dX7_leaves_217 : decode cX7_leaves 217 = .ok (.iaload, 1) := by decide +kernel
theorem dX7_leaves_218 : decode cX7_leaves 218 = .ok (.iconst 1, 1) := by decide +kernel
theorem dX7_leaves_219 : decode cX7_leaves 219 = .ok (.isub, 1) := by decide +kernel
theorem dX7_leaves_220 : decode cX7_leaves 220 = .ok (.iastore, 1) := by decide +kernel
theorem dX7_leaves_221 : decode cX7_leaves 221 = .ok (.bipush 104, 2) := by decide +kernel
theorem dX7_leaves_223 : decode cX7_leaves 223 = .ok (.bipush 8, 2) := by decide +kernel
theorem dX7_leaves_225 : decode cX7_leaves 225 = .ok (.iload_n 1, 1) := by decide +kernel
theorem dX7_leaves_226 : decode cX7_leaves 226 = .ok (.imul, 1) := by decide +kernel
theorem dX7_leaves_227 : decode cX7_leaves 227 = .ok (.iadd, 1) := by decide +kernel
theorem dX7_leaves_228 : decode cX7_leaves 228 = .ok (.istore 4, 2) := by decide +kernel
theorem dX7_leaves_230 : decode cX7_leaves 230 = .ok (.iload 4, 2) := by decide +kernel
theorem dX7_leaves_232 : decode cX7_leaves 232 = .ok (.bipush 104, 2) := by decide +kernel
theorem dX7_leaves_234 : decode cX7_leaves 234 = .ok (.bipush 8, 2) := by decide +kernel
theorem dX7_leaves_236 : decode cX7_leaves 236 = .ok (.aload_n 0, 1) := by decide +kernel
theorem dX7_leaves_237 : decode cX7_leaves 237 = .ok (.getfield 7, 3) := by decide +kernel
theorem dX7_leaves_240 : decode cX7_leaves 240 = .ok (.iconst 1, 1) := by decide +kernel
theorem dX7_leaves_241 : decode cX7_leaves 241 = .ok (.iaload, 1) := by decide +kernel
theorem dX7_leaves_242 : decode cX7_leaves 242 = .ok (.imul, 1) := by decide +kernel
theorem dX7_leaves_243 : decode cX7_leaves 243 = .ok (.iadd, 1) := by decide +kernel
theorem dX7_leaves_244 : decode cX7_leaves 244 = .ok (.if_icmp .ge 26, 3) := by decide +kernel
theorem dX7_leaves_247 : decode cX7_leaves 247 = .ok (.aload_n 0, 1) := by decide +kernel
theorem dX7_leaves_248 : decode cX7_leaves 248 = .ok (.getfield 7, 3) := by decide +kernel
theorem dX7_leaves_251 : decode cX7_leaves 251 = .ok (.iload 4, 2) := by decide +kernel
theorem dX7_leaves_253 : decode cX7_leaves 253 = .ok (.aload_n 0, 1) := by decide +kernel
theorem dX7_leaves_254 : decode cX7_leaves 254 = .ok (.getfield 7, 3) := by decide +kernel
theorem dX7_leaves_257 : decode cX7_leaves 257 = .ok (.iload 4, 2) := by decide +kernel
theorem dX7_leaves_259 : decode cX7_leaves 259 = .ok (.bipush 8, 2) := by decide +kernel
theorem dX7_leaves_261 : decode cX7_leaves 261 = .ok (.iadd, 1) := by decide +kernel
theorem dX7_leaves_262 : decode cX7_leaves 262 = .ok (.iaload, 1) := by decide +kernel
theorem dX7_leaves_263 : decode cX7_leaves 263 = .ok (.iastore, 1) := by decide +kernel
theorem dX7_leaves_264 : decode cX7_leaves 264 = .ok (.iinc 4 1, 3) := by decide +kernel
theorem dX7_leaves_267 : decode cX7_leaves 267 = .ok (.goto (-37), 3) := by decide +kernel
theorem dX7_leaves_270 : decode cX7_leaves 270 = .ok (.iload_n 3, 1) := by decide +kernel
theorem dX7_leaves_271 : decode cX7_leaves 271 = .ok (.ireturn, 1) := by decide +kernel
theorem dX7_servesFirst_0 : decode cX7_servesFirst 0 = .ok (.aload_n 0, 1) := by decide +kernel
theorem dX7_servesFirst_1 : decode cX7_servesFirst 1 = .ok (.iconst 0, 1) := by decide +kernel
theorem dX7_servesFirst_2 : decode cX7_servesFirst 2 = .ok (.invokevirtual 57, 3) := by decide +kernel
theorem dX7_servesFirst_5 : decode cX7_servesFirst 5 = .ok (.istore_n 1, 1) := by decide +kernel
theorem dX7_servesFirst_6 : decode cX7_servesFirst 6 = .ok (.aload_n 0, 1) := by decide +kernel
theorem dX7_servesFirst_7 : decode cX7_servesFirst 7 = .ok (.iload_n 1, 1) := by decide +kernel
theorem dX7_servesFirst_8 : decode cX7_servesFirst 8 = .ok (.iconst 0, 1) := by decide +kernel
theorem dX7_servesFirst_9 : decode cX7_servesFirst 9 = .ok (.invokevirtual 32, 3) := by decide +kernel
theorem dX7_servesFirst_12 : decode cX7_servesFirst 12 = .ok (.istore_n 2, 1) := by decide +kernel
theorem dX7_servesFirst_13 : decode cX7_servesFirst 13 = .ok (.aload_n 0, 1) := by decide +kernel
theorem dX7_servesFirst_14 : decode cX7_servesFirst 14 = .ok (.iload_n 1, 1) := by decide +kernel
theorem dX7_servesFirst_15 : decode cX7_servesFirst 15 = .ok (.iconst 0, 1) := by decide +kernel
theorem dX7_servesFirst_16 : decode cX7_servesFirst 16 = .ok (.invokevirtual 60, 3) := by decide +kernel
theorem dX7_servesFirst_19 : decode cX7_servesFirst 19 = .ok (.ifCond .ge 7, 3) := by decide +kernel
theorem dX7_servesFirst_22 : decode cX7_servesFirst 22 = .ok (.iconst (-1), 1) := by decide +kernel
theorem dX7_servesFirst_23 : decode cX7_servesFirst 23 = .ok (.goto 4, 3) := by decide +kernel
theorem dX7_servesFirst_26 : decode cX7_servesFirst 26 = .ok (.iload_n 2, 1) := by decide +kernel
theorem dX7_servesFirst_27 : decode cX7_servesFirst 27 = .ok (.ireturn, 1) := by decide +kernel
theorem dX7_tick_0 : decode cX7_tick 0 = .ok (.iconst 0, 1) := by decide +kernel
theorem dX7_tick_1 : decode cX7_tick 1 = .ok (.istore_n 1, 1) := by decide +kernel
theorem dX7_tick_2 : decode cX7_tick 2 = .ok (.iconst 0, 1) := by decide +kernel
theorem dX7_tick_3 : decode cX7_tick 3 = .ok (.istore_n 2, 1) := by decide +kernel
theorem dX7_tick_4 : decode cX7_tick 4 = .ok (.iload_n 2, 1) := by decide +kernel
theorem dX7_tick_5 : decode cX7_tick 5 = .ok (.aload_n 0, 1) := by decide +kernel
theorem dX7_tick_6 : decode cX7_tick 6 = .ok (.getfield 7, 3) := by decide +kernel
theorem dX7_tick_9 : decode cX7_tick 9 = .ok (.iconst 1, 1) := by decide +kernel
theorem dX7_tick_10 : decode cX7_tick 10 = .ok (.iaload, 1) := by decide +kernel
theorem dX7_tick_11 : decode cX7_tick 11 = .ok (.if_icmp .ge 127, 3) := by decide +kernel
theorem dX7_tick_14 : decode cX7_tick 14 = .ok (.aload_n 0, 1) := by decide +kernel
theorem dX7_tick_15 : decode cX7_tick 15 = .ok (.iload_n 2, 1) := by decide +kernel
theorem dX7_tick_16 : decode cX7_tick 16 = .ok (.iconst 4, 1) := by decide +kernel
theorem dX7_tick_17 : decode cX7_tick 17 = .ok (.aload_n 0, 1) := by decide +kernel
theorem dX7_tick_18 : decode cX7_tick 18 = .ok (.iload_n 2, 1) := by decide +kernel
theorem dX7_tick_19 : decode cX7_tick 19 = .ok (.iconst 4, 1) := by decide +kernel
theorem dX7_tick_20 : decode cX7_tick 20 = .ok (.invokevirtual 32, 3) := by decide +kernel
theorem dX7_tick_23 : decode cX7_tick 23 = .ok (.iconst 1, 1) := by decide +kernel
theorem dX7_tick_24 : decode cX7_tick 24 = .ok (.iadd, 1) := by decide +kernel
theorem dX7_tick_25 : decode cX7_tick 25 = .ok (.invokevirtual 47, 3) := by decide +kernel
theorem dX7_tick_28 : decode cX7_tick 28 = .ok (.aload_n 0, 1) := by decide +kernel
theorem dX7_tick_29 : decode cX7_tick 29 = .ok (.iload_n 2, 1) := by decide +kernel
theorem dX7_tick_30 : decode cX7_tick 30 = .ok (.iconst 5, 1) := by decide +kernel
theorem dX7_tick_31 : decode cX7_tick 31 = .ok (.aload_n 0, 1) := by decide +kernel
theorem dX7_tick_32 : decode cX7_tick 32 = .ok (.iload_n 2, 1) := by decide +kernel
theorem dX7_tick_33 : decode cX7_tick 33 = .ok (.iconst 5, 1) := by decide +kernel
theorem dX7_tick_34 : decode cX7_tick 34 = .ok (.invokevirtual 32, 3) := by decide +kernel
theorem dX7_tick_37 : decode cX7_tick 37 = .ok (.iconst 1, 1) := by decide +kernel
theorem dX7_tick_38 : decode cX7_tick 38 = .ok (.iadd, 1) := by decide +kernel
theorem dX7_tick_39 : decode cX7_tick 39 = .ok (.invokevirtual 47, 3) := by decide +kernel
theorem dX7_tick_42 : decode cX7_tick 42 = .ok (.aload_n 0, 1) := by decide +kernel
theorem dX7_tick_43 : decode cX7_tick 43 = .ok (.iload_n 2, 1) := by decide +kernel
theorem dX7_tick_44 : decode cX7_tick 44 = .ok (.iconst 4, 1) := by decide +kernel
theorem dX7_tick_45 : decode cX7_tick 45 = .ok (.invokevirtual 32, 3) := by decide +kernel
theorem dX7_tick_48 : decode cX7_tick 48 = .ok (.aload_n 0, 1) := by decide +kernel
theorem dX7_tick_49 : decode cX7_tick 49 = .ok (.iload_n 2, 1) := by decide +kernel
theorem dX7_tick_50 : decode cX7_tick 50 = .ok (.bipush 6, 2) := by decide +kernel
theorem dX7_tick_52 : decode cX7_tick 52 = .ok (.invokevirtual 32, 3) := by decide +kernel
theorem dX7_tick_55 : decode cX7_tick 55 = .ok (.if_icmp .lt 23, 3) := by decide +kernel
theorem dX7_tick_58 : decode cX7_tick 58 = .ok (.iload_n 1, 1) := by decide +kernel
theorem dX7_tick_59 : decode cX7_tick 59 = .ok (.aload_n 0, 1) := by decide +kernel
theorem dX7_tick_60 : decode cX7_tick 60 = .ok (.iload_n 2, 1) := by decide +kernel
theorem dX7_tick_61 : decode cX7_tick 61 = .ok (.iconst 1, 1) := by decide +kernel
theorem dX7_tick_62 : decode cX7_tick 62 = .ok (.invokevirtual 60, 3) := by decide +kernel
theorem dX7_tick_65 : decode cX7_tick 65 = .ok (.ifCond .ge 7, 3) := by decide +kernel
theorem dX7_tick_68 : decode cX7_tick 68 = .ok (.iconst 0, 1) := by decide +kernel
theorem dX7_tick_69 : decode cX7_tick 69 = .ok (.goto 4, 3) := by decide +kernel
theorem dX7_tick_72 : decode cX7_tick 72 = .ok (.iconst 1, 1) := by decide +kernel
theorem dX7_tick_73 : decode cX7_tick 73 = .ok (.iadd, 1) := by decide +kernel
theorem dX7_tick_74 : decode cX7_tick 74 = .ok (.istore_n 1, 1) := by decide +kernel
theorem dX7_tick_75 : decode cX7_tick 75 = .ok (.goto (-71), 3) := by decide +kernel
theorem dX7_tick_78 : decode cX7_tick 78 = .ok (.aload_n 0, 1) := by decide +kernel
theorem dX7_tick_79 : decode cX7_tick 79 = .ok (.iload_n 2, 1) := by decide +kernel
theorem dX7_tick_80 : decode cX7_tick 80 = .ok (.iconst 3, 1) := by decide +kernel
theorem dX7_tick_81 : decode cX7_tick 81 = .ok (.invokevirtual 32, 3) := by decide +kernel
theorem dX7_tick_84 : decode cX7_tick 84 = .ok (.iconst 4, 1) := by decide +kernel
theorem dX7_tick_85 : decode cX7_tick 85 = .ok (.if_icmp .ge 47, 3) := by decide +kernel
theorem dX7_tick_88 : decode cX7_tick 88 = .ok (.aload_n 0, 1) := by decide +kernel
theorem dX7_tick_89 : decode cX7_tick 89 = .ok (.iload_n 2, 1) := by decide +kernel
theorem dX7_tick_90 : decode cX7_tick 90 = .ok (.iconst 5, 1) := by decide +kernel
theorem dX7_tick_91 : decode cX7_tick 91 = .ok (.invokevirtual 32, 3) := by decide +kernel
theorem dX7_tick_94 : decode cX7_tick 94 = .ok (.aload_n 0, 1) := by decide +kernel
theorem dX7_tick_95 : decode cX7_tick 95 = .ok (.getfield 7, 3) := by decide +kernel
theorem dX7_tick_98 : decode cX7_tick 98 = .ok (.bipush 12, 2) := by decide +kernel
theorem dX7_tick_100 : decode cX7_tick 100 = .ok (.aload_n 0, 1) := by decide +kernel
theorem dX7_tick_101 : decode cX7_tick 101 = .ok (.iload_n 2, 1) := by decide +kernel
theorem dX7_tick_102 : decode cX7_tick 102 = .ok (.iconst 3, 1) := by decide +kernel
theorem dX7_tick_103 : decode cX7_tick 103 = .ok (.invokevirtual 32, 3) := by decide +kernel
theorem dX7_tick_106 : decode cX7_tick 106 = .ok (.iadd, 1) := by decide +kernel
theorem dX7_tick_107 : decode cX7_tick 107 = .ok (.iaload, 1) := by decide +kernel
theorem dX7_tick_108 : decode cX7_tick 108 = .ok (.if_icmp .lt 24, 3) := by decide +kernel
theorem dX7_tick_111 : decode cX7_tick 111 = .ok (.aload_n 0, 1) := by decide +kernel
theorem dX7_tick_112 : decode cX7_tick 112 = .ok (.iload_n 2, 1) := by decide +kernel
theorem dX7_tick_113 : decode cX7_tick 113 = .ok (.iconst 3, 1) := by decide +kernel
theorem dX7_tick_114 : decode cX7_tick 114 = .ok (.aload_n 0, 1) := by decide +kernel
theorem dX7_tick_115 : decode cX7_tick 115 = .ok (.iload_n 2, 1) := by decide +kernel
theorem dX7_tick_116 : decode cX7_tick 116 = .ok (.iconst 3, 1) := by decide +kernel
theorem dX7_tick_117 : decode cX7_tick 117 = .ok (.invokevirtual 32, 3) := by decide +kernel
theorem dX7_tick_120 : decode cX7_tick 120 = .ok (.iconst 1, 1) := by decide +kernel
theorem dX7_tick_121 : decode cX7_tick 121 = .ok (.iadd, 1) := by decide +kernel
theorem dX7_tick_122 : decode cX7_tick 122 = .ok (.invokevirtual 47, 3) := by decide +kernel
theorem dX7_tick_125 : decode cX7_tick 125 = .ok (.aload_n 0, 1) := by decide +kernel
theorem dX7_tick_126 : decode cX7_tick 126 = .ok (.iload_n 2, 1) := by decide +kernel
theorem dX7_tick_127 : decode cX7_tick 127 = .ok (.iconst 5, 1) := by decide +kernel
theorem dX7_tick_128 : decode cX7_tick 128 = .ok (.iconst 0, 1) := by decide +kernel
theorem dX7_tick_129 : decode cX7_tick 129 = .ok (.invokevirtual 47, 3) := by decide +kernel
theorem dX7_tick_132 : decode cX7_tick 132 = .ok (.iinc 2 1, 3) := by decide +kernel
theorem dX7_tick_135 : decode cX7_tick 135 = .ok (.goto (-131), 3) := by decide +kernel
theorem dX7_tick_138 : decode cX7_tick 138 = .ok (.aload_n 0, 1) := by decide +kernel
theorem dX7_tick_139 : decode cX7_tick 139 = .ok (.getfield 7, 3) := by decide +kernel
theorem dX7_tick_142 : decode cX7_tick 142 = .ok (.iconst 0, 1) := by decide +kernel
theorem dX7_tick_143 : decode cX7_tick 143 = .ok (.dup2, 1) := by decide +kernel
theorem dX7_tick_144 : decode cX7_tick 144 = .ok (.iaload, 1) := by decide +kernel
theorem dX7_tick_145 : decode cX7_tick 145 = .ok (.iconst 1, 1) := by decide +kernel
theorem dX7_tick_146 : decode cX7_tick 146 = .ok (.iadd, 1) := by decide +kernel
theorem dX7_tick_147 : decode cX7_tick 147 = .ok (.iastore, 1) := by decide +kernel
theorem dX7_tick_148 : decode cX7_tick 148 = .ok (.iload_n 1, 1) := by decide +kernel
theorem dX7_tick_149 : decode cX7_tick 149 = .ok (.ireturn, 1) := by decide +kernel
theorem dX7_ticks_0 : decode cX7_ticks 0 = .ok (.iconst 0, 1) := by decide +kernel
theorem dX7_ticks_1 : decode cX7_ticks 1 = .ok (.istore_n 2, 1) := by decide +kernel
theorem dX7_ticks_2 : decode cX7_ticks 2 = .ok (.iconst 0, 1) := by decide +kernel
theorem dX7_ticks_3 : decode cX7_ticks 3 = .ok (.istore_n 3, 1) := by decide +kernel
theorem dX7_ticks_4 : decode cX7_ticks 4 = .ok (.iload_n 3, 1) := by decide +kernel
theorem dX7_ticks_5 : decode cX7_ticks 5 = .ok (.iload_n 1, 1) := by decide +kernel
theorem dX7_ticks_6 : decode cX7_ticks 6 = .ok (.if_icmp .ge 16, 3) := by decide +kernel
theorem dX7_ticks_9 : decode cX7_ticks 9 = .ok (.iload_n 2, 1) := by decide +kernel
theorem dX7_ticks_10 : decode cX7_ticks 10 = .ok (.aload_n 0, 1) := by decide +kernel
theorem dX7_ticks_11 : decode cX7_ticks 11 = .ok (.invokevirtual 63, 3) := by decide +kernel
theorem dX7_ticks_14 : decode cX7_ticks 14 = .ok (.iadd, 1) := by decide +kernel
theorem dX7_ticks_15 : decode cX7_ticks 15 = .ok (.istore_n 2, 1) := by decide +kernel
theorem dX7_ticks_16 : decode cX7_ticks 16 = .ok (.iinc 3 1, 3) := by decide +kernel
theorem dX7_ticks_19 : decode cX7_ticks 19 = .ok (.goto (-15), 3) := by decide +kernel
theorem dX7_ticks_22 : decode cX7_ticks 22 = .ok (.iload_n 2, 1) := by decide +kernel
theorem dX7_ticks_23 : decode cX7_ticks 23 = .ok (.ireturn, 1) := by decide +kernel
theorem dX7_sets_0 : decode cX7_sets 0 = .ok (.aload_n 0, 1) := by decide +kernel
theorem dX7_sets_1 : decode cX7_sets 1 = .ok (.invokevirtual 67, 3) := by decide +kernel
theorem dX7_sets_4 : decode cX7_sets 4 = .ok (.aload_n 0, 1) := by decide +kernel
theorem dX7_sets_5 : decode cX7_sets 5 = .ok (.getfield 7, 3) := by decide +kernel
theorem dX7_sets_8 : decode cX7_sets 8 = .ok (.iload_n 1, 1) := by decide +kernel
theorem dX7_sets_9 : decode cX7_sets 9 = .ok (.iaload, 1) := by decide +kernel
theorem dX7_sets_10 : decode cX7_sets 10 = .ok (.istore_n 3, 1) := by decide +kernel
theorem dX7_sets_11 : decode cX7_sets 11 = .ok (.aload_n 0, 1) := by decide +kernel
theorem dX7_sets_12 : decode cX7_sets 12 = .ok (.getfield 7, 3) := by decide +kernel
theorem dX7_sets_15 : decode cX7_sets 15 = .ok (.iload_n 1, 1) := by decide +kernel
theorem dX7_sets_16 : decode cX7_sets 16 = .ok (.iload_n 2, 1) := by decide +kernel
theorem dX7_sets_17 : decode cX7_sets 17 = .ok (.iastore, 1) := by decide +kernel
theorem dX7_sets_18 : decode cX7_sets 18 = .ok (.aload_n 0, 1) := by decide +kernel
theorem dX7_sets_19 : decode cX7_sets 19 = .ok (.iload_n 3, 1) := by decide +kernel
theorem dX7_sets_20 : decode cX7_sets 20 = .ok (.invokevirtual 70, 3) := by decide +kernel
theorem dX7_sets_23 : decode cX7_sets 23 = .ok (.ireturn, 1) := by decide +kernel
theorem dX7_setPatience_0 : decode cX7_setPatience 0 = .ok (.iload_n 1, 1) := by decide +kernel
theorem dX7_setPatience_1 : decode cX7_setPatience 1 = .ok (.iconst 0, 1) := by decide +kernel
theorem dX7_setPatience_2 : decode cX7_setPatience 2 = .ok (.iconst 3, 1) := by decide +kernel
theorem dX7_setPatience_3 : decode cX7_setPatience 3 = .ok (.invokestatic 73, 3) := by decide +kernel
theorem dX7_setPatience_6 : decode cX7_setPatience 6 = .ok (.ifCond .ne 9, 3) := by decide +kernel
theorem dX7_setPatience_9 : decode cX7_setPatience 9 = .ok (.aload_n 0, 1) := by decide +kernel
theorem dX7_setPatience_10 : decode cX7_setPatience 10 = .ok (.iconst 1, 1) := by decide +kernel
theorem dX7_setPatience_11 : decode cX7_setPatience 11 = .ok (.invokevirtual 77, 3) := by decide +kernel
theorem dX7_setPatience_14 : decode cX7_setPatience 14 = .ok (.ireturn, 1) := by decide +kernel
theorem dX7_setPatience_15 : decode cX7_setPatience 15 = .ok (.iload_n 2, 1) := by decide +kernel
theorem dX7_setPatience_16 : decode cX7_setPatience 16 = .ok (.iconst 1, 1) := by decide +kernel
theorem dX7_setPatience_17 : decode cX7_setPatience 17 = .ok (.bipush 50, 2) := by decide +kernel
theorem dX7_setPatience_19 : decode cX7_setPatience 19 = .ok (.invokestatic 73, 3) := by decide +kernel
theorem dX7_setPatience_22 : decode cX7_setPatience 22 = .ok (.ifCond .eq 15, 3) := by decide +kernel
theorem dX7_setPatience_25 : decode cX7_setPatience 25 = .ok (.aload_n 0, 1) := by decide +kernel
theorem dX7_setPatience_26 : decode cX7_setPatience 26 = .ok (.bipush 12, 2) := by decide +kernel
theorem dX7_setPatience_28 : decode cX7_setPatience 28 = .ok (.iload_n 1, 1) := by decide +kernel
theorem dX7_setPatience_29 : decode cX7_setPatience 29 = .ok (.iadd, 1) := by decide +kernel
theorem dX7_setPatience_30 : decode cX7_setPatience 30 = .ok (.iload_n 2, 1) := by decide +kernel
theorem dX7_setPatience_31 : decode cX7_setPatience 31 = .ok (.invokevirtual 80, 3) := by decide +kernel
theorem dX7_setPatience_34 : decode cX7_setPatience 34 = .ok (.goto 8, 3) := by decide +kernel
theorem dX7_setPatience_37 : decode cX7_setPatience 37 = .ok (.aload_n 0, 1) := by decide +kernel
theorem dX7_setPatience_38 : decode cX7_setPatience 38 = .ok (.iconst 2, 1) := by decide +kernel
theorem dX7_setPatience_39 : decode cX7_setPatience 39 = .ok (.invokevirtual 77, 3) := by decide +kernel
theorem dX7_setPatience_42 : decode cX7_setPatience 42 = .ok (.ireturn, 1) := by decide +kernel
theorem dX7_setQuota_0 : decode cX7_setQuota 0 = .ok (.iload_n 1, 1) := by decide +kernel
theorem dX7_setQuota_1 : decode cX7_setQuota 1 = .ok (.iconst 0, 1) := by decide +kernel
theorem dX7_setQuota_2 : decode cX7_setQuota 2 = .ok (.bipush 10, 2) := by decide +kernel
theorem dX7_setQuota_4 : decode cX7_setQuota 4 = .ok (.invokestatic 73, 3) := by decide +kernel
theorem dX7_setQuota_7 : decode cX7_setQuota 7 = .ok (.ifCond .eq 13, 3) := by decide +kernel
theorem dX7_setQuota_10 : decode cX7_setQuota 10 = .ok (.aload_n 0, 1) := by decide +kernel
theorem dX7_setQuota_11 : decode cX7_setQuota 11 = .ok (.bipush 8, 2) := by decide +kernel
theorem dX7_setQuota_13 : decode cX7_setQuota 13 = .ok (.iload_n 1, 1) := by decide +kernel
theorem dX7_setQuota_14 : decode cX7_setQuota 14 = .ok (.invokevirtual 80, 3) := by decide +kernel
theorem dX7_setQuota_17 : decode cX7_setQuota 17 = .ok (.goto 8, 3) := by decide +kernel
theorem dX7_setQuota_20 : decode cX7_setQuota 20 = .ok (.aload_n 0, 1) := by decide +kernel
theorem dX7_setQuota_21 : decode cX7_setQuota 21 = .ok (.iconst 1, 1) := by decide +kernel
theorem dX7_setQuota_22 : decode cX7_setQuota 22 = .ok (.invokevirtual 77, 3) := by decide +kernel
theorem dX7_setQuota_25 : decode cX7_setQuota 25 = .ok (.ireturn, 1) := by decide +kernel
theorem dX7_setGrace_0 : decode cX7_setGrace 0 = .ok (.iload_n 1, 1) := by decide +kernel
theorem dX7_setGrace_1 : decode cX7_setGrace 1 = .ok (.iconst 0, 1) := by decide +kernel
theorem dX7_setGrace_2 : decode cX7_setGrace 2 = .ok (.sipush 200, 3) := by decide +kernel
theorem dX7_setGrace_5 : decode cX7_setGrace 5 = .ok (.invokestatic 73, 3) := by decide +kernel
theorem dX7_setGrace_8 : decode cX7_setGrace 8 = .ok (.ifCond .eq 13, 3) := by decide +kernel
theorem dX7_setGrace_11 : decode cX7_setGrace 11 = .ok (.aload_n 0, 1) := by decide +kernel
theorem dX7_setGrace_12 : decode cX7_setGrace 12 = .ok (.bipush 9, 2) := by decide +kernel
theorem dX7_setGrace_14 : decode cX7_setGrace 14 = .ok (.iload_n 1, 1) := by decide +kernel
theorem dX7_setGrace_15 : decode cX7_setGrace 15 = .ok (.invokevirtual 80, 3) := by decide +kernel
theorem dX7_setGrace_18 : decode cX7_setGrace 18 = .ok (.goto 8, 3) := by decide +kernel
theorem dX7_setGrace_21 : decode cX7_setGrace 21 = .ok (.aload_n 0, 1) := by decide +kernel
theorem dX7_setGrace_22 : decode cX7_setGrace 22 = .ok (.iconst 1, 1) := by decide +kernel
theorem dX7_setGrace_23 : decode cX7_setGrace 23 = .ok (.invokevirtual 77, 3) := by decide +kernel
theorem dX7_setGrace_26 : decode cX7_setGrace 26 = .ok (.ireturn, 1) := by decide +kernel
theorem dX7_isSender_0 : decode cX7_isSender 0 = .ok (.iload_n 0, 1) := by decide +kernel
theorem dX7_isSender_1 : decode cX7_isSender 1 = .ok (.iconst 0, 1) := by decide +kernel
theorem dX7_isSender_2 : decode cX7_isSender 2 = .ok (.bipush 7, 2) := by decide +kernel
theorem dX7_isSender_4 : decode cX7_isSender 4 = .ok (.invokestatic 73, 3) := by decide +kernel
theorem dX7_isSender_7 : decode cX7_isSender 7 = .ok (.ireturn, 1) := by decide +kernel
theorem dX7_isPetition_0 : decode cX7_isPetition 0 = .ok (.iload_n 0, 1) := by decide +kernel
theorem dX7_isPetition_1 : decode cX7_isPetition 1 = .ok (.invokestatic 83, 3) := by decide +kernel
theorem dX7_isPetition_4 : decode cX7_isPetition 4 = .ok (.ifCond .eq 27, 3) := by decide +kernel
theorem dX7_isPetition_7 : decode cX7_isPetition 7 = .ok (.iload_n 1, 1) := by decide +kernel
theorem dX7_isPetition_8 : decode cX7_isPetition 8 = .ok (.iconst 0, 1) := by decide +kernel
theorem dX7_isPetition_9 : decode cX7_isPetition 9 = .ok (.iconst 4, 1) := by decide +kernel
theorem dX7_isPetition_10 : decode cX7_isPetition 10 = .ok (.invokestatic 73, 3) := by decide +kernel
theorem dX7_isPetition_13 : decode cX7_isPetition 13 = .ok (.ifCond .eq 18, 3) := by decide +kernel
theorem dX7_isPetition_16 : decode cX7_isPetition 16 = .ok (.iload_n 2, 1) := by decide +kernel
theorem dX7_isPetition_17 : decode cX7_isPetition 17 = .ok (.iconst 1, 1) := by decide +kernel
theorem dX7_isPetition_18 : decode cX7_isPetition 18 = .ok (.sipush 200, 3) := by decide +kernel
theorem dX7_isPetition_21 : decode cX7_isPetition 21 = .ok (.invokestatic 73, 3) := by decide +kernel
theorem dX7_isPetition_24 : decode cX7_isPetition 24 = .ok (.ifCond .eq 7, 3) := by decide +kernel
theorem dX7_isPetition_27 : decode cX7_isPetition 27 = .ok (.iconst 1, 1) := by decide +kernel
theorem dX7_isPetition_28 : decode cX7_isPetition 28 = .ok (.goto 4, 3) := by decide +kernel
theorem dX7_isPetition_31 : decode cX7_isPetition 31 = .ok (.iconst 0, 1) := by decide +kernel
theorem dX7_isPetition_32 : decode cX7_isPetition 32 = .ok (.ireturn, 1) := by decide +kernel
theorem dX7_puts_0 : decode cX7_puts 0 = .ok (.aload_n 0, 1) := by decide +kernel
theorem dX7_puts_1 : decode cX7_puts 1 = .ok (.iload_n 1, 1) := by decide +kernel
theorem dX7_puts_2 : decode cX7_puts 2 = .ok (.iload_n 2, 1) := by decide +kernel
theorem dX7_puts_3 : decode cX7_puts 3 = .ok (.invokevirtual 87, 3) := by decide +kernel
theorem dX7_puts_6 : decode cX7_puts 6 = .ok (.ifCond .ne 9, 3) := by decide +kernel
theorem dX7_puts_9 : decode cX7_puts 9 = .ok (.aload_n 0, 1) := by decide +kernel
theorem dX7_puts_10 : decode cX7_puts 10 = .ok (.iconst 2, 1) := by decide +kernel
theorem dX7_puts_11 : decode cX7_puts 11 = .ok (.invokevirtual 77, 3) := by decide +kernel
theorem dX7_puts_14 : decode cX7_puts 14 = .ok (.ireturn, 1) := by decide +kernel
theorem dX7_puts_15 : decode cX7_puts 15 = .ok (.aload_n 0, 1) := by decide +kernel
theorem dX7_puts_16 : decode cX7_puts 16 = .ok (.invokevirtual 67, 3) := by decide +kernel
theorem dX7_puts_19 : decode cX7_puts 19 = .ok (.aload_n 0, 1) := by decide +kernel
theorem dX7_puts_20 : decode cX7_puts 20 = .ok (.aload_n 0, 1) := by decide +kernel
theorem dX7_puts_21 : decode cX7_puts 21 = .ok (.iload_n 1, 1) := by decide +kernel
theorem dX7_puts_22 : decode cX7_puts 22 = .ok (.iload_n 2, 1) := by decide +kernel
theorem dX7_puts_23 : decode cX7_puts 23 = .ok (.iload_n 3, 1) := by decide +kernel
theorem dX7_puts_24 : decode cX7_puts 24 = .ok (.iload 4, 2) := by decide +kernel
theorem dX7_puts_26 : decode cX7_puts 26 = .ok (.iload 5, 2) := by decide +kernel
theorem dX7_puts_28 : decode cX7_puts 28 = .ok (.invokevirtual 90, 3) := by decide +kernel
theorem dX7_puts_31 : decode cX7_puts 31 = .ok (.invokevirtual 70, 3) := by decide +kernel
theorem dX7_puts_34 : decode cX7_puts 34 = .ok (.ireturn, 1) := by decide +kernel
theorem dX7_send_0 : decode cX7_send 0 = .ok (.iload_n 1, 1) := by decide +kernel
theorem dX7_send_1 : decode cX7_send 1 = .ok (.iload_n 2, 1) := by decide +kernel
theorem dX7_send_2 : decode cX7_send 2 = .ok (.iload_n 3, 1) := by decide +kernel
theorem dX7_send_3 : decode cX7_send 3 = .ok (.invokestatic 94, 3) := by decide +kernel
theorem dX7_send_6 : decode cX7_send 6 = .ok (.ifCond .eq 15, 3) := by decide +kernel
theorem dX7_send_9 : decode cX7_send 9 = .ok (.aload_n 0, 1) := by decide +kernel
theorem dX7_send_10 : decode cX7_send 10 = .ok (.iload_n 1, 1) := by decide +kernel
theorem dX7_send_11 : decode cX7_send 11 = .ok (.iconst (-1), 1) := by decide +kernel
theorem dX7_send_12 : decode cX7_send 12 = .ok (.iload_n 2, 1) := by decide +kernel
theorem dX7_send_13 : decode cX7_send 13 = .ok (.iload_n 3, 1) := by decide +kernel
theorem dX7_send_14 : decode cX7_send 14 = .ok (.iconst 0, 1) := by decide +kernel
theorem dX7_send_15 : decode cX7_send 15 = .ok (.invokevirtual 97, 3) := by decide +kernel
theorem dX7_send_18 : decode cX7_send 18 = .ok (.goto 8, 3) := by decide +kernel
theorem dX7_send_21 : decode cX7_send 21 = .ok (.aload_n 0, 1) := by decide +kernel
theorem dX7_send_22 : decode cX7_send 22 = .ok (.iconst 1, 1) := by decide +kernel
theorem dX7_send_23 : decode cX7_send 23 = .ok (.invokevirtual 77, 3) := by decide +kernel
theorem dX7_send_26 : decode cX7_send 26 = .ok (.ireturn, 1) := by decide +kernel
theorem dX7_sendBribed_0 : decode cX7_sendBribed 0 = .ok (.iload_n 1, 1) := by decide +kernel
theorem dX7_sendBribed_1 : decode cX7_sendBribed 1 = .ok (.iload_n 2, 1) := by decide +kernel
theorem dX7_sendBribed_2 : decode cX7_sendBribed 2 = .ok (.iload_n 3, 1) := by decide +kernel
theorem dX7_sendBribed_3 : decode cX7_sendBribed 3 = .ok (.invokestatic 94, 3) := by decide +kernel
theorem dX7_sendBribed_6 : decode cX7_sendBribed 6 = .ok (.ifCond .eq 27, 3) := by decide +kernel
theorem dX7_sendBribed_9 : decode cX7_sendBribed 9 = .ok (.iload 4, 2) := by decide +kernel
theorem dX7_sendBribed_11 : decode cX7_sendBribed 11 = .ok (.iconst 1, 1) := by decide +kernel
theorem dX7_sendBribed_12 : decode cX7_sendBribed 12 = .ok (.bipush 100, 2) := by decide +kernel
theorem dX7_sendBribed_14 : decode cX7_sendBribed 14 = .ok (.invokestatic 73, 3) := by decide +kernel
theorem dX7_sendBribed_17 : decode cX7_sendBribed 17 = .ok (.ifCond .eq 16, 3) := by decide +kernel
theorem dX7_sendBribed_20 : decode cX7_sendBribed 20 = .ok (.aload_n 0, 1) := by decide +kernel
theorem dX7_sendBribed_21 : decode cX7_sendBribed 21 = .ok (.iload_n 1, 1) := by decide +kernel
theorem dX7_sendBribed_22 : decode cX7_sendBribed 22 = .ok (.iconst (-1), 1) := by decide +kernel
theorem dX7_sendBribed_23 : decode cX7_sendBribed 23 = .ok (.iload_n 2, 1) := by decide +kernel
theorem dX7_sendBribed_24 : decode cX7_sendBribed 24 = .ok (.iload_n 3, 1) := by decide +kernel
theorem dX7_sendBribed_25 : decode cX7_sendBribed 25 = .ok (.iload 4, 2) := by decide +kernel
theorem dX7_sendBribed_27 : decode cX7_sendBribed 27 = .ok (.invokevirtual 97, 3) := by decide +kernel
theorem dX7_sendBribed_30 : decode cX7_sendBribed 30 = .ok (.goto 8, 3) := by decide +kernel
theorem dX7_sendBribed_33 : decode cX7_sendBribed 33 = .ok (.aload_n 0, 1) := by decide +kernel
theorem dX7_sendBribed_34 : decode cX7_sendBribed 34 = .ok (.iconst 1, 1) := by decide +kernel
theorem dX7_sendBribed_35 : decode cX7_sendBribed 35 = .ok (.invokevirtual 77, 3) := by decide +kernel
theorem dX7_sendBribed_38 : decode cX7_sendBribed 38 = .ok (.ireturn, 1) := by decide +kernel
theorem dX7_sendJoint_0 : decode cX7_sendJoint 0 = .ok (.iload_n 1, 1) := by decide +kernel
theorem dX7_sendJoint_1 : decode cX7_sendJoint 1 = .ok (.iload_n 3, 1) := by decide +kernel
theorem dX7_sendJoint_2 : decode cX7_sendJoint 2 = .ok (.iload 4, 2) := by decide +kernel
theorem dX7_sendJoint_4 : decode cX7_sendJoint 4 = .ok (.invokestatic 94, 3) := by decide +kernel
theorem dX7_sendJoint_7 : decode cX7_sendJoint 7 = .ok (.ifCond .eq 28, 3) := by decide +kernel
theorem dX7_sendJoint_10 : decode cX7_sendJoint 10 = .ok (.iload_n 2, 1) := by decide +kernel
theorem dX7_sendJoint_11 : decode cX7_sendJoint 11 = .ok (.invokestatic 83, 3) := by decide +kernel
theorem dX7_sendJoint_14 : decode cX7_sendJoint 14 = .ok (.ifCond .eq 21, 3) := by decide +kernel
theorem dX7_sendJoint_17 : decode cX7_sendJoint 17 = .ok (.iload_n 1, 1) := by decide +kernel
theorem dX7_sendJoint_18 : decode cX7_sendJoint 18 = .ok (.iload_n 2, 1) := by decide +kernel
theorem dX7_sendJoint_19 : decode cX7_sendJoint 19 = .ok (.if_icmp .eq 16, 3) := by decide +kernel
theorem dX7_sendJoint_22 : decode cX7_sendJoint 22 = .ok (.aload_n 0, 1) := by decide +kernel
theorem dX7_sendJoint_23 : decode cX7_sendJoint 23 = .ok (.iload_n 1, 1) := by decide +kernel
theorem dX7_sendJoint_24 : decode cX7_sendJoint 24 = .ok (.iload_n 2, 1) := by decide +kernel
theorem dX7_sendJoint_25 : decode cX7_sendJoint 25 = .ok (.iload_n 3, 1) := by decide +kernel
theorem dX7_sendJoint_26 : decode cX7_sendJoint 26 = .ok (.iload 4, 2) := by decide +kernel
theorem dX7_sendJoint_28 : decode cX7_sendJoint 28 = .ok (.iconst 0, 1) := by decide +kernel
theorem dX7_sendJoint_29 : decode cX7_sendJoint 29 = .ok (.invokevirtual 97, 3) := by decide +kernel
theorem dX7_sendJoint_32 : decode cX7_sendJoint 32 = .ok (.goto 8, 3) := by decide +kernel
theorem dX7_sendJoint_35 : decode cX7_sendJoint 35 = .ok (.aload_n 0, 1) := by decide +kernel
theorem dX7_sendJoint_36 : decode cX7_sendJoint 36 = .ok (.iconst 1, 1) := by decide +kernel
theorem dX7_sendJoint_37 : decode cX7_sendJoint 37 = .ok (.invokevirtual 77, 3) := by decide +kernel
theorem dX7_sendJoint_40 : decode cX7_sendJoint 40 = .ok (.ireturn, 1) := by decide +kernel
theorem dX7_withdraw_0 : decode cX7_withdraw 0 = .ok (.aload_n 0, 1) := by decide +kernel
theorem dX7_withdraw_1 : decode cX7_withdraw 1 = .ok (.iload_n 1, 1) := by decide +kernel
theorem dX7_withdraw_2 : decode cX7_withdraw 2 = .ok (.invokevirtual 100, 3) := by decide +kernel
theorem dX7_withdraw_5 : decode cX7_withdraw 5 = .ok (.istore_n 2, 1) := by decide +kernel
theorem dX7_withdraw_6 : decode cX7_withdraw 6 = .ok (.iload_n 2, 1) := by decide +kernel
theorem dX7_withdraw_7 : decode cX7_withdraw 7 = .ok (.iconst (-1), 1) := by decide +kernel
theorem dX7_withdraw_8 : decode cX7_withdraw 8 = .ok (.if_icmp .ne 9, 3) := by decide +kernel
theorem dX7_withdraw_11 : decode cX7_withdraw 11 = .ok (.aload_n 0, 1) := by decide +kernel
theorem dX7_withdraw_12 : decode cX7_withdraw 12 = .ok (.iconst 1, 1) := by decide +kernel
theorem dX7_withdraw_13 : decode cX7_withdraw 13 = .ok (.invokevirtual 77, 3) := by decide +kernel
theorem dX7_withdraw_16 : decode cX7_withdraw 16 = .ok (.ireturn, 1) := by decide +kernel
theorem dX7_withdraw_17 : decode cX7_withdraw 17 = .ok (.aload_n 0, 1) := by decide +kernel
theorem dX7_withdraw_18 : decode cX7_withdraw 18 = .ok (.invokevirtual 67, 3) := by decide +kernel
theorem dX7_withdraw_21 : decode cX7_withdraw 21 = .ok (.aload_n 0, 1) := by decide +kernel
theorem dX7_withdraw_22 : decode cX7_withdraw 22 = .ok (.aload_n 0, 1) := by decide +kernel
theorem dX7_withdraw_23 : decode cX7_withdraw 23 = .ok (.iload_n 2, 1) := by decide +kernel
theorem dX7_withdraw_24 : decode cX7_withdraw 24 = .ok (.iconst 2, 1) := by decide +kernel
theorem dX7_withdraw_25 : decode cX7_withdraw 25 = .ok (.invokevirtual 60, 3) := by decide +kernel
theorem dX7_withdraw_28 : decode cX7_withdraw 28 = .ok (.invokevirtual 70, 3) := by decide +kernel
theorem dX7_withdraw_31 : decode cX7_withdraw 31 = .ok (.ireturn, 1) := by decide +kernel
theorem dX7_serve_0 : decode cX7_serve 0 = .ok (.aload_n 0, 1) := by decide +kernel
theorem dX7_serve_1 : decode cX7_serve 1 = .ok (.getfield 7, 3) := by decide +kernel
theorem dX7_serve_4 : decode cX7_serve 4 = .ok (.iconst 1, 1) := by decide +kernel
theorem dX7_serve_5 : decode cX7_serve 5 = .ok (.iaload, 1) := by decide +kernel
theorem dX7_serve_6 : decode cX7_serve 6 = .ok (.ifCond .ne 9, 3) := by decide +kernel
theorem dX7_serve_9 : decode cX7_serve 9 = .ok (.aload_n 0, 1) := by decide +kernel
theorem dX7_serve_10 : decode cX7_serve 10 = .ok (.iconst 1, 1) := by decide +kernel
theorem dX7_serve_11 : decode cX7_serve 11 = .ok (.invokevirtual 77, 3) := by decide +kernel
theorem dX7_serve_14 : decode cX7_serve 14 = .ok (.ireturn, 1) := by decide +kernel
theorem dX7_serve_15 : decode cX7_serve 15 = .ok (.aload_n 0, 1) := by decide +kernel
theorem dX7_serve_16 : decode cX7_serve 16 = .ok (.invokevirtual 67, 3) := by decide +kernel
theorem dX7_serve_19 : decode cX7_serve 19 = .ok (.aload_n 0, 1) := by decide +kernel
theorem dX7_serve_20 : decode cX7_serve 20 = .ok (.aload_n 0, 1) := by decide +kernel
theorem dX7_serve_21 : decode cX7_serve 21 = .ok (.invokevirtual 103, 3) := by decide +kernel
theorem dX7_serve_24 : decode cX7_serve 24 = .ok (.invokevirtual 70, 3) := by decide +kernel
theorem dX7_serve_27 : decode cX7_serve 27 = .ok (.ireturn, 1) := by decide +kernel
theorem dX7_pass_0 : decode cX7_pass 0 = .ok (.iload_n 1, 1) := by decide +kernel
theorem dX7_pass_1 : decode cX7_pass 1 = .ok (.iconst 1, 1) := by decide +kernel
theorem dX7_pass_2 : decode cX7_pass 2 = .ok (.sipush 200, 3) := by decide +kernel
theorem dX7_pass_5 : decode cX7_pass 5 = .ok (.invokestatic 73, 3) := by decide +kernel
theorem dX7_pass_8 : decode cX7_pass 8 = .ok (.ifCond .ne 9, 3) := by decide +kernel
theorem dX7_pass_11 : decode cX7_pass 11 = .ok (.aload_n 0, 1) := by decide +kernel
theorem dX7_pass_12 : decode cX7_pass 12 = .ok (.iconst 1, 1) := by decide +kernel
theorem dX7_pass_13 : decode cX7_pass 13 = .ok (.invokevirtual 77, 3) := by decide +kernel
theorem dX7_pass_16 : decode cX7_pass 16 = .ok (.ireturn, 1) := by decide +kernel
theorem dX7_pass_17 : decode cX7_pass 17 = .ok (.aload_n 0, 1) := by decide +kernel
theorem dX7_pass_18 : decode cX7_pass 18 = .ok (.getfield 7, 3) := by decide +kernel
theorem dX7_pass_21 : decode cX7_pass 21 = .ok (.iconst 0, 1) := by decide +kernel
theorem dX7_pass_22 : decode cX7_pass 22 = .ok (.iaload, 1) := by decide +kernel
theorem dX7_pass_23 : decode cX7_pass 23 = .ok (.iload_n 1, 1) := by decide +kernel
theorem dX7_pass_24 : decode cX7_pass 24 = .ok (.iadd, 1) := by decide +kernel
theorem dX7_pass_25 : decode cX7_pass 25 = .ok (.ldc 106, 2) := by decide +kernel
theorem dX7_pass_27 : decode cX7_pass 27 = .ok (.if_icmp .le 9, 3) := by decide +kernel
theorem dX7_pass_30 : decode cX7_pass 30 = .ok (.aload_n 0, 1) := by decide +kernel
theorem dX7_pass_31 : decode cX7_pass 31 = .ok (.iconst 2, 1) := by decide +kernel
theorem dX7_pass_32 : decode cX7_pass 32 = .ok (.invokevirtual 77, 3) := by decide +kernel
theorem dX7_pass_35 : decode cX7_pass 35 = .ok (.ireturn, 1) := by decide +kernel
theorem dX7_pass_36 : decode cX7_pass 36 = .ok (.aload_n 0, 1) := by decide +kernel
theorem dX7_pass_37 : decode cX7_pass 37 = .ok (.invokevirtual 67, 3) := by decide +kernel
theorem dX7_pass_40 : decode cX7_pass 40 = .ok (.aload_n 0, 1) := by decide +kernel
theorem dX7_pass_41 : decode cX7_pass 41 = .ok (.aload_n 0, 1) := by decide +kernel
theorem dX7_pass_42 : decode cX7_pass 42 = .ok (.iload_n 1, 1) := by decide +kernel
theorem dX7_pass_43 : decode cX7_pass 43 = .ok (.invokevirtual 107, 3) := by decide +kernel
theorem dX7_pass_46 : decode cX7_pass 46 = .ok (.invokevirtual 70, 3) := by decide +kernel
theorem dX7_pass_49 : decode cX7_pass 49 = .ok (.ireturn, 1) := by decide +kernel
theorem dX7_told_0 : decode cX7_told 0 = .ok (.iload_n 2, 1) := by decide +kernel
theorem dX7_told_1 : decode cX7_told 1 = .ok (.tableswitch 90 6 9 #[82, 31, 46, 52], 31) := by decide +kernel
theorem dX7_told_32 : decode cX7_told 32 = .ok (.aload_n 0, 1) := by decide +kernel
theorem dX7_told_33 : decode cX7_told 33 = .ok (.iload_n 1, 1) := by decide +kernel
theorem dX7_told_34 : decode cX7_told 34 = .ok (.bipush 6, 2) := by decide +kernel
theorem dX7_told_36 : decode cX7_told 36 = .ok (.invokevirtual 32, 3) := by decide +kernel
theorem dX7_told_39 : decode cX7_told 39 = .ok (.aload_n 0, 1) := by decide +kernel
theorem dX7_told_40 : decode cX7_told 40 = .ok (.iload_n 1, 1) := by decide +kernel
theorem dX7_told_41 : decode cX7_told 41 = .ok (.iconst 4, 1) := by decide +kernel
theorem dX7_told_42 : decode cX7_told 42 = .ok (.invokevirtual 32, 3) := by decide +kernel
theorem dX7_told_45 : decode cX7_told 45 = .ok (.isub, 1) := by decide +kernel
theorem dX7_told_46 : decode cX7_told 46 = .ok (.ireturn, 1) := by decide +kernel
theorem dX7_told_47 : decode cX7_told 47 = .ok (.aload_n 0, 1) := by decide +kernel
theorem dX7_told_48 : decode cX7_told 48 = .ok (.iload_n 1, 1) := by decide +kernel
theorem dX7_told_49 : decode cX7_told 49 = .ok (.invokevirtual 40, 3) := by decide +kernel
theorem dX7_told_52 : decode cX7_told 52 = .ok (.ireturn, 1) := by decide +kernel
theorem dX7_told_53 : decode cX7_told 53 = .ok (.aload_n 0, 1) := by decide +kernel
theorem dX7_told_54 : decode cX7_told 54 = .ok (.iload_n 1, 1) := by decide +kernel
theorem dX7_told_55 : decode cX7_told 55 = .ok (.bipush 7, 2) := by decide +kernel
theorem dX7_told_57 : decode cX7_told 57 = .ok (.invokevirtual 32, 3) := by decide +kernel
theorem dX7_told_60 : decode cX7_told 60 = .ok (.ifCond .le 7, 3) := by decide +kernel
theorem dX7_told_63 : decode cX7_told 63 = .ok (.iconst 1, 1) := by decide +kernel
theorem dX7_told_64 : decode cX7_told 64 = .ok (.goto 18, 3) := by decide +kernel
theorem dX7_told_67 : decode cX7_told 67 = .ok (.aload_n 0, 1) := by decide +kernel
theorem dX7_told_68 : decode cX7_told 68 = .ok (.iload_n 1, 1) := by decide +kernel
theorem dX7_told_69 : decode cX7_told 69 = .ok (.iconst 2, 1) := by decide +kernel
theorem dX7_told_70 : decode cX7_told 70 = .ok (.invokevirtual 32, 3) := by decide +kernel
theorem dX7_told_73 : decode cX7_told 73 = .ok (.iconst (-1), 1) := by decide +kernel
theorem dX7_told_74 : decode cX7_told 74 = .ok (.if_icmp .ne 7, 3) := by decide +kernel
theorem dX7_told_77 : decode cX7_told 77 = .ok (.iconst 0, 1) := by decide +kernel
theorem dX7_told_78 : decode cX7_told 78 = .ok (.goto 4, 3) := by decide +kernel
theorem dX7_told_81 : decode cX7_told 81 = .ok (.iconst 2, 1) := by decide +kernel
theorem dX7_told_82 : decode cX7_told 82 = .ok (.ireturn, 1) := by decide +kernel
theorem dX7_told_83 : decode cX7_told 83 = .ok (.aload_n 0, 1) := by decide +kernel
theorem dX7_told_84 : decode cX7_told 84 = .ok (.iload_n 1, 1) := by decide +kernel
theorem dX7_told_85 : decode cX7_told 85 = .ok (.bipush 7, 2) := by decide +kernel
theorem dX7_told_87 : decode cX7_told 87 = .ok (.invokevirtual 32, 3) := by decide +kernel
theorem dX7_told_90 : decode cX7_told 90 = .ok (.ireturn, 1) := by decide +kernel
theorem dX7_told_91 : decode cX7_told 91 = .ok (.aload_n 0, 1) := by decide +kernel
theorem dX7_told_92 : decode cX7_told 92 = .ok (.iload_n 1, 1) := by decide +kernel
theorem dX7_told_93 : decode cX7_told 93 = .ok (.iload_n 2, 1) := by decide +kernel
theorem dX7_told_94 : decode cX7_told 94 = .ok (.iconst 1, 1) := by decide +kernel
theorem dX7_told_95 : decode cX7_told 95 = .ok (.iadd, 1) := by decide +kernel
theorem dX7_told_96 : decode cX7_told 96 = .ok (.invokevirtual 32, 3) := by decide +kernel
theorem dX7_told_99 : decode cX7_told 99 = .ok (.ireturn, 1) := by decide +kernel
theorem dX7_petition_0 : decode cX7_petition 0 = .ok (.aload_n 0, 1) := by decide +kernel
theorem dX7_petition_1 : decode cX7_petition 1 = .ok (.iload_n 1, 1) := by decide +kernel
theorem dX7_petition_2 : decode cX7_petition 2 = .ok (.invokevirtual 100, 3) := by decide +kernel
theorem dX7_petition_5 : decode cX7_petition 5 = .ok (.istore_n 3, 1) := by decide +kernel
theorem dX7_petition_6 : decode cX7_petition 6 = .ok (.iload_n 3, 1) := by decide +kernel
theorem dX7_petition_7 : decode cX7_petition 7 = .ok (.iconst (-1), 1) := by decide +kernel
theorem dX7_petition_8 : decode cX7_petition 8 = .ok (.if_icmp .ne 9, 3) := by decide +kernel
theorem dX7_petition_11 : decode cX7_petition 11 = .ok (.aload_n 0, 1) := by decide +kernel
theorem dX7_petition_12 : decode cX7_petition 12 = .ok (.iconst 1, 1) := by decide +kernel
theorem dX7_petition_13 : decode cX7_petition 13 = .ok (.invokevirtual 77, 3) := by decide +kernel
theorem dX7_petition_16 : decode cX7_petition 16 = .ok (.ireturn, 1) := by decide +kernel
theorem dX7_petition_17 : decode cX7_petition 17 = .ok (.iload_n 2, 1) := by decide +kernel
theorem dX7_petition_18 : decode cX7_petition 18 = .ok (.iconst 0, 1) := by decide +kernel
theorem dX7_petition_19 : decode cX7_petition 19 = .ok (.bipush 9, 2) := by decide +kernel
theorem dX7_petition_21 : decode cX7_petition 21 = .ok (.invokestatic 73, 3) := by decide +kernel
theorem dX7_petition_24 : decode cX7_petition 24 = .ok (.ifCond .eq 16, 3) := by decide +kernel
theorem dX7_petition_27 : decode cX7_petition 27 = .ok (.aload_n 0, 1) := by decide +kernel
theorem dX7_petition_28 : decode cX7_petition 28 = .ok (.aload_n 0, 1) := by decide +kernel
theorem dX7_petition_29 : decode cX7_petition 29 = .ok (.iload_n 3, 1) := by decide +kernel
theorem dX7_petition_30 : decode cX7_petition 30 = .ok (.iload_n 2, 1) := by decide +kernel
theorem dX7_petition_31 : decode cX7_petition 31 = .ok (.invokevirtual 110, 3) := by decide +kernel
theorem dX7_petition_34 : decode cX7_petition 34 = .ok (.invokevirtual 70, 3) := by decide +kernel
theorem dX7_petition_37 : decode cX7_petition 37 = .ok (.goto 8, 3) := by decide +kernel
theorem dX7_petition_40 : decode cX7_petition 40 = .ok (.aload_n 0, 1) := by decide +kernel
theorem dX7_petition_41 : decode cX7_petition 41 = .ok (.iconst 2, 1) := by decide +kernel
theorem dX7_petition_42 : decode cX7_petition 42 = .ok (.invokevirtual 77, 3) := by decide +kernel
theorem dX7_petition_45 : decode cX7_petition 45 = .ok (.ireturn, 1) := by decide +kernel
theorem dX7_peek_0 : decode cX7_peek 0 = .ok (.iload_n 1, 1) := by decide +kernel
theorem dX7_peek_1 : decode cX7_peek 1 = .ok (.iconst 0, 1) := by decide +kernel
theorem dX7_peek_2 : decode cX7_peek 2 = .ok (.aload_n 0, 1) := by decide +kernel
theorem dX7_peek_3 : decode cX7_peek 3 = .ok (.getfield 7, 3) := by decide +kernel
theorem dX7_peek_6 : decode cX7_peek 6 = .ok (.iconst 1, 1) := by decide +kernel
theorem dX7_peek_7 : decode cX7_peek 7 = .ok (.iaload, 1) := by decide +kernel
theorem dX7_peek_8 : decode cX7_peek 8 = .ok (.iconst 1, 1) := by decide +kernel
theorem dX7_peek_9 : decode cX7_peek 9 = .ok (.isub, 1) := by decide +kernel
theorem dX7_peek_10 : decode cX7_peek 10 = .ok (.invokestatic 73, 3) := by decide +kernel
theorem dX7_peek_13 : decode cX7_peek 13 = .ok (.ifCond .eq 20, 3) := by decide +kernel
theorem dX7_peek_16 : decode cX7_peek 16 = .ok (.aload_n 0, 1) := by decide +kernel
theorem dX7_peek_17 : decode cX7_peek 17 = .ok (.aload_n 0, 1) := by decide +kernel
theorem dX7_peek_18 : decode cX7_peek 18 = .ok (.aload_n 0, 1) := by decide +kernel
theorem dX7_peek_19 : decode cX7_peek 19 = .ok (.iload_n 1, 1) := by decide +kernel
theorem dX7_peek_20 : decode cX7_peek 20 = .ok (.invokevirtual 57, 3) := by decide +kernel
theorem dX7_peek_23 : decode cX7_peek 23 = .ok (.iconst 0, 1) := by decide +kernel
theorem dX7_peek_24 : decode cX7_peek 24 = .ok (.invokevirtual 32, 3) := by decide +kernel
theorem dX7_peek_27 : decode cX7_peek 27 = .ok (.invokevirtual 70, 3) := by decide +kernel
theorem dX7_peek_30 : decode cX7_peek 30 = .ok (.goto 8, 3) := by decide +kernel
theorem dX7_peek_33 : decode cX7_peek 33 = .ok (.aload_n 0, 1) := by decide +kernel
theorem dX7_peek_34 : decode cX7_peek 34 = .ok (.iconst 1, 1) := by decide +kernel
theorem dX7_peek_35 : decode cX7_peek 35 = .ok (.invokevirtual 77, 3) := by decide +kernel
theorem dX7_peek_38 : decode cX7_peek 38 = .ok (.ireturn, 1) := by decide +kernel
theorem dX7_sentBy_0 : decode cX7_sentBy 0 = .ok (.iload_n 1, 1) := by decide +kernel
theorem dX7_sentBy_1 : decode cX7_sentBy 1 = .ok (.invokestatic 83, 3) := by decide +kernel
theorem dX7_sentBy_4 : decode cX7_sentBy 4 = .ok (.ifCond .eq 15, 3) := by decide +kernel
theorem dX7_sentBy_7 : decode cX7_sentBy 7 = .ok (.aload_n 0, 1) := by decide +kernel
theorem dX7_sentBy_8 : decode cX7_sentBy 8 = .ok (.aload_n 0, 1) := by decide +kernel
theorem dX7_sentBy_9 : decode cX7_sentBy 9 = .ok (.iload_n 1, 1) := by decide +kernel
theorem dX7_sentBy_10 : decode cX7_sentBy 10 = .ok (.invokevirtual 44, 3) := by decide +kernel
theorem dX7_sentBy_13 : decode cX7_sentBy 13 = .ok (.invokevirtual 70, 3) := by decide +kernel
theorem dX7_sentBy_16 : decode cX7_sentBy 16 = .ok (.goto 8, 3) := by decide +kernel
theorem dX7_sentBy_19 : decode cX7_sentBy 19 = .ok (.aload_n 0, 1) := by decide +kernel
theorem dX7_sentBy_20 : decode cX7_sentBy 20 = .ok (.iconst 1, 1) := by decide +kernel
theorem dX7_sentBy_21 : decode cX7_sentBy 21 = .ok (.invokevirtual 77, 3) := by decide +kernel
theorem dX7_sentBy_24 : decode cX7_sentBy 24 = .ok (.ireturn, 1) := by decide +kernel
theorem dX7_returned_0 : decode cX7_returned 0 = .ok (.iload_n 1, 1) := by decide +kernel
theorem dX7_returned_1 : decode cX7_returned 1 = .ok (.invokestatic 83, 3) := by decide +kernel
theorem dX7_returned_4 : decode cX7_returned 4 = .ok (.ifCond .eq 19, 3) := by decide +kernel
theorem dX7_returned_7 : decode cX7_returned 7 = .ok (.aload_n 0, 1) := by decide +kernel
theorem dX7_returned_8 : decode cX7_returned 8 = .ok (.aload_n 0, 1) := by decide +kernel
theorem dX7_returned_9 : decode cX7_returned 9 = .ok (.getfield 7, 3) := by decide +kernel
theorem dX7_returned_12 : decode cX7_returned 12 = .ok (.bipush 16, 2) := by decide +kernel
theorem dX7_returned_14 : decode cX7_returned 14 = .ok (.iload_n 1, 1) := by decide +kernel
theorem dX7_returned_15 : decode cX7_returned 15 = .ok (.iadd, 1) := by decide +kernel
theorem dX7_returned_16 : decode cX7_returned 16 = .ok (.iaload, 1) := by decide +kernel
theorem dX7_returned_17 : decode cX7_returned 17 = .ok (.invokevirtual 70, 3) := by decide +kernel
theorem dX7_returned_20 : decode cX7_returned 20 = .ok (.goto 8, 3) := by decide +kernel
theorem dX7_returned_23 : decode cX7_returned 23 = .ok (.aload_n 0, 1) := by decide +kernel
theorem dX7_returned_24 : decode cX7_returned 24 = .ok (.iconst 1, 1) := by decide +kernel
theorem dX7_returned_25 : decode cX7_returned 25 = .ok (.invokevirtual 77, 3) := by decide +kernel
theorem dX7_returned_28 : decode cX7_returned 28 = .ok (.ireturn, 1) := by decide +kernel
theorem dX7_entry_0 : decode cX7_entry 0 = .ok (.iload_n 1, 1) := by decide +kernel
theorem dX7_entry_1 : decode cX7_entry 1 = .ok (.iconst 0, 1) := by decide +kernel
theorem dX7_entry_2 : decode cX7_entry 2 = .ok (.aload_n 0, 1) := by decide +kernel
theorem dX7_entry_3 : decode cX7_entry 3 = .ok (.getfield 7, 3) := by decide +kernel
theorem dX7_entry_6 : decode cX7_entry 6 = .ok (.bipush 11, 2) := by decide +kernel
theorem dX7_entry_8 : decode cX7_entry 8 = .ok (.iaload, 1) := by decide +kernel
theorem dX7_entry_9 : decode cX7_entry 9 = .ok (.iconst 1, 1) := by decide +kernel
theorem dX7_entry_10 : decode cX7_entry 10 = .ok (.isub, 1) := by decide +kernel
theorem dX7_entry_11 : decode cX7_entry 11 = .ok (.invokestatic 73, 3) := by decide +kernel
theorem dX7_entry_14 : decode cX7_entry 14 = .ok (.ifCond .ne 9, 3) := by decide +kernel
theorem dX7_entry_17 : decode cX7_entry 17 = .ok (.aload_n 0, 1) := by decide +kernel
theorem dX7_entry_18 : decode cX7_entry 18 = .ok (.iconst 1, 1) := by decide +kernel
theorem dX7_entry_19 : decode cX7_entry 19 = .ok (.invokevirtual 77, 3) := by decide +kernel
theorem dX7_entry_22 : decode cX7_entry 22 = .ok (.ireturn, 1) := by decide +kernel
theorem dX7_entry_23 : decode cX7_entry 23 = .ok (.iload_n 2, 1) := by decide +kernel
theorem dX7_entry_24 : decode cX7_entry 24 = .ok (.iconst 0, 1) := by decide +kernel
theorem dX7_entry_25 : decode cX7_entry 25 = .ok (.iconst 4, 1) := by decide +kernel
theorem dX7_entry_26 : decode cX7_entry 26 = .ok (.invokestatic 73, 3) := by decide +kernel
theorem dX7_entry_29 : decode cX7_entry 29 = .ok (.ifCond .eq 23, 3) := by decide +kernel
theorem dX7_entry_32 : decode cX7_entry 32 = .ok (.aload_n 0, 1) := by decide +kernel
theorem dX7_entry_33 : decode cX7_entry 33 = .ok (.aload_n 0, 1) := by decide +kernel
theorem dX7_entry_34 : decode cX7_entry 34 = .ok (.getfield 7, 3) := by decide +kernel
theorem dX7_entry_37 : decode cX7_entry 37 = .ok (.bipush 24, 2) := by decide +kernel
theorem dX7_entry_39 : decode cX7_entry 39 = .ok (.iconst 5, 1) := by decide +kernel
theorem dX7_entry_40 : decode cX7_entry 40 = .ok (.iload_n 1, 1) := by decide +kernel
theorem dX7_entry_41 : decode cX7_entry 41 = .ok (.imul, 1) := by decide +kernel
theorem dX7_entry_42 : decode cX7_entry 42 = .ok (.iadd, 1) := by decide +kernel
theorem dX7_entry_43 : decode cX7_entry 43 = .ok (.iload_n 2, 1) := by decide +kernel
theorem dX7_entry_44 : decode cX7_entry 44 = .ok (.iadd, 1) := by decide +kernel
theorem dX7_entry_45 : decode cX7_entry 45 = .ok (.iaload, 1) := by decide +kernel
theorem dX7_entry_46 : decode cX7_entry 46 = .ok (.invokevirtual 70, 3) := by decide +kernel
theorem dX7_entry_49 : decode cX7_entry 49 = .ok (.goto 8, 3) := by decide +kernel
theorem dX7_entry_52 : decode cX7_entry 52 = .ok (.aload_n 0, 1) := by decide +kernel
theorem dX7_entry_53 : decode cX7_entry 53 = .ok (.iconst 2, 1) := by decide +kernel
theorem dX7_entry_54 : decode cX7_entry 54 = .ok (.invokevirtual 77, 3) := by decide +kernel
theorem dX7_entry_57 : decode cX7_entry 57 = .ok (.ireturn, 1) := by decide +kernel
theorem dX7_loudest_0 : decode cX7_loudest 0 = .ok (.iconst (-1), 1) := by decide +kernel
theorem dX7_loudest_1 : decode cX7_loudest 1 = .ok (.istore_n 1, 1) := by decide +kernel
theorem dX7_loudest_2 : decode cX7_loudest 2 = .ok (.iconst 0, 1) := by decide +kernel
theorem dX7_loudest_3 : decode cX7_loudest 3 = .ok (.istore_n 2, 1) := by decide +kernel
theorem dX7_loudest_4 : decode cX7_loudest 4 = .ok (.iload_n 2, 1) := by decide +kernel
theorem dX7_loudest_5 : decode cX7_loudest 5 = .ok (.aload_n 0, 1) := by decide +kernel
theorem dX7_loudest_6 : decode cX7_loudest 6 = .ok (.getfield 7, 3) := by decide +kernel
theorem dX7_loudest_9 : decode cX7_loudest 9 = .ok (.iconst 1, 1) := by decide +kernel
theorem dX7_loudest_10 : decode cX7_loudest 10 = .ok (.iaload, 1) := by decide +kernel
theorem dX7_loudest_11 : decode cX7_loudest 11 = .ok (.if_icmp .ge 30, 3) := by decide +kernel
theorem dX7_loudest_14 : decode cX7_loudest 14 = .ok (.aload_n 0, 1) := by decide +kernel
theorem dX7_loudest_15 : decode cX7_loudest 15 = .ok (.iload_n 2, 1) := by decide +kernel
theorem dX7_loudest_16 : decode cX7_loudest 16 = .ok (.iconst 3, 1) := by decide +kernel
theorem dX7_loudest_17 : decode cX7_loudest 17 = .ok (.invokevirtual 32, 3) := by decide +kernel
theorem dX7_loudest_20 : decode cX7_loudest 20 = .ok (.iload_n 1, 1) := by decide +kernel
theorem dX7_loudest_21 : decode cX7_loudest 21 = .ok (.if_icmp .le 12, 3) := by decide +kernel
theorem dX7_loudest_24 : decode cX7_loudest 24 = .ok (.aload_n 0, 1) := by decide +kernel
theorem dX7_loudest_25 : decode cX7_loudest 25 = .ok (.iload_n 2, 1) := by decide +kernel
theorem dX7_loudest_26 : decode cX7_loudest 26 = .ok (.iconst 3, 1) := by decide +kernel
theorem dX7_loudest_27 : decode cX7_loudest 27 = .ok (.invokevirtual 32, 3) := by decide +kernel
theorem dX7_loudest_30 : decode cX7_loudest 30 = .ok (.goto 4, 3) := by decide +kernel
theorem dX7_loudest_33 : decode cX7_loudest 33 = .ok (.iload_n 1, 1) := by decide +kernel
theorem dX7_loudest_34 : decode cX7_loudest 34 = .ok (.istore_n 1, 1) := by decide +kernel
theorem dX7_loudest_35 : decode cX7_loudest 35 = .ok (.iinc 2 1, 3) := by decide +kernel
theorem dX7_loudest_38 : decode cX7_loudest 38 = .ok (.goto (-34), 3) := by decide +kernel
theorem dX7_loudest_41 : decode cX7_loudest 41 = .ok (.iload_n 1, 1) := by decide +kernel
theorem dX7_loudest_42 : decode cX7_loudest 42 = .ok (.ireturn, 1) := by decide +kernel
theorem dX7_bribes_0 : decode cX7_bribes 0 = .ok (.iconst 0, 1) := by decide +kernel
theorem dX7_bribes_1 : decode cX7_bribes 1 = .ok (.istore_n 1, 1) := by decide +kernel
theorem dX7_bribes_2 : decode cX7_bribes 2 = .ok (.iconst 0, 1) := by decide +kernel
theorem dX7_bribes_3 : decode cX7_bribes 3 = .ok (.istore_n 2, 1) := by decide +kernel
theorem dX7_bribes_4 : decode cX7_bribes 4 = .ok (.iload_n 2, 1) := by decide +kernel
theorem dX7_bribes_5 : decode cX7_bribes 5 = .ok (.aload_n 0, 1) := by decide +kernel
theorem dX7_bribes_6 : decode cX7_bribes 6 = .ok (.getfield 7, 3) := by decide +kernel
theorem dX7_bribes_9 : decode cX7_bribes 9 = .ok (.iconst 1, 1) := by decide +kernel
theorem dX7_bribes_10 : decode cX7_bribes 10 = .ok (.iaload, 1) := by decide +kernel
theorem dX7_bribes_11 : decode cX7_bribes 11 = .ok (.if_icmp .ge 19, 3) := by decide +kernel
theorem dX7_bribes_14 : decode cX7_bribes 14 = .ok (.iload_n 1, 1) := by decide +kernel
theorem dX7_bribes_15 : decode cX7_bribes 15 = .ok (.aload_n 0, 1) := by decide +kernel
theorem dX7_bribes_16 : decode cX7_bribes 16 = .ok (.iload_n 2, 1) := by decide +kernel
theorem dX7_bribes_17 : decode cX7_bribes 17 = .ok (.bipush 7, 2) := by decide +kernel
theorem dX7_bribes_19 : decode cX7_bribes 19 = .ok (.invokevirtual 32, 3) := by decide +kernel
theorem dX7_bribes_22 : decode cX7_bribes 22 = .ok (.iadd, 1) := by decide +kernel
theorem dX7_bribes_23 : decode cX7_bribes 23 = .ok (.istore_n 1, 1) := by decide +kernel
theorem dX7_bribes_24 : decode cX7_bribes 24 = .ok (.iinc 2 1, 3) := by decide +kernel
theorem dX7_bribes_27 : decode cX7_bribes 27 = .ok (.goto (-23), 3) := by decide +kernel
theorem dX7_bribes_30 : decode cX7_bribes 30 = .ok (.iload_n 1, 1) := by decide +kernel
theorem dX7_bribes_31 : decode cX7_bribes 31 = .ok (.ireturn, 1) := by decide +kernel
theorem dX7_valueTold_0 : decode cX7_valueTold 0 = .ok (.iload_n 1, 1) := by decide +kernel
theorem dX7_valueTold_1 : decode cX7_valueTold 1 = .ok (.tableswitch 127 0 13 #[71, 78, 127, 127, 127, 127, 127, 127, 85, 90, 95, 103, 111, 119], 71) := by decide +kernel
theorem dX7_valueTold_72 : decode cX7_valueTold 72 = .ok (.aload_n 0, 1) := by decide +kernel
theorem dX7_valueTold_73 : decode cX7_valueTold 73 = .ok (.getfield 7, 3) := by decide +kernel
theorem dX7_valueTold_76 : decode cX7_valueTold 76 = .ok (.iconst 1, 1) := by decide +kernel
theorem dX7_valueTold_77 : decode cX7_valueTold 77 = .ok (.iaload, 1) := by decide +kernel
theorem dX7_valueTold_78 : decode cX7_valueTold 78 = .ok (.ireturn, 1) := by decide +kernel
theorem dX7_valueTold_79 : decode cX7_valueTold 79 = .ok (.aload_n 0, 1) := by decide +kernel
theorem dX7_valueTold_80 : decode cX7_valueTold 80 = .ok (.getfield 7, 3) := by decide +kernel
theorem dX7_valueTold_83 : decode cX7_valueTold 83 = .ok (.iconst 0, 1) := by decide +kernel
theorem dX7_valueTold_84 : decode cX7_valueTold 84 = .ok (.iaload, 1) := by decide +kernel
theorem dX7_valueTold_85 : decode cX7_valueTold 85 = .ok (.ireturn, 1) := by decide +kernel
theorem dX7_valueTold_86 : decode cX7_valueTold 86 = .ok (.aload_n 0, 1) := by decide +kernel
theorem dX7_valueTold_87 : decode cX7_valueTold 87 = .ok (.invokevirtual 113, 3) := by decide +kernel
theorem dX7_valueTold_90 : decode cX7_valueTold 90 = .ok (.ireturn, 1) := by decide +kernel
theorem dX7_valueTold_91 : decode cX7_valueTold 91 = .ok (.aload_n 0, 1) := by decide +kernel
theorem dX7_valueTold_92 : decode cX7_valueTold 92 = .ok (.invokevirtual 116, 3) := by decide +kernel
theorem dX7_valueTold_95 : decode cX7_valueTold 95 = .ok (.ireturn, 1) := by decide +kernel
theorem dX7_valueTold_96 : decode cX7_valueTold 96 = .ok (.aload_n 0, 1) := by decide +kernel
theorem dX7_valueTold_97 : decode cX7_valueTold 97 = .ok (.getfield 7, 3) := by decide +kernel
theorem dX7_valueTold_100 : decode cX7_valueTold 100 = .ok (.bipush 11, 2) := by decide +kernel
theorem dX7_valueTold_102 : decode cX7_valueTold 102 = .ok (.iaload, 1) := by decide +kernel
theorem dX7_valueTold_103 : decode cX7_valueTold 103 = .ok (.ireturn, 1) := by decide +kernel
theorem dX7_valueTold_104 : decode cX7_valueTold 104 = .ok (.aload_n 0, 1) := by decide +kernel
theorem dX7_valueTold_105 : decode cX7_valueTold 105 = .ok (.getfield 7, 3) := by decide +kernel
theorem dX7_valueTold_108 : decode cX7_valueTold 108 = .ok (.bipush 8, 2) := by decide +kernel
theorem dX7_valueTold_110 : decode cX7_valueTold 110 = .ok (.iaload, 1) := by decide +kernel
theorem dX7_valueTold_111 : decode cX7_valueTold 111 = .ok (.ireturn, 1) := by decide +kernel
theorem dX7_valueTold_112 : decode cX7_valueTold 112 = .ok (.aload_n 0, 1) := by decide +kernel
theorem dX7_valueTold_113 : decode cX7_valueTold 113 = .ok (.getfield 7, 3) := by decide +kernel
theorem dX7_valueTold_116 : decode cX7_valueTold 116 = .ok (.bipush 9, 2) := by decide +kernel
theorem dX7_valueTold_118 : decode cX7_valueTold 118 = .ok (.iaload, 1) := by decide +kernel
theorem dX7_valueTold_119 : decode cX7_valueTold 119 = .ok (.ireturn, 1) := by decide +kernel
theorem dX7_valueTold_120 : decode cX7_valueTold 120 = .ok (.aload_n 0, 1) := by decide +kernel
theorem dX7_valueTold_121 : decode cX7_valueTold 121 = .ok (.getfield 7, 3) := by decide +kernel
theorem dX7_valueTold_124 : decode cX7_valueTold 124 = .ok (.bipush 10, 2) := by decide +kernel
theorem dX7_valueTold_126 : decode cX7_valueTold 126 = .ok (.iaload, 1) := by decide +kernel
theorem dX7_valueTold_127 : decode cX7_valueTold 127 = .ok (.ireturn, 1) := by decide +kernel
theorem dX7_valueTold_128 : decode cX7_valueTold 128 = .ok (.aload_n 0, 1) := by decide +kernel
theorem dX7_valueTold_129 : decode cX7_valueTold 129 = .ok (.getfield 7, 3) := by decide +kernel
theorem dX7_valueTold_132 : decode cX7_valueTold 132 = .ok (.iload_n 1, 1) := by decide +kernel
theorem dX7_valueTold_133 : decode cX7_valueTold 133 = .ok (.iaload, 1) := by decide +kernel
theorem dX7_valueTold_134 : decode cX7_valueTold 134 = .ok (.ireturn, 1) := by decide +kernel
theorem dX7_value_0 : decode cX7_value 0 = .ok (.iload_n 1, 1) := by decide +kernel
theorem dX7_value_1 : decode cX7_value 1 = .ok (.iconst 0, 1) := by decide +kernel
theorem dX7_value_2 : decode cX7_value 2 = .ok (.bipush 13, 2) := by decide +kernel
theorem dX7_value_4 : decode cX7_value 4 = .ok (.invokestatic 73, 3) := by decide +kernel
theorem dX7_value_7 : decode cX7_value 7 = .ok (.ifCond .eq 15, 3) := by decide +kernel
theorem dX7_value_10 : decode cX7_value 10 = .ok (.aload_n 0, 1) := by decide +kernel
theorem dX7_value_11 : decode cX7_value 11 = .ok (.aload_n 0, 1) := by decide +kernel
theorem dX7_value_12 : decode cX7_value 12 = .ok (.iload_n 1, 1) := by decide +kernel
theorem dX7_value_13 : decode cX7_value 13 = .ok (.invokevirtual 119, 3) := by decide +kernel
theorem dX7_value_16 : decode cX7_value 16 = .ok (.invokevirtual 70, 3) := by decide +kernel
theorem dX7_value_19 : decode cX7_value 19 = .ok (.goto 8, 3) := by decide +kernel
theorem dX7_value_22 : decode cX7_value 22 = .ok (.aload_n 0, 1) := by decide +kernel
theorem dX7_value_23 : decode cX7_value 23 = .ok (.iconst 1, 1) := by decide +kernel
theorem dX7_value_24 : decode cX7_value 24 = .ok (.invokevirtual 77, 3) := by decide +kernel
theorem dX7_value_27 : decode cX7_value 27 = .ok (.ireturn, 1) := by decide +kernel
theorem dX7_ofRank_0 : decode cX7_ofRank 0 = .ok (.iload_n 1, 1) := by decide +kernel
theorem dX7_ofRank_1 : decode cX7_ofRank 1 = .ok (.iconst 0, 1) := by decide +kernel
theorem dX7_ofRank_2 : decode cX7_ofRank 2 = .ok (.iconst 4, 1) := by decide +kernel
theorem dX7_ofRank_3 : decode cX7_ofRank 3 = .ok (.invokestatic 73, 3) := by decide +kernel
theorem dX7_ofRank_6 : decode cX7_ofRank 6 = .ok (.ifCond .ne 9, 3) := by decide +kernel
theorem dX7_ofRank_9 : decode cX7_ofRank 9 = .ok (.aload_n 0, 1) := by decide +kernel
theorem dX7_ofRank_10 : decode cX7_ofRank 10 = .ok (.iconst 1, 1) := by decide +kernel
theorem dX7_ofRank_11 : decode cX7_ofRank 11 = .ok (.invokevirtual 77, 3) := by decide +kernel
theorem dX7_ofRank_14 : decode cX7_ofRank 14 = .ok (.ireturn, 1) := by decide +kernel
theorem dX7_ofRank_15 : decode cX7_ofRank 15 = .ok (.iconst 0, 1) := by decide +kernel
theorem dX7_ofRank_16 : decode cX7_ofRank 16 = .ok (.istore_n 2, 1) := by decide +kernel
theorem dX7_ofRank_17 : decode cX7_ofRank 17 = .ok (.iconst 0, 1) := by decide +kernel
theorem dX7_ofRank_18 : decode cX7_ofRank 18 = .ok (.istore_n 3, 1) := by decide +kernel
theorem dX7_ofRank_19 : decode cX7_ofRank 19 = .ok (.iload_n 3, 1) := by decide +kernel
theorem dX7_ofRank_20 : decode cX7_ofRank 20 = .ok (.aload_n 0, 1) := by decide +kernel
theorem dX7_ofRank_21 : decode cX7_ofRank 21 = .ok (.getfield 7, 3) := by decide +kernel
theorem dX7_ofRank_24 : decode cX7_ofRank 24 = .ok (.iconst 1, 1) := by decide +kernel
theorem dX7_ofRank_25 : decode cX7_ofRank 25 = .ok (.iaload, 1) := by decide +kernel
theorem dX7_ofRank_26 : decode cX7_ofRank 26 = .ok (.if_icmp .ge 27, 3) := by decide +kernel
theorem dX7_ofRank_29 : decode cX7_ofRank 29 = .ok (.iload_n 2, 1) := by decide +kernel
theorem dX7_ofRank_30 : decode cX7_ofRank 30 = .ok (.aload_n 0, 1) := by decide +kernel
theorem dX7_ofRank_31 : decode cX7_ofRank 31 = .ok (.iload_n 3, 1) := by decide +kernel
theorem dX7_ofRank_32 : decode cX7_ofRank 32 = .ok (.iconst 3, 1) := by decide +kernel
theorem dX7_ofRank_33 : decode cX7_ofRank 33 = .ok (.invokevirtual 32, 3) := by decide +kernel
theorem dX7_ofRank_36 : decode cX7_ofRank 36 = .ok (.iload_n 1, 1) := by decide +kernel
theorem dX7_ofRank_37 : decode cX7_ofRank 37 = .ok (.if_icmp .ne 7, 3) := by decide +kernel
theorem dX7_ofRank_40 : decode cX7_ofRank 40 = .ok (.iconst 1, 1) := by decide +kernel
theorem dX7_ofRank_41 : decode cX7_ofRank 41 = .ok (.goto 4, 3) := by decide +kernel
theorem dX7_ofRank_44 : decode cX7_ofRank 44 = .ok (.iconst 0, 1) := by decide +kernel
theorem dX7_ofRank_45 : decode cX7_ofRank 45 = .ok (.iadd, 1) := by decide +kernel
theorem dX7_ofRank_46 : decode cX7_ofRank 46 = .ok (.istore_n 2, 1) := by decide +kernel
theorem dX7_ofRank_47 : decode cX7_ofRank 47 = .ok (.iinc 3 1, 3) := by decide +kernel
theorem dX7_ofRank_50 : decode cX7_ofRank 50 = .ok (.goto (-31), 3) := by decide +kernel
theorem dX7_ofRank_53 : decode cX7_ofRank 53 = .ok (.aload_n 0, 1) := by decide +kernel
theorem dX7_ofRank_54 : decode cX7_ofRank 54 = .ok (.iload_n 2, 1) := by decide +kernel
theorem dX7_ofRank_55 : decode cX7_ofRank 55 = .ok (.invokevirtual 70, 3) := by decide +kernel
theorem dX7_ofRank_58 : decode cX7_ofRank 58 = .ok (.ireturn, 1) := by decide +kernel
theorem dX7_rankIn_0 : decode cX7_rankIn 0 = .ok (.aload_n 0, 1) := by decide +kernel
theorem dX7_rankIn_1 : decode cX7_rankIn 1 = .ok (.iload_n 1, 1) := by decide +kernel
theorem dX7_rankIn_2 : decode cX7_rankIn 2 = .ok (.invokevirtual 100, 3) := by decide +kernel
theorem dX7_rankIn_5 : decode cX7_rankIn 5 = .ok (.istore_n 3, 1) := by decide +kernel
theorem dX7_rankIn_6 : decode cX7_rankIn 6 = .ok (.iload_n 3, 1) := by decide +kernel
theorem dX7_rankIn_7 : decode cX7_rankIn 7 = .ok (.iconst (-1), 1) := by decide +kernel
theorem dX7_rankIn_8 : decode cX7_rankIn 8 = .ok (.if_icmp .ne 9, 3) := by decide +kernel
theorem dX7_rankIn_11 : decode cX7_rankIn 11 = .ok (.aload_n 0, 1) := by decide +kernel
theorem dX7_rankIn_12 : decode cX7_rankIn 12 = .ok (.iconst 1, 1) := by decide +kernel
theorem dX7_rankIn_13 : decode cX7_rankIn 13 = .ok (.invokevirtual 77, 3) := by decide +kernel
theorem dX7_rankIn_16 : decode cX7_rankIn 16 = .ok (.ireturn, 1) := by decide +kernel
theorem dX7_rankIn_17 : decode cX7_rankIn 17 = .ok (.iload_n 2, 1) := by decide +kernel
theorem dX7_rankIn_18 : decode cX7_rankIn 18 = .ok (.iconst 0, 1) := by decide +kernel
theorem dX7_rankIn_19 : decode cX7_rankIn 19 = .ok (.sipush 200, 3) := by decide +kernel
theorem dX7_rankIn_22 : decode cX7_rankIn 22 = .ok (.invokestatic 73, 3) := by decide +kernel
theorem dX7_rankIn_25 : decode cX7_rankIn 25 = .ok (.ifCond .ne 9, 3) := by decide +kernel
theorem dX7_rankIn_28 : decode cX7_rankIn 28 = .ok (.aload_n 0, 1) := by decide +kernel
theorem dX7_rankIn_29 : decode cX7_rankIn 29 = .ok (.iconst 2, 1) := by decide +kernel
theorem dX7_rankIn_30 : decode cX7_rankIn 30 = .ok (.invokevirtual 77, 3) := by decide +kernel
theorem dX7_rankIn_33 : decode cX7_rankIn 33 = .ok (.ireturn, 1) := by decide +kernel
theorem dX7_rankIn_34 : decode cX7_rankIn 34 = .ok (.iload_n 2, 1) := by decide +kernel
theorem dX7_rankIn_35 : decode cX7_rankIn 35 = .ok (.ifCond .le 27, 3) := by decide +kernel
theorem dX7_rankIn_38 : decode cX7_rankIn 38 = .ok (.aload_n 0, 1) := by decide +kernel
theorem dX7_rankIn_39 : decode cX7_rankIn 39 = .ok (.iload_n 3, 1) := by decide +kernel
theorem dX7_rankIn_40 : decode cX7_rankIn 40 = .ok (.iconst 4, 1) := by decide +kernel
theorem dX7_rankIn_41 : decode cX7_rankIn 41 = .ok (.invokevirtual 32, 3) := by decide +kernel
theorem dX7_rankIn_44 : decode cX7_rankIn 44 = .ok (.iload_n 2, 1) := by decide +kernel
theorem dX7_rankIn_45 : decode cX7_rankIn 45 = .ok (.iadd, 1) := by decide +kernel
theorem dX7_rankIn_46 : decode cX7_rankIn 46 = .ok (.aload_n 0, 1) := by decide +kernel
theorem dX7_rankIn_47 : decode cX7_rankIn 47 = .ok (.iload_n 3, 1) := by decide +kernel
theorem dX7_rankIn_48 : decode cX7_rankIn 48 = .ok (.bipush 6, 2) := by decide +kernel
theorem dX7_rankIn_50 : decode cX7_rankIn 50 = .ok (.invokevirtual 32, 3) := by decide +kernel
theorem dX7_rankIn_53 : decode cX7_rankIn 53 = .ok (.if_icmp .lt 9, 3) := by decide +kernel
theorem dX7_rankIn_56 : decode cX7_rankIn 56 = .ok (.aload_n 0, 1) := by decide +kernel
theorem dX7_rankIn_57 : decode cX7_rankIn 57 = .ok (.iconst (-1), 1) := by decide +kernel
theorem dX7_rankIn_58 : decode cX7_rankIn 58 = .ok (.invokevirtual 70, 3) := by decide +kernel
theorem dX7_rankIn_61 : decode cX7_rankIn 61 = .ok (.ireturn, 1) := by decide +kernel
theorem dX7_rankIn_62 : decode cX7_rankIn 62 = .ok (.aload_n 0, 1) := by decide +kernel
theorem dX7_rankIn_63 : decode cX7_rankIn 63 = .ok (.iload_n 3, 1) := by decide +kernel
theorem dX7_rankIn_64 : decode cX7_rankIn 64 = .ok (.iconst 3, 1) := by decide +kernel
theorem dX7_rankIn_65 : decode cX7_rankIn 65 = .ok (.invokevirtual 32, 3) := by decide +kernel
theorem dX7_rankIn_68 : decode cX7_rankIn 68 = .ok (.istore 4, 2) := by decide +kernel
theorem dX7_rankIn_70 : decode cX7_rankIn 70 = .ok (.aload_n 0, 1) := by decide +kernel
theorem dX7_rankIn_71 : decode cX7_rankIn 71 = .ok (.iload_n 3, 1) := by decide +kernel
theorem dX7_rankIn_72 : decode cX7_rankIn 72 = .ok (.iconst 5, 1) := by decide +kernel
theorem dX7_rankIn_73 : decode cX7_rankIn 73 = .ok (.invokevirtual 32, 3) := by decide +kernel
theorem dX7_rankIn_76 : decode cX7_rankIn 76 = .ok (.istore 5, 2) := by decide +kernel
theorem dX7_rankIn_78 : decode cX7_rankIn 78 = .ok (.iconst 0, 1) := by decide +kernel
theorem dX7_rankIn_79 : decode cX7_rankIn 79 = .ok (.istore 6, 2) := by decide +kernel
theorem dX7_rankIn_81 : decode cX7_rankIn 81 = .ok (.iload 6, 2) := by decide +kernel
theorem dX7_rankIn_83 : decode cX7_rankIn 83 = .ok (.iload_n 2, 1) := by decide +kernel
theorem dX7_rankIn_84 : decode cX7_rankIn 84 = .ok (.if_icmp .ge 68, 3) := by decide +kernel
theorem dX7_rankIn_87 : decode cX7_rankIn 87 = .ok (.iinc 5 1, 3) := by decide +kernel
theorem dX7_rankIn_90 : decode cX7_rankIn 90 = .ok (.iload 4, 2) := by decide +kernel
theorem dX7_rankIn_92 : decode cX7_rankIn 92 = .ok (.iconst 4, 1) := by decide +kernel
theorem dX7_rankIn_93 : decode cX7_rankIn 93 = .ok (.if_icmp .ge 22, 3) := by decide +kernel
theorem dX7_rankIn_96 : decode cX7_rankIn 96 = .ok (.iload 5, 2) := by decide +kernel
theorem dX7_rankIn_98 : decode cX7_rankIn 98 = .ok (.aload_n 0, 1) := by decide +kernel
theorem dX7_rankIn_99 : decode cX7_rankIn 99 = .ok (.getfield 7, 3) := by decide +kernel
theorem dX7_rankIn_102 : decode cX7_rankIn 102 = .ok (.bipush 12, 2) := by decide +kernel
theorem dX7_rankIn_104 : decode cX7_rankIn 104 = .ok (.iload 4, 2) := by decide +kernel
theorem dX7_rankIn_106 : decode cX7_rankIn 106 = .ok (.iadd, 1) := by decide +kernel
theorem dX7_rankIn_107 : decode cX7_rankIn 107 = .ok (.iaload, 1) := by decide +kernel
theorem dX7_rankIn_108 : decode cX7_rankIn 108 = .ok (.if_icmp .lt 7, 3) := by decide +kernel
theorem dX7_rankIn_111 : decode cX7_rankIn 111 = .ok (.iconst 1, 1) := by decide +kernel
theorem dX7_rankIn_112 : decode cX7_rankIn 112 = .ok (.goto 4, 3) := by decide +kernel
theorem dX7_rankIn_115 : decode cX7_rankIn 115 = .ok (.iconst 0, 1) := by decide +kernel
theorem dX7_rankIn_116 : decode cX7_rankIn 116 = .ok (.istore 7, 2) := by decide +kernel
theorem dX7_rankIn_118 : decode cX7_rankIn 118 = .ok (.iload 4, 2) := by decide +kernel
theorem dX7_rankIn_120 : decode cX7_rankIn 120 = .ok (.iload 7, 2) := by decide +kernel
theorem dX7_rankIn_122 : decode cX7_rankIn 122 = .ok (.ifCond .eq 7, 3) := by decide +kernel
theorem dX7_rankIn_125 : decode cX7_rankIn 125 = .ok (.iconst 1, 1) := by decide +kernel
theorem dX7_rankIn_126 : decode cX7_rankIn 126 = .ok (.goto 4, 3) := by decide +kernel
theorem dX7_rankIn_129 : decode cX7_rankIn 129 = .ok (.iconst 0, 1) := by decide +kernel
theorem dX7_rankIn_130 : decode cX7_rankIn 130 = .ok (.iadd, 1) := by decide +kernel
theorem dX7_rankIn_131 : decode cX7_rankIn 131 = .ok (.istore 4, 2) := by decide +kernel
theorem dX7_rankIn_133 : decode cX7_rankIn 133 = .ok (.iload 7, 2) := by decide +kernel
theorem dX7_rankIn_135 : decode cX7_rankIn 135 = .ok (.ifCond .eq 7, 3) := by decide +kernel
theorem dX7_rankIn_138 : decode cX7_rankIn 138 = .ok (.iconst 0, 1) := by decide +kernel
theorem dX7_rankIn_139 : decode cX7_rankIn 139 = .ok (.goto 5, 3) := by decide +kernel
theorem dX7_rankIn_142 : decode cX7_rankIn 142 = .ok (.iload 5, 2) := by decide +kernel
theorem dX7_rankIn_144 : decode cX7_rankIn 144 = .ok (.istore 5, 2) := by decide +kernel
theorem dX7_rankIn_146 : decode cX7_rankIn 146 = .ok (.iinc 6 1, 3) := by decide +kernel
theorem dX7_rankIn_149 : decode cX7_rankIn 149 = .ok (.goto (-68), 3) := by decide +kernel
theorem dX7_rankIn_152 : decode cX7_rankIn 152 = .ok (.aload_n 0, 1) := by decide +kernel
theorem dX7_rankIn_153 : decode cX7_rankIn 153 = .ok (.iload 4, 2) := by decide +kernel
theorem dX7_rankIn_155 : decode cX7_rankIn 155 = .ok (.invokevirtual 70, 3) := by decide +kernel
theorem dX7_rankIn_158 : decode cX7_rankIn 158 = .ok (.ireturn, 1) := by decide +kernel
theorem dX7_firstToExpire_0 : decode cX7_firstToExpire 0 = .ok (.iconst (-1), 1) := by decide +kernel
theorem dX7_firstToExpire_1 : decode cX7_firstToExpire 1 = .ok (.istore_n 1, 1) := by decide +kernel
theorem dX7_firstToExpire_2 : decode cX7_firstToExpire 2 = .ok (.iconst 0, 1) := by decide +kernel
theorem dX7_firstToExpire_3 : decode cX7_firstToExpire 3 = .ok (.istore_n 2, 1) := by decide +kernel
theorem dX7_firstToExpire_4 : decode cX7_firstToExpire 4 = .ok (.iconst 0, 1) := by decide +kernel
theorem dX7_firstToExpire_5 : decode cX7_firstToExpire 5 = .ok (.istore_n 3, 1) := by decide +kernel
theorem dX7_firstToExpire_6 : decode cX7_firstToExpire 6 = .ok (.iload_n 3, 1) := by decide +kernel
theorem dX7_firstToExpire_7 : decode cX7_firstToExpire 7 = .ok (.aload_n 0, 1) := by decide +kernel
theorem dX7_firstToExpire_8 : decode cX7_firstToExpire 8 = .ok (.getfield 7, 3) := by decide +kernel
theorem dX7_firstToExpire_11 : decode cX7_firstToExpire 11 = .ok (.iconst 1, 1) := by decide +kernel
theorem dX7_firstToExpire_12 : decode cX7_firstToExpire 12 = .ok (.iaload, 1) := by decide +kernel
theorem dX7_firstToExpire_13 : decode cX7_firstToExpire 13 = .ok (.if_icmp .ge 64, 3) := by decide +kernel
theorem dX7_firstToExpire_16 : decode cX7_firstToExpire 16 = .ok (.aload_n 0, 1) := by decide +kernel
theorem dX7_firstToExpire_17 : decode cX7_firstToExpire 17 = .ok (.iload_n 3, 1) := by decide +kernel
theorem dX7_firstToExpire_18 : decode cX7_firstToExpire 18 = .ok (.bipush 7, 2) := by decide +kernel
theorem dX7_firstToExpire_20 : decode cX7_firstToExpire 20 = .ok (.invokevirtual 110, 3) := by decide +kernel
theorem dX7_firstToExpire_23 : decode cX7_firstToExpire 23 = .ok (.istore 4, 2) := by decide +kernel
theorem dX7_firstToExpire_25 : decode cX7_firstToExpire 25 = .ok (.iload_n 1, 1) := by decide +kernel
theorem dX7_firstToExpire_26 : decode cX7_firstToExpire 26 = .ok (.iconst (-1), 1) := by decide +kernel
theorem dX7_firstToExpire_27 : decode cX7_firstToExpire 27 = .ok (.if_icmp .eq 9, 3) := by decide +kernel
theorem dX7_firstToExpire_30 : decode cX7_firstToExpire 30 = .ok (.iload 4, 2) := by decide +kernel
theorem dX7_firstToExpire_32 : decode cX7_firstToExpire 32 = .ok (.iload_n 2, 1) := by decide +kernel
theorem dX7_firstToExpire_33 : decode cX7_firstToExpire 33 = .ok (.if_icmp .ge 7, 3) := by decide +kernel
theorem dX7_firstToExpire_36 : decode cX7_firstToExpire 36 = .ok (.iconst 1, 1) := by decide +kernel
theorem dX7_firstToExpire_37 : decode cX7_firstToExpire 37 = .ok (.goto 4, 3) := by decide +kernel
theorem dX7_firstToExpire_40 : decode cX7_firstToExpire 40 = .ok (.iconst 0, 1) := by decide +kernel
theorem dX7_firstToExpire_41 : decode cX7_firstToExpire 41 = .ok (.istore 5, 2) := by decide +kernel
theorem dX7_firstToExpire_43 : decode cX7_firstToExpire 43 = .ok (.iload 5, 2) := by decide +kernel
theorem dX7_firstToExpire_45 : decode cX7_firstToExpire 45 = .ok (.ifCond .eq 12, 3) := by decide +kernel
theorem dX7_firstToExpire_48 : decode cX7_firstToExpire 48 = .ok (.aload_n 0, 1) := by decide +kernel
theorem dX7_firstToExpire_49 : decode cX7_firstToExpire 49 = .ok (.iload_n 3, 1) := by decide +kernel
theorem dX7_firstToExpire_50 : decode cX7_firstToExpire 50 = .ok (.iconst 0, 1) := by decide +kernel
theorem dX7_firstToExpire_51 : decode cX7_firstToExpire 51 = .ok (.invokevirtual 32, 3) := by decide +kernel
theorem dX7_firstToExpire_54 : decode cX7_firstToExpire 54 = .ok (.goto 4, 3) := by decide +kernel
theorem dX7_firstToExpire_57 : decode cX7_firstToExpire 57 = .ok (.iload_n 1, 1) := by decide +kernel
theorem dX7_firstToExpire_58 : decode cX7_firstToExpire 58 = .ok (.istore_n 1, 1) := by decide +kernel
theorem dX7_firstToExpire_59 : decode cX7_firstToExpire 59 = .ok (.iload 5, 2) := by decide +kernel
theorem dX7_firstToExpire_61 : decode cX7_firstToExpire 61 = .ok (.ifCond .eq 8, 3) := by decide +kernel
theorem dX7_firstToExpire_64 : decode cX7_firstToExpire 64 = .ok (.iload 4, 2) := by decide +kernel
theorem dX7_firstToExpire_66 : decode cX7_firstToExpire 66 = .ok (.goto 4, 3) := by decide +kernel
theorem dX7_firstToExpire_69 : decode cX7_firstToExpire 69 = .ok (.iload_n 2, 1) := by decide +kernel
theorem dX7_firstToExpire_70 : decode cX7_firstToExpire 70 = .ok (.istore_n 2, 1) := by decide +kernel
theorem dX7_firstToExpire_71 : decode cX7_firstToExpire 71 = .ok (.iinc 3 1, 3) := by decide +kernel
theorem dX7_firstToExpire_74 : decode cX7_firstToExpire 74 = .ok (.goto (-68), 3) := by decide +kernel
theorem dX7_firstToExpire_77 : decode cX7_firstToExpire 77 = .ok (.aload_n 0, 1) := by decide +kernel
theorem dX7_firstToExpire_78 : decode cX7_firstToExpire 78 = .ok (.iload_n 1, 1) := by decide +kernel
theorem dX7_firstToExpire_79 : decode cX7_firstToExpire 79 = .ok (.invokevirtual 70, 3) := by decide +kernel
theorem dX7_firstToExpire_82 : decode cX7_firstToExpire 82 = .ok (.ireturn, 1) := by decide +kernel
theorem dX7_servedIn_0 : decode cX7_servedIn 0 = .ok (.aload_n 0, 1) := by decide +kernel
theorem dX7_servedIn_1 : decode cX7_servedIn 1 = .ok (.iload_n 1, 1) := by decide +kernel
theorem dX7_servedIn_2 : decode cX7_servedIn 2 = .ok (.invokevirtual 100, 3) := by decide +kernel
theorem dX7_servedIn_5 : decode cX7_servedIn 5 = .ok (.iconst (-1), 1) := by decide +kernel
theorem dX7_servedIn_6 : decode cX7_servedIn 6 = .ok (.if_icmp .ne 9, 3) := by decide +kernel
theorem dX7_servedIn_9 : decode cX7_servedIn 9 = .ok (.aload_n 0, 1) := by decide +kernel
theorem dX7_servedIn_10 : decode cX7_servedIn 10 = .ok (.iconst 1, 1) := by decide +kernel
theorem dX7_servedIn_11 : decode cX7_servedIn 11 = .ok (.invokevirtual 77, 3) := by decide +kernel
theorem dX7_servedIn_14 : decode cX7_servedIn 14 = .ok (.ireturn, 1) := by decide +kernel
theorem dX7_servedIn_15 : decode cX7_servedIn 15 = .ok (.aload_n 0, 1) := by decide +kernel
theorem dX7_servedIn_16 : decode cX7_servedIn 16 = .ok (.invokevirtual 122, 3) := by decide +kernel
theorem dX7_servedIn_19 : decode cX7_servedIn 19 = .ok (.iconst 0, 1) := by decide +kernel
theorem dX7_servedIn_20 : decode cX7_servedIn 20 = .ok (.istore_n 2, 1) := by decide +kernel
theorem dX7_servedIn_21 : decode cX7_servedIn 21 = .ok (.iconst (-1), 1) := by decide +kernel
theorem dX7_servedIn_22 : decode cX7_servedIn 22 = .ok (.istore_n 3, 1) := by decide +kernel
theorem dX7_servedIn_23 : decode cX7_servedIn 23 = .ok (.iconst 1, 1) := by decide +kernel
theorem dX7_servedIn_24 : decode cX7_servedIn 24 = .ok (.istore 4, 2) := by decide +kernel
theorem dX7_servedIn_26 : decode cX7_servedIn 26 = .ok (.iload 4, 2) := by decide +kernel
theorem dX7_servedIn_28 : decode cX7_servedIn 28 = .ok (.ifCond .eq 76, 3) := by decide +kernel
theorem dX7_servedIn_31 : decode cX7_servedIn 31 = .ok (.aload_n 0, 1) := by decide +kernel
theorem dX7_servedIn_32 : decode cX7_servedIn 32 = .ok (.invokevirtual 103, 3) := by decide +kernel
theorem dX7_servedIn_35 : decode cX7_servedIn 35 = .ok (.iload_n 1, 1) := by decide +kernel
theorem dX7_servedIn_36 : decode cX7_servedIn 36 = .ok (.if_icmp .ne 7, 3) := by decide +kernel
theorem dX7_servedIn_39 : decode cX7_servedIn 39 = .ok (.iconst 1, 1) := by decide +kernel
theorem dX7_servedIn_40 : decode cX7_servedIn 40 = .ok (.goto 4, 3) := by decide +kernel
theorem dX7_servedIn_43 : decode cX7_servedIn 43 = .ok (.iconst 0, 1) := by decide +kernel
theorem dX7_servedIn_44 : decode cX7_servedIn 44 = .ok (.istore 5, 2) := by decide +kernel
theorem dX7_servedIn_46 : decode cX7_servedIn 46 = .ok (.iload 5, 2) := by decide +kernel
theorem dX7_servedIn_48 : decode cX7_servedIn 48 = .ok (.ifCond .eq 7, 3) := by decide +kernel
theorem dX7_servedIn_51 : decode cX7_servedIn 51 = .ok (.iload_n 2, 1) := by decide +kernel
theorem dX7_servedIn_52 : decode cX7_servedIn 52 = .ok (.goto 4, 3) := by decide +kernel
theorem dX7_servedIn_55 : decode cX7_servedIn 55 = .ok (.iload_n 3, 1) := by decide +kernel
theorem dX7_servedIn_56 : decode cX7_servedIn 56 = .ok (.istore_n 3, 1) := by decide +kernel
theorem dX7_servedIn_57 : decode cX7_servedIn 57 = .ok (.iload 5, 2) := by decide +kernel
theorem dX7_servedIn_59 : decode cX7_servedIn 59 = .ok (.ifCond .eq 7, 3) := by decide +kernel
theorem dX7_servedIn_62 : decode cX7_servedIn 62 = .ok (.iconst 0, 1) := by decide +kernel
theorem dX7_servedIn_63 : decode cX7_servedIn 63 = .ok (.goto 7, 3) := by decide +kernel
theorem dX7_servedIn_66 : decode cX7_servedIn 66 = .ok (.aload_n 0, 1) := by decide +kernel
theorem dX7_servedIn_67 : decode cX7_servedIn 67 = .ok (.invokevirtual 63, 3) := by decide +kernel
theorem dX7_servedIn_70 : decode cX7_servedIn 70 = .ok (.istore 6, 2) := by decide +kernel
theorem dX7_servedIn_72 : decode cX7_servedIn 72 = .ok (.iinc 2 1, 3) := by decide +kernel
theorem dX7_servedIn_75 : decode cX7_servedIn 75 = .ok (.iload 5, 2) := by decide +kernel
theorem dX7_servedIn_77 : decode cX7_servedIn 77 = .ok (.ifCond .ne 21, 3) := by decide +kernel
theorem dX7_servedIn_80 : decode cX7_servedIn 80 = .ok (.iload 6, 2) := by decide +kernel
theorem dX7_servedIn_82 : decode cX7_servedIn 82 = .ok (.ifCond .lt 16, 3) := by decide +kernel
theorem dX7_servedIn_85 : decode cX7_servedIn 85 = .ok (.aload_n 0, 1) := by decide +kernel
theorem dX7_servedIn_86 : decode cX7_servedIn 86 = .ok (.iload_n 1, 1) := by decide +kernel
theorem dX7_servedIn_87 : decode cX7_servedIn 87 = .ok (.invokevirtual 100, 3) := by decide +kernel
theorem dX7_servedIn_90 : decode cX7_servedIn 90 = .ok (.iconst (-1), 1) := by decide +kernel
theorem dX7_servedIn_91 : decode cX7_servedIn 91 = .ok (.if_icmp .eq 7, 3) := by decide +kernel
theorem dX7_servedIn_94 : decode cX7_servedIn 94 = .ok (.iconst 1, 1) := by decide +kernel
theorem dX7_servedIn_95 : decode cX7_servedIn 95 = .ok (.goto 4, 3) := by decide +kernel
theorem dX7_servedIn_98 : decode cX7_servedIn 98 = .ok (.iconst 0, 1) := by decide +kernel
theorem dX7_servedIn_99 : decode cX7_servedIn 99 = .ok (.istore 4, 2) := by decide +kernel
theorem dX7_servedIn_101 : decode cX7_servedIn 101 = .ok (.goto (-75), 3) := by decide +kernel
theorem dX7_servedIn_104 : decode cX7_servedIn 104 = .ok (.aload_n 0, 1) := by decide +kernel
theorem dX7_servedIn_105 : decode cX7_servedIn 105 = .ok (.invokevirtual 125, 3) := by decide +kernel
theorem dX7_servedIn_108 : decode cX7_servedIn 108 = .ok (.aload_n 0, 1) := by decide +kernel
theorem dX7_servedIn_109 : decode cX7_servedIn 109 = .ok (.iload_n 3, 1) := by decide +kernel
theorem dX7_servedIn_110 : decode cX7_servedIn 110 = .ok (.invokevirtual 70, 3) := by decide +kernel
theorem dX7_servedIn_113 : decode cX7_servedIn 113 = .ok (.ireturn, 1) := by decide +kernel
theorem dX7_bribeToLead_0 : decode cX7_bribeToLead 0 = .ok (.iload_n 1, 1) := by decide +kernel
theorem dX7_bribeToLead_1 : decode cX7_bribeToLead 1 = .ok (.iconst 0, 1) := by decide +kernel
theorem dX7_bribeToLead_2 : decode cX7_bribeToLead 2 = .ok (.iconst 4, 1) := by decide +kernel
theorem dX7_bribeToLead_3 : decode cX7_bribeToLead 3 = .ok (.invokestatic 73, 3) := by decide +kernel
theorem dX7_bribeToLead_6 : decode cX7_bribeToLead 6 = .ok (.ifCond .ne 9, 3) := by decide +kernel
theorem dX7_bribeToLead_9 : decode cX7_bribeToLead 9 = .ok (.aload_n 0, 1) := by decide +kernel
theorem dX7_bribeToLead_10 : decode cX7_bribeToLead 10 = .ok (.iconst 1, 1) := by decide +kernel
theorem dX7_bribeToLead_11 : decode cX7_bribeToLead 11 = .ok (.invokevirtual 77, 3) := by decide +kernel
theorem dX7_bribeToLead_14 : decode cX7_bribeToLead 14 = .ok (.ireturn, 1) := by decide +kernel
theorem dX7_bribeToLead_15 : decode cX7_bribeToLead 15 = .ok (.aload_n 0, 1) := by decide +kernel
theorem dX7_bribeToLead_16 : decode cX7_bribeToLead 16 = .ok (.invokevirtual 116, 3) := by decide +kernel
theorem dX7_bribeToLead_19 : decode cX7_bribeToLead 19 = .ok (.iconst 1, 1) := by decide +kernel
theorem dX7_bribeToLead_20 : decode cX7_bribeToLead 20 = .ok (.iadd, 1) := by decide +kernel
theorem dX7_bribeToLead_21 : decode cX7_bribeToLead 21 = .ok (.istore_n 2, 1) := by decide +kernel
theorem dX7_bribeToLead_22 : decode cX7_bribeToLead 22 = .ok (.iload_n 2, 1) := by decide +kernel
theorem dX7_bribeToLead_23 : decode cX7_bribeToLead 23 = .ok (.iconst 4, 1) := by decide +kernel
theorem dX7_bribeToLead_24 : decode cX7_bribeToLead 24 = .ok (.if_icmp .le 9, 3) := by decide +kernel
theorem dX7_bribeToLead_27 : decode cX7_bribeToLead 27 = .ok (.aload_n 0, 1) := by decide +kernel
theorem dX7_bribeToLead_28 : decode cX7_bribeToLead 28 = .ok (.iconst (-1), 1) := by decide +kernel
theorem dX7_bribeToLead_29 : decode cX7_bribeToLead 29 = .ok (.invokevirtual 70, 3) := by decide +kernel
theorem dX7_bribeToLead_32 : decode cX7_bribeToLead 32 = .ok (.ireturn, 1) := by decide +kernel
theorem dX7_bribeToLead_33 : decode cX7_bribeToLead 33 = .ok (.aload_n 0, 1) := by decide +kernel
theorem dX7_bribeToLead_34 : decode cX7_bribeToLead 34 = .ok (.iload_n 1, 1) := by decide +kernel
theorem dX7_bribeToLead_35 : decode cX7_bribeToLead 35 = .ok (.iload_n 2, 1) := by decide +kernel
theorem dX7_bribeToLead_36 : decode cX7_bribeToLead 36 = .ok (.if_icmp .lt 7, 3) := by decide +kernel
theorem dX7_bribeToLead_39 : decode cX7_bribeToLead 39 = .ok (.iconst 0, 1) := by decide +kernel
theorem dX7_bribeToLead_40 : decode cX7_bribeToLead 40 = .ok (.goto 9, 3) := by decide +kernel
theorem dX7_bribeToLead_43 : decode cX7_bribeToLead 43 = .ok (.bipush 25, 2) := by decide +kernel
theorem dX7_bribeToLead_45 : decode cX7_bribeToLead 45 = .ok (.iload_n 2, 1) := by decide +kernel
theorem dX7_bribeToLead_46 : decode cX7_bribeToLead 46 = .ok (.iload_n 1, 1) := by decide +kernel
theorem dX7_bribeToLead_47 : decode cX7_bribeToLead 47 = .ok (.isub, 1) := by decide +kernel
theorem dX7_bribeToLead_48 : decode cX7_bribeToLead 48 = .ok (.imul, 1) := by decide +kernel
theorem dX7_bribeToLead_49 : decode cX7_bribeToLead 49 = .ok (.invokevirtual 70, 3) := by decide +kernel
theorem dX7_bribeToLead_52 : decode cX7_bribeToLead 52 = .ok (.ireturn, 1) := by decide +kernel
theorem dX7_meanWait_0 : decode cX7_meanWait 0 = .ok (.aload_n 0, 1) := by decide +kernel
theorem dX7_meanWait_1 : decode cX7_meanWait 1 = .ok (.iconst 0, 1) := by decide +kernel
theorem dX7_meanWait_2 : decode cX7_meanWait 2 = .ok (.putfield 25, 3) := by decide +kernel
theorem dX7_meanWait_5 : decode cX7_meanWait 5 = .ok (.aload_n 0, 1) := by decide +kernel
theorem dX7_meanWait_6 : decode cX7_meanWait 6 = .ok (.getfield 7, 3) := by decide +kernel
theorem dX7_meanWait_9 : decode cX7_meanWait 9 = .ok (.iconst 3, 1) := by decide +kernel
theorem dX7_meanWait_10 : decode cX7_meanWait 10 = .ok (.iaload, 1) := by decide +kernel
theorem dX7_meanWait_11 : decode cX7_meanWait 11 = .ok (.ifCond .ne 7, 3) := by decide +kernel
theorem dX7_meanWait_14 : decode cX7_meanWait 14 = .ok (.dconst 0, 1) := by decide +kernel
theorem dX7_meanWait_15 : decode cX7_meanWait 15 = .ok (.goto 19, 3) := by decide +kernel
theorem dX7_meanWait_18 : decode cX7_meanWait 18 = .ok (.aload_n 0, 1) := by decide +kernel
theorem dX7_meanWait_19 : decode cX7_meanWait 19 = .ok (.getfield 7, 3) := by decide +kernel
theorem dX7_meanWait_22 : decode cX7_meanWait 22 = .ok (.bipush 10, 2) := by decide +kernel
theorem dX7_meanWait_24 : decode cX7_meanWait 24 = .ok (.iaload, 1) := by decide +kernel
theorem dX7_meanWait_25 : decode cX7_meanWait 25 = .ok (.i2d, 1) := by decide +kernel
theorem dX7_meanWait_26 : decode cX7_meanWait 26 = .ok (.aload_n 0, 1) := by decide +kernel
theorem dX7_meanWait_27 : decode cX7_meanWait 27 = .ok (.getfield 7, 3) := by decide +kernel
theorem dX7_meanWait_30 : decode cX7_meanWait 30 = .ok (.iconst 3, 1) := by decide +kernel
theorem dX7_meanWait_31 : decode cX7_meanWait 31 = .ok (.iaload, 1) := by decide +kernel
theorem dX7_meanWait_32 : decode cX7_meanWait 32 = .ok (.i2d, 1) := by decide +kernel
theorem dX7_meanWait_33 : decode cX7_meanWait 33 = .ok (.ddiv, 1) := by decide +kernel
theorem dX7_meanWait_34 : decode cX7_meanWait 34 = .ok (.dreturn, 1) := by decide +kernel
theorem dX7_append_0 : decode cX7_append 0 = .ok (.iload_n 1, 1) := by decide +kernel
theorem dX7_append_1 : decode cX7_append 1 = .ok (.iconst 0, 1) := by decide +kernel
theorem dX7_append_2 : decode cX7_append 2 = .ok (.bipush 127, 2) := by decide +kernel
theorem dX7_append_4 : decode cX7_append 4 = .ok (.invokestatic 73, 3) := by decide +kernel
theorem dX7_append_7 : decode cX7_append 7 = .ok (.ifCond .ne 9, 3) := by decide +kernel
theorem dX7_append_10 : decode cX7_append 10 = .ok (.aload_n 0, 1) := by decide +kernel
theorem dX7_append_11 : decode cX7_append 11 = .ok (.iconst 1, 1) := by decide +kernel
theorem dX7_append_12 : decode cX7_append 12 = .ok (.invokevirtual 77, 3) := by decide +kernel
theorem dX7_append_15 : decode cX7_append 15 = .ok (.ireturn, 1) := by decide +kernel
theorem dX7_append_16 : decode cX7_append 16 = .ok (.aload_n 0, 1) := by decide +kernel
theorem dX7_append_17 : decode cX7_append 17 = .ok (.getfield 128, 3) := by decide +kernel
theorem dX7_append_20 : decode cX7_append 20 = .ok (.bipush 100, 2) := by decide +kernel
theorem dX7_append_22 : decode cX7_append 22 = .ok (.if_icmp .ne 9, 3) := by decide +kernel
theorem dX7_append_25 : decode cX7_append 25 = .ok (.aload_n 0, 1) := by decide +kernel
theorem dX7_append_26 : decode cX7_append 26 = .ok (.iconst 2, 1) := by decide +kernel
theorem dX7_append_27 : decode cX7_append 27 = .ok (.invokevirtual 77, 3) := by decide +kernel
theorem dX7_append_30 : decode cX7_append 30 = .ok (.ireturn, 1) := by decide +kernel
theorem dX7_append_31 : decode cX7_append 31 = .ok (.aload_n 0, 1) := by decide +kernel
theorem dX7_append_32 : decode cX7_append 32 = .ok (.getfield 19, 3) := by decide +kernel
theorem dX7_append_35 : decode cX7_append 35 = .ok (.aload_n 0, 1) := by decide +kernel
theorem dX7_append_36 : decode cX7_append 36 = .ok (.getfield 128, 3) := by decide +kernel
theorem dX7_append_39 : decode cX7_append 39 = .ok (.iload_n 1, 1) := by decide +kernel
theorem dX7_append_40 : decode cX7_append 40 = .ok (.iastore, 1) := by decide +kernel
theorem dX7_append_41 : decode cX7_append 41 = .ok (.aload_n 0, 1) := by decide +kernel
theorem dX7_append_42 : decode cX7_append 42 = .ok (.dup, 1) := by decide +kernel
theorem dX7_append_43 : decode cX7_append 43 = .ok (.getfield 128, 3) := by decide +kernel
theorem dX7_append_46 : decode cX7_append 46 = .ok (.iconst 1, 1) := by decide +kernel
theorem dX7_append_47 : decode cX7_append 47 = .ok (.iadd, 1) := by decide +kernel
theorem dX7_append_48 : decode cX7_append 48 = .ok (.putfield 128, 3) := by decide +kernel
theorem dX7_append_51 : decode cX7_append 51 = .ok (.aload_n 0, 1) := by decide +kernel
theorem dX7_append_52 : decode cX7_append 52 = .ok (.aload_n 0, 1) := by decide +kernel
theorem dX7_append_53 : decode cX7_append 53 = .ok (.getfield 128, 3) := by decide +kernel
theorem dX7_append_56 : decode cX7_append 56 = .ok (.invokevirtual 70, 3) := by decide +kernel
theorem dX7_append_59 : decode cX7_append 59 = .ok (.ireturn, 1) := by decide +kernel
theorem dX7_clearText_0 : decode cX7_clearText 0 = .ok (.aload_n 0, 1) := by decide +kernel
theorem dX7_clearText_1 : decode cX7_clearText 1 = .ok (.getfield 128, 3) := by decide +kernel
theorem dX7_clearText_4 : decode cX7_clearText 4 = .ok (.istore_n 1, 1) := by decide +kernel
theorem dX7_clearText_5 : decode cX7_clearText 5 = .ok (.aload_n 0, 1) := by decide +kernel
theorem dX7_clearText_6 : decode cX7_clearText 6 = .ok (.iconst 0, 1) := by decide +kernel
theorem dX7_clearText_7 : decode cX7_clearText 7 = .ok (.putfield 128, 3) := by decide +kernel
theorem dX7_clearText_10 : decode cX7_clearText 10 = .ok (.aload_n 0, 1) := by decide +kernel
theorem dX7_clearText_11 : decode cX7_clearText 11 = .ok (.iload_n 1, 1) := by decide +kernel
theorem dX7_clearText_12 : decode cX7_clearText 12 = .ok (.invokevirtual 70, 3) := by decide +kernel
theorem dX7_clearText_15 : decode cX7_clearText 15 = .ok (.ireturn, 1) := by decide +kernel
theorem dX7_isAt_0 : decode cX7_isAt 0 = .ok (.aload_n 0, 1) := by decide +kernel
theorem dX7_isAt_1 : decode cX7_isAt 1 = .ok (.getfield 131, 3) := by decide +kernel
theorem dX7_isAt_4 : decode cX7_isAt 4 = .ok (.aload_n 0, 1) := by decide +kernel
theorem dX7_isAt_5 : decode cX7_isAt 5 = .ok (.getfield 128, 3) := by decide +kernel
theorem dX7_isAt_8 : decode cX7_isAt 8 = .ok (.if_icmp .ge 24, 3) := by decide +kernel
theorem dX7_isAt_11 : decode cX7_isAt 11 = .ok (.aload_n 0, 1) := by decide +kernel
theorem dX7_isAt_12 : decode cX7_isAt 12 = .ok (.getfield 19, 3) := by decide +kernel
theorem dX7_isAt_15 : decode cX7_isAt 15 = .ok (.aload_n 0, 1) := by decide +kernel
theorem dX7_isAt_16 : decode cX7_isAt 16 = .ok (.getfield 131, 3) := by decide +kernel
theorem dX7_isAt_19 : decode cX7_isAt 19 = .ok (.iaload, 1) := by decide +kernel
theorem dX7_isAt_20 : decode cX7_isAt 20 = .ok (.iload_n 1, 1) := by decide +kernel
theorem dX7_isAt_21 : decode cX7_isAt 21 = .ok (.iload_n 2, 1) := by decide +kernel
theorem dX7_isAt_22 : decode cX7_isAt 22 = .ok (.invokestatic 73, 3) := by decide +kernel
theorem dX7_isAt_25 : decode cX7_isAt 25 = .ok (.ifCond .eq 7, 3) := by decide +kernel
theorem dX7_isAt_28 : decode cX7_isAt 28 = .ok (.iconst 1, 1) := by decide +kernel
theorem dX7_isAt_29 : decode cX7_isAt 29 = .ok (.goto 4, 3) := by decide +kernel
theorem dX7_isAt_32 : decode cX7_isAt 32 = .ok (.iconst 0, 1) := by decide +kernel
theorem dX7_isAt_33 : decode cX7_isAt 33 = .ok (.ireturn, 1) := by decide +kernel
theorem dX7_takes_0 : decode cX7_takes 0 = .ok (.aload_n 0, 1) := by decide +kernel
theorem dX7_takes_1 : decode cX7_takes 1 = .ok (.iload_n 1, 1) := by decide +kernel
theorem dX7_takes_2 : decode cX7_takes 2 = .ok (.iload_n 1, 1) := by decide +kernel
theorem dX7_takes_3 : decode cX7_takes 3 = .ok (.invokevirtual 134, 3) := by decide +kernel
theorem dX7_takes_6 : decode cX7_takes 6 = .ok (.istore_n 2, 1) := by decide +kernel
theorem dX7_takes_7 : decode cX7_takes 7 = .ok (.aload_n 0, 1) := by decide +kernel
theorem dX7_takes_8 : decode cX7_takes 8 = .ok (.dup, 1) := by decide +kernel
theorem dX7_takes_9 : decode cX7_takes 9 = .ok (.getfield 131, 3) := by decide +kernel
theorem dX7_takes_12 : decode cX7_takes 12 = .ok (.iload_n 2, 1) := by decide +kernel
theorem dX7_takes_13 : decode cX7_takes 13 = .ok (.ifCond .eq 7, 3) := by decide +kernel
theorem dX7_takes_16 : decode cX7_takes 16 = .ok (.iconst 1, 1) := by decide +kernel
theorem dX7_takes_17 : decode cX7_takes 17 = .ok (.goto 4, 3) := by decide +kernel
theorem dX7_takes_20 : decode cX7_takes 20 = .ok (.iconst 0, 1) := by decide +kernel
theorem dX7_takes_21 : decode cX7_takes 21 = .ok (.iadd, 1) := by decide +kernel
theorem dX7_takes_22 : decode cX7_takes 22 = .ok (.putfield 131, 3) := by decide +kernel
theorem dX7_takes_25 : decode cX7_takes 25 = .ok (.iload_n 2, 1) := by decide +kernel
theorem dX7_takes_26 : decode cX7_takes 26 = .ok (.ireturn, 1) := by decide +kernel
theorem dX7_takesDigit_0 : decode cX7_takesDigit 0 = .ok (.aload_n 0, 1) := by decide +kernel
theorem dX7_takesDigit_1 : decode cX7_takesDigit 1 = .ok (.bipush 48, 2) := by decide +kernel
theorem dX7_takesDigit_3 : decode cX7_takesDigit 3 = .ok (.bipush 48, 2) := by decide +kernel
theorem dX7_takesDigit_5 : decode cX7_takesDigit 5 = .ok (.iload_n 2, 1) := by decide +kernel
theorem dX7_takesDigit_6 : decode cX7_takesDigit 6 = .ok (.iadd, 1) := by decide +kernel
theorem dX7_takesDigit_7 : decode cX7_takesDigit 7 = .ok (.invokevirtual 134, 3) := by decide +kernel
theorem dX7_takesDigit_10 : decode cX7_takesDigit 10 = .ok (.ifCond .ne 5, 3) := by decide +kernel
theorem dX7_takesDigit_13 : decode cX7_takesDigit 13 = .ok (.iconst 0, 1) := by decide +kernel
theorem dX7_takesDigit_14 : decode cX7_takesDigit 14 = .ok (.ireturn, 1) := by decide +kernel
theorem dX7_takesDigit_15 : decode cX7_takesDigit 15 = .ok (.aload_n 0, 1) := by decide +kernel
theorem dX7_takesDigit_16 : decode cX7_takesDigit 16 = .ok (.getfield 22, 3) := by decide +kernel
theorem dX7_takesDigit_19 : decode cX7_takesDigit 19 = .ok (.iload_n 1, 1) := by decide +kernel
theorem dX7_takesDigit_20 : decode cX7_takesDigit 20 = .ok (.aload_n 0, 1) := by decide +kernel
theorem dX7_takesDigit_21 : decode cX7_takesDigit 21 = .ok (.getfield 19, 3) := by decide +kernel
theorem dX7_takesDigit_24 : decode cX7_takesDigit 24 = .ok (.aload_n 0, 1) := by decide +kernel
theorem dX7_takesDigit_25 : decode cX7_takesDigit 25 = .ok (.getfield 131, 3) := by decide +kernel
theorem dX7_takesDigit_28 : decode cX7_takesDigit 28 = .ok (.iaload, 1) := by decide +kernel
theorem dX7_takesDigit_29 : decode cX7_takesDigit 29 = .ok (.bipush 48, 2) := by decide +kernel
theorem dX7_takesDigit_31 : decode cX7_takesDigit 31 = .ok (.isub, 1) := by decide +kernel
theorem dX7_takesDigit_32 : decode cX7_takesDigit 32 = .ok (.iastore, 1) := by decide +kernel
theorem dX7_takesDigit_33 : decode cX7_takesDigit 33 = .ok (.aload_n 0, 1) := by decide +kernel
theorem dX7_takesDigit_34 : decode cX7_takesDigit 34 = .ok (.dup, 1) := by decide +kernel
theorem dX7_takesDigit_35 : decode cX7_takesDigit 35 = .ok (.getfield 131, 3) := by decide +kernel
theorem dX7_takesDigit_38 : decode cX7_takesDigit 38 = .ok (.iconst 1, 1) := by decide +kernel
theorem dX7_takesDigit_39 : decode cX7_takesDigit 39 = .ok (.iadd, 1) := by decide +kernel
theorem dX7_takesDigit_40 : decode cX7_takesDigit 40 = .ok (.putfield 131, 3) := by decide +kernel
theorem dX7_takesDigit_43 : decode cX7_takesDigit 43 = .ok (.iconst 1, 1) := by decide +kernel
theorem dX7_takesDigit_44 : decode cX7_takesDigit 44 = .ok (.ireturn, 1) := by decide +kernel
theorem dX7_takesNumber_0 : decode cX7_takesNumber 0 = .ok (.aload_n 0, 1) := by decide +kernel
theorem dX7_takesNumber_1 : decode cX7_takesNumber 1 = .ok (.getfield 131, 3) := by decide +kernel
theorem dX7_takesNumber_4 : decode cX7_takesNumber 4 = .ok (.istore 4, 2) := by decide +kernel
theorem dX7_takesNumber_6 : decode cX7_takesNumber 6 = .ok (.iconst 0, 1) := by decide +kernel
theorem dX7_takesNumber_7 : decode cX7_takesNumber 7 = .ok (.istore 5, 2) := by decide +kernel
theorem dX7_takesNumber_9 : decode cX7_takesNumber 9 = .ok (.aload_n 0, 1) := by decide +kernel
theorem dX7_takesNumber_10 : decode cX7_takesNumber 10 = .ok (.bipush 48, 2) := by decide +kernel
theorem dX7_takesNumber_12 : decode cX7_takesNumber 12 = .ok (.bipush 57, 2) := by decide +kernel
theorem dX7_takesNumber_14 : decode cX7_takesNumber 14 = .ok (.invokevirtual 134, 3) := by decide +kernel
theorem dX7_takesNumber_17 : decode cX7_takesNumber 17 = .ok (.ifCond .eq 47, 3) := by decide +kernel
theorem dX7_takesNumber_20 : decode cX7_takesNumber 20 = .ok (.aload_n 0, 1) := by decide +kernel
theorem dX7_takesNumber_21 : decode cX7_takesNumber 21 = .ok (.getfield 131, 3) := by decide +kernel
theorem dX7_takesNumber_24 : decode cX7_takesNumber 24 = .ok (.iload 4, 2) := by decide +kernel
theorem dX7_takesNumber_26 : decode cX7_takesNumber 26 = .ok (.iload_n 2, 1) := by decide +kernel
theorem dX7_takesNumber_27 : decode cX7_takesNumber 27 = .ok (.iadd, 1) := by decide +kernel
theorem dX7_takesNumber_28 : decode cX7_takesNumber 28 = .ok (.if_icmp .ge 36, 3) := by decide +kernel
theorem dX7_takesNumber_31 : decode cX7_takesNumber 31 = .ok (.bipush 10, 2) := by decide +kernel
theorem dX7_takesNumber_33 : decode cX7_takesNumber 33 = .ok (.iload 5, 2) := by decide +kernel
theorem dX7_takesNumber_35 : decode cX7_takesNumber 35 = .ok (.imul, 1) := by decide +kernel
theorem dX7_takesNumber_36 : decode cX7_takesNumber 36 = .ok (.aload_n 0, 1) := by decide +kernel
theorem dX7_takesNumber_37 : decode cX7_takesNumber 37 = .ok (.getfield 19, 3) := by decide +kernel
theorem dX7_takesNumber_40 : decode cX7_takesNumber 40 = .ok (.aload_n 0, 1) := by decide +kernel
theorem dX7_takesNumber_41 : decode cX7_takesNumber 41 = .ok (.getfield 131, 3) := by decide +kernel
theorem dX7_takesNumber_44 : decode cX7_takesNumber 44 = .ok (.iaload, 1) := by decide +kernel
theorem dX7_takesNumber_45 : decode cX7_takesNumber 45 = .ok (.iadd, 1) := by decide +kernel
theorem dX7_takesNumber_46 : decode cX7_takesNumber 46 = .ok (.bipush 48, 2) := by decide +kernel
theorem dX7_takesNumber_48 : decode cX7_takesNumber 48 = .ok (.isub, 1) := by decide +kernel
theorem dX7_takesNumber_49 : decode cX7_takesNumber 49 = .ok (.istore 5, 2) := by decide +kernel
theorem dX7_takesNumber_51 : decode cX7_takesNumber 51 = .ok (.aload_n 0, 1) := by decide +kernel
theorem dX7_takesNumber_52 : decode cX7_takesNumber 52 = .ok (.dup, 1) := by decide +kernel
theorem dX7_takesNumber_53 : decode cX7_takesNumber 53 = .ok (.getfield 131, 3) := by decide +kernel
theorem dX7_takesNumber_56 : decode cX7_takesNumber 56 = .ok (.iconst 1, 1) := by decide +kernel
theorem dX7_takesNumber_57 : decode cX7_takesNumber 57 = .ok (.iadd, 1) := by decide +kernel
theorem dX7_takesNumber_58 : decode cX7_takesNumber 58 = .ok (.putfield 131, 3) := by decide +kernel
theorem dX7_takesNumber_61 : decode cX7_takesNumber 61 = .ok (.goto (-52), 3) := by decide +kernel
theorem dX7_takesNumber_64 : decode cX7_takesNumber 64 = .ok (.aload_n 0, 1) := by decide +kernel
theorem dX7_takesNumber_65 : decode cX7_takesNumber 65 = .ok (.getfield 131, 3) := by decide +kernel
theorem dX7_takesNumber_68 : decode cX7_takesNumber 68 = .ok (.iload 4, 2) := by decide +kernel
theorem dX7_takesNumber_70 : decode cX7_takesNumber 70 = .ok (.if_icmp .eq 14, 3) := by decide +kernel
theorem dX7_takesNumber_73 : decode cX7_takesNumber 73 = .ok (.aload_n 0, 1) := by decide +kernel
theorem dX7_takesNumber_74 : decode cX7_takesNumber 74 = .ok (.bipush 48, 2) := by decide +kernel
theorem dX7_takesNumber_76 : decode cX7_takesNumber 76 = .ok (.bipush 57, 2) := by decide +kernel
theorem dX7_takesNumber_78 : decode cX7_takesNumber 78 = .ok (.invokevirtual 134, 3) := by decide +kernel
theorem dX7_takesNumber_81 : decode cX7_takesNumber 81 = .ok (.ifCond .eq 5, 3) := by decide +kernel
theorem dX7_takesNumber_84 : decode cX7_takesNumber 84 = .ok (.iconst 0, 1) := by decide +kernel
theorem dX7_takesNumber_85 : decode cX7_takesNumber 85 = .ok (.ireturn, 1) := by decide +kernel
theorem dX7_takesNumber_86 : decode cX7_takesNumber 86 = .ok (.aload_n 0, 1) := by decide +kernel
theorem dX7_takesNumber_87 : decode cX7_takesNumber 87 = .ok (.getfield 22, 3) := by decide +kernel
theorem dX7_takesNumber_90 : decode cX7_takesNumber 90 = .ok (.iload_n 1, 1) := by decide +kernel
theorem dX7_takesNumber_91 : decode cX7_takesNumber 91 = .ok (.iload 5, 2) := by decide +kernel
theorem dX7_takesNumber_93 : decode cX7_takesNumber 93 = .ok (.iastore, 1) := by decide +kernel
theorem dX7_takesNumber_94 : decode cX7_takesNumber 94 = .ok (.iload 5, 2) := by decide +kernel
theorem dX7_takesNumber_96 : decode cX7_takesNumber 96 = .ok (.iconst 1, 1) := by decide +kernel
theorem dX7_takesNumber_97 : decode cX7_takesNumber 97 = .ok (.iload_n 3, 1) := by decide +kernel
theorem dX7_takesNumber_98 : decode cX7_takesNumber 98 = .ok (.invokestatic 73, 3) := by decide +kernel
theorem dX7_takesNumber_101 : decode cX7_takesNumber 101 = .ok (.istore 6, 2) := by decide +kernel
theorem dX7_takesNumber_103 : decode cX7_takesNumber 103 = .ok (.aload_n 0, 1) := by decide +kernel
theorem dX7_takesNumber_104 : decode cX7_takesNumber 104 = .ok (.iload 6, 2) := by decide +kernel
theorem dX7_takesNumber_106 : decode cX7_takesNumber 106 = .ok (.ifCond .eq 10, 3) := by decide +kernel
theorem dX7_takesNumber_109 : decode cX7_takesNumber 109 = .ok (.aload_n 0, 1) := by decide +kernel
theorem dX7_takesNumber_110 : decode cX7_takesNumber 110 = .ok (.getfield 131, 3) := by decide +kernel
theorem dX7_takesNumber_113 : decode cX7_takesNumber 113 = .ok (.goto 5, 3) := by decide +kernel
theorem dX7_takesNumber_116 : decode cX7_takesNumber 116 = .ok (.iload 4, 2) := by decide +kernel
theorem dX7_takesNumber_118 : decode cX7_takesNumber 118 = .ok (.putfield 131, 3) := by decide +kernel
theorem dX7_takesNumber_121 : decode cX7_takesNumber 121 = .ok (.iload 6, 2) := by decide +kernel
theorem dX7_takesNumber_123 : decode cX7_takesNumber 123 = .ok (.ireturn, 1) := by decide +kernel
theorem dX7_takesOrder_0 : decode cX7_takesOrder 0 = .ok (.aload_n 0, 1) := by decide +kernel
theorem dX7_takesOrder_1 : decode cX7_takesOrder 1 = .ok (.getfield 19, 3) := by decide +kernel
theorem dX7_takesOrder_4 : decode cX7_takesOrder 4 = .ok (.aload_n 0, 1) := by decide +kernel
theorem dX7_takesOrder_5 : decode cX7_takesOrder 5 = .ok (.getfield 131, 3) := by decide +kernel
theorem dX7_takesOrder_8 : decode cX7_takesOrder 8 = .ok (.iaload, 1) := by decide +kernel
theorem dX7_takesOrder_9 : decode cX7_takesOrder 9 = .ok (.istore_n 1, 1) := by decide +kernel
theorem dX7_takesOrder_10 : decode cX7_takesOrder 10 = .ok (.iload_n 1, 1) := by decide +kernel
theorem dX7_takesOrder_11 : decode cX7_takesOrder 11 = .ok (.bipush 115, 2) := by decide +kernel
theorem dX7_takesOrder_13 : decode cX7_takesOrder 13 = .ok (.if_icmp .eq 23, 3) := by decide +kernel
theorem dX7_takesOrder_16 : decode cX7_takesOrder 16 = .ok (.iload_n 1, 1) := by decide +kernel
theorem dX7_takesOrder_17 : decode cX7_takesOrder 17 = .ok (.bipush 112, 2) := by decide +kernel
theorem dX7_takesOrder_19 : decode cX7_takesOrder 19 = .ok (.if_icmp .eq 17, 3) := by decide +kernel
theorem dX7_takesOrder_22 : decode cX7_takesOrder 22 = .ok (.iload_n 1, 1) := by decide +kernel
theorem dX7_takesOrder_23 : decode cX7_takesOrder 23 = .ok (.bipush 98, 2) := by decide +kernel
theorem dX7_takesOrder_25 : decode cX7_takesOrder 25 = .ok (.if_icmp .eq 11, 3) := by decide +kernel
theorem dX7_takesOrder_28 : decode cX7_takesOrder 28 = .ok (.iload_n 1, 1) := by decide +kernel
theorem dX7_takesOrder_29 : decode cX7_takesOrder 29 = .ok (.bipush 116, 2) := by decide +kernel
theorem dX7_takesOrder_31 : decode cX7_takesOrder 31 = .ok (.if_icmp .eq 5, 3) := by decide +kernel
theorem dX7_takesOrder_34 : decode cX7_takesOrder 34 = .ok (.iconst 0, 1) := by decide +kernel
theorem dX7_takesOrder_35 : decode cX7_takesOrder 35 = .ok (.ireturn, 1) := by decide +kernel
theorem dX7_takesOrder_36 : decode cX7_takesOrder 36 = .ok (.aload_n 0, 1) := by decide +kernel
theorem dX7_takesOrder_37 : decode cX7_takesOrder 37 = .ok (.dup, 1) := by decide +kernel
theorem dX7_takesOrder_38 : decode cX7_takesOrder 38 = .ok (.getfield 131, 3) := by decide +kernel
theorem dX7_takesOrder_41 : decode cX7_takesOrder 41 = .ok (.iconst 1, 1) := by decide +kernel
theorem dX7_takesOrder_42 : decode cX7_takesOrder 42 = .ok (.iadd, 1) := by decide +kernel
theorem dX7_takesOrder_43 : decode cX7_takesOrder 43 = .ok (.putfield 131, 3) := by decide +kernel
theorem dX7_takesOrder_46 : decode cX7_takesOrder 46 = .ok (.iconst 1, 1) := by decide +kernel
theorem dX7_takesOrder_47 : decode cX7_takesOrder 47 = .ok (.istore_n 2, 1) := by decide +kernel
theorem dX7_takesOrder_48 : decode cX7_takesOrder 48 = .ok (.aload_n 0, 1) := by decide +kernel
theorem dX7_takesOrder_49 : decode cX7_takesOrder 49 = .ok (.getfield 22, 3) := by decide +kernel
theorem dX7_takesOrder_52 : decode cX7_takesOrder 52 = .ok (.iconst 3, 1) := by decide +kernel
theorem dX7_takesOrder_53 : decode cX7_takesOrder 53 = .ok (.iconst 0, 1) := by decide +kernel
theorem dX7_takesOrder_54 : decode cX7_takesOrder 54 = .ok (.iastore, 1) := by decide +kernel
theorem dX7_takesOrder_55 : decode cX7_takesOrder 55 = .ok (.iload_n 1, 1) := by decide +kernel
theorem dX7_takesOrder_56 : decode cX7_takesOrder 56 = .ok (.bipush 112, 2) := by decide +kernel
theorem dX7_takesOrder_58 : decode cX7_takesOrder 58 = .ok (.if_icmp .eq 9, 3) := by decide +kernel
theorem dX7_takesOrder_61 : decode cX7_takesOrder 61 = .ok (.iload_n 1, 1) := by decide +kernel
theorem dX7_takesOrder_62 : decode cX7_takesOrder 62 = .ok (.bipush 98, 2) := by decide +kernel
theorem dX7_takesOrder_64 : decode cX7_takesOrder 64 = .ok (.if_icmp .ne 49, 3) := by decide +kernel
theorem dX7_takesOrder_67 : decode cX7_takesOrder 67 = .ok (.aload_n 0, 1) := by decide +kernel
theorem dX7_takesOrder_68 : decode cX7_takesOrder 68 = .ok (.iconst 0, 1) := by decide +kernel
theorem dX7_takesOrder_69 : decode cX7_takesOrder 69 = .ok (.bipush 7, 2) := by decide +kernel
theorem dX7_takesOrder_71 : decode cX7_takesOrder 71 = .ok (.invokevirtual 137, 3) := by decide +kernel
theorem dX7_takesOrder_74 : decode cX7_takesOrder 74 = .ok (.ifCond .eq 37, 3) := by decide +kernel
theorem dX7_takesOrder_77 : decode cX7_takesOrder 77 = .ok (.aload_n 0, 1) := by decide +kernel
theorem dX7_takesOrder_78 : decode cX7_takesOrder 78 = .ok (.iconst 1, 1) := by decide +kernel
theorem dX7_takesOrder_79 : decode cX7_takesOrder 79 = .ok (.iconst 4, 1) := by decide +kernel
theorem dX7_takesOrder_80 : decode cX7_takesOrder 80 = .ok (.invokevirtual 137, 3) := by decide +kernel
theorem dX7_takesOrder_83 : decode cX7_takesOrder 83 = .ok (.ifCond .eq 28, 3) := by decide +kernel
theorem dX7_takesOrder_86 : decode cX7_takesOrder 86 = .ok (.aload_n 0, 1) := by decide +kernel
theorem dX7_takesOrder_87 : decode cX7_takesOrder 87 = .ok (.bipush 44, 2) := by decide +kernel
theorem dX7_takesOrder_89 : decode cX7_takesOrder 89 = .ok (.invokevirtual 140, 3) := by decide +kernel
theorem dX7_takesOrder_92 : decode cX7_takesOrder 92 = .ok (.ifCond .eq 19, 3) := by decide +kernel
theorem dX7_takesOrder_95 : decode cX7_takesOrder 95 = .ok (.aload_n 0, 1) := by decide +kernel
theorem dX7_takesOrder_96 : decode cX7_takesOrder 96 = .ok (.iconst 2, 1) := by decide +kernel
theorem dX7_takesOrder_97 : decode cX7_takesOrder 97 = .ok (.iconst 3, 1) := by decide +kernel
theorem dX7_takesOrder_98 : decode cX7_takesOrder 98 = .ok (.sipush 200, 3) := by decide +kernel
theorem dX7_takesOrder_101 : decode cX7_takesOrder 101 = .ok (.invokevirtual 143, 3) := by decide +kernel
theorem dX7_takesOrder_104 : decode cX7_takesOrder 104 = .ok (.ifCond .eq 7, 3) := by decide +kernel
theorem dX7_takesOrder_107 : decode cX7_takesOrder 107 = .ok (.iconst 1, 1) := by decide +kernel
theorem dX7_takesOrder_108 : decode cX7_takesOrder 108 = .ok (.goto 4, 3) := by decide +kernel
theorem dX7_takesOrder_111 : decode cX7_takesOrder 111 = .ok (.iconst 0, 1) := by decide +kernel
theorem dX7_takesOrder_112 : decode cX7_takesOrder 112 = .ok (.istore_n 2, 1) := by decide +kernel
theorem dX7_takesOrder_113 : decode cX7_takesOrder 113 = .ok (.iload_n 1, 1) := by decide +kernel
theorem dX7_takesOrder_114 : decode cX7_takesOrder 114 = .ok (.bipush 98, 2) := by decide +kernel
theorem dX7_takesOrder_116 : decode cX7_takesOrder 116 = .ok (.if_icmp .ne 33, 3) := by decide +kernel
theorem dX7_takesOrder_119 : decode cX7_takesOrder 119 = .ok (.iload_n 2, 1) := by decide +kernel
theorem dX7_takesOrder_120 : decode cX7_takesOrder 120 = .ok (.ifCond .eq 27, 3) := by decide +kernel
theorem dX7_takesOrder_123 : decode cX7_takesOrder 123 = .ok (.aload_n 0, 1) := by decide +kernel
theorem dX7_takesOrder_124 : decode cX7_takesOrder 124 = .ok (.bipush 44, 2) := by decide +kernel
theorem dX7_takesOrder_126 : decode cX7_takesOrder 126 = .ok (.invokevirtual 140, 3) := by decide +kernel
theorem dX7_takesOrder_129 : decode cX7_takesOrder 129 = .ok (.ifCond .eq 18, 3) := by decide +kernel
theorem dX7_takesOrder_132 : decode cX7_takesOrder 132 = .ok (.aload_n 0, 1) := by decide +kernel
theorem dX7_takesOrder_133 : decode cX7_takesOrder 133 = .ok (.iconst 3, 1) := by decide +kernel
theorem dX7_takesOrder_134 : decode cX7_takesOrder 134 = .ok (.iconst 3, 1) := by decide +kernel
theorem dX7_takesOrder_135 : decode cX7_takesOrder 135 = .ok (.bipush 100, 2) := by decide +kernel
theorem dX7_takesOrder_137 : decode cX7_takesOrder 137 = .ok (.invokevirtual 143, 3) := by decide +kernel
theorem dX7_takesOrder_140 : decode cX7_takesOrder 140 = .ok (.ifCond .eq 7, 3) := by decide +kernel
theorem dX7_takesOrder_143 : decode cX7_takesOrder 143 = .ok (.iconst 1, 1) := by decide +kernel
theorem dX7_takesOrder_144 : decode cX7_takesOrder 144 = .ok (.goto 4, 3) := by decide +kernel
theorem dX7_takesOrder_147 : decode cX7_takesOrder 147 = .ok (.iconst 0, 1) := by decide +kernel
theorem dX7_takesOrder_148 : decode cX7_takesOrder 148 = .ok (.istore_n 2, 1) := by decide +kernel
theorem dX7_takesOrder_149 : decode cX7_takesOrder 149 = .ok (.iload_n 1, 1) := by decide +kernel
theorem dX7_takesOrder_150 : decode cX7_takesOrder 150 = .ok (.bipush 116, 2) := by decide +kernel
theorem dX7_takesOrder_152 : decode cX7_takesOrder 152 = .ok (.if_icmp .ne 12, 3) := by decide +kernel
theorem dX7_takesOrder_155 : decode cX7_takesOrder 155 = .ok (.aload_n 0, 1) := by decide +kernel
theorem dX7_takesOrder_156 : decode cX7_takesOrder 156 = .ok (.iconst 0, 1) := by decide +kernel
theorem dX7_takesOrder_157 : decode cX7_takesOrder 157 = .ok (.iconst 2, 1) := by decide +kernel
theorem dX7_takesOrder_158 : decode cX7_takesOrder 158 = .ok (.bipush 50, 2) := by decide +kernel
theorem dX7_takesOrder_160 : decode cX7_takesOrder 160 = .ok (.invokevirtual 143, 3) := by decide +kernel
theorem dX7_takesOrder_163 : decode cX7_takesOrder 163 = .ok (.istore_n 2, 1) := by decide +kernel
theorem dX7_takesOrder_164 : decode cX7_takesOrder 164 = .ok (.iload_n 2, 1) := by decide +kernel
theorem dX7_takesOrder_165 : decode cX7_takesOrder 165 = .ok (.ifCond .eq 16, 3) := by decide +kernel
theorem dX7_takesOrder_168 : decode cX7_takesOrder 168 = .ok (.aload_n 0, 1) := by decide +kernel
theorem dX7_takesOrder_169 : decode cX7_takesOrder 169 = .ok (.bipush 59, 2) := by decide +kernel
theorem dX7_takesOrder_171 : decode cX7_takesOrder 171 = .ok (.invokevirtual 140, 3) := by decide +kernel
theorem dX7_takesOrder_174 : decode cX7_takesOrder 174 = .ok (.ifCond .eq 7, 3) := by decide +kernel
theorem dX7_takesOrder_177 : decode cX7_takesOrder 177 = .ok (.iconst 1, 1) := by decide +kernel
theorem dX7_takesOrder_178 : decode cX7_takesOrder 178 = .ok (.goto 4, 3) := by decide +kernel
theorem dX7_takesOrder_181 : decode cX7_takesOrder 181 = .ok (.iconst 0, 1) := by decide +kernel
theorem dX7_takesOrder_182 : decode cX7_takesOrder 182 = .ok (.ireturn, 1) := by decide +kernel
theorem dX7_does_0 : decode cX7_does 0 = .ok (.iload_n 1, 1) := by decide +kernel
theorem dX7_does_1 : decode cX7_does 1 = .ok (.bipush 115, 2) := by decide +kernel
theorem dX7_does_3 : decode cX7_does 3 = .ok (.if_icmp .ne 25, 3) := by decide +kernel
theorem dX7_does_6 : decode cX7_does 6 = .ok (.aload_n 0, 1) := by decide +kernel
theorem dX7_does_7 : decode cX7_does 7 = .ok (.getfield 7, 3) := by decide +kernel
theorem dX7_does_10 : decode cX7_does 10 = .ok (.iconst 1, 1) := by decide +kernel
theorem dX7_does_11 : decode cX7_does 11 = .ok (.iaload, 1) := by decide +kernel
theorem dX7_does_12 : decode cX7_does 12 = .ok (.ifCond .le 14, 3) := by decide +kernel
theorem dX7_does_15 : decode cX7_does 15 = .ok (.aload_n 0, 1) := by decide +kernel
theorem dX7_does_16 : decode cX7_does 16 = .ok (.invokevirtual 103, 3) := by decide +kernel
theorem dX7_does_19 : decode cX7_does 19 = .ok (.ifCond .lt 7, 3) := by decide +kernel
theorem dX7_does_22 : decode cX7_does 22 = .ok (.iconst 1, 1) := by decide +kernel
theorem dX7_does_23 : decode cX7_does 23 = .ok (.goto 4, 3) := by decide +kernel
theorem dX7_does_26 : decode cX7_does 26 = .ok (.iconst 0, 1) := by decide +kernel
theorem dX7_does_27 : decode cX7_does 27 = .ok (.ireturn, 1) := by decide +kernel
theorem dX7_does_28 : decode cX7_does 28 = .ok (.iload_n 1, 1) := by decide +kernel
theorem dX7_does_29 : decode cX7_does 29 = .ok (.bipush 116, 2) := by decide +kernel
theorem dX7_does_31 : decode cX7_does 31 = .ok (.if_icmp .ne 40, 3) := by decide +kernel
theorem dX7_does_34 : decode cX7_does 34 = .ok (.aload_n 0, 1) := by decide +kernel
theorem dX7_does_35 : decode cX7_does 35 = .ok (.getfield 7, 3) := by decide +kernel
theorem dX7_does_38 : decode cX7_does 38 = .ok (.iconst 0, 1) := by decide +kernel
theorem dX7_does_39 : decode cX7_does 39 = .ok (.iaload, 1) := by decide +kernel
theorem dX7_does_40 : decode cX7_does 40 = .ok (.aload_n 0, 1) := by decide +kernel
theorem dX7_does_41 : decode cX7_does 41 = .ok (.getfield 22, 3) := by decide +kernel
theorem dX7_does_44 : decode cX7_does 44 = .ok (.iconst 0, 1) := by decide +kernel
theorem dX7_does_45 : decode cX7_does 45 = .ok (.iaload, 1) := by decide +kernel
theorem dX7_does_46 : decode cX7_does 46 = .ok (.iadd, 1) := by decide +kernel
theorem dX7_does_47 : decode cX7_does 47 = .ok (.ldc 106, 2) := by decide +kernel
theorem dX7_does_49 : decode cX7_does 49 = .ok (.if_icmp .gt 20, 3) := by decide +kernel
theorem dX7_does_52 : decode cX7_does 52 = .ok (.aload_n 0, 1) := by decide +kernel
theorem dX7_does_53 : decode cX7_does 53 = .ok (.aload_n 0, 1) := by decide +kernel
theorem dX7_does_54 : decode cX7_does 54 = .ok (.getfield 22, 3) := by decide +kernel
theorem dX7_does_57 : decode cX7_does 57 = .ok (.iconst 0, 1) := by decide +kernel
theorem dX7_does_58 : decode cX7_does 58 = .ok (.iaload, 1) := by decide +kernel
theorem dX7_does_59 : decode cX7_does 59 = .ok (.invokevirtual 107, 3) := by decide +kernel
theorem dX7_does_62 : decode cX7_does 62 = .ok (.ifCond .lt 7, 3) := by decide +kernel
theorem dX7_does_65 : decode cX7_does 65 = .ok (.iconst 1, 1) := by decide +kernel
theorem dX7_does_66 : decode cX7_does 66 = .ok (.goto 4, 3) := by decide +kernel
theorem dX7_does_69 : decode cX7_does 69 = .ok (.iconst 0, 1) := by decide +kernel
theorem dX7_does_70 : decode cX7_does 70 = .ok (.ireturn, 1) := by decide +kernel
theorem dX7_does_71 : decode cX7_does 71 = .ok (.aload_n 0, 1) := by decide +kernel
theorem dX7_does_72 : decode cX7_does 72 = .ok (.aload_n 0, 1) := by decide +kernel
theorem dX7_does_73 : decode cX7_does 73 = .ok (.getfield 22, 3) := by decide +kernel
theorem dX7_does_76 : decode cX7_does 76 = .ok (.iconst 0, 1) := by decide +kernel
theorem dX7_does_77 : decode cX7_does 77 = .ok (.iaload, 1) := by decide +kernel
theorem dX7_does_78 : decode cX7_does 78 = .ok (.iconst (-1), 1) := by decide +kernel
theorem dX7_does_79 : decode cX7_does 79 = .ok (.invokevirtual 87, 3) := by decide +kernel
theorem dX7_does_82 : decode cX7_does 82 = .ok (.ifCond .eq 39, 3) := by decide +kernel
theorem dX7_does_85 : decode cX7_does 85 = .ok (.aload_n 0, 1) := by decide +kernel
theorem dX7_does_86 : decode cX7_does 86 = .ok (.aload_n 0, 1) := by decide +kernel
theorem dX7_does_87 : decode cX7_does 87 = .ok (.getfield 22, 3) := by decide +kernel
theorem dX7_does_90 : decode cX7_does 90 = .ok (.iconst 0, 1) := by decide +kernel
theorem dX7_does_91 : decode cX7_does 91 = .ok (.iaload, 1) := by decide +kernel
theorem dX7_does_92 : decode cX7_does 92 = .ok (.iconst (-1), 1) := by decide +kernel
theorem dX7_does_93 : decode cX7_does 93 = .ok (.aload_n 0, 1) := by decide +kernel
theorem dX7_does_94 : decode cX7_does 94 = .ok (.getfield 22, 3) := by decide +kernel
theorem dX7_does_97 : decode cX7_does 97 = .ok (.iconst 1, 1) := by decide +kernel
theorem dX7_does_98 : decode cX7_does 98 = .ok (.iaload, 1) := by decide +kernel
theorem dX7_does_99 : decode cX7_does 99 = .ok (.aload_n 0, 1) := by decide +kernel
theorem dX7_does_100 : decode cX7_does 100 = .ok (.getfield 22, 3) := by decide +kernel
theorem dX7_does_103 : decode cX7_does 103 = .ok (.iconst 2, 1) := by decide +kernel
theorem dX7_does_104 : decode cX7_does 104 = .ok (.iaload, 1) := by decide +kernel
theorem dX7_does_105 : decode cX7_does 105 = .ok (.aload_n 0, 1) := by decide +kernel
theorem dX7_does_106 : decode cX7_does 106 = .ok (.getfield 22, 3) := by decide +kernel
theorem dX7_does_109 : decode cX7_does 109 = .ok (.iconst 3, 1) := by decide +kernel
theorem dX7_does_110 : decode cX7_does 110 = .ok (.iaload, 1) := by decide +kernel
theorem dX7_does_111 : decode cX7_does 111 = .ok (.invokevirtual 90, 3) := by decide +kernel
theorem dX7_does_114 : decode cX7_does 114 = .ok (.ifCond .lt 7, 3) := by decide +kernel
theorem dX7_does_117 : decode cX7_does 117 = .ok (.iconst 1, 1) := by decide +kernel
theorem dX7_does_118 : decode cX7_does 118 = .ok (.goto 4, 3) := by decide +kernel
theorem dX7_does_121 : decode cX7_does 121 = .ok (.iconst 0, 1) := by decide +kernel
theorem dX7_does_122 : decode cX7_does 122 = .ok (.ireturn, 1) := by decide +kernel
theorem dX7_carryOut_0 : decode cX7_carryOut 0 = .ok (.aload_n 0, 1) := by decide +kernel
theorem dX7_carryOut_1 : decode cX7_carryOut 1 = .ok (.iconst 0, 1) := by decide +kernel
theorem dX7_carryOut_2 : decode cX7_carryOut 2 = .ok (.putfield 131, 3) := by decide +kernel
theorem dX7_carryOut_5 : decode cX7_carryOut 5 = .ok (.aload_n 0, 1) := by decide +kernel
theorem dX7_carryOut_6 : decode cX7_carryOut 6 = .ok (.getfield 131, 3) := by decide +kernel
theorem dX7_carryOut_9 : decode cX7_carryOut 9 = .ok (.aload_n 0, 1) := by decide +kernel
theorem dX7_carryOut_10 : decode cX7_carryOut 10 = .ok (.getfield 128, 3) := by decide +kernel
theorem dX7_carryOut_13 : decode cX7_carryOut 13 = .ok (.if_icmp .ge 22, 3) := by decide +kernel
theorem dX7_carryOut_16 : decode cX7_carryOut 16 = .ok (.aload_n 0, 1) := by decide +kernel
theorem dX7_carryOut_17 : decode cX7_carryOut 17 = .ok (.invokevirtual 146, 3) := by decide +kernel
theorem dX7_carryOut_20 : decode cX7_carryOut 20 = .ok (.ifCond .ne (-15), 3) := by decide +kernel
theorem dX7_carryOut_23 : decode cX7_carryOut 23 = .ok (.aload_n 0, 1) := by decide +kernel
theorem dX7_carryOut_24 : decode cX7_carryOut 24 = .ok (.bipush (-10), 2) := by decide +kernel
theorem dX7_carryOut_26 : decode cX7_carryOut 26 = .ok (.aload_n 0, 1) := by decide +kernel
theorem dX7_carryOut_27 : decode cX7_carryOut 27 = .ok (.getfield 131, 3) := by decide +kernel
theorem dX7_carryOut_30 : decode cX7_carryOut 30 = .ok (.isub, 1) := by decide +kernel
theorem dX7_carryOut_31 : decode cX7_carryOut 31 = .ok (.invokevirtual 70, 3) := by decide +kernel
theorem dX7_carryOut_34 : decode cX7_carryOut 34 = .ok (.ireturn, 1) := by decide +kernel
theorem dX7_carryOut_35 : decode cX7_carryOut 35 = .ok (.aload_n 0, 1) := by decide +kernel
theorem dX7_carryOut_36 : decode cX7_carryOut 36 = .ok (.invokevirtual 67, 3) := by decide +kernel
theorem dX7_carryOut_39 : decode cX7_carryOut 39 = .ok (.aload_n 0, 1) := by decide +kernel
theorem dX7_carryOut_40 : decode cX7_carryOut 40 = .ok (.iconst 0, 1) := by decide +kernel
theorem dX7_carryOut_41 : decode cX7_carryOut 41 = .ok (.putfield 131, 3) := by decide +kernel
theorem dX7_carryOut_44 : decode cX7_carryOut 44 = .ok (.iconst 0, 1) := by decide +kernel
theorem dX7_carryOut_45 : decode cX7_carryOut 45 = .ok (.istore_n 1, 1) := by decide +kernel
theorem dX7_carryOut_46 : decode cX7_carryOut 46 = .ok (.iconst 1, 1) := by decide +kernel
theorem dX7_carryOut_47 : decode cX7_carryOut 47 = .ok (.istore_n 2, 1) := by decide +kernel
theorem dX7_carryOut_48 : decode cX7_carryOut 48 = .ok (.iload_n 2, 1) := by decide +kernel
theorem dX7_carryOut_49 : decode cX7_carryOut 49 = .ok (.ifCond .eq 60, 3) := by decide +kernel
theorem dX7_carryOut_52 : decode cX7_carryOut 52 = .ok (.aload_n 0, 1) := by decide +kernel
theorem dX7_carryOut_53 : decode cX7_carryOut 53 = .ok (.getfield 131, 3) := by decide +kernel
theorem dX7_carryOut_56 : decode cX7_carryOut 56 = .ok (.aload_n 0, 1) := by decide +kernel
theorem dX7_carryOut_57 : decode cX7_carryOut 57 = .ok (.getfield 128, 3) := by decide +kernel
theorem dX7_carryOut_60 : decode cX7_carryOut 60 = .ok (.if_icmp .ge 49, 3) := by decide +kernel
theorem dX7_carryOut_63 : decode cX7_carryOut 63 = .ok (.aload_n 0, 1) := by decide +kernel
theorem dX7_carryOut_64 : decode cX7_carryOut 64 = .ok (.getfield 19, 3) := by decide +kernel
theorem dX7_carryOut_67 : decode cX7_carryOut 67 = .ok (.aload_n 0, 1) := by decide +kernel
theorem dX7_carryOut_68 : decode cX7_carryOut 68 = .ok (.getfield 131, 3) := by decide +kernel
theorem dX7_carryOut_71 : decode cX7_carryOut 71 = .ok (.iaload, 1) := by decide +kernel
theorem dX7_carryOut_72 : decode cX7_carryOut 72 = .ok (.istore_n 3, 1) := by decide +kernel
theorem dX7_carryOut_73 : decode cX7_carryOut 73 = .ok (.aload_n 0, 1) := by decide +kernel
theorem dX7_carryOut_74 : decode cX7_carryOut 74 = .ok (.invokevirtual 146, 3) := by decide +kernel
theorem dX7_carryOut_77 : decode cX7_carryOut 77 = .ok (.ifCond .eq 15, 3) := by decide +kernel
theorem dX7_carryOut_80 : decode cX7_carryOut 80 = .ok (.aload_n 0, 1) := by decide +kernel
theorem dX7_carryOut_81 : decode cX7_carryOut 81 = .ok (.iload_n 3, 1) := by decide +kernel
theorem dX7_carryOut_82 : decode cX7_carryOut 82 = .ok (.invokevirtual 150, 3) := by decide +kernel
theorem dX7_carryOut_85 : decode cX7_carryOut 85 = .ok (.ifCond .eq 7, 3) := by decide +kernel
theorem dX7_carryOut_88 : decode cX7_carryOut 88 = .ok (.iconst 1, 1) := by decide +kernel
theorem dX7_carryOut_89 : decode cX7_carryOut 89 = .ok (.goto 4, 3) := by decide +kernel
theorem dX7_carryOut_92 : decode cX7_carryOut 92 = .ok (.iconst 0, 1) := by decide +kernel
theorem dX7_carryOut_93 : decode cX7_carryOut 93 = .ok (.istore_n 2, 1) := by decide +kernel
theorem dX7_carryOut_94 : decode cX7_carryOut 94 = .ok (.iload_n 1, 1) := by decide +kernel
theorem dX7_carryOut_95 : decode cX7_carryOut 95 = .ok (.iload_n 2, 1) := by decide +kernel
theorem dX7_carryOut_96 : decode cX7_carryOut 96 = .ok (.ifCond .eq 7, 3) := by decide +kernel
theorem dX7_carryOut_99 : decode cX7_carryOut 99 = .ok (.iconst 1, 1) := by decide +kernel
theorem dX7_carryOut_100 : decode cX7_carryOut 100 = .ok (.goto 4, 3) := by decide +kernel
theorem dX7_carryOut_103 : decode cX7_carryOut 103 = .ok (.iconst 0, 1) := by decide +kernel
theorem dX7_carryOut_104 : decode cX7_carryOut 104 = .ok (.iadd, 1) := by decide +kernel
theorem dX7_carryOut_105 : decode cX7_carryOut 105 = .ok (.istore_n 1, 1) := by decide +kernel
theorem dX7_carryOut_106 : decode cX7_carryOut 106 = .ok (.goto (-58), 3) := by decide +kernel
theorem dX7_carryOut_109 : decode cX7_carryOut 109 = .ok (.aload_n 0, 1) := by decide +kernel
theorem dX7_carryOut_110 : decode cX7_carryOut 110 = .ok (.iload_n 1, 1) := by decide +kernel
theorem dX7_carryOut_111 : decode cX7_carryOut 111 = .ok (.invokevirtual 70, 3) := by decide +kernel
theorem dX7_carryOut_114 : decode cX7_carryOut 114 = .ok (.ireturn, 1) := by decide +kernel
theorem dX7_undo_0 : decode cX7_undo 0 = .ok (.aload_n 0, 1) := by decide +kernel
theorem dX7_undo_1 : decode cX7_undo 1 = .ok (.getfield 29, 3) := by decide +kernel
theorem dX7_undo_4 : decode cX7_undo 4 = .ok (.ifCond .ne 9, 3) := by decide +kernel
theorem dX7_undo_7 : decode cX7_undo 7 = .ok (.aload_n 0, 1) := by decide +kernel
theorem dX7_undo_8 : decode cX7_undo 8 = .ok (.iconst 1, 1) := by decide +kernel
theorem dX7_undo_9 : decode cX7_undo 9 = .ok (.invokevirtual 77, 3) := by decide +kernel
theorem dX7_undo_12 : decode cX7_undo 12 = .ok (.ireturn, 1) := by decide +kernel
theorem dX7_undo_13 : decode cX7_undo 13 = .ok (.aload_n 0, 1) := by decide +kernel
theorem dX7_undo_14 : decode cX7_undo 14 = .ok (.dup, 1) := by decide +kernel
theorem dX7_undo_15 : decode cX7_undo 15 = .ok (.getfield 29, 3) := by decide +kernel
theorem dX7_undo_18 : decode cX7_undo 18 = .ok (.iconst 1, 1) := by decide +kernel
theorem dX7_undo_19 : decode cX7_undo 19 = .ok (.isub, 1) := by decide +kernel
theorem dX7_undo_20 : decode cX7_undo 20 = .ok (.putfield 29, 3) := by decide +kernel
theorem dX7_undo_23 : decode cX7_undo 23 = .ok (.iconst 0, 1) := by decide +kernel
theorem dX7_undo_24 : decode cX7_undo 24 = .ok (.istore_n 1, 1) := by decide +kernel
theorem dX7_undo_25 : decode cX7_undo 25 = .ok (.iload_n 1, 1) := by decide +kernel
theorem dX7_undo_26 : decode cX7_undo 26 = .ok (.sipush 424, 3) := by decide +kernel
theorem dX7_undo_29 : decode cX7_undo 29 = .ok (.if_icmp .ge 30, 3) := by decide +kernel
theorem dX7_undo_32 : decode cX7_undo 32 = .ok (.aload_n 0, 1) := by decide +kernel
theorem dX7_undo_33 : decode cX7_undo 33 = .ok (.getfield 7, 3) := by decide +kernel
theorem dX7_undo_36 : decode cX7_undo 36 = .ok (.iload_n 1, 1) := by decide +kernel
theorem dX7_undo_37 : decode cX7_undo 37 = .ok (.aload_n 0, 1) := by decide +kernel
theorem dX7_undo_38 : decode cX7_undo 38 = .ok (.getfield 13, 3) := by decide +kernel
theorem dX7_undo_41 : decode cX7_undo 41 = .ok (.sipush 424, 3) := by decide +kernel
theorem dX7_undo_44 : decode cX7_undo 44 = .ok (.aload_n 0, 1) := by decide +kernel
theorem dX7_undo_45 : decode cX7_undo 45 = .ok (.getfield 29, 3) := by decide +kernel
theorem dX7_undo_48 : decode cX7_undo 48 = .ok (.imul, 1) := by decide +kernel
theorem dX7_undo_49 : decode cX7_undo 49 = .ok (.iload_n 1, 1) := by decide +kernel
theorem dX7_undo_50 : decode cX7_undo 50 = .ok (.iadd, 1) := by decide +kernel
theorem dX7_undo_51 : decode cX7_undo 51 = .ok (.iaload, 1) := by decide +kernel
theorem dX7_undo_52 : decode cX7_undo 52 = .ok (.iastore, 1) := by decide +kernel
theorem dX7_undo_53 : decode cX7_undo 53 = .ok (.iinc 1 1, 3) := by decide +kernel
theorem dX7_undo_56 : decode cX7_undo 56 = .ok (.goto (-31), 3) := by decide +kernel
theorem dX7_undo_59 : decode cX7_undo 59 = .ok (.aload_n 0, 1) := by decide +kernel
theorem dX7_undo_60 : decode cX7_undo 60 = .ok (.aload_n 0, 1) := by decide +kernel
theorem dX7_undo_61 : decode cX7_undo 61 = .ok (.getfield 29, 3) := by decide +kernel
theorem dX7_undo_64 : decode cX7_undo 64 = .ok (.invokevirtual 70, 3) := by decide +kernel
theorem dX7_undo_67 : decode cX7_undo 67 = .ok (.ireturn, 1) := by decide +kernel
theorem dX7_mix_0 : decode cX7_mix 0 = .ok (.aload_n 0, 1) := by decide +kernel
theorem dX7_mix_1 : decode cX7_mix 1 = .ok (.ldc2_w 153, 3) := by decide +kernel
theorem dX7_mix_4 : decode cX7_mix 4 = .ok (.aload_n 0, 1) := by decide +kernel
theorem dX7_mix_5 : decode cX7_mix 5 = .ok (.getfield 155, 3) := by decide +kernel
theorem dX7_mix_8 : decode cX7_mix 8 = .ok (.lmul, 1) := by decide +kernel
theorem dX7_mix_9 : decode cX7_mix 9 = .ok (.iload_n 1, 1) := by decide +kernel
theorem dX7_mix_10 : decode cX7_mix 10 = .ok (.i2l, 1) := by decide +kernel
theorem dX7_mix_11 : decode cX7_mix 11 = .ok (.ladd, 1) := by decide +kernel
theorem dX7_mix_12 : decode cX7_mix 12 = .ok (.putfield 155, 3) := by decide +kernel
theorem dX7_mix_15 : decode cX7_mix 15 = .ok (.return_, 1) := by decide +kernel
theorem dX7_digest_0 : decode cX7_digest 0 = .ok (.aload_n 0, 1) := by decide +kernel
theorem dX7_digest_1 : decode cX7_digest 1 = .ok (.iconst 0, 1) := by decide +kernel
theorem dX7_digest_2 : decode cX7_digest 2 = .ok (.putfield 25, 3) := by decide +kernel
theorem dX7_digest_5 : decode cX7_digest 5 = .ok (.aload_n 0, 1) := by decide +kernel
theorem dX7_digest_6 : decode cX7_digest 6 = .ok (.ldc2_w 159, 3) := by decide +kernel
theorem dX7_digest_9 : decode cX7_digest 9 = .ok (.putfield 155, 3) := by decide +kernel
theorem dX7_digest_12 : decode cX7_digest 12 = .ok (.aload_n 0, 1) := by decide +kernel
theorem dX7_digest_13 : decode cX7_digest 13 = .ok (.aload_n 0, 1) := by decide +kernel
theorem dX7_digest_14 : decode cX7_digest 14 = .ok (.getfield 128, 3) := by decide +kernel
theorem dX7_digest_17 : decode cX7_digest 17 = .ok (.invokevirtual 161, 3) := by decide +kernel
theorem dX7_digest_20 : decode cX7_digest 20 = .ok (.iconst 0, 1) := by decide +kernel
theorem dX7_digest_21 : decode cX7_digest 21 = .ok (.istore_n 1, 1) := by decide +kernel
theorem dX7_digest_22 : decode cX7_digest 22 = .ok (.iload_n 1, 1) := by decide +kernel
theorem dX7_digest_23 : decode cX7_digest 23 = .ok (.bipush 14, 2) := by decide +kernel
theorem dX7_digest_25 : decode cX7_digest 25 = .ok (.if_icmp .ge 18, 3) := by decide +kernel
theorem dX7_digest_28 : decode cX7_digest 28 = .ok (.aload_n 0, 1) := by decide +kernel
theorem dX7_digest_29 : decode cX7_digest 29 = .ok (.aload_n 0, 1) := by decide +kernel
theorem dX7_digest_30 : decode cX7_digest 30 = .ok (.iload_n 1, 1) := by decide +kernel
theorem dX7_digest_31 : decode cX7_digest 31 = .ok (.invokevirtual 119, 3) := by decide +kernel
theorem dX7_digest_34 : decode cX7_digest 34 = .ok (.invokevirtual 161, 3) := by decide +kernel
theorem dX7_digest_37 : decode cX7_digest 37 = .ok (.iinc 1 1, 3) := by decide +kernel
theorem dX7_digest_40 : decode cX7_digest 40 = .ok (.goto (-18), 3) := by decide +kernel
theorem dX7_digest_43 : decode cX7_digest 43 = .ok (.iconst 0, 1) := by decide +kernel
theorem dX7_digest_44 : decode cX7_digest 44 = .ok (.istore_n 1, 1) := by decide +kernel
theorem dX7_digest_45 : decode cX7_digest 45 = .ok (.iload_n 1, 1) := by decide +kernel
theorem dX7_digest_46 : decode cX7_digest 46 = .ok (.iconst 4, 1) := by decide +kernel
theorem dX7_digest_47 : decode cX7_digest 47 = .ok (.if_icmp .ge 22, 3) := by decide +kernel
theorem dX7_digest_50 : decode cX7_digest 50 = .ok (.aload_n 0, 1) := by decide +kernel
theorem dX7_digest_51 : decode cX7_digest 51 = .ok (.aload_n 0, 1) := by decide +kernel
theorem dX7_digest_52 : decode cX7_digest 52 = .ok (.getfield 7, 3) := by decide +kernel
theorem dX7_digest_55 : decode cX7_digest 55 = .ok (.bipush 12, 2) := by decide +kernel
theorem dX7_digest_57 : decode cX7_digest 57 = .ok (.iload_n 1, 1) := by decide +kernel
theorem dX7_digest_58 : decode cX7_digest 58 = .ok (.iadd, 1) := by decide +kernel
theorem dX7_digest_59 : decode cX7_digest 59 = .ok (.iaload, 1) := by decide +kernel
theorem dX7_digest_60 : decode cX7_digest 60 = .ok (.invokevirtual 161, 3) := by decide +kernel
theorem dX7_digest_63 : decode cX7_digest 63 = .ok (.iinc 1 1, 3) := by decide +kernel
theorem dX7_digest_66 : decode cX7_digest 66 = .ok (.goto (-21), 3) := by decide +kernel
theorem dX7_digest_69 : decode cX7_digest 69 = .ok (.iconst 0, 1) := by decide +kernel
theorem dX7_digest_70 : decode cX7_digest 70 = .ok (.istore_n 1, 1) := by decide +kernel
theorem dX7_digest_71 : decode cX7_digest 71 = .ok (.iload_n 1, 1) := by decide +kernel
theorem dX7_digest_72 : decode cX7_digest 72 = .ok (.bipush 8, 2) := by decide +kernel
theorem dX7_digest_74 : decode cX7_digest 74 = .ok (.if_icmp .ge 22, 3) := by decide +kernel
theorem dX7_digest_77 : decode cX7_digest 77 = .ok (.aload_n 0, 1) := by decide +kernel
theorem dX7_digest_78 : decode cX7_digest 78 = .ok (.aload_n 0, 1) := by decide +kernel
theorem dX7_digest_79 : decode cX7_digest 79 = .ok (.getfield 7, 3) := by decide +kernel
theorem dX7_digest_82 : decode cX7_digest 82 = .ok (.bipush 16, 2) := by decide +kernel
theorem dX7_digest_84 : decode cX7_digest 84 = .ok (.iload_n 1, 1) := by decide +kernel
theorem dX7_digest_85 : decode cX7_digest 85 = .ok (.iadd, 1) := by decide +kernel
theorem dX7_digest_86 : decode cX7_digest 86 = .ok (.iaload, 1) := by decide +kernel
theorem dX7_digest_87 : decode cX7_digest 87 = .ok (.invokevirtual 161, 3) := by decide +kernel
theorem dX7_digest_90 : decode cX7_digest 90 = .ok (.iinc 1 1, 3) := by decide +kernel
theorem dX7_digest_93 : decode cX7_digest 93 = .ok (.goto (-22), 3) := by decide +kernel
theorem dX7_digest_96 : decode cX7_digest 96 = .ok (.iconst 0, 1) := by decide +kernel
theorem dX7_digest_97 : decode cX7_digest 97 = .ok (.istore_n 1, 1) := by decide +kernel
theorem dX7_digest_98 : decode cX7_digest 98 = .ok (.iload_n 1, 1) := by decide +kernel
theorem dX7_digest_99 : decode cX7_digest 99 = .ok (.aload_n 0, 1) := by decide +kernel
theorem dX7_digest_100 : decode cX7_digest 100 = .ok (.getfield 7, 3) := by decide +kernel
theorem dX7_digest_103 : decode cX7_digest 103 = .ok (.iconst 1, 1) := by decide +kernel
theorem dX7_digest_104 : decode cX7_digest 104 = .ok (.iaload, 1) := by decide +kernel
theorem dX7_digest_105 : decode cX7_digest 105 = .ok (.if_icmp .ge 49, 3) := by decide +kernel
theorem dX7_digest_108 : decode cX7_digest 108 = .ok (.aload_n 0, 1) := by decide +kernel
theorem dX7_digest_109 : decode cX7_digest 109 = .ok (.iload_n 1, 1) := by decide +kernel
theorem dX7_digest_110 : decode cX7_digest 110 = .ok (.invokevirtual 57, 3) := by decide +kernel
theorem dX7_digest_113 : decode cX7_digest 113 = .ok (.istore_n 2, 1) := by decide +kernel
theorem dX7_digest_114 : decode cX7_digest 114 = .ok (.aload_n 0, 1) := by decide +kernel
theorem dX7_digest_115 : decode cX7_digest 115 = .ok (.aload_n 0, 1) := by decide +kernel
theorem dX7_digest_116 : decode cX7_digest 116 = .ok (.iload_n 2, 1) := by decide +kernel
theorem dX7_digest_117 : decode cX7_digest 117 = .ok (.iconst 0, 1) := by decide +kernel
theorem dX7_digest_118 : decode cX7_digest 118 = .ok (.invokevirtual 32, 3) := by decide +kernel
theorem dX7_digest_121 : decode cX7_digest 121 = .ok (.invokevirtual 161, 3) := by decide +kernel
theorem dX7_digest_124 : decode cX7_digest 124 = .ok (.iconst 0, 1) := by decide +kernel
theorem dX7_digest_125 : decode cX7_digest 125 = .ok (.istore_n 3, 1) := by decide +kernel
theorem dX7_digest_126 : decode cX7_digest 126 = .ok (.iload_n 3, 1) := by decide +kernel
theorem dX7_digest_127 : decode cX7_digest 127 = .ok (.bipush 10, 2) := by decide +kernel
theorem dX7_digest_129 : decode cX7_digest 129 = .ok (.if_icmp .ge 19, 3) := by decide +kernel
theorem dX7_digest_132 : decode cX7_digest 132 = .ok (.aload_n 0, 1) := by decide +kernel
theorem dX7_digest_133 : decode cX7_digest 133 = .ok (.aload_n 0, 1) := by decide +kernel
theorem dX7_digest_134 : decode cX7_digest 134 = .ok (.iload_n 2, 1) := by decide +kernel
theorem dX7_digest_135 : decode cX7_digest 135 = .ok (.iload_n 3, 1) := by decide +kernel
theorem dX7_digest_136 : decode cX7_digest 136 = .ok (.invokevirtual 110, 3) := by decide +kernel
theorem dX7_digest_139 : decode cX7_digest 139 = .ok (.invokevirtual 161, 3) := by decide +kernel
theorem dX7_digest_142 : decode cX7_digest 142 = .ok (.iinc 3 1, 3) := by decide +kernel
theorem dX7_digest_145 : decode cX7_digest 145 = .ok (.goto (-19), 3) := by decide +kernel
theorem dX7_digest_148 : decode cX7_digest 148 = .ok (.iinc 1 1, 3) := by decide +kernel
theorem dX7_digest_151 : decode cX7_digest 151 = .ok (.goto (-53), 3) := by decide +kernel
theorem dX7_digest_154 : decode cX7_digest 154 = .ok (.iconst 0, 1) := by decide +kernel
theorem dX7_digest_155 : decode cX7_digest 155 = .ok (.istore_n 1, 1) := by decide +kernel
theorem dX7_digest_156 : decode cX7_digest 156 = .ok (.iload_n 1, 1) := by decide +kernel
theorem dX7_digest_157 : decode cX7_digest 157 = .ok (.iconst 5, 1) := by decide +kernel
theorem dX7_digest_158 : decode cX7_digest 158 = .ok (.aload_n 0, 1) := by decide +kernel
theorem dX7_digest_159 : decode cX7_digest 159 = .ok (.getfield 7, 3) := by decide +kernel
theorem dX7_digest_162 : decode cX7_digest 162 = .ok (.bipush 11, 2) := by decide +kernel
theorem dX7_digest_164 : decode cX7_digest 164 = .ok (.iaload, 1) := by decide +kernel
theorem dX7_digest_165 : decode cX7_digest 165 = .ok (.imul, 1) := by decide +kernel
theorem dX7_digest_166 : decode cX7_digest 166 = .ok (.if_icmp .ge 22, 3) := by decide +kernel
theorem dX7_digest_169 : decode cX7_digest 169 = .ok (.aload_n 0, 1) := by decide +kernel
theorem dX7_digest_170 : decode cX7_digest 170 = .ok (.aload_n 0, 1) := by decide +kernel
theorem dX7_digest_171 : decode cX7_digest 171 = .ok (.getfield 7, 3) := by decide +kernel
theorem dX7_digest_174 : decode cX7_digest 174 = .ok (.bipush 24, 2) := by decide +kernel
theorem dX7_digest_176 : decode cX7_digest 176 = .ok (.iload_n 1, 1) := by decide +kernel
theorem dX7_digest_177 : decode cX7_digest 177 = .ok (.iadd, 1) := by decide +kernel
theorem dX7_digest_178 : decode cX7_digest 178 = .ok (.iaload, 1) := by decide +kernel
theorem dX7_digest_179 : decode cX7_digest 179 = .ok (.invokevirtual 161, 3) := by decide +kernel
theorem dX7_digest_182 : decode cX7_digest 182 = .ok (.iinc 1 1, 3) := by decide +kernel
theorem dX7_digest_185 : decode cX7_digest 185 = .ok (.goto (-29), 3) := by decide +kernel
theorem dX7_digest_188 : decode cX7_digest 188 = .ok (.aload_n 0, 1) := by decide +kernel
theorem dX7_digest_189 : decode cX7_digest 189 = .ok (.aload_n 0, 1) := by decide +kernel
theorem dX7_digest_190 : decode cX7_digest 190 = .ok (.getfield 29, 3) := by decide +kernel
theorem dX7_digest_193 : decode cX7_digest 193 = .ok (.invokevirtual 161, 3) := by decide +kernel
theorem dX7_digest_196 : decode cX7_digest 196 = .ok (.aload_n 0, 1) := by decide +kernel
theorem dX7_digest_197 : decode cX7_digest 197 = .ok (.getfield 155, 3) := by decide +kernel
theorem dX7_digest_200 : decode cX7_digest 200 = .ok (.lreturn, 1) := by decide +kernel
