theorem dX0_init_0 : decode cX0_init 0 = .ok (.aload_n 0, 1) := by decide +kernel
theorem dX0_init_1 : decode cX0_init 1 = .ok (.invokespecial 3, 3) := by decide +kernel
theorem dX0_init_4 : decode cX0_init 4 = .ok (.aload_n 0, 1) := by decide +kernel
theorem dX0_init_5 : decode cX0_init 5 = .ok (.bipush 80, 2) := by decide +kernel
theorem dX0_init_7 : decode cX0_init 7 = .ok (.newarray .int, 2) := by decide +kernel
theorem dX0_init_9 : decode cX0_init 9 = .ok (.putfield 9, 3) := by decide +kernel
theorem dX0_init_12 : decode cX0_init 12 = .ok (.return_, 1) := by decide +kernel
theorem dX0_at_0 : decode cX0_at 0 = .ok (.iload_n 1, 1) := by decide +kernel
theorem dX0_at_1 : decode cX0_at 1 = .ok (.ifCond .lt 20, 3) := by decide +kernel
theorem dX0_at_4 : decode cX0_at 4 = .ok (.iload_n 1, 1) := by decide +kernel
theorem dX0_at_5 : decode cX0_at 5 = .ok (.aload_n 0, 1) := by decide +kernel
theorem dX0_at_6 : decode cX0_at 6 = .ok (.getfield 15, 3) := by decide +kernel
theorem dX0_at_9 : decode cX0_at 9 = .ok (.if_icmp .ge 12, 3) := by decide +kernel
theorem dX0_at_12 : decode cX0_at 12 = .ok (.iload_n 2, 1) := by decide +kernel
theorem dX0_at_13 : decode cX0_at 13 = .ok (.ifCond .lt 8, 3) := by decide +kernel
theorem dX0_at_16 : decode cX0_at 16 = .ok (.iload_n 2, 1) := by decide +kernel
theorem dX0_at_17 : decode cX0_at 17 = .ok (.iconst 5, 1) := by decide +kernel
theorem dX0_at_18 : decode cX0_at 18 = .ok (.if_icmp .lt 5, 3) := by decide +kernel
theorem dX0_at_21 : decode cX0_at 21 = .ok (.iconst (-1), 1) := by decide +kernel
theorem dX0_at_22 : decode cX0_at 22 = .ok (.ireturn, 1) := by decide +kernel
theorem dX0_at_23 : decode cX0_at 23 = .ok (.iload_n 1, 1) := by decide +kernel
theorem dX0_at_24 : decode cX0_at 24 = .ok (.iconst 5, 1) := by decide +kernel
theorem dX0_at_25 : decode cX0_at 25 = .ok (.imul, 1) := by decide +kernel
theorem dX0_at_26 : decode cX0_at 26 = .ok (.iload_n 2, 1) := by decide +kernel
theorem dX0_at_27 : decode cX0_at 27 = .ok (.iadd, 1) := by decide +kernel
theorem dX0_at_28 : decode cX0_at 28 = .ok (.istore_n 3, 1) := by decide +kernel
theorem dX0_at_29 : decode cX0_at 29 = .ok (.iload_n 3, 1) := by decide +kernel
theorem dX0_at_30 : decode cX0_at 30 = .ok (.ifCond .lt 21, 3) := by decide +kernel
theorem dX0_at_33 : decode cX0_at 33 = .ok (.iload_n 3, 1) := by decide +kernel
theorem dX0_at_34 : decode cX0_at 34 = .ok (.aload_n 0, 1) := by decide +kernel
theorem dX0_at_35 : decode cX0_at 35 = .ok (.getfield 9, 3) := by decide +kernel
theorem dX0_at_38 : decode cX0_at 38 = .ok (.arraylength, 1) := by decide +kernel
theorem dX0_at_39 : decode cX0_at 39 = .ok (.if_icmp .ge 12, 3) := by decide +kernel
theorem dX0_at_42 : decode cX0_at 42 = .ok (.aload_n 0, 1) := by decide +kernel
theorem dX0_at_43 : decode cX0_at 43 = .ok (.getfield 9, 3) := by decide +kernel
theorem dX0_at_46 : decode cX0_at 46 = .ok (.iload_n 3, 1) := by decide +kernel
theorem dX0_at_47 : decode cX0_at 47 = .ok (.iaload, 1) := by decide +kernel
theorem dX0_at_48 : decode cX0_at 48 = .ok (.goto 4, 3) := by decide +kernel
theorem dX0_at_51 : decode cX0_at 51 = .ok (.iconst (-1), 1) := by decide +kernel
theorem dX0_at_52 : decode cX0_at 52 = .ok (.ireturn, 1) := by decide +kernel
theorem dX0_add_0 : decode cX0_add 0 = .ok (.aload_n 0, 1) := by decide +kernel
theorem dX0_add_1 : decode cX0_add 1 = .ok (.getfield 9, 3) := by decide +kernel
theorem dX0_add_4 : decode cX0_add 4 = .ok (.iconst 0, 1) := by decide +kernel
theorem dX0_add_5 : decode cX0_add 5 = .ok (.aload_n 0, 1) := by decide +kernel
theorem dX0_add_6 : decode cX0_add 6 = .ok (.getfield 9, 3) := by decide +kernel
theorem dX0_add_9 : decode cX0_add 9 = .ok (.iconst 5, 1) := by decide +kernel
theorem dX0_add_10 : decode cX0_add 10 = .ok (.aload_n 0, 1) := by decide +kernel
theorem dX0_add_11 : decode cX0_add 11 = .ok (.getfield 9, 3) := by decide +kernel
theorem dX0_add_14 : decode cX0_add 14 = .ok (.arraylength, 1) := by decide +kernel
theorem dX0_add_15 : decode cX0_add 15 = .ok (.iconst 5, 1) := by decide +kernel
theorem dX0_add_16 : decode cX0_add 16 = .ok (.isub, 1) := by decide +kernel
theorem dX0_add_17 : decode cX0_add 17 = .ok (.invokestatic 19, 3) := by decide +kernel
theorem dX0_add_20 : decode cX0_add 20 = .ok (.aload_n 0, 1) := by decide +kernel
theorem dX0_add_21 : decode cX0_add 21 = .ok (.getfield 9, 3) := by decide +kernel
theorem dX0_add_24 : decode cX0_add 24 = .ok (.iconst 0, 1) := by decide +kernel
theorem dX0_add_25 : decode cX0_add 25 = .ok (.iload_n 1, 1) := by decide +kernel
theorem dX0_add_26 : decode cX0_add 26 = .ok (.iastore, 1) := by decide +kernel
theorem dX0_add_27 : decode cX0_add 27 = .ok (.aload_n 0, 1) := by decide +kernel
theorem dX0_add_28 : decode cX0_add 28 = .ok (.getfield 9, 3) := by decide +kernel
theorem dX0_add_31 : decode cX0_add 31 = .ok (.iconst 1, 1) := by decide +kernel
theorem dX0_add_32 : decode cX0_add 32 = .ok (.iload_n 2, 1) := by decide +kernel
theorem dX0_add_33 : decode cX0_add 33 = .ok (.iastore, 1) := by decide +kernel
theorem dX0_add_34 : decode cX0_add 34 = .ok (.aload_n 0, 1) := by decide +kernel
theorem dX0_add_35 : decode cX0_add 35 = .ok (.getfield 9, 3) := by decide +kernel
theorem dX0_add_38 : decode cX0_add 38 = .ok (.iconst 2, 1) := by decide +kernel
theorem dX0_add_39 : decode cX0_add 39 = .ok (.iload_n 3, 1) := by decide +kernel
theorem dX0_add_40 : decode cX0_add 40 = .ok (.iastore, 1) := by decide +kernel
theorem dX0_add_41 : decode cX0_add 41 = .ok (.aload_n 0, 1) := by decide +kernel
theorem dX0_add_42 : decode cX0_add 42 = .ok (.getfield 9, 3) := by decide +kernel
theorem dX0_add_45 : decode cX0_add 45 = .ok (.iconst 3, 1) := by decide +kernel
theorem dX0_add_46 : decode cX0_add 46 = .ok (.iload 4, 2) := by decide +kernel
theorem dX0_add_48 : decode cX0_add 48 = .ok (.iastore, 1) := by decide +kernel
theorem dX0_add_49 : decode cX0_add 49 = .ok (.aload_n 0, 1) := by decide +kernel
theorem dX0_add_50 : decode cX0_add 50 = .ok (.getfield 9, 3) := by decide +kernel
theorem dX0_add_53 : decode cX0_add 53 = .ok (.iconst 4, 1) := by decide +kernel
theorem dX0_add_54 : decode cX0_add 54 = .ok (.iload 5, 2) := by decide +kernel
theorem dX0_add_56 : decode cX0_add 56 = .ok (.iastore, 1) := by decide +kernel
theorem dX0_add_57 : decode cX0_add 57 = .ok (.aload_n 0, 1) := by decide +kernel
theorem dX0_add_58 : decode cX0_add 58 = .ok (.getfield 15, 3) := by decide +kernel
theorem dX0_add_61 : decode cX0_add 61 = .ok (.bipush 16, 2) := by decide +kernel
theorem dX0_add_63 : decode cX0_add 63 = .ok (.if_icmp .ge 13, 3) := by decide +kernel
theorem dX0_add_66 : decode cX0_add 66 = .ok (.aload_n 0, 1) := by decide +kernel
theorem dX0_add_67 : decode cX0_add 67 = .ok (.dup, 1) := by decide +kernel
theorem dX0_add_68 : decode cX0_add 68 = .ok (.getfield 15, 3) := by decide +kernel
theorem dX0_add_71 : decode cX0_add 71 = .ok (.iconst 1, 1) := by decide +kernel
theorem dX0_add_72 : decode cX0_add 72 = .ok (.iadd, 1) := by decide +kernel
theorem dX0_add_73 : decode cX0_add 73 = .ok (.putfield 15, 3) := by decide +kernel
theorem dX0_add_76 : decode cX0_add 76 = .ok (.return_, 1) := by decide +kernel
theorem dX0_copyFrom_0 : decode cX0_copyFrom 0 = .ok (.aload_n 0, 1) := by decide +kernel
theorem dX0_copyFrom_1 : decode cX0_copyFrom 1 = .ok (.aload_n 1, 1) := by decide +kernel
theorem dX0_copyFrom_2 : decode cX0_copyFrom 2 = .ok (.getfield 15, 3) := by decide +kernel
theorem dX0_copyFrom_5 : decode cX0_copyFrom 5 = .ok (.putfield 15, 3) := by decide +kernel
theorem dX0_copyFrom_8 : decode cX0_copyFrom 8 = .ok (.aload_n 1, 1) := by decide +kernel
theorem dX0_copyFrom_9 : decode cX0_copyFrom 9 = .ok (.getfield 9, 3) := by decide +kernel
theorem dX0_copyFrom_12 : decode cX0_copyFrom 12 = .ok (.iconst 0, 1) := by decide +kernel
theorem dX0_copyFrom_13 : decode cX0_copyFrom 13 = .ok (.aload_n 0, 1) := by decide +kernel
theorem dX0_copyFrom_14 : decode cX0_copyFrom 14 = .ok (.getfield 9, 3) := by decide +kernel
theorem dX0_copyFrom_17 : decode cX0_copyFrom 17 = .ok (.iconst 0, 1) := by decide +kernel
theorem dX0_copyFrom_18 : decode cX0_copyFrom 18 = .ok (.aload_n 0, 1) := by decide +kernel
theorem dX0_copyFrom_19 : decode cX0_copyFrom 19 = .ok (.getfield 9, 3) := by decide +kernel
theorem dX0_copyFrom_22 : decode cX0_copyFrom 22 = .ok (.arraylength, 1) := by decide +kernel
theorem dX0_copyFrom_23 : decode cX0_copyFrom 23 = .ok (.invokestatic 19, 3) := by decide +kernel
theorem dX0_copyFrom_26 : decode cX0_copyFrom 26 = .ok (.return_, 1) := by decide +kernel
theorem dX1_init_0 : decode cX1_init 0 = .ok (.aload_n 0, 1) := by decide +kernel
theorem dX1_init_1 : decode cX1_init 1 = .ok (.invokespecial 3, 3) := by decide +kernel
theorem dX1_init_4 : decode cX1_init 4 = .ok (.aload_n 0, 1) := by decide +kernel
theorem dX1_init_5 : decode cX1_init 5 = .ok (.new 9, 3) := by decide +kernel
theorem dX1_init_8 : decode cX1_init 8 = .ok (.dup, 1) := by decide +kernel
theorem dX1_init_9 : decode cX1_init 9 = .ok (.invokespecial 11, 3) := by decide +kernel
theorem dX1_init_12 : decode cX1_init 12 = .ok (.putfield 12, 3) := by decide +kernel
theorem dX1_init_15 : decode cX1_init 15 = .ok (.aload_n 0, 1) := by decide +kernel
theorem dX1_init_16 : decode cX1_init 16 = .ok (.iconst (-1), 1) := by decide +kernel
theorem dX1_init_17 : decode cX1_init 17 = .ok (.putfield 18, 3) := by decide +kernel
theorem dX1_init_20 : decode cX1_init 20 = .ok (.return_, 1) := by decide +kernel
theorem dX1_startAnew_0 : decode cX1_startAnew 0 = .ok (.aload_n 0, 1) := by decide +kernel
theorem dX1_startAnew_1 : decode cX1_startAnew 1 = .ok (.iconst 0, 1) := by decide +kernel
theorem dX1_startAnew_2 : decode cX1_startAnew 2 = .ok (.putfield 22, 3) := by decide +kernel
theorem dX1_startAnew_5 : decode cX1_startAnew 5 = .ok (.aload_n 0, 1) := by decide +kernel
theorem dX1_startAnew_6 : decode cX1_startAnew 6 = .ok (.iconst (-1), 1) := by decide +kernel
theorem dX1_startAnew_7 : decode cX1_startAnew 7 = .ok (.putfield 18, 3) := by decide +kernel
theorem dX1_startAnew_10 : decode cX1_startAnew 10 = .ok (.return_, 1) := by decide +kernel
theorem dX1_isAtEnd_0 : decode cX1_isAtEnd 0 = .ok (.aload_n 0, 1) := by decide +kernel
theorem dX1_isAtEnd_1 : decode cX1_isAtEnd 1 = .ok (.getfield 22, 3) := by decide +kernel
theorem dX1_isAtEnd_4 : decode cX1_isAtEnd 4 = .ok (.aload_n 0, 1) := by decide +kernel
theorem dX1_isAtEnd_5 : decode cX1_isAtEnd 5 = .ok (.getfield 12, 3) := by decide +kernel
theorem dX1_isAtEnd_8 : decode cX1_isAtEnd 8 = .ok (.getfield 25, 3) := by decide +kernel
theorem dX1_isAtEnd_11 : decode cX1_isAtEnd 11 = .ok (.if_icmp .lt 7, 3) := by decide +kernel
theorem dX1_isAtEnd_14 : decode cX1_isAtEnd 14 = .ok (.iconst 1, 1) := by decide +kernel
theorem dX1_isAtEnd_15 : decode cX1_isAtEnd 15 = .ok (.goto 4, 3) := by decide +kernel
theorem dX1_isAtEnd_18 : decode cX1_isAtEnd 18 = .ok (.iconst 0, 1) := by decide +kernel
theorem dX1_isAtEnd_19 : decode cX1_isAtEnd 19 = .ok (.ireturn, 1) := by decide +kernel
theorem dX1_findError_0 : decode cX1_findError 0 = .ok (.aload_n 0, 1) := by decide +kernel
theorem dX1_findError_1 : decode cX1_findError 1 = .ok (.invokevirtual 28, 3) := by decide +kernel
theorem dX1_findError_4 : decode cX1_findError 4 = .ok (.iconst 0, 1) := by decide +kernel
theorem dX1_findError_5 : decode cX1_findError 5 = .ok (.istore_n 1, 1) := by decide +kernel
theorem dX1_findError_6 : decode cX1_findError 6 = .ok (.iload_n 1, 1) := by decide +kernel
theorem dX1_findError_7 : decode cX1_findError 7 = .ok (.bipush 100, 2) := by decide +kernel
theorem dX1_findError_9 : decode cX1_findError 9 = .ok (.if_icmp .ge 28, 3) := by decide +kernel
theorem dX1_findError_12 : decode cX1_findError 12 = .ok (.aload_n 0, 1) := by decide +kernel
theorem dX1_findError_13 : decode cX1_findError 13 = .ok (.getfield 18, 3) := by decide +kernel
theorem dX1_findError_16 : decode cX1_findError 16 = .ok (.iconst (-1), 1) := by decide +kernel
theorem dX1_findError_17 : decode cX1_findError 17 = .ok (.if_icmp .ne 20, 3) := by decide +kernel
theorem dX1_findError_20 : decode cX1_findError 20 = .ok (.aload_n 0, 1) := by decide +kernel
theorem dX1_findError_21 : decode cX1_findError 21 = .ok (.invokevirtual 31, 3) := by decide +kernel
theorem dX1_findError_24 : decode cX1_findError 24 = .ok (.ifCond .ne 13, 3) := by decide +kernel
theorem dX1_findError_27 : decode cX1_findError 27 = .ok (.aload_n 0, 1) := by decide +kernel
theorem dX1_findError_28 : decode cX1_findError 28 = .ok (.invokevirtual 35, 3) := by decide +kernel
theorem dX1_findError_31 : decode cX1_findError 31 = .ok (.iinc 1 1, 3) := by decide +kernel
theorem dX1_findError_34 : decode cX1_findError 34 = .ok (.goto (-28), 3) := by decide +kernel
theorem dX1_findError_37 : decode cX1_findError 37 = .ok (.aload_n 0, 1) := by decide +kernel
theorem dX1_findError_38 : decode cX1_findError 38 = .ok (.getfield 18, 3) := by decide +kernel
theorem dX1_findError_41 : decode cX1_findError 41 = .ok (.ireturn, 1) := by decide +kernel
theorem dX1_readOrder_0 : decode cX1_readOrder 0 = .ok (.aload_n 0, 1) := by decide +kernel
theorem dX1_readOrder_1 : decode cX1_readOrder 1 = .ok (.aload_n 0, 1) := by decide +kernel
theorem dX1_readOrder_2 : decode cX1_readOrder 2 = .ok (.getfield 12, 3) := by decide +kernel
theorem dX1_readOrder_5 : decode cX1_readOrder 5 = .ok (.aload_n 0, 1) := by decide +kernel
theorem dX1_readOrder_6 : decode cX1_readOrder 6 = .ok (.getfield 22, 3) := by decide +kernel
theorem dX1_readOrder_9 : decode cX1_readOrder 9 = .ok (.invokevirtual 38, 3) := by decide +kernel
theorem dX1_readOrder_12 : decode cX1_readOrder 12 = .ok (.putfield 42, 3) := by decide +kernel
theorem dX1_readOrder_15 : decode cX1_readOrder 15 = .ok (.aload_n 0, 1) := by decide +kernel
theorem dX1_readOrder_16 : decode cX1_readOrder 16 = .ok (.iconst 0, 1) := by decide +kernel
theorem dX1_readOrder_17 : decode cX1_readOrder 17 = .ok (.putfield 45, 3) := by decide +kernel
theorem dX1_readOrder_20 : decode cX1_readOrder 20 = .ok (.aload_n 0, 1) := by decide +kernel
theorem dX1_readOrder_21 : decode cX1_readOrder 21 = .ok (.iconst 0, 1) := by decide +kernel
theorem dX1_readOrder_22 : decode cX1_readOrder 22 = .ok (.putfield 48, 3) := by decide +kernel
theorem dX1_readOrder_25 : decode cX1_readOrder 25 = .ok (.aload_n 0, 1) := by decide +kernel
theorem dX1_readOrder_26 : decode cX1_readOrder 26 = .ok (.iconst 0, 1) := by decide +kernel
theorem dX1_readOrder_27 : decode cX1_readOrder 27 = .ok (.putfield 51, 3) := by decide +kernel
theorem dX1_readOrder_30 : decode cX1_readOrder 30 = .ok (.aload_n 0, 1) := by decide +kernel
theorem dX1_readOrder_31 : decode cX1_readOrder 31 = .ok (.iconst 0, 1) := by decide +kernel
theorem dX1_readOrder_32 : decode cX1_readOrder 32 = .ok (.putfield 54, 3) := by decide +kernel
theorem dX1_readOrder_35 : decode cX1_readOrder 35 = .ok (.aload_n 0, 1) := by decide +kernel
theorem dX1_readOrder_36 : decode cX1_readOrder 36 = .ok (.iconst 0, 1) := by decide +kernel
theorem dX1_readOrder_37 : decode cX1_readOrder 37 = .ok (.putfield 57, 3) := by decide +kernel
theorem dX1_readOrder_40 : decode cX1_readOrder 40 = .ok (.aload_n 0, 1) := by decide +kernel
theorem dX1_readOrder_41 : decode cX1_readOrder 41 = .ok (.dup, 1) := by decide +kernel
theorem dX1_readOrder_42 : decode cX1_readOrder 42 = .ok (.getfield 22, 3) := by decide +kernel
theorem dX1_readOrder_45 : decode cX1_readOrder 45 = .ok (.iconst 1, 1) := by decide +kernel
theorem dX1_readOrder_46 : decode cX1_readOrder 46 = .ok (.iadd, 1) := by decide +kernel
theorem dX1_readOrder_47 : decode cX1_readOrder 47 = .ok (.putfield 22, 3) := by decide +kernel
theorem dX1_readOrder_50 : decode cX1_readOrder 50 = .ok (.aload_n 0, 1) := by decide +kernel
theorem dX1_readOrder_51 : decode cX1_readOrder 51 = .ok (.getfield 42, 3) := by decide +kernel
theorem dX1_readOrder_54 : decode cX1_readOrder 54 = .ok (.lookupswitch 90 #[(98, 49), (112, 42), (115, 73), (116, 76)], 42) := by decide +kernel
theorem dX1_readOrder_96 : decode cX1_readOrder 96 = .ok (.aload_n 0, 1) := by decide +kernel
theorem dX1_readOrder_97 : decode cX1_readOrder 97 = .ok (.invokevirtual 60, 3) := by decide +kernel
theorem dX1_readOrder_100 : decode cX1_readOrder 100 = .ok (.goto 54, 3) := by decide +kernel
theorem dX1_readOrder_103 : decode cX1_readOrder 103 = .ok (.aload_n 0, 1) := by decide +kernel
theorem dX1_readOrder_104 : decode cX1_readOrder 104 = .ok (.invokevirtual 60, 3) := by decide +kernel
theorem dX1_readOrder_107 : decode cX1_readOrder 107 = .ok (.aload_n 0, 1) := by decide +kernel
theorem dX1_readOrder_108 : decode cX1_readOrder 108 = .ok (.bipush 44, 2) := by decide +kernel
theorem dX1_readOrder_110 : decode cX1_readOrder 110 = .ok (.invokevirtual 63, 3) := by decide +kernel
theorem dX1_readOrder_113 : decode cX1_readOrder 113 = .ok (.aload_n 0, 1) := by decide +kernel
theorem dX1_readOrder_114 : decode cX1_readOrder 114 = .ok (.aload_n 0, 1) := by decide +kernel
theorem dX1_readOrder_115 : decode cX1_readOrder 115 = .ok (.iconst 3, 1) := by decide +kernel
theorem dX1_readOrder_116 : decode cX1_readOrder 116 = .ok (.bipush 100, 2) := by decide +kernel
theorem dX1_readOrder_118 : decode cX1_readOrder 118 = .ok (.invokevirtual 67, 3) := by decide +kernel
theorem dX1_readOrder_121 : decode cX1_readOrder 121 = .ok (.putfield 54, 3) := by decide +kernel
theorem dX1_readOrder_124 : decode cX1_readOrder 124 = .ok (.goto 30, 3) := by decide +kernel
theorem dX1_readOrder_127 : decode cX1_readOrder 127 = .ok (.goto 27, 3) := by decide +kernel
theorem dX1_readOrder_130 : decode cX1_readOrder 130 = .ok (.aload_n 0, 1) := by decide +kernel
theorem dX1_readOrder_131 : decode cX1_readOrder 131 = .ok (.aload_n 0, 1) := by decide +kernel
theorem dX1_readOrder_132 : decode cX1_readOrder 132 = .ok (.iconst 2, 1) := by decide +kernel
theorem dX1_readOrder_133 : decode cX1_readOrder 133 = .ok (.bipush 50, 2) := by decide +kernel
theorem dX1_readOrder_135 : decode cX1_readOrder 135 = .ok (.invokevirtual 67, 3) := by decide +kernel
theorem dX1_readOrder_138 : decode cX1_readOrder 138 = .ok (.putfield 57, 3) := by decide +kernel
theorem dX1_readOrder_141 : decode cX1_readOrder 141 = .ok (.goto 13, 3) := by decide +kernel
theorem dX1_readOrder_144 : decode cX1_readOrder 144 = .ok (.aload_n 0, 1) := by decide +kernel
theorem dX1_readOrder_145 : decode cX1_readOrder 145 = .ok (.aload_n 0, 1) := by decide +kernel
theorem dX1_readOrder_146 : decode cX1_readOrder 146 = .ok (.getfield 22, 3) := by decide +kernel
theorem dX1_readOrder_149 : decode cX1_readOrder 149 = .ok (.iconst 1, 1) := by decide +kernel
theorem dX1_readOrder_150 : decode cX1_readOrder 150 = .ok (.isub, 1) := by decide +kernel
theorem dX1_readOrder_151 : decode cX1_readOrder 151 = .ok (.putfield 18, 3) := by decide +kernel
theorem dX1_readOrder_154 : decode cX1_readOrder 154 = .ok (.aload_n 0, 1) := by decide +kernel
theorem dX1_readOrder_155 : decode cX1_readOrder 155 = .ok (.bipush 59, 2) := by decide +kernel
theorem dX1_readOrder_157 : decode cX1_readOrder 157 = .ok (.invokevirtual 63, 3) := by decide +kernel
theorem dX1_readOrder_160 : decode cX1_readOrder 160 = .ok (.return_, 1) := by decide +kernel
theorem dX1_readSending_0 : decode cX1_readSending 0 = .ok (.aload_n 0, 1) := by decide +kernel
theorem dX1_readSending_1 : decode cX1_readSending 1 = .ok (.aload_n 0, 1) := by decide +kernel
theorem dX1_readSending_2 : decode cX1_readSending 2 = .ok (.bipush 7, 2) := by decide +kernel
theorem dX1_readSending_4 : decode cX1_readSending 4 = .ok (.invokevirtual 71, 3) := by decide +kernel
theorem dX1_readSending_7 : decode cX1_readSending 7 = .ok (.putfield 45, 3) := by decide +kernel
theorem dX1_readSending_10 : decode cX1_readSending 10 = .ok (.aload_n 0, 1) := by decide +kernel
theorem dX1_readSending_11 : decode cX1_readSending 11 = .ok (.aload_n 0, 1) := by decide +kernel
theorem dX1_readSending_12 : decode cX1_readSending 12 = .ok (.iconst 4, 1) := by decide +kernel
theorem dX1_readSending_13 : decode cX1_readSending 13 = .ok (.invokevirtual 71, 3) := by decide +kernel
theorem dX1_readSending_16 : decode cX1_readSending 16 = .ok (.putfield 48, 3) := by decide +kernel
theorem dX1_readSending_19 : decode cX1_readSending 19 = .ok (.aload_n 0, 1) := by decide +kernel
theorem dX1_readSending_20 : decode cX1_readSending 20 = .ok (.bipush 44, 2) := by decide +kernel
theorem dX1_readSending_22 : decode cX1_readSending 22 = .ok (.invokevirtual 63, 3) := by decide +kernel
theorem dX1_readSending_25 : decode cX1_readSending 25 = .ok (.aload_n 0, 1) := by decide +kernel
theorem dX1_readSending_26 : decode cX1_readSending 26 = .ok (.aload_n 0, 1) := by decide +kernel
theorem dX1_readSending_27 : decode cX1_readSending 27 = .ok (.iconst 3, 1) := by decide +kernel
theorem dX1_readSending_28 : decode cX1_readSending 28 = .ok (.sipush 200, 3) := by decide +kernel
theorem dX1_readSending_31 : decode cX1_readSending 31 = .ok (.invokevirtual 67, 3) := by decide +kernel
theorem dX1_readSending_34 : decode cX1_readSending 34 = .ok (.putfield 51, 3) := by decide +kernel
theorem dX1_readSending_37 : decode cX1_readSending 37 = .ok (.return_, 1) := by decide +kernel
theorem dX1_readSign_0 : decode cX1_readSign 0 = .ok (.aload_n 0, 1) := by decide +kernel
theorem dX1_readSign_1 : decode cX1_readSign 1 = .ok (.getfield 18, 3) := by decide +kernel
theorem dX1_readSign_4 : decode cX1_readSign 4 = .ok (.iconst (-1), 1) := by decide +kernel
theorem dX1_readSign_5 : decode cX1_readSign 5 = .ok (.if_icmp .eq 4, 3) := by decide +kernel
theorem dX1_readSign_8 : decode cX1_readSign 8 = .ok (.return_, 1) := by decide +kernel
theorem dX1_readSign_9 : decode cX1_readSign 9 = .ok (.aload_n 0, 1) := by decide +kernel
theorem dX1_readSign_10 : decode cX1_readSign 10 = .ok (.getfield 12, 3) := by decide +kernel
theorem dX1_readSign_13 : decode cX1_readSign 13 = .ok (.aload_n 0, 1) := by decide +kernel
theorem dX1_readSign_14 : decode cX1_readSign 14 = .ok (.getfield 22, 3) := by decide +kernel
theorem dX1_readSign_17 : decode cX1_readSign 17 = .ok (.invokevirtual 38, 3) := by decide +kernel
theorem dX1_readSign_20 : decode cX1_readSign 20 = .ok (.iload_n 1, 1) := by decide +kernel
theorem dX1_readSign_21 : decode cX1_readSign 21 = .ok (.if_icmp .ne 16, 3) := by decide +kernel
theorem dX1_readSign_24 : decode cX1_readSign 24 = .ok (.aload_n 0, 1) := by decide +kernel
theorem dX1_readSign_25 : decode cX1_readSign 25 = .ok (.dup, 1) := by decide +kernel
theorem dX1_readSign_26 : decode cX1_readSign 26 = .ok (.getfield 22, 3) := by decide +kernel
theorem dX1_readSign_29 : decode cX1_readSign 29 = .ok (.iconst 1, 1) := by decide +kernel
theorem dX1_readSign_30 : decode cX1_readSign 30 = .ok (.iadd, 1) := by decide +kernel
theorem dX1_readSign_31 : decode cX1_readSign 31 = .ok (.putfield 22, 3) := by decide +kernel
theorem dX1_readSign_34 : decode cX1_readSign 34 = .ok (.goto 11, 3) := by decide +kernel
theorem dX1_readSign_37 : decode cX1_readSign 37 = .ok (.aload_n 0, 1) := by decide +kernel
theorem dX1_readSign_38 : decode cX1_readSign 38 = .ok (.aload_n 0, 1) := by decide +kernel
theorem dX1_readSign_39 : decode cX1_readSign 39 = .ok (.getfield 22, 3) := by decide +kernel
theorem dX1_readSign_42 : decode cX1_readSign 42 = .ok (.putfield 18, 3) := by decide +kernel
theorem dX1_readSign_45 : decode cX1_readSign 45 = .ok (.return_, 1) := by decide +kernel
theorem dX1_readDigit_0 : decode cX1_readDigit 0 = .ok (.aload_n 0, 1) := by decide +kernel
theorem dX1_readDigit_1 : decode cX1_readDigit 1 = .ok (.getfield 18, 3) := by decide +kernel
theorem dX1_readDigit_4 : decode cX1_readDigit 4 = .ok (.iconst (-1), 1) := by decide +kernel
theorem dX1_readDigit_5 : decode cX1_readDigit 5 = .ok (.if_icmp .eq 5, 3) := by decide +kernel
theorem dX1_readDigit_8 : decode cX1_readDigit 8 = .ok (.iconst 0, 1) := by decide +kernel
theorem dX1_readDigit_9 : decode cX1_readDigit 9 = .ok (.ireturn, 1) := by decide +kernel
theorem dX1_readDigit_10 : decode cX1_readDigit 10 = .ok (.aload_n 0, 1) := by decide +kernel
theorem dX1_readDigit_11 : decode cX1_readDigit 11 = .ok (.getfield 12, 3) := by decide +kernel
theorem dX1_readDigit_14 : decode cX1_readDigit 14 = .ok (.aload_n 0, 1) := by decide +kernel
theorem dX1_readDigit_15 : decode cX1_readDigit 15 = .ok (.getfield 22, 3) := by decide +kernel
theorem dX1_readDigit_18 : decode cX1_readDigit 18 = .ok (.invokevirtual 38, 3) := by decide +kernel
theorem dX1_readDigit_21 : decode cX1_readDigit 21 = .ok (.bipush 48, 2) := by decide +kernel
theorem dX1_readDigit_23 : decode cX1_readDigit 23 = .ok (.isub, 1) := by decide +kernel
theorem dX1_readDigit_24 : decode cX1_readDigit 24 = .ok (.istore_n 2, 1) := by decide +kernel
theorem dX1_readDigit_25 : decode cX1_readDigit 25 = .ok (.iload_n 2, 1) := by decide +kernel
theorem dX1_readDigit_26 : decode cX1_readDigit 26 = .ok (.ifCond .lt 8, 3) := by decide +kernel
theorem dX1_readDigit_29 : decode cX1_readDigit 29 = .ok (.iload_n 2, 1) := by decide +kernel
theorem dX1_readDigit_30 : decode cX1_readDigit 30 = .ok (.iload_n 1, 1) := by decide +kernel
theorem dX1_readDigit_31 : decode cX1_readDigit 31 = .ok (.if_icmp .le 13, 3) := by decide +kernel
theorem dX1_readDigit_34 : decode cX1_readDigit 34 = .ok (.aload_n 0, 1) := by decide +kernel
theorem dX1_readDigit_35 : decode cX1_readDigit 35 = .ok (.aload_n 0, 1) := by decide +kernel
theorem dX1_readDigit_36 : decode cX1_readDigit 36 = .ok (.getfield 22, 3) := by decide +kernel
theorem dX1_readDigit_39 : decode cX1_readDigit 39 = .ok (.putfield 18, 3) := by decide +kernel
theorem dX1_readDigit_42 : decode cX1_readDigit 42 = .ok (.iconst 0, 1) := by decide +kernel
theorem dX1_readDigit_43 : decode cX1_readDigit 43 = .ok (.ireturn, 1) := by decide +kernel
theorem dX1_readDigit_44 : decode cX1_readDigit 44 = .ok (.aload_n 0, 1) := by decide +kernel
theorem dX1_readDigit_45 : decode cX1_readDigit 45 = .ok (.dup, 1) := by decide +kernel
theorem dX1_readDigit_46 : decode cX1_readDigit 46 = .ok (.getfield 22, 3) := by decide +kernel
theorem dX1_readDigit_49 : decode cX1_readDigit 49 = .ok (.iconst 1, 1) := by decide +kernel
theorem dX1_readDigit_50 : decode cX1_readDigit 50 = .ok (.iadd, 1) := by decide +kernel
theorem dX1_readDigit_51 : decode cX1_readDigit 51 = .ok (.putfield 22, 3) := by decide +kernel
theorem dX1_readDigit_54 : decode cX1_readDigit 54 = .ok (.iload_n 2, 1) := by decide +kernel
theorem dX1_readDigit_55 : decode cX1_readDigit 55 = .ok (.ireturn, 1) := by decide +kernel
theorem dX1_readNumber_0 : decode cX1_readNumber 0 = .ok (.aload_n 0, 1) := by decide +kernel
theorem dX1_readNumber_1 : decode cX1_readNumber 1 = .ok (.getfield 18, 3) := by decide +kernel
theorem dX1_readNumber_4 : decode cX1_readNumber 4 = .ok (.iconst (-1), 1) := by decide +kernel
theorem dX1_readNumber_5 : decode cX1_readNumber 5 = .ok (.if_icmp .eq 5, 3) := by decide +kernel
theorem dX1_readNumber_8 : decode cX1_readNumber 8 = .ok (.iconst 0, 1) := by decide +kernel
theorem dX1_readNumber_9 : decode cX1_readNumber 9 = .ok (.ireturn, 1) := by decide +kernel
theorem dX1_readNumber_10 : decode cX1_readNumber 10 = .ok (.aload_n 0, 1) := by decide +kernel
theorem dX1_readNumber_11 : decode cX1_readNumber 11 = .ok (.getfield 22, 3) := by decide +kernel
theorem dX1_readNumber_14 : decode cX1_readNumber 14 = .ok (.istore_n 3, 1) := by decide +kernel
theorem dX1_readNumber_15 : decode cX1_readNumber 15 = .ok (.iconst 0, 1) := by decide +kernel
theorem dX1_readNumber_16 : decode cX1_readNumber 16 = .ok (.istore 4, 2) := by decide +kernel
theorem dX1_readNumber_18 : decode cX1_readNumber 18 = .ok (.iconst 0, 1) := by decide +kernel
theorem dX1_readNumber_19 : decode cX1_readNumber 19 = .ok (.istore 5, 2) := by decide +kernel
theorem dX1_readNumber_21 : decode cX1_readNumber 21 = .ok (.iload 5, 2) := by decide +kernel
theorem dX1_readNumber_23 : decode cX1_readNumber 23 = .ok (.iload_n 1, 1) := by decide +kernel
theorem dX1_readNumber_24 : decode cX1_readNumber 24 = .ok (.if_icmp .ge 48, 3) := by decide +kernel
theorem dX1_readNumber_27 : decode cX1_readNumber 27 = .ok (.aload_n 0, 1) := by decide +kernel
theorem dX1_readNumber_28 : decode cX1_readNumber 28 = .ok (.invokevirtual 74, 3) := by decide +kernel
theorem dX1_readNumber_31 : decode cX1_readNumber 31 = .ok (.ifCond .eq 41, 3) := by decide +kernel
theorem dX1_readNumber_34 : decode cX1_readNumber 34 = .ok (.iload 4, 2) := by decide +kernel
theorem dX1_readNumber_36 : decode cX1_readNumber 36 = .ok (.bipush 10, 2) := by decide +kernel
theorem dX1_readNumber_38 : decode cX1_readNumber 38 = .ok (.imul, 1) := by decide +kernel
theorem dX1_readNumber_39 : decode cX1_readNumber 39 = .ok (.aload_n 0, 1) := by decide +kernel
theorem dX1_readNumber_40 : decode cX1_readNumber 40 = .ok (.getfield 12, 3) := by decide +kernel
theorem dX1_readNumber_43 : decode cX1_readNumber 43 = .ok (.aload_n 0, 1) := by decide +kernel
theorem dX1_readNumber_44 : decode cX1_readNumber 44 = .ok (.getfield 22, 3) := by decide +kernel
theorem dX1_readNumber_47 : decode cX1_readNumber 47 = .ok (.invokevirtual 38, 3) := by decide +kernel
theorem dX1_readNumber_50 : decode cX1_readNumber 50 = .ok (.iadd, 1) := by decide +kernel
theorem dX1_readNumber_51 : decode cX1_readNumber 51 = .ok (.bipush 48, 2) := by decide +kernel
theorem dX1_readNumber_53 : decode cX1_readNumber 53 = .ok (.isub, 1) := by decide +kernel
theorem dX1_readNumber_54 : decode cX1_readNumber 54 = .ok (.istore 4, 2) := by decide +kernel
theorem dX1_readNumber_56 : decode cX1_readNumber 56 = .ok (.aload_n 0, 1) := by decide +kernel
theorem dX1_readNumber_57 : decode cX1_readNumber 57 = .ok (.dup, 1) := by decide +kernel
theorem dX1_readNumber_58 : decode cX1_readNumber 58 = .ok (.getfield 22, 3) := by decide +kernel
theorem dX1_readNumber_61 : decode cX1_readNumber 61 = .ok (.iconst 1, 1) := by decide +kernel
theorem dX1_readNumber_62 : decode cX1_readNumber 62 = .ok (.iadd, 1) := by decide +kernel
theorem dX1_readNumber_63 : decode cX1_readNumber 63 = .ok (.putfield 22, 3) := by decide +kernel
theorem dX1_readNumber_66 : decode cX1_readNumber 66 = .ok (.iinc 5 1, 3) := by decide +kernel
theorem dX1_readNumber_69 : decode cX1_readNumber 69 = .ok (.goto (-48), 3) := by decide +kernel
theorem dX1_readNumber_72 : decode cX1_readNumber 72 = .ok (.aload_n 0, 1) := by decide +kernel
theorem dX1_readNumber_73 : decode cX1_readNumber 73 = .ok (.getfield 22, 3) := by decide +kernel
theorem dX1_readNumber_76 : decode cX1_readNumber 76 = .ok (.iload_n 3, 1) := by decide +kernel
theorem dX1_readNumber_77 : decode cX1_readNumber 77 = .ok (.if_icmp .eq 10, 3) := by decide +kernel
theorem dX1_readNumber_80 : decode cX1_readNumber 80 = .ok (.aload_n 0, 1) := by decide +kernel
theorem dX1_readNumber_81 : decode cX1_readNumber 81 = .ok (.invokevirtual 74, 3) := by decide +kernel
theorem dX1_readNumber_84 : decode cX1_readNumber 84 = .ok (.ifCond .eq 14, 3) := by decide +kernel
theorem dX1_readNumber_87 : decode cX1_readNumber 87 = .ok (.aload_n 0, 1) := by decide +kernel
theorem dX1_readNumber_88 : decode cX1_readNumber 88 = .ok (.aload_n 0, 1) := by decide +kernel
theorem dX1_readNumber_89 : decode cX1_readNumber 89 = .ok (.getfield 22, 3) := by decide +kernel
theorem dX1_readNumber_92 : decode cX1_readNumber 92 = .ok (.putfield 18, 3) := by decide +kernel
theorem dX1_readNumber_95 : decode cX1_readNumber 95 = .ok (.goto 20, 3) := by decide +kernel
theorem dX1_readNumber_98 : decode cX1_readNumber 98 = .ok (.iload 4, 2) := by decide +kernel
theorem dX1_readNumber_100 : decode cX1_readNumber 100 = .ok (.iconst 1, 1) := by decide +kernel
theorem dX1_readNumber_101 : decode cX1_readNumber 101 = .ok (.if_icmp .lt 9, 3) := by decide +kernel
theorem dX1_readNumber_104 : decode cX1_readNumber 104 = .ok (.iload 4, 2) := by decide +kernel
theorem dX1_readNumber_106 : decode cX1_readNumber 106 = .ok (.iload_n 2, 1) := by decide +kernel
theorem dX1_readNumber_107 : decode cX1_readNumber 107 = .ok (.if_icmp .le 8, 3) := by decide +kernel
theorem dX1_readNumber_110 : decode cX1_readNumber 110 = .ok (.aload_n 0, 1) := by decide +kernel
theorem dX1_readNumber_111 : decode cX1_readNumber 111 = .ok (.iload_n 3, 1) := by decide +kernel
theorem dX1_readNumber_112 : decode cX1_readNumber 112 = .ok (.putfield 18, 3) := by decide +kernel
theorem dX1_readNumber_115 : decode cX1_readNumber 115 = .ok (.iload 4, 2) := by decide +kernel
theorem dX1_readNumber_117 : decode cX1_readNumber 117 = .ok (.ireturn, 1) := by decide +kernel
theorem dX1_isDigitNext_0 : decode cX1_isDigitNext 0 = .ok (.aload_n 0, 1) := by decide +kernel
theorem dX1_isDigitNext_1 : decode cX1_isDigitNext 1 = .ok (.getfield 12, 3) := by decide +kernel
theorem dX1_isDigitNext_4 : decode cX1_isDigitNext 4 = .ok (.aload_n 0, 1) := by decide +kernel
theorem dX1_isDigitNext_5 : decode cX1_isDigitNext 5 = .ok (.getfield 22, 3) := by decide +kernel
theorem dX1_isDigitNext_8 : decode cX1_isDigitNext 8 = .ok (.invokevirtual 38, 3) := by decide +kernel
theorem dX1_isDigitNext_11 : decode cX1_isDigitNext 11 = .ok (.istore_n 1, 1) := by decide +kernel
theorem dX1_isDigitNext_12 : decode cX1_isDigitNext 12 = .ok (.iload_n 1, 1) := by decide +kernel
theorem dX1_isDigitNext_13 : decode cX1_isDigitNext 13 = .ok (.bipush 48, 2) := by decide +kernel
theorem dX1_isDigitNext_15 : decode cX1_isDigitNext 15 = .ok (.if_icmp .lt 13, 3) := by decide +kernel
theorem dX1_isDigitNext_18 : decode cX1_isDigitNext 18 = .ok (.iload_n 1, 1) := by decide +kernel
theorem dX1_isDigitNext_19 : decode cX1_isDigitNext 19 = .ok (.bipush 57, 2) := by decide +kernel
theorem dX1_isDigitNext_21 : decode cX1_isDigitNext 21 = .ok (.if_icmp .gt 7, 3) := by decide +kernel
theorem dX1_isDigitNext_24 : decode cX1_isDigitNext 24 = .ok (.iconst 1, 1) := by decide +kernel
theorem dX1_isDigitNext_25 : decode cX1_isDigitNext 25 = .ok (.goto 4, 3) := by decide +kernel
theorem dX1_isDigitNext_28 : decode cX1_isDigitNext 28 = .ok (.iconst 0, 1) := by decide +kernel
theorem dX1_isDigitNext_29 : decode cX1_isDigitNext 29 = .ok (.ireturn, 1) := by decide +kernel
theorem dX2_init_0 : decode cX2_init 0 = .ok (.aload_n 0, 1) := by decide +kernel
theorem dX2_init_1 : decode cX2_init 1 = .ok (.invokespecial 3, 3) := by decide +kernel
theorem dX2_init_4 : decode cX2_init 4 = .ok (.aload_n 0, 1) := by decide +kernel
theorem dX2_init_5 : decode cX2_init 5 = .ok (.sipush 320, 3) := by decide +kernel
theorem dX2_init_8 : decode cX2_init 8 = .ok (.newarray .int, 2) := by decide +kernel
theorem dX2_init_10 : decode cX2_init 10 = .ok (.putfield 9, 3) := by decide +kernel
theorem dX2_init_13 : decode cX2_init 13 = .ok (.return_, 1) := by decide +kernel
theorem dX2_at_0 : decode cX2_at 0 = .ok (.iload_n 1, 1) := by decide +kernel
theorem dX2_at_1 : decode cX2_at 1 = .ok (.ifCond .lt 21, 3) := by decide +kernel
theorem dX2_at_4 : decode cX2_at 4 = .ok (.iload_n 1, 1) := by decide +kernel
theorem dX2_at_5 : decode cX2_at 5 = .ok (.aload_n 0, 1) := by decide +kernel
theorem dX2_at_6 : decode cX2_at 6 = .ok (.getfield 15, 3) := by decide +kernel
theorem dX2_at_9 : decode cX2_at 9 = .ok (.if_icmp .ge 13, 3) := by decide +kernel
theorem dX2_at_12 : decode cX2_at 12 = .ok (.iload_n 2, 1) := by decide +kernel
theorem dX2_at_13 : decode cX2_at 13 = .ok (.ifCond .lt 9, 3) := by decide +kernel
theorem dX2_at_16 : decode cX2_at 16 = .ok (.iload_n 2, 1) := by decide +kernel
theorem dX2_at_17 : decode cX2_at 17 = .ok (.bipush 8, 2) := by decide +kernel
theorem dX2_at_19 : decode cX2_at 19 = .ok (.if_icmp .lt 5, 3) := by decide +kernel
theorem dX2_at_22 : decode cX2_at 22 = .ok (.iconst (-1), 1) := by decide +kernel
theorem dX2_at_23 : decode cX2_at 23 = .ok (.ireturn, 1) := by decide +kernel
theorem dX2_at_24 : decode cX2_at 24 = .ok (.iload_n 1, 1) := by decide +kernel
theorem dX2_at_25 : decode cX2_at 25 = .ok (.bipush 8, 2) := by decide +kernel
theorem dX2_at_27 : decode cX2_at 27 = .ok (.imul, 1) := by decide +kernel
theorem dX2_at_28 : decode cX2_at 28 = .ok (.iload_n 2, 1) := by decide +kernel
theorem dX2_at_29 : decode cX2_at 29 = .ok (.iadd, 1) := by decide +kernel
theorem dX2_at_30 : decode cX2_at 30 = .ok (.istore_n 3, 1) := by decide +kernel
theorem dX2_at_31 : decode cX2_at 31 = .ok (.iload_n 3, 1) := by decide +kernel
theorem dX2_at_32 : decode cX2_at 32 = .ok (.ifCond .lt 21, 3) := by decide +kernel
theorem dX2_at_35 : decode cX2_at 35 = .ok (.iload_n 3, 1) := by decide +kernel
theorem dX2_at_36 : decode cX2_at 36 = .ok (.aload_n 0, 1) := by decide +kernel
theorem dX2_at_37 : decode cX2_at 37 = .ok (.getfield 9, 3) := by decide +kernel
theorem dX2_at_40 : decode cX2_at 40 = .ok (.arraylength, 1) := by decide +kernel
theorem dX2_at_41 : decode cX2_at 41 = .ok (.if_icmp .ge 12, 3) := by decide +kernel
theorem dX2_at_44 : decode cX2_at 44 = .ok (.aload_n 0, 1) := by decide +kernel
theorem dX2_at_45 : decode cX2_at 45 = .ok (.getfield 9, 3) := by decide +kernel
theorem dX2_at_48 : decode cX2_at 48 = .ok (.iload_n 3, 1) := by decide +kernel
theorem dX2_at_49 : decode cX2_at 49 = .ok (.iaload, 1) := by decide +kernel
theorem dX2_at_50 : decode cX2_at 50 = .ok (.goto 4, 3) := by decide +kernel
theorem dX2_at_53 : decode cX2_at 53 = .ok (.iconst (-1), 1) := by decide +kernel
theorem dX2_at_54 : decode cX2_at 54 = .ok (.ireturn, 1) := by decide +kernel
theorem dX2_set_0 : decode cX2_set 0 = .ok (.iload_n 1, 1) := by decide +kernel
theorem dX2_set_1 : decode cX2_set 1 = .ok (.ifCond .lt 21, 3) := by decide +kernel
theorem dX2_set_4 : decode cX2_set 4 = .ok (.iload_n 1, 1) := by decide +kernel
theorem dX2_set_5 : decode cX2_set 5 = .ok (.aload_n 0, 1) := by decide +kernel
theorem dX2_set_6 : decode cX2_set 6 = .ok (.getfield 15, 3) := by decide +kernel
theorem dX2_set_9 : decode cX2_set 9 = .ok (.if_icmp .ge 13, 3) := by decide +kernel
theorem dX2_set_12 : decode cX2_set 12 = .ok (.iload_n 2, 1) := by decide +kernel
theorem dX2_set_13 : decode cX2_set 13 = .ok (.ifCond .lt 9, 3) := by decide +kernel
theorem dX2_set_16 : decode cX2_set 16 = .ok (.iload_n 2, 1) := by decide +kernel
theorem dX2_set_17 : decode cX2_set 17 = .ok (.bipush 8, 2) := by decide +kernel
theorem dX2_set_19 : decode cX2_set 19 = .ok (.if_icmp .lt 4, 3) := by decide +kernel
theorem dX2_set_22 : decode cX2_set 22 = .ok (.return_, 1) := by decide +kernel
theorem dX2_set_23 : decode cX2_set 23 = .ok (.iload_n 1, 1) := by decide +kernel
theorem dX2_set_24 : decode cX2_set 24 = .ok (.bipush 8, 2) := by decide +kernel
theorem dX2_set_26 : decode cX2_set 26 = .ok (.imul, 1) := by decide +kernel
theorem dX2_set_27 : decode cX2_set 27 = .ok (.iload_n 2, 1) := by decide +kernel
theorem dX2_set_28 : decode cX2_set 28 = .ok (.iadd, 1) := by decide +kernel
theorem dX2_set_29 : decode cX2_set 29 = .ok (.istore 4, 2) := by decide +kernel
theorem dX2_set_31 : decode cX2_set 31 = .ok (.iload 4, 2) := by decide +kernel
theorem dX2_set_33 : decode cX2_set 33 = .ok (.ifCond .lt 21, 3) := by decide +kernel
theorem dX2_set_36 : decode cX2_set 36 = .ok (.iload 4, 2) := by decide +kernel
theorem dX2_set_38 : decode cX2_set 38 = .ok (.aload_n 0, 1) := by decide +kernel
theorem dX2_set_39 : decode cX2_set 39 = .ok (.getfield 9, 3) := by decide +kernel
theorem dX2_set_42 : decode cX2_set 42 = .ok (.arraylength, 1) := by decide +kernel
theorem dX2_set_43 : decode cX2_set 43 = .ok (.if_icmp .ge 11, 3) := by decide +kernel
theorem dX2_set_46 : decode cX2_set 46 = .ok (.aload_n 0, 1) := by decide +kernel
theorem dX2_set_47 : decode cX2_set 47 = .ok (.getfield 9, 3) := by decide +kernel
theorem dX2_set_50 : decode cX2_set 50 = .ok (.iload 4, 2) := by decide +kernel
theorem dX2_set_52 : decode cX2_set 52 = .ok (.iload_n 3, 1) := by decide +kernel
theorem dX2_set_53 : decode cX2_set 53 = .ok (.iastore, 1) := by decide +kernel
theorem dX2_set_54 : decode cX2_set 54 = .ok (.return_, 1) := by decide +kernel
theorem dX2_addRow_0 : decode cX2_addRow 0 = .ok (.aload_n 0, 1) := by decide +kernel
theorem dX2_addRow_1 : decode cX2_addRow 1 = .ok (.getfield 15, 3) := by decide +kernel
theorem dX2_addRow_4 : decode cX2_addRow 4 = .ok (.bipush 40, 2) := by decide +kernel
theorem dX2_addRow_6 : decode cX2_addRow 6 = .ok (.if_icmp .lt 5, 3) := by decide +kernel
theorem dX2_addRow_9 : decode cX2_addRow 9 = .ok (.iconst (-1), 1) := by decide +kernel
theorem dX2_addRow_10 : decode cX2_addRow 10 = .ok (.ireturn, 1) := by decide +kernel
theorem dX2_addRow_11 : decode cX2_addRow 11 = .ok (.aload_n 0, 1) := by decide +kernel
theorem dX2_addRow_12 : decode cX2_addRow 12 = .ok (.getfield 15, 3) := by decide +kernel
theorem dX2_addRow_15 : decode cX2_addRow 15 = .ok (.istore_n 1, 1) := by decide +kernel
theorem dX2_addRow_16 : decode cX2_addRow 16 = .ok (.aload_n 0, 1) := by decide +kernel
theorem dX2_addRow_17 : decode cX2_addRow 17 = .ok (.dup, 1) := by decide +kernel
theorem dX2_addRow_18 : decode cX2_addRow 18 = .ok (.getfield 15, 3) := by decide +kernel
theorem dX2_addRow_21 : decode cX2_addRow 21 = .ok (.iconst 1, 1) := by decide +kernel
theorem dX2_addRow_22 : decode cX2_addRow 22 = .ok (.iadd, 1) := by decide +kernel
theorem dX2_addRow_23 : decode cX2_addRow 23 = .ok (.putfield 15, 3) := by decide +kernel
theorem dX2_addRow_26 : decode cX2_addRow 26 = .ok (.iconst 0, 1) := by decide +kernel
theorem dX2_addRow_27 : decode cX2_addRow 27 = .ok (.istore_n 2, 1) := by decide +kernel
theorem dX2_addRow_28 : decode cX2_addRow 28 = .ok (.iload_n 2, 1) := by decide +kernel
theorem dX2_addRow_29 : decode cX2_addRow 29 = .ok (.bipush 8, 2) := by decide +kernel
theorem dX2_addRow_31 : decode cX2_addRow 31 = .ok (.if_icmp .ge 16, 3) := by decide +kernel
theorem dX2_addRow_34 : decode cX2_addRow 34 = .ok (.aload_n 0, 1) := by decide +kernel
theorem dX2_addRow_35 : decode cX2_addRow 35 = .ok (.iload_n 1, 1) := by decide +kernel
theorem dX2_addRow_36 : decode cX2_addRow 36 = .ok (.iload_n 2, 1) := by decide +kernel
theorem dX2_addRow_37 : decode cX2_addRow 37 = .ok (.iconst 0, 1) := by decide +kernel
theorem dX2_addRow_38 : decode cX2_addRow 38 = .ok (.invokevirtual 19, 3) := by decide +kernel
theorem dX2_addRow_41 : decode cX2_addRow 41 = .ok (.iinc 2 1, 3) := by decide +kernel
theorem dX2_addRow_44 : decode cX2_addRow 44 = .ok (.goto (-16), 3) := by decide +kernel
theorem dX2_addRow_47 : decode cX2_addRow 47 = .ok (.iload_n 1, 1) := by decide +kernel
theorem dX2_addRow_48 : decode cX2_addRow 48 = .ok (.ireturn, 1) := by decide +kernel
theorem dX2_removeRow_0 : decode cX2_removeRow 0 = .ok (.iload_n 1, 1) := by decide +kernel
theorem dX2_removeRow_1 : decode cX2_removeRow 1 = .ok (.ifCond .lt 20, 3) := by decide +kernel
theorem dX2_removeRow_4 : decode cX2_removeRow 4 = .ok (.iload_n 1, 1) := by decide +kernel
theorem dX2_removeRow_5 : decode cX2_removeRow 5 = .ok (.aload_n 0, 1) := by decide +kernel
theorem dX2_removeRow_6 : decode cX2_removeRow 6 = .ok (.getfield 15, 3) := by decide +kernel
theorem dX2_removeRow_9 : decode cX2_removeRow 9 = .ok (.if_icmp .ge 12, 3) := by decide +kernel
theorem dX2_removeRow_12 : decode cX2_removeRow 12 = .ok (.aload_n 0, 1) := by decide +kernel
theorem dX2_removeRow_13 : decode cX2_removeRow 13 = .ok (.getfield 15, 3) := by decide +kernel
theorem dX2_removeRow_16 : decode cX2_removeRow 16 = .ok (.bipush 40, 2) := by decide +kernel
theorem dX2_removeRow_18 : decode cX2_removeRow 18 = .ok (.if_icmp .le 4, 3) := by decide +kernel
theorem dX2_removeRow_21 : decode cX2_removeRow 21 = .ok (.return_, 1) := by decide +kernel
theorem dX2_removeRow_22 : decode cX2_removeRow 22 = .ok (.iload_n 1, 1) := by decide +kernel
theorem dX2_removeRow_23 : decode cX2_removeRow 23 = .ok (.iconst 1, 1) := by decide +kernel
theorem dX2_removeRow_24 : decode cX2_removeRow 24 = .ok (.iadd, 1) := by decide +kernel
theorem dX2_removeRow_25 : decode cX2_removeRow 25 = .ok (.bipush 8, 2) := by decide +kernel
theorem dX2_removeRow_27 : decode cX2_removeRow 27 = .ok (.imul, 1) := by decide +kernel
theorem dX2_removeRow_28 : decode cX2_removeRow 28 = .ok (.istore_n 2, 1) := by decide +kernel
theorem dX2_removeRow_29 : decode cX2_removeRow 29 = .ok (.aload_n 0, 1) := by decide +kernel
theorem dX2_removeRow_30 : decode cX2_removeRow 30 = .ok (.getfield 15, 3) := by decide +kernel
theorem dX2_removeRow_33 : decode cX2_removeRow 33 = .ok (.bipush 8, 2) := by decide +kernel
theorem dX2_removeRow_35 : decode cX2_removeRow 35 = .ok (.imul, 1) := by decide +kernel
theorem dX2_removeRow_36 : decode cX2_removeRow 36 = .ok (.iload_n 2, 1) := by decide +kernel
theorem dX2_removeRow_37 : decode cX2_removeRow 37 = .ok (.isub, 1) := by decide +kernel
theorem dX2_removeRow_38 : decode cX2_removeRow 38 = .ok (.istore_n 3, 1) := by decide +kernel
theorem dX2_removeRow_39 : decode cX2_removeRow 39 = .ok (.aload_n 0, 1) := by decide +kernel
theorem dX2_removeRow_40 : decode cX2_removeRow 40 = .ok (.getfield 9, 3) := by decide +kernel
theorem dX2_removeRow_43 : decode cX2_removeRow 43 = .ok (.iload_n 2, 1) := by decide +kernel
theorem dX2_removeRow_44 : decode cX2_removeRow 44 = .ok (.aload_n 0, 1) := by decide +kernel
theorem dX2_removeRow_45 : decode cX2_removeRow 45 = .ok (.getfield 9, 3) := by decide +kernel
theorem dX2_removeRow_48 : decode cX2_removeRow 48 = .ok (.iload_n 1, 1) := by decide +kernel
theorem dX2_removeRow_49 : decode cX2_removeRow 49 = .ok (.bipush 8, 2) := by decide +kernel
theorem dX2_removeRow_51 : decode cX2_removeRow 51 = .ok (.imul, 1) := by decide +kernel
theorem dX2_removeRow_52 : decode cX2_removeRow 52 = .ok (.iload_n 3, 1) := by decide +kernel
theorem dX2_removeRow_53 : decode cX2_removeRow 53 = .ok (.invokestatic 23, 3) := by decide +kernel
theorem dX2_removeRow_56 : decode cX2_removeRow 56 = .ok (.aload_n 0, 1) := by decide +kernel
theorem dX2_removeRow_57 : decode cX2_removeRow 57 = .ok (.dup, 1) := by decide +kernel
theorem dX2_removeRow_58 : decode cX2_removeRow 58 = .ok (.getfield 15, 3) := by decide +kernel
theorem dX2_removeRow_61 : decode cX2_removeRow 61 = .ok (.iconst 1, 1) := by decide +kernel
theorem dX2_removeRow_62 : decode cX2_removeRow 62 = .ok (.isub, 1) := by decide +kernel
theorem dX2_removeRow_63 : decode cX2_removeRow 63 = .ok (.putfield 15, 3) := by decide +kernel
theorem dX2_removeRow_66 : decode cX2_removeRow 66 = .ok (.return_, 1) := by decide +kernel
theorem dX2_rowOf_0 : decode cX2_rowOf 0 = .ok (.iconst 0, 1) := by decide +kernel
theorem dX2_rowOf_1 : decode cX2_rowOf 1 = .ok (.istore_n 2, 1) := by decide +kernel
theorem dX2_rowOf_2 : decode cX2_rowOf 2 = .ok (.iload_n 2, 1) := by decide +kernel
theorem dX2_rowOf_3 : decode cX2_rowOf 3 = .ok (.aload_n 0, 1) := by decide +kernel
theorem dX2_rowOf_4 : decode cX2_rowOf 4 = .ok (.getfield 15, 3) := by decide +kernel
theorem dX2_rowOf_7 : decode cX2_rowOf 7 = .ok (.if_icmp .ge 22, 3) := by decide +kernel
theorem dX2_rowOf_10 : decode cX2_rowOf 10 = .ok (.aload_n 0, 1) := by decide +kernel
theorem dX2_rowOf_11 : decode cX2_rowOf 11 = .ok (.iload_n 2, 1) := by decide +kernel
theorem dX2_rowOf_12 : decode cX2_rowOf 12 = .ok (.bipush 7, 2) := by decide +kernel
theorem dX2_rowOf_14 : decode cX2_rowOf 14 = .ok (.invokevirtual 29, 3) := by decide +kernel
theorem dX2_rowOf_17 : decode cX2_rowOf 17 = .ok (.iload_n 1, 1) := by decide +kernel
theorem dX2_rowOf_18 : decode cX2_rowOf 18 = .ok (.if_icmp .ne 5, 3) := by decide +kernel
theorem dX2_rowOf_21 : decode cX2_rowOf 21 = .ok (.iload_n 2, 1) := by decide +kernel
theorem dX2_rowOf_22 : decode cX2_rowOf 22 = .ok (.ireturn, 1) := by decide +kernel
theorem dX2_rowOf_23 : decode cX2_rowOf 23 = .ok (.iinc 2 1, 3) := by decide +kernel
theorem dX2_rowOf_26 : decode cX2_rowOf 26 = .ok (.goto (-24), 3) := by decide +kernel
theorem dX2_rowOf_29 : decode cX2_rowOf 29 = .ok (.iconst (-1), 1) := by decide +kernel
theorem dX2_rowOf_30 : decode cX2_rowOf 30 = .ok (.ireturn, 1) := by decide +kernel
theorem dX2_tell_0 : decode cX2_tell 0 = .ok (.iload_n 2, 1) := by decide +kernel
theorem dX2_tell_1 : decode cX2_tell 1 = .ok (.tableswitch 53 7 9 #[27, 41, 47], 27) := by decide +kernel
theorem dX2_tell_28 : decode cX2_tell 28 = .ok (.aload_n 0, 1) := by decide +kernel
theorem dX2_tell_29 : decode cX2_tell 29 = .ok (.iload_n 1, 1) := by decide +kernel
theorem dX2_tell_30 : decode cX2_tell 30 = .ok (.iconst 5, 1) := by decide +kernel
theorem dX2_tell_31 : decode cX2_tell 31 = .ok (.invokevirtual 29, 3) := by decide +kernel
theorem dX2_tell_34 : decode cX2_tell 34 = .ok (.aload_n 0, 1) := by decide +kernel
theorem dX2_tell_35 : decode cX2_tell 35 = .ok (.iload_n 1, 1) := by decide +kernel
theorem dX2_tell_36 : decode cX2_tell 36 = .ok (.iconst 3, 1) := by decide +kernel
theorem dX2_tell_37 : decode cX2_tell 37 = .ok (.invokevirtual 29, 3) := by decide +kernel
theorem dX2_tell_40 : decode cX2_tell 40 = .ok (.isub, 1) := by decide +kernel
theorem dX2_tell_41 : decode cX2_tell 41 = .ok (.ireturn, 1) := by decide +kernel
theorem dX2_tell_42 : decode cX2_tell 42 = .ok (.aload_n 0, 1) := by decide +kernel
theorem dX2_tell_43 : decode cX2_tell 43 = .ok (.iload_n 1, 1) := by decide +kernel
theorem dX2_tell_44 : decode cX2_tell 44 = .ok (.invokevirtual 33, 3) := by decide +kernel
theorem dX2_tell_47 : decode cX2_tell 47 = .ok (.ireturn, 1) := by decide +kernel
theorem dX2_tell_48 : decode cX2_tell 48 = .ok (.aload_n 0, 1) := by decide +kernel
theorem dX2_tell_49 : decode cX2_tell 49 = .ok (.iload_n 1, 1) := by decide +kernel
theorem dX2_tell_50 : decode cX2_tell 50 = .ok (.invokevirtual 37, 3) := by decide +kernel
theorem dX2_tell_53 : decode cX2_tell 53 = .ok (.ireturn, 1) := by decide +kernel
theorem dX2_tell_54 : decode cX2_tell 54 = .ok (.aload_n 0, 1) := by decide +kernel
theorem dX2_tell_55 : decode cX2_tell 55 = .ok (.iload_n 1, 1) := by decide +kernel
theorem dX2_tell_56 : decode cX2_tell 56 = .ok (.iload_n 2, 1) := by decide +kernel
theorem dX2_tell_57 : decode cX2_tell 57 = .ok (.invokevirtual 29, 3) := by decide +kernel
theorem dX2_tell_60 : decode cX2_tell 60 = .ok (.ireturn, 1) := by decide +kernel
theorem dX2_kindOf_0 : decode cX2_kindOf 0 = .ok (.aload_n 0, 1) := by decide +kernel
theorem dX2_kindOf_1 : decode cX2_kindOf 1 = .ok (.iload_n 1, 1) := by decide +kernel
theorem dX2_kindOf_2 : decode cX2_kindOf 2 = .ok (.iconst 1, 1) := by decide +kernel
theorem dX2_kindOf_3 : decode cX2_kindOf 3 = .ok (.invokevirtual 29, 3) := by decide +kernel
theorem dX2_kindOf_6 : decode cX2_kindOf 6 = .ok (.iconst (-1), 1) := by decide +kernel
theorem dX2_kindOf_7 : decode cX2_kindOf 7 = .ok (.if_icmp .eq 5, 3) := by decide +kernel
theorem dX2_kindOf_10 : decode cX2_kindOf 10 = .ok (.iconst 2, 1) := by decide +kernel
theorem dX2_kindOf_11 : decode cX2_kindOf 11 = .ok (.ireturn, 1) := by decide +kernel
theorem dX2_kindOf_12 : decode cX2_kindOf 12 = .ok (.aload_n 0, 1) := by decide +kernel
theorem dX2_kindOf_13 : decode cX2_kindOf 13 = .ok (.iload_n 1, 1) := by decide +kernel
theorem dX2_kindOf_14 : decode cX2_kindOf 14 = .ok (.bipush 6, 2) := by decide +kernel
theorem dX2_kindOf_16 : decode cX2_kindOf 16 = .ok (.invokevirtual 29, 3) := by decide +kernel
theorem dX2_kindOf_19 : decode cX2_kindOf 19 = .ok (.ifCond .le 7, 3) := by decide +kernel
theorem dX2_kindOf_22 : decode cX2_kindOf 22 = .ok (.iconst 1, 1) := by decide +kernel
theorem dX2_kindOf_23 : decode cX2_kindOf 23 = .ok (.goto 4, 3) := by decide +kernel
theorem dX2_kindOf_26 : decode cX2_kindOf 26 = .ok (.iconst 0, 1) := by decide +kernel
theorem dX2_kindOf_27 : decode cX2_kindOf 27 = .ok (.ireturn, 1) := by decide +kernel
theorem dX2_isBefore_0 : decode cX2_isBefore 0 = .ok (.aload_n 0, 1) := by decide +kernel
theorem dX2_isBefore_1 : decode cX2_isBefore 1 = .ok (.iload_n 1, 1) := by decide +kernel
theorem dX2_isBefore_2 : decode cX2_isBefore 2 = .ok (.iconst 2, 1) := by decide +kernel
theorem dX2_isBefore_3 : decode cX2_isBefore 3 = .ok (.invokevirtual 29, 3) := by decide +kernel
theorem dX2_isBefore_6 : decode cX2_isBefore 6 = .ok (.istore_n 3, 1) := by decide +kernel
theorem dX2_isBefore_7 : decode cX2_isBefore 7 = .ok (.aload_n 0, 1) := by decide +kernel
theorem dX2_isBefore_8 : decode cX2_isBefore 8 = .ok (.iload_n 2, 1) := by decide +kernel
theorem dX2_isBefore_9 : decode cX2_isBefore 9 = .ok (.iconst 2, 1) := by decide +kernel
theorem dX2_isBefore_10 : decode cX2_isBefore 10 = .ok (.invokevirtual 29, 3) := by decide +kernel
theorem dX2_isBefore_13 : decode cX2_isBefore 13 = .ok (.istore 4, 2) := by decide +kernel
theorem dX2_isBefore_15 : decode cX2_isBefore 15 = .ok (.iload_n 3, 1) := by decide +kernel
theorem dX2_isBefore_16 : decode cX2_isBefore 16 = .ok (.iload 4, 2) := by decide +kernel
theorem dX2_isBefore_18 : decode cX2_isBefore 18 = .ok (.if_icmp .eq 15, 3) := by decide +kernel
theorem dX2_isBefore_21 : decode cX2_isBefore 21 = .ok (.iload_n 3, 1) := by decide +kernel
theorem dX2_isBefore_22 : decode cX2_isBefore 22 = .ok (.iload 4, 2) := by decide +kernel
theorem dX2_isBefore_24 : decode cX2_isBefore 24 = .ok (.if_icmp .le 7, 3) := by decide +kernel
theorem dX2_isBefore_27 : decode cX2_isBefore 27 = .ok (.iconst 1, 1) := by decide +kernel
theorem dX2_isBefore_28 : decode cX2_isBefore 28 = .ok (.goto 4, 3) := by decide +kernel
theorem dX2_isBefore_31 : decode cX2_isBefore 31 = .ok (.iconst 0, 1) := by decide +kernel
theorem dX2_isBefore_32 : decode cX2_isBefore 32 = .ok (.ireturn, 1) := by decide +kernel
theorem dX2_isBefore_33 : decode cX2_isBefore 33 = .ok (.aload_n 0, 1) := by decide +kernel
theorem dX2_isBefore_34 : decode cX2_isBefore 34 = .ok (.iload_n 1, 1) := by decide +kernel
theorem dX2_isBefore_35 : decode cX2_isBefore 35 = .ok (.iconst 3, 1) := by decide +kernel
theorem dX2_isBefore_36 : decode cX2_isBefore 36 = .ok (.invokevirtual 29, 3) := by decide +kernel
theorem dX2_isBefore_39 : decode cX2_isBefore 39 = .ok (.istore 5, 2) := by decide +kernel
theorem dX2_isBefore_41 : decode cX2_isBefore 41 = .ok (.aload_n 0, 1) := by decide +kernel
theorem dX2_isBefore_42 : decode cX2_isBefore 42 = .ok (.iload_n 2, 1) := by decide +kernel
theorem dX2_isBefore_43 : decode cX2_isBefore 43 = .ok (.iconst 3, 1) := by decide +kernel
theorem dX2_isBefore_44 : decode cX2_isBefore 44 = .ok (.invokevirtual 29, 3) := by decide +kernel
theorem dX2_isBefore_47 : decode cX2_isBefore 47 = .ok (.istore 6, 2) := by decide +kernel
theorem dX2_isBefore_49 : decode cX2_isBefore 49 = .ok (.iload 5, 2) := by decide +kernel
theorem dX2_isBefore_51 : decode cX2_isBefore 51 = .ok (.iload 6, 2) := by decide +kernel
theorem dX2_isBefore_53 : decode cX2_isBefore 53 = .ok (.if_icmp .eq 16, 3) := by decide +kernel
theorem dX2_isBefore_56 : decode cX2_isBefore 56 = .ok (.iload 5, 2) := by decide +kernel
theorem dX2_isBefore_58 : decode cX2_isBefore 58 = .ok (.iload 6, 2) := by decide +kernel
theorem dX2_isBefore_60 : decode cX2_isBefore 60 = .ok (.if_icmp .le 7, 3) := by decide +kernel
theorem dX2_isBefore_63 : decode cX2_isBefore 63 = .ok (.iconst 1, 1) := by decide +kernel
theorem dX2_isBefore_64 : decode cX2_isBefore 64 = .ok (.goto 4, 3) := by decide +kernel
theorem dX2_isBefore_67 : decode cX2_isBefore 67 = .ok (.iconst 0, 1) := by decide +kernel
theorem dX2_isBefore_68 : decode cX2_isBefore 68 = .ok (.ireturn, 1) := by decide +kernel
theorem dX2_isBefore_69 : decode cX2_isBefore 69 = .ok (.aload_n 0, 1) := by decide +kernel
theorem dX2_isBefore_70 : decode cX2_isBefore 70 = .ok (.iload_n 1, 1) := by decide +kernel
theorem dX2_isBefore_71 : decode cX2_isBefore 71 = .ok (.bipush 7, 2) := by decide +kernel
theorem dX2_isBefore_73 : decode cX2_isBefore 73 = .ok (.invokevirtual 29, 3) := by decide +kernel
theorem dX2_isBefore_76 : decode cX2_isBefore 76 = .ok (.aload_n 0, 1) := by decide +kernel
theorem dX2_isBefore_77 : decode cX2_isBefore 77 = .ok (.iload_n 2, 1) := by decide +kernel
theorem dX2_isBefore_78 : decode cX2_isBefore 78 = .ok (.bipush 7, 2) := by decide +kernel
theorem dX2_isBefore_80 : decode cX2_isBefore 80 = .ok (.invokevirtual 29, 3) := by decide +kernel
theorem dX2_isBefore_83 : decode cX2_isBefore 83 = .ok (.if_icmp .ge 7, 3) := by decide +kernel
theorem dX2_isBefore_86 : decode cX2_isBefore 86 = .ok (.iconst 1, 1) := by decide +kernel
theorem dX2_isBefore_87 : decode cX2_isBefore 87 = .ok (.goto 4, 3) := by decide +kernel
theorem dX2_isBefore_90 : decode cX2_isBefore 90 = .ok (.iconst 0, 1) := by decide +kernel
theorem dX2_isBefore_91 : decode cX2_isBefore 91 = .ok (.ireturn, 1) := by decide +kernel
theorem dX2_countBefore_0 : decode cX2_countBefore 0 = .ok (.iconst 0, 1) := by decide +kernel
theorem dX2_countBefore_1 : decode cX2_countBefore 1 = .ok (.istore_n 2, 1) := by decide +kernel
theorem dX2_countBefore_2 : decode cX2_countBefore 2 = .ok (.iconst 0, 1) := by decide +kernel
theorem dX2_countBefore_3 : decode cX2_countBefore 3 = .ok (.istore_n 3, 1) := by decide +kernel
theorem dX2_countBefore_4 : decode cX2_countBefore 4 = .ok (.iload_n 3, 1) := by decide +kernel
theorem dX2_countBefore_5 : decode cX2_countBefore 5 = .ok (.aload_n 0, 1) := by decide +kernel
theorem dX2_countBefore_6 : decode cX2_countBefore 6 = .ok (.getfield 15, 3) := by decide +kernel
theorem dX2_countBefore_9 : decode cX2_countBefore 9 = .ok (.if_icmp .ge 21, 3) := by decide +kernel
theorem dX2_countBefore_12 : decode cX2_countBefore 12 = .ok (.aload_n 0, 1) := by decide +kernel
theorem dX2_countBefore_13 : decode cX2_countBefore 13 = .ok (.iload_n 3, 1) := by decide +kernel
theorem dX2_countBefore_14 : decode cX2_countBefore 14 = .ok (.iload_n 1, 1) := by decide +kernel
theorem dX2_countBefore_15 : decode cX2_countBefore 15 = .ok (.invokevirtual 40, 3) := by decide +kernel
theorem dX2_countBefore_18 : decode cX2_countBefore 18 = .ok (.ifCond .eq 6, 3) := by decide +kernel
theorem dX2_countBefore_21 : decode cX2_countBefore 21 = .ok (.iinc 2 1, 3) := by decide +kernel
theorem dX2_countBefore_24 : decode cX2_countBefore 24 = .ok (.iinc 3 1, 3) := by decide +kernel
theorem dX2_countBefore_27 : decode cX2_countBefore 27 = .ok (.goto (-23), 3) := by decide +kernel
theorem dX2_countBefore_30 : decode cX2_countBefore 30 = .ok (.iload_n 2, 1) := by decide +kernel
theorem dX2_countBefore_31 : decode cX2_countBefore 31 = .ok (.ireturn, 1) := by decide +kernel
theorem dX2_firstRow_0 : decode cX2_firstRow 0 = .ok (.iconst (-1), 1) := by decide +kernel
theorem dX2_firstRow_1 : decode cX2_firstRow 1 = .ok (.istore_n 1, 1) := by decide +kernel
theorem dX2_firstRow_2 : decode cX2_firstRow 2 = .ok (.iconst 0, 1) := by decide +kernel
theorem dX2_firstRow_3 : decode cX2_firstRow 3 = .ok (.istore_n 2, 1) := by decide +kernel
theorem dX2_firstRow_4 : decode cX2_firstRow 4 = .ok (.iload_n 2, 1) := by decide +kernel
theorem dX2_firstRow_5 : decode cX2_firstRow 5 = .ok (.aload_n 0, 1) := by decide +kernel
theorem dX2_firstRow_6 : decode cX2_firstRow 6 = .ok (.getfield 15, 3) := by decide +kernel
theorem dX2_firstRow_9 : decode cX2_firstRow 9 = .ok (.if_icmp .ge 25, 3) := by decide +kernel
theorem dX2_firstRow_12 : decode cX2_firstRow 12 = .ok (.iload_n 1, 1) := by decide +kernel
theorem dX2_firstRow_13 : decode cX2_firstRow 13 = .ok (.iconst (-1), 1) := by decide +kernel
theorem dX2_firstRow_14 : decode cX2_firstRow 14 = .ok (.if_icmp .eq 12, 3) := by decide +kernel
theorem dX2_firstRow_17 : decode cX2_firstRow 17 = .ok (.aload_n 0, 1) := by decide +kernel
theorem dX2_firstRow_18 : decode cX2_firstRow 18 = .ok (.iload_n 2, 1) := by decide +kernel
theorem dX2_firstRow_19 : decode cX2_firstRow 19 = .ok (.iload_n 1, 1) := by decide +kernel
theorem dX2_firstRow_20 : decode cX2_firstRow 20 = .ok (.invokevirtual 40, 3) := by decide +kernel
theorem dX2_firstRow_23 : decode cX2_firstRow 23 = .ok (.ifCond .eq 5, 3) := by decide +kernel
theorem dX2_firstRow_26 : decode cX2_firstRow 26 = .ok (.iload_n 2, 1) := by decide +kernel
theorem dX2_firstRow_27 : decode cX2_firstRow 27 = .ok (.istore_n 1, 1) := by decide +kernel
theorem dX2_firstRow_28 : decode cX2_firstRow 28 = .ok (.iinc 2 1, 3) := by decide +kernel
theorem dX2_firstRow_31 : decode cX2_firstRow 31 = .ok (.goto (-27), 3) := by decide +kernel
theorem dX2_firstRow_34 : decode cX2_firstRow 34 = .ok (.iload_n 1, 1) := by decide +kernel
theorem dX2_firstRow_35 : decode cX2_firstRow 35 = .ok (.ireturn, 1) := by decide +kernel
theorem dX2_arrange_0 : decode cX2_arrange 0 = .ok (.iconst 0, 1) := by decide +kernel
theorem dX2_arrange_1 : decode cX2_arrange 1 = .ok (.istore_n 2, 1) := by decide +kernel
theorem dX2_arrange_2 : decode cX2_arrange 2 = .ok (.iload_n 2, 1) := by decide +kernel
theorem dX2_arrange_3 : decode cX2_arrange 3 = .ok (.aload_n 0, 1) := by decide +kernel
theorem dX2_arrange_4 : decode cX2_arrange 4 = .ok (.getfield 15, 3) := by decide +kernel
theorem dX2_arrange_7 : decode cX2_arrange 7 = .ok (.if_icmp .ge 29, 3) := by decide +kernel
theorem dX2_arrange_10 : decode cX2_arrange 10 = .ok (.aload_n 0, 1) := by decide +kernel
theorem dX2_arrange_11 : decode cX2_arrange 11 = .ok (.iload_n 2, 1) := by decide +kernel
theorem dX2_arrange_12 : decode cX2_arrange 12 = .ok (.invokevirtual 33, 3) := by decide +kernel
theorem dX2_arrange_15 : decode cX2_arrange 15 = .ok (.istore_n 3, 1) := by decide +kernel
theorem dX2_arrange_16 : decode cX2_arrange 16 = .ok (.iload_n 3, 1) := by decide +kernel
theorem dX2_arrange_17 : decode cX2_arrange 17 = .ok (.ifCond .lt 13, 3) := by decide +kernel
theorem dX2_arrange_20 : decode cX2_arrange 20 = .ok (.iload_n 3, 1) := by decide +kernel
theorem dX2_arrange_21 : decode cX2_arrange 21 = .ok (.aload_n 1, 1) := by decide +kernel
theorem dX2_arrange_22 : decode cX2_arrange 22 = .ok (.arraylength, 1) := by decide +kernel
theorem dX2_arrange_23 : decode cX2_arrange 23 = .ok (.if_icmp .ge 7, 3) := by decide +kernel
theorem dX2_arrange_26 : decode cX2_arrange 26 = .ok (.aload_n 1, 1) := by decide +kernel
theorem dX2_arrange_27 : decode cX2_arrange 27 = .ok (.iload_n 3, 1) := by decide +kernel
theorem dX2_arrange_28 : decode cX2_arrange 28 = .ok (.iload_n 2, 1) := by decide +kernel
theorem dX2_arrange_29 : decode cX2_arrange 29 = .ok (.iastore, 1) := by decide +kernel
theorem dX2_arrange_30 : decode cX2_arrange 30 = .ok (.iinc 2 1, 3) := by decide +kernel
theorem dX2_arrange_33 : decode cX2_arrange 33 = .ok (.goto (-31), 3) := by decide +kernel
theorem dX2_arrange_36 : decode cX2_arrange 36 = .ok (.return_, 1) := by decide +kernel
theorem dX2_countOfSender_0 : decode cX2_countOfSender 0 = .ok (.iconst 0, 1) := by decide +kernel
theorem dX2_countOfSender_1 : decode cX2_countOfSender 1 = .ok (.istore_n 2, 1) := by decide +kernel
theorem dX2_countOfSender_2 : decode cX2_countOfSender 2 = .ok (.iconst 0, 1) := by decide +kernel
theorem dX2_countOfSender_3 : decode cX2_countOfSender 3 = .ok (.istore_n 3, 1) := by decide +kernel
theorem dX2_countOfSender_4 : decode cX2_countOfSender 4 = .ok (.iload_n 3, 1) := by decide +kernel
theorem dX2_countOfSender_5 : decode cX2_countOfSender 5 = .ok (.aload_n 0, 1) := by decide +kernel
theorem dX2_countOfSender_6 : decode cX2_countOfSender 6 = .ok (.getfield 15, 3) := by decide +kernel
theorem dX2_countOfSender_9 : decode cX2_countOfSender 9 = .ok (.if_icmp .ge 32, 3) := by decide +kernel
theorem dX2_countOfSender_12 : decode cX2_countOfSender 12 = .ok (.aload_n 0, 1) := by decide +kernel
theorem dX2_countOfSender_13 : decode cX2_countOfSender 13 = .ok (.iload_n 3, 1) := by decide +kernel
theorem dX2_countOfSender_14 : decode cX2_countOfSender 14 = .ok (.iconst 0, 1) := by decide +kernel
theorem dX2_countOfSender_15 : decode cX2_countOfSender 15 = .ok (.invokevirtual 29, 3) := by decide +kernel
theorem dX2_countOfSender_18 : decode cX2_countOfSender 18 = .ok (.iload_n 1, 1) := by decide +kernel
theorem dX2_countOfSender_19 : decode cX2_countOfSender 19 = .ok (.if_icmp .eq 13, 3) := by decide +kernel
theorem dX2_countOfSender_22 : decode cX2_countOfSender 22 = .ok (.aload_n 0, 1) := by decide +kernel
theorem dX2_countOfSender_23 : decode cX2_countOfSender 23 = .ok (.iload_n 3, 1) := by decide +kernel
theorem dX2_countOfSender_24 : decode cX2_countOfSender 24 = .ok (.iconst 1, 1) := by decide +kernel
theorem dX2_countOfSender_25 : decode cX2_countOfSender 25 = .ok (.invokevirtual 29, 3) := by decide +kernel
theorem dX2_countOfSender_28 : decode cX2_countOfSender 28 = .ok (.iload_n 1, 1) := by decide +kernel
theorem dX2_countOfSender_29 : decode cX2_countOfSender 29 = .ok (.if_icmp .ne 6, 3) := by decide +kernel
theorem dX2_countOfSender_32 : decode cX2_countOfSender 32 = .ok (.iinc 2 1, 3) := by decide +kernel
theorem dX2_countOfSender_35 : decode cX2_countOfSender 35 = .ok (.iinc 3 1, 3) := by decide +kernel
theorem dX2_countOfSender_38 : decode cX2_countOfSender 38 = .ok (.goto (-34), 3) := by decide +kernel
theorem dX2_countOfSender_41 : decode cX2_countOfSender 41 = .ok (.iload_n 2, 1) := by decide +kernel
theorem dX2_countOfSender_42 : decode cX2_countOfSender 42 = .ok (.ireturn, 1) := by decide +kernel
theorem dX2_countOfRank_0 : decode cX2_countOfRank 0 = .ok (.iconst 0, 1) := by decide +kernel
theorem dX2_countOfRank_1 : decode cX2_countOfRank 1 = .ok (.istore_n 2, 1) := by decide +kernel
theorem dX2_countOfRank_2 : decode cX2_countOfRank 2 = .ok (.iconst 0, 1) := by decide +kernel
theorem dX2_countOfRank_3 : decode cX2_countOfRank 3 = .ok (.istore_n 3, 1) := by decide +kernel
theorem dX2_countOfRank_4 : decode cX2_countOfRank 4 = .ok (.iload_n 3, 1) := by decide +kernel
theorem dX2_countOfRank_5 : decode cX2_countOfRank 5 = .ok (.aload_n 0, 1) := by decide +kernel
theorem dX2_countOfRank_6 : decode cX2_countOfRank 6 = .ok (.getfield 15, 3) := by decide +kernel
theorem dX2_countOfRank_9 : decode cX2_countOfRank 9 = .ok (.if_icmp .ge 22, 3) := by decide +kernel
theorem dX2_countOfRank_12 : decode cX2_countOfRank 12 = .ok (.aload_n 0, 1) := by decide +kernel
theorem dX2_countOfRank_13 : decode cX2_countOfRank 13 = .ok (.iload_n 3, 1) := by decide +kernel
theorem dX2_countOfRank_14 : decode cX2_countOfRank 14 = .ok (.iconst 2, 1) := by decide +kernel
theorem dX2_countOfRank_15 : decode cX2_countOfRank 15 = .ok (.invokevirtual 29, 3) := by decide +kernel
theorem dX2_countOfRank_18 : decode cX2_countOfRank 18 = .ok (.iload_n 1, 1) := by decide +kernel
theorem dX2_countOfRank_19 : decode cX2_countOfRank 19 = .ok (.if_icmp .ne 6, 3) := by decide +kernel
theorem dX2_countOfRank_22 : decode cX2_countOfRank 22 = .ok (.iinc 2 1, 3) := by decide +kernel
theorem dX2_countOfRank_25 : decode cX2_countOfRank 25 = .ok (.iinc 3 1, 3) := by decide +kernel
theorem dX2_countOfRank_28 : decode cX2_countOfRank 28 = .ok (.goto (-24), 3) := by decide +kernel
theorem dX2_countOfRank_31 : decode cX2_countOfRank 31 = .ok (.iload_n 2, 1) := by decide +kernel
theorem dX2_countOfRank_32 : decode cX2_countOfRank 32 = .ok (.ireturn, 1) := by decide +kernel
theorem dX2_loudestRank_0 : decode cX2_loudestRank 0 = .ok (.iconst (-1), 1) := by decide +kernel
theorem dX2_loudestRank_1 : decode cX2_loudestRank 1 = .ok (.istore_n 1, 1) := by decide +kernel
theorem dX2_loudestRank_2 : decode cX2_loudestRank 2 = .ok (.iconst 0, 1) := by decide +kernel
theorem dX2_loudestRank_3 : decode cX2_loudestRank 3 = .ok (.istore_n 2, 1) := by decide +kernel
theorem dX2_loudestRank_4 : decode cX2_loudestRank 4 = .ok (.iload_n 2, 1) := by decide +kernel
theorem dX2_loudestRank_5 : decode cX2_loudestRank 5 = .ok (.aload_n 0, 1) := by decide +kernel
theorem dX2_loudestRank_6 : decode cX2_loudestRank 6 = .ok (.getfield 15, 3) := by decide +kernel
theorem dX2_loudestRank_9 : decode cX2_loudestRank 9 = .ok (.if_icmp .ge 20, 3) := by decide +kernel
theorem dX2_loudestRank_12 : decode cX2_loudestRank 12 = .ok (.iload_n 1, 1) := by decide +kernel
theorem dX2_loudestRank_13 : decode cX2_loudestRank 13 = .ok (.aload_n 0, 1) := by decide +kernel
theorem dX2_loudestRank_14 : decode cX2_loudestRank 14 = .ok (.iload_n 2, 1) := by decide +kernel
theorem dX2_loudestRank_15 : decode cX2_loudestRank 15 = .ok (.iconst 2, 1) := by decide +kernel
theorem dX2_loudestRank_16 : decode cX2_loudestRank 16 = .ok (.invokevirtual 29, 3) := by decide +kernel
theorem dX2_loudestRank_19 : decode cX2_loudestRank 19 = .ok (.invokestatic 44, 3) := by decide +kernel
theorem dX2_loudestRank_22 : decode cX2_loudestRank 22 = .ok (.istore_n 1, 1) := by decide +kernel
theorem dX2_loudestRank_23 : decode cX2_loudestRank 23 = .ok (.iinc 2 1, 3) := by decide +kernel
theorem dX2_loudestRank_26 : decode cX2_loudestRank 26 = .ok (.goto (-22), 3) := by decide +kernel
theorem dX2_loudestRank_29 : decode cX2_loudestRank 29 = .ok (.iload_n 1, 1) := by decide +kernel
theorem dX2_loudestRank_30 : decode cX2_loudestRank 30 = .ok (.ireturn, 1) := by decide +kernel
theorem dX2_sumOfBribes_0 : decode cX2_sumOfBribes 0 = .ok (.iconst 0, 1) := by decide +kernel
theorem dX2_sumOfBribes_1 : decode cX2_sumOfBribes 1 = .ok (.istore_n 1, 1) := by decide +kernel
theorem dX2_sumOfBribes_2 : decode cX2_sumOfBribes 2 = .ok (.iconst 0, 1) := by decide +kernel
theorem dX2_sumOfBribes_3 : decode cX2_sumOfBribes 3 = .ok (.istore_n 2, 1) := by decide +kernel
theorem dX2_sumOfBribes_4 : decode cX2_sumOfBribes 4 = .ok (.iload_n 2, 1) := by decide +kernel
theorem dX2_sumOfBribes_5 : decode cX2_sumOfBribes 5 = .ok (.aload_n 0, 1) := by decide +kernel
theorem dX2_sumOfBribes_6 : decode cX2_sumOfBribes 6 = .ok (.getfield 15, 3) := by decide +kernel
theorem dX2_sumOfBribes_9 : decode cX2_sumOfBribes 9 = .ok (.if_icmp .ge 19, 3) := by decide +kernel
theorem dX2_sumOfBribes_12 : decode cX2_sumOfBribes 12 = .ok (.iload_n 1, 1) := by decide +kernel
theorem dX2_sumOfBribes_13 : decode cX2_sumOfBribes 13 = .ok (.aload_n 0, 1) := by decide +kernel
theorem dX2_sumOfBribes_14 : decode cX2_sumOfBribes 14 = .ok (.iload_n 2, 1) := by decide +kernel
theorem dX2_sumOfBribes_15 : decode cX2_sumOfBribes 15 = .ok (.bipush 6, 2) := by decide +kernel
theorem dX2_sumOfBribes_17 : decode cX2_sumOfBribes 17 = .ok (.invokevirtual 29, 3) := by decide +kernel
theorem dX2_sumOfBribes_20 : decode cX2_sumOfBribes 20 = .ok (.iadd, 1) := by decide +kernel
theorem dX2_sumOfBribes_21 : decode cX2_sumOfBribes 21 = .ok (.istore_n 1, 1) := by decide +kernel
theorem dX2_sumOfBribes_22 : decode cX2_sumOfBribes 22 = .ok (.iinc 2 1, 3) := by decide +kernel
theorem dX2_sumOfBribes_25 : decode cX2_sumOfBribes 25 = .ok (.goto (-21), 3) := by decide +kernel
theorem dX2_sumOfBribes_28 : decode cX2_sumOfBribes 28 = .ok (.iload_n 1, 1) := by decide +kernel
theorem dX2_sumOfBribes_29 : decode cX2_sumOfBribes 29 = .ok (.ireturn, 1) := by decide +kernel
theorem dX2_copyFrom_0 : decode cX2_copyFrom 0 = .ok (.aload_n 0, 1) := by decide +kernel
theorem dX2_copyFrom_1 : decode cX2_copyFrom 1 = .ok (.aload_n 1, 1) := by decide +kernel
theorem dX2_copyFrom_2 : decode cX2_copyFrom 2 = .ok (.getfield 15, 3) := by decide +kernel
theorem dX2_copyFrom_5 : decode cX2_copyFrom 5 = .ok (.putfield 15, 3) := by decide +kernel
theorem dX2_copyFrom_8 : decode cX2_copyFrom 8 = .ok (.aload_n 1, 1) := by decide +kernel
theorem dX2_copyFrom_9 : decode cX2_copyFrom 9 = .ok (.getfield 9, 3) := by decide +kernel
theorem dX2_copyFrom_12 : decode cX2_copyFrom 12 = .ok (.iconst 0, 1) := by decide +kernel
theorem dX2_copyFrom_13 : decode cX2_copyFrom 13 = .ok (.aload_n 0, 1) := by decide +kernel
theorem dX2_copyFrom_14 : decode cX2_copyFrom 14 = .ok (.getfield 9, 3) := by decide +kernel
theorem dX2_copyFrom_17 : decode cX2_copyFrom 17 = .ok (.iconst 0, 1) := by decide +kernel
theorem dX2_copyFrom_18 : decode cX2_copyFrom 18 = .ok (.aload_n 0, 1) := by decide +kernel
theorem dX2_copyFrom_19 : decode cX2_copyFrom 19 = .ok (.getfield 9, 3) := by decide +kernel
theorem dX2_copyFrom_22 : decode cX2_copyFrom 22 = .ok (.arraylength, 1) := by decide +kernel
theorem dX2_copyFrom_23 : decode cX2_copyFrom 23 = .ok (.invokestatic 23, 3) := by decide +kernel
theorem dX2_copyFrom_26 : decode cX2_copyFrom 26 = .ok (.return_, 1) := by decide +kernel
theorem dX3_init_0 : decode cX3_init 0 = .ok (.aload_n 0, 1) := by decide +kernel
theorem dX3_init_1 : decode cX3_init 1 = .ok (.invokespecial 3, 3) := by decide +kernel
theorem dX3_init_4 : decode cX3_init 4 = .ok (.aload_n 0, 1) := by decide +kernel
theorem dX3_init_5 : decode cX3_init 5 = .ok (.iconst 4, 1) := by decide +kernel
theorem dX3_init_6 : decode cX3_init 6 = .ok (.anewarray 9, 3) := by decide +kernel
theorem dX3_init_9 : decode cX3_init 9 = .ok (.putfield 11, 3) := by decide +kernel
theorem dX3_init_12 : decode cX3_init 12 = .ok (.iconst 0, 1) := by decide +kernel
theorem dX3_init_13 : decode cX3_init 13 = .ok (.istore_n 1, 1) := by decide +kernel
theorem dX3_init_14 : decode cX3_init 14 = .ok (.iload_n 1, 1) := by decide +kernel
theorem dX3_init_15 : decode cX3_init 15 = .ok (.iconst 4, 1) := by decide +kernel
theorem dX3_init_16 : decode cX3_init 16 = .ok (.if_icmp .ge 22, 3) := by decide +kernel
theorem dX3_init_19 : decode cX3_init 19 = .ok (.aload_n 0, 1) := by decide +kernel
theorem dX3_init_20 : decode cX3_init 20 = .ok (.getfield 11, 3) := by decide +kernel
theorem dX3_init_23 : decode cX3_init 23 = .ok (.iload_n 1, 1) := by decide +kernel
theorem dX3_init_24 : decode cX3_init 24 = .ok (.new 9, 3) := by decide +kernel
theorem dX3_init_27 : decode cX3_init 27 = .ok (.dup, 1) := by decide +kernel
theorem dX3_init_28 : decode cX3_init 28 = .ok (.invokespecial 17, 3) := by decide +kernel
theorem dX3_init_31 : decode cX3_init 31 = .ok (.aastore, 1) := by decide +kernel
theorem dX3_init_32 : decode cX3_init 32 = .ok (.iinc 1 1, 3) := by decide +kernel
theorem dX3_init_35 : decode cX3_init 35 = .ok (.goto (-21), 3) := by decide +kernel
theorem dX3_init_38 : decode cX3_init 38 = .ok (.return_, 1) := by decide +kernel
theorem dX3_add_0 : decode cX3_add 0 = .ok (.aload_n 0, 1) := by decide +kernel
theorem dX3_add_1 : decode cX3_add 1 = .ok (.getfield 18, 3) := by decide +kernel
theorem dX3_add_4 : decode cX3_add 4 = .ok (.iconst 4, 1) := by decide +kernel
theorem dX3_add_5 : decode cX3_add 5 = .ok (.if_icmp .ne 25, 3) := by decide +kernel
theorem dX3_add_8 : decode cX3_add 8 = .ok (.aload_n 0, 1) := by decide +kernel
theorem dX3_add_9 : decode cX3_add 9 = .ok (.aload_n 0, 1) := by decide +kernel
theorem dX3_add_10 : decode cX3_add 10 = .ok (.getfield 22, 3) := by decide +kernel
theorem dX3_add_13 : decode cX3_add 13 = .ok (.iconst 1, 1) := by decide +kernel
theorem dX3_add_14 : decode cX3_add 14 = .ok (.iadd, 1) := by decide +kernel
theorem dX3_add_15 : decode cX3_add 15 = .ok (.iconst 4, 1) := by decide +kernel
theorem dX3_add_16 : decode cX3_add 16 = .ok (.irem, 1) := by decide +kernel
theorem dX3_add_17 : decode cX3_add 17 = .ok (.putfield 22, 3) := by decide +kernel
theorem dX3_add_20 : decode cX3_add 20 = .ok (.aload_n 0, 1) := by decide +kernel
theorem dX3_add_21 : decode cX3_add 21 = .ok (.dup, 1) := by decide +kernel
theorem dX3_add_22 : decode cX3_add 22 = .ok (.getfield 18, 3) := by decide +kernel
theorem dX3_add_25 : decode cX3_add 25 = .ok (.iconst 1, 1) := by decide +kernel
theorem dX3_add_26 : decode cX3_add 26 = .ok (.isub, 1) := by decide +kernel
theorem dX3_add_27 : decode cX3_add 27 = .ok (.putfield 18, 3) := by decide +kernel
theorem dX3_add_30 : decode cX3_add 30 = .ok (.aload_n 0, 1) := by decide +kernel
theorem dX3_add_31 : decode cX3_add 31 = .ok (.aload_n 0, 1) := by decide +kernel
theorem dX3_add_32 : decode cX3_add 32 = .ok (.getfield 18, 3) := by decide +kernel
theorem dX3_add_35 : decode cX3_add 35 = .ok (.invokevirtual 25, 3) := by decide +kernel
theorem dX3_add_38 : decode cX3_add 38 = .ok (.astore_n 2, 1) := by decide +kernel
theorem dX3_add_39 : decode cX3_add 39 = .ok (.aload_n 2, 1) := by decide +kernel
theorem dX3_add_40 : decode cX3_add 40 = .ok (.ifnull 18, 3) := by decide +kernel
theorem dX3_add_43 : decode cX3_add 43 = .ok (.aload_n 2, 1) := by decide +kernel
theorem dX3_add_44 : decode cX3_add 44 = .ok (.aload_n 1, 1) := by decide +kernel
theorem dX3_add_45 : decode cX3_add 45 = .ok (.invokevirtual 29, 3) := by decide +kernel
theorem dX3_add_48 : decode cX3_add 48 = .ok (.aload_n 0, 1) := by decide +kernel
theorem dX3_add_49 : decode cX3_add 49 = .ok (.dup, 1) := by decide +kernel
theorem dX3_add_50 : decode cX3_add 50 = .ok (.getfield 18, 3) := by decide +kernel
theorem dX3_add_53 : decode cX3_add 53 = .ok (.iconst 1, 1) := by decide +kernel
theorem dX3_add_54 : decode cX3_add 54 = .ok (.iadd, 1) := by decide +kernel
theorem dX3_add_55 : decode cX3_add 55 = .ok (.putfield 18, 3) := by decide +kernel
theorem dX3_add_58 : decode cX3_add 58 = .ok (.return_, 1) := by decide +kernel
theorem dX3_takeLatest_0 : decode cX3_takeLatest 0 = .ok (.aload_n 0, 1) := by decide +kernel
theorem dX3_takeLatest_1 : decode cX3_takeLatest 1 = .ok (.getfield 18, 3) := by decide +kernel
theorem dX3_takeLatest_4 : decode cX3_takeLatest 4 = .ok (.ifCond .ne 4, 3) := by decide +kernel
theorem dX3_takeLatest_7 : decode cX3_takeLatest 7 = .ok (.return_, 1) := by decide +kernel
theorem dX3_takeLatest_8 : decode cX3_takeLatest 8 = .ok (.aload_n 0, 1) := by decide +kernel
theorem dX3_takeLatest_9 : decode cX3_takeLatest 9 = .ok (.dup, 1) := by decide +kernel
theorem dX3_takeLatest_10 : decode cX3_takeLatest 10 = .ok (.getfield 18, 3) := by decide +kernel
theorem dX3_takeLatest_13 : decode cX3_takeLatest 13 = .ok (.iconst 1, 1) := by decide +kernel
theorem dX3_takeLatest_14 : decode cX3_takeLatest 14 = .ok (.isub, 1) := by decide +kernel
theorem dX3_takeLatest_15 : decode cX3_takeLatest 15 = .ok (.putfield 18, 3) := by decide +kernel
theorem dX3_takeLatest_18 : decode cX3_takeLatest 18 = .ok (.aload_n 0, 1) := by decide +kernel
theorem dX3_takeLatest_19 : decode cX3_takeLatest 19 = .ok (.aload_n 0, 1) := by decide +kernel
theorem dX3_takeLatest_20 : decode cX3_takeLatest 20 = .ok (.getfield 18, 3) := by decide +kernel
theorem dX3_takeLatest_23 : decode cX3_takeLatest 23 = .ok (.invokevirtual 25, 3) := by decide +kernel
theorem dX3_takeLatest_26 : decode cX3_takeLatest 26 = .ok (.astore_n 2, 1) := by decide +kernel
theorem dX3_takeLatest_27 : decode cX3_takeLatest 27 = .ok (.aload_n 2, 1) := by decide +kernel
theorem dX3_takeLatest_28 : decode cX3_takeLatest 28 = .ok (.ifnull 8, 3) := by decide +kernel
theorem dX3_takeLatest_31 : decode cX3_takeLatest 31 = .ok (.aload_n 1, 1) := by decide +kernel
theorem dX3_takeLatest_32 : decode cX3_takeLatest 32 = .ok (.aload_n 2, 1) := by decide +kernel
theorem dX3_takeLatest_33 : decode cX3_takeLatest 33 = .ok (.invokevirtual 29, 3) := by decide +kernel
theorem dX3_takeLatest_36 : decode cX3_takeLatest 36 = .ok (.return_, 1) := by decide +kernel
theorem dX3_slotBehindOldest_0 : decode cX3_slotBehindOldest 0 = .ok (.aload_n 0, 1) := by decide +kernel
theorem dX3_slotBehindOldest_1 : decode cX3_slotBehindOldest 1 = .ok (.getfield 22, 3) := by decide +kernel
theorem dX3_slotBehindOldest_4 : decode cX3_slotBehindOldest 4 = .ok (.iload_n 1, 1) := by decide +kernel
theorem dX3_slotBehindOldest_5 : decode cX3_slotBehindOldest 5 = .ok (.iadd, 1) := by decide +kernel
theorem dX3_slotBehindOldest_6 : decode cX3_slotBehindOldest 6 = .ok (.iconst 4, 1) := by decide +kernel
theorem dX3_slotBehindOldest_7 : decode cX3_slotBehindOldest 7 = .ok (.irem, 1) := by decide +kernel
theorem dX3_slotBehindOldest_8 : decode cX3_slotBehindOldest 8 = .ok (.istore_n 2, 1) := by decide +kernel
theorem dX3_slotBehindOldest_9 : decode cX3_slotBehindOldest 9 = .ok (.iload_n 2, 1) := by decide +kernel
theorem dX3_slotBehindOldest_10 : decode cX3_slotBehindOldest 10 = .ok (.ifCond .lt 21, 3) := by decide +kernel
theorem dX3_slotBehindOldest_13 : decode cX3_slotBehindOldest 13 = .ok (.iload_n 2, 1) := by decide +kernel
theorem dX3_slotBehindOldest_14 : decode cX3_slotBehindOldest 14 = .ok (.aload_n 0, 1) := by decide +kernel
theorem dX3_slotBehindOldest_15 : decode cX3_slotBehindOldest 15 = .ok (.getfield 11, 3) := by decide +kernel
theorem dX3_slotBehindOldest_18 : decode cX3_slotBehindOldest 18 = .ok (.arraylength, 1) := by decide +kernel
theorem dX3_slotBehindOldest_19 : decode cX3_slotBehindOldest 19 = .ok (.if_icmp .ge 12, 3) := by decide +kernel
theorem dX3_slotBehindOldest_22 : decode cX3_slotBehindOldest 22 = .ok (.aload_n 0, 1) := by decide +kernel
theorem dX3_slotBehindOldest_23 : decode cX3_slotBehindOldest 23 = .ok (.getfield 11, 3) := by decide +kernel
theorem dX3_slotBehindOldest_26 : decode cX3_slotBehindOldest 26 = .ok (.iload_n 2, 1) := by decide +kernel
theorem dX3_slotBehindOldest_27 : decode cX3_slotBehindOldest 27 = .ok (.aaload, 1) := by decide +kernel
theorem dX3_slotBehindOldest_28 : decode cX3_slotBehindOldest 28 = .ok (.goto 4, 3) := by decide +kernel
theorem dX3_slotBehindOldest_31 : decode cX3_slotBehindOldest 31 = .ok (.aconst_null, 1) := by decide +kernel
theorem dX3_slotBehindOldest_32 : decode cX3_slotBehindOldest 32 = .ok (.areturn, 1) := by decide +kernel
theorem dX4_init_0 : decode cX4_init 0 = .ok (.aload_n 0, 1) := by decide +kernel
theorem dX4_init_1 : decode cX4_init 1 = .ok (.invokespecial 3, 3) := by decide +kernel
theorem dX4_init_4 : decode cX4_init 4 = .ok (.aload_n 0, 1) := by decide +kernel
theorem dX4_init_5 : decode cX4_init 5 = .ok (.iconst 3, 1) := by decide +kernel
theorem dX4_init_6 : decode cX4_init 6 = .ok (.putfield 9, 3) := by decide +kernel
theorem dX4_init_9 : decode cX4_init 9 = .ok (.aload_n 0, 1) := by decide +kernel
theorem dX4_init_10 : decode cX4_init 10 = .ok (.bipush 10, 2) := by decide +kernel
theorem dX4_init_12 : decode cX4_init 12 = .ok (.putfield 15, 3) := by decide +kernel
theorem dX4_init_15 : decode cX4_init 15 = .ok (.aload_n 0, 1) := by decide +kernel
theorem dX4_init_16 : decode cX4_init 16 = .ok (.iconst 4, 1) := by decide +kernel
theorem dX4_init_17 : decode cX4_init 17 = .ok (.newarray .int, 2) := by decide +kernel
theorem dX4_init_19 : decode cX4_init 19 = .ok (.dup, 1) := by decide +kernel
theorem dX4_init_20 : decode cX4_init 20 = .ok (.iconst 0, 1) := by decide +kernel
theorem dX4_init_21 : decode cX4_init 21 = .ok (.bipush 10, 2) := by decide +kernel
theorem dX4_init_23 : decode cX4_init 23 = .ok (.iastore, 1) := by decide +kernel
theorem dX4_init_24 : decode cX4_init 24 = .ok (.dup, 1) := by decide +kernel
theorem dX4_init_25 : decode cX4_init 25 = .ok (.iconst 1, 1) := by decide +kernel
theorem dX4_init_26 : decode cX4_init 26 = .ok (.bipush 8, 2) := by decide +kernel
theorem dX4_init_28 : decode cX4_init 28 = .ok (.iastore, 1) := by decide +kernel
theorem dX4_init_29 : decode cX4_init 29 = .ok (.dup, 1) := by decide +kernel
theorem dX4_init_30 : decode cX4_init 30 = .ok (.iconst 2, 1) := by decide +kernel
theorem dX4_init_31 : decode cX4_init 31 = .ok (.bipush 6, 2) := by decide +kernel
theorem dX4_init_33 : decode cX4_init 33 = .ok (.iastore, 1) := by decide +kernel
theorem dX4_init_34 : decode cX4_init 34 = .ok (.dup, 1) := by decide +kernel
theorem dX4_init_35 : decode cX4_init 35 = .ok (.iconst 3, 1) := by decide +kernel
theorem dX4_init_36 : decode cX4_init 36 = .ok (.iconst 4, 1) := by decide +kernel
theorem dX4_init_37 : decode cX4_init 37 = .ok (.iastore, 1) := by decide +kernel
theorem dX4_init_38 : decode cX4_init 38 = .ok (.putfield 18, 3) := by decide +kernel
theorem dX4_init_41 : decode cX4_init 41 = .ok (.aload_n 0, 1) := by decide +kernel
theorem dX4_init_42 : decode cX4_init 42 = .ok (.new 22, 3) := by decide +kernel
theorem dX4_init_45 : decode cX4_init 45 = .ok (.dup, 1) := by decide +kernel
theorem dX4_init_46 : decode cX4_init 46 = .ok (.invokespecial 24, 3) := by decide +kernel
theorem dX4_init_49 : decode cX4_init 49 = .ok (.putfield 25, 3) := by decide +kernel
theorem dX4_init_52 : decode cX4_init 52 = .ok (.aload_n 0, 1) := by decide +kernel
theorem dX4_init_53 : decode cX4_init 53 = .ok (.new 29, 3) := by decide +kernel
theorem dX4_init_56 : decode cX4_init 56 = .ok (.dup, 1) := by decide +kernel
theorem dX4_init_57 : decode cX4_init 57 = .ok (.invokespecial 31, 3) := by decide +kernel
theorem dX4_init_60 : decode cX4_init 60 = .ok (.putfield 32, 3) := by decide +kernel
theorem dX4_init_63 : decode cX4_init 63 = .ok (.aload_n 0, 1) := by decide +kernel
theorem dX4_init_64 : decode cX4_init 64 = .ok (.iconst 3, 1) := by decide +kernel
theorem dX4_init_65 : decode cX4_init 65 = .ok (.newarray .int, 2) := by decide +kernel
theorem dX4_init_67 : decode cX4_init 67 = .ok (.putfield 36, 3) := by decide +kernel
theorem dX4_init_70 : decode cX4_init 70 = .ok (.aload_n 0, 1) := by decide +kernel
theorem dX4_init_71 : decode cX4_init 71 = .ok (.bipush 8, 2) := by decide +kernel
theorem dX4_init_73 : decode cX4_init 73 = .ok (.newarray .int, 2) := by decide +kernel
theorem dX4_init_75 : decode cX4_init 75 = .ok (.putfield 39, 3) := by decide +kernel
theorem dX4_init_78 : decode cX4_init 78 = .ok (.return_, 1) := by decide +kernel
theorem dX4_copyFrom_0 : decode cX4_copyFrom 0 = .ok (.aload_n 0, 1) := by decide +kernel
theorem dX4_copyFrom_1 : decode cX4_copyFrom 1 = .ok (.aload_n 1, 1) := by decide +kernel
theorem dX4_copyFrom_2 : decode cX4_copyFrom 2 = .ok (.getfield 9, 3) := by decide +kernel
theorem dX4_copyFrom_5 : decode cX4_copyFrom 5 = .ok (.putfield 9, 3) := by decide +kernel
theorem dX4_copyFrom_8 : decode cX4_copyFrom 8 = .ok (.aload_n 0, 1) := by decide +kernel
theorem dX4_copyFrom_9 : decode cX4_copyFrom 9 = .ok (.aload_n 1, 1) := by decide +kernel
theorem dX4_copyFrom_10 : decode cX4_copyFrom 10 = .ok (.getfield 15, 3) := by decide +kernel
theorem dX4_copyFrom_13 : decode cX4_copyFrom 13 = .ok (.putfield 15, 3) := by decide +kernel
theorem dX4_copyFrom_16 : decode cX4_copyFrom 16 = .ok (.aload_n 0, 1) := by decide +kernel
theorem dX4_copyFrom_17 : decode cX4_copyFrom 17 = .ok (.aload_n 1, 1) := by decide +kernel
theorem dX4_copyFrom_18 : decode cX4_copyFrom 18 = .ok (.getfield 42, 3) := by decide +kernel
theorem dX4_copyFrom_21 : decode cX4_copyFrom 21 = .ok (.putfield 42, 3) := by decide +kernel
theorem dX4_copyFrom_24 : decode cX4_copyFrom 24 = .ok (.aload_n 0, 1) := by decide +kernel
theorem dX4_copyFrom_25 : decode cX4_copyFrom 25 = .ok (.aload_n 1, 1) := by decide +kernel
theorem dX4_copyFrom_26 : decode cX4_copyFrom 26 = .ok (.getfield 45, 3) := by decide +kernel
theorem dX4_copyFrom_29 : decode cX4_copyFrom 29 = .ok (.putfield 45, 3) := by decide +kernel
theorem dX4_copyFrom_32 : decode cX4_copyFrom 32 = .ok (.aload_n 0, 1) := by decide +kernel
theorem dX4_copyFrom_33 : decode cX4_copyFrom 33 = .ok (.aload_n 1, 1) := by decide +kernel
theorem dX4_copyFrom_34 : decode cX4_copyFrom 34 = .ok (.getfield 48, 3) := by decide +kernel
theorem dX4_copyFrom_37 : decode cX4_copyFrom 37 = .ok (.putfield 48, 3) := by decide +kernel
theorem dX4_copyFrom_40 : decode cX4_copyFrom 40 = .ok (.aload_n 0, 1) := by decide +kernel
theorem dX4_copyFrom_41 : decode cX4_copyFrom 41 = .ok (.aload_n 1, 1) := by decide +kernel
theorem dX4_copyFrom_42 : decode cX4_copyFrom 42 = .ok (.getfield 51, 3) := by decide +kernel
theorem dX4_copyFrom_45 : decode cX4_copyFrom 45 = .ok (.putfield 51, 3) := by decide +kernel
theorem dX4_copyFrom_48 : decode cX4_copyFrom 48 = .ok (.aload_n 1, 1) := by decide +kernel
theorem dX4_copyFrom_49 : decode cX4_copyFrom 49 = .ok (.getfield 18, 3) := by decide +kernel
theorem dX4_copyFrom_52 : decode cX4_copyFrom 52 = .ok (.iconst 0, 1) := by decide +kernel
theorem dX4_copyFrom_53 : decode cX4_copyFrom 53 = .ok (.aload_n 0, 1) := by decide +kernel
theorem dX4_copyFrom_54 : decode cX4_copyFrom 54 = .ok (.getfield 18, 3) := by decide +kernel
theorem dX4_copyFrom_57 : decode cX4_copyFrom 57 = .ok (.iconst 0, 1) := by decide +kernel
theorem dX4_copyFrom_58 : decode cX4_copyFrom 58 = .ok (.aload_n 0, 1) := by decide +kernel
theorem dX4_copyFrom_59 : decode cX4_copyFrom 59 = .ok (.getfield 18, 3) := by decide +kernel
theorem dX4_copyFrom_62 : decode cX4_copyFrom 62 = .ok (.arraylength, 1) := by decide +kernel
theorem dX4_copyFrom_63 : decode cX4_copyFrom 63 = .ok (.invokestatic 54, 3) := by decide +kernel
theorem dX4_copyFrom_66 : decode cX4_copyFrom 66 = .ok (.aload_n 1, 1) := by decide +kernel
theorem dX4_copyFrom_67 : decode cX4_copyFrom 67 = .ok (.getfield 36, 3) := by decide +kernel
theorem dX4_copyFrom_70 : decode cX4_copyFrom 70 = .ok (.iconst 0, 1) := by decide +kernel
theorem dX4_copyFrom_71 : decode cX4_copyFrom 71 = .ok (.aload_n 0, 1) := by decide +kernel
theorem dX4_copyFrom_72 : decode cX4_copyFrom 72 = .ok (.getfield 36, 3) := by decide +kernel
theorem dX4_copyFrom_75 : decode cX4_copyFrom 75 = .ok (.iconst 0, 1) := by decide +kernel
theorem dX4_copyFrom_76 : decode cX4_copyFrom 76 = .ok (.aload_n 0, 1) := by decide +kernel
theorem dX4_copyFrom_77 : decode cX4_copyFrom 77 = .ok (.getfield 36, 3) := by decide +kernel
theorem dX4_copyFrom_80 : decode cX4_copyFrom 80 = .ok (.arraylength, 1) := by decide +kernel
theorem dX4_copyFrom_81 : decode cX4_copyFrom 81 = .ok (.invokestatic 54, 3) := by decide +kernel
theorem dX4_copyFrom_84 : decode cX4_copyFrom 84 = .ok (.aload_n 1, 1) := by decide +kernel
theorem dX4_copyFrom_85 : decode cX4_copyFrom 85 = .ok (.getfield 39, 3) := by decide +kernel
theorem dX4_copyFrom_88 : decode cX4_copyFrom 88 = .ok (.iconst 0, 1) := by decide +kernel
theorem dX4_copyFrom_89 : decode cX4_copyFrom 89 = .ok (.aload_n 0, 1) := by decide +kernel
theorem dX4_copyFrom_90 : decode cX4_copyFrom 90 = .ok (.getfield 39, 3) := by decide +kernel
theorem dX4_copyFrom_93 : decode cX4_copyFrom 93 = .ok (.iconst 0, 1) := by decide +kernel
theorem dX4_copyFrom_94 : decode cX4_copyFrom 94 = .ok (.aload_n 0, 1) := by decide +kernel
theorem dX4_copyFrom_95 : decode cX4_copyFrom 95 = .ok (.getfield 39, 3) := by decide +kernel
theorem dX4_copyFrom_98 : decode cX4_copyFrom 98 = .ok (.arraylength, 1) := by decide +kernel
theorem dX4_copyFrom_99 : decode cX4_copyFrom 99 = .ok (.invokestatic 54, 3) := by decide +kernel
theorem dX4_copyFrom_102 : decode cX4_copyFrom 102 = .ok (.aload_n 0, 1) := by decide +kernel
theorem dX4_copyFrom_103 : decode cX4_copyFrom 103 = .ok (.getfield 25, 3) := by decide +kernel
theorem dX4_copyFrom_106 : decode cX4_copyFrom 106 = .ok (.aload_n 1, 1) := by decide +kernel
theorem dX4_copyFrom_107 : decode cX4_copyFrom 107 = .ok (.getfield 25, 3) := by decide +kernel
theorem dX4_copyFrom_110 : decode cX4_copyFrom 110 = .ok (.invokevirtual 60, 3) := by decide +kernel
theorem dX4_copyFrom_113 : decode cX4_copyFrom 113 = .ok (.aload_n 0, 1) := by decide +kernel
theorem dX4_copyFrom_114 : decode cX4_copyFrom 114 = .ok (.getfield 32, 3) := by decide +kernel
theorem dX4_copyFrom_117 : decode cX4_copyFrom 117 = .ok (.aload_n 1, 1) := by decide +kernel
theorem dX4_copyFrom_118 : decode cX4_copyFrom 118 = .ok (.getfield 32, 3) := by decide +kernel
theorem dX4_copyFrom_121 : decode cX4_copyFrom 121 = .ok (.invokevirtual 64, 3) := by decide +kernel
theorem dX4_copyFrom_124 : decode cX4_copyFrom 124 = .ok (.return_, 1) := by decide +kernel
theorem dX4_hasRoomFor_0 : decode cX4_hasRoomFor 0 = .ok (.aload_n 0, 1) := by decide +kernel
theorem dX4_hasRoomFor_1 : decode cX4_hasRoomFor 1 = .ok (.getfield 25, 3) := by decide +kernel
theorem dX4_hasRoomFor_4 : decode cX4_hasRoomFor 4 = .ok (.getfield 67, 3) := by decide +kernel
theorem dX4_hasRoomFor_7 : decode cX4_hasRoomFor 7 = .ok (.bipush 40, 2) := by decide +kernel
theorem dX4_hasRoomFor_9 : decode cX4_hasRoomFor 9 = .ok (.if_icmp .ge 28, 3) := by decide +kernel
theorem dX4_hasRoomFor_12 : decode cX4_hasRoomFor 12 = .ok (.aload_n 0, 1) := by decide +kernel
theorem dX4_hasRoomFor_13 : decode cX4_hasRoomFor 13 = .ok (.iload_n 1, 1) := by decide +kernel
theorem dX4_hasRoomFor_14 : decode cX4_hasRoomFor 14 = .ok (.invokevirtual 70, 3) := by decide +kernel
theorem dX4_hasRoomFor_17 : decode cX4_hasRoomFor 17 = .ok (.ifCond .eq 20, 3) := by decide +kernel
theorem dX4_hasRoomFor_20 : decode cX4_hasRoomFor 20 = .ok (.iload_n 2, 1) := by decide +kernel
theorem dX4_hasRoomFor_21 : decode cX4_hasRoomFor 21 = .ok (.iconst (-1), 1) := by decide +kernel
theorem dX4_hasRoomFor_22 : decode cX4_hasRoomFor 22 = .ok (.if_icmp .eq 11, 3) := by decide +kernel
theorem dX4_hasRoomFor_25 : decode cX4_hasRoomFor 25 = .ok (.aload_n 0, 1) := by decide +kernel
theorem dX4_hasRoomFor_26 : decode cX4_hasRoomFor 26 = .ok (.iload_n 2, 1) := by decide +kernel
theorem dX4_hasRoomFor_27 : decode cX4_hasRoomFor 27 = .ok (.invokevirtual 70, 3) := by decide +kernel
theorem dX4_hasRoomFor_30 : decode cX4_hasRoomFor 30 = .ok (.ifCond .eq 7, 3) := by decide +kernel
theorem dX4_hasRoomFor_33 : decode cX4_hasRoomFor 33 = .ok (.iconst 1, 1) := by decide +kernel
theorem dX4_hasRoomFor_34 : decode cX4_hasRoomFor 34 = .ok (.goto 4, 3) := by decide +kernel
theorem dX4_hasRoomFor_37 : decode cX4_hasRoomFor 37 = .ok (.iconst 0, 1) := by decide +kernel
theorem dX4_hasRoomFor_38 : decode cX4_hasRoomFor 38 = .ok (.ireturn, 1) := by decide +kernel
theorem dX4_quotaAllows_0 : decode cX4_quotaAllows 0 = .ok (.aload_n 0, 1) := by decide +kernel
theorem dX4_quotaAllows_1 : decode cX4_quotaAllows 1 = .ok (.getfield 25, 3) := by decide +kernel
theorem dX4_quotaAllows_4 : decode cX4_quotaAllows 4 = .ok (.iload_n 1, 1) := by decide +kernel
theorem dX4_quotaAllows_5 : decode cX4_quotaAllows 5 = .ok (.invokevirtual 74, 3) := by decide +kernel
theorem dX4_quotaAllows_8 : decode cX4_quotaAllows 8 = .ok (.aload_n 0, 1) := by decide +kernel
theorem dX4_quotaAllows_9 : decode cX4_quotaAllows 9 = .ok (.getfield 9, 3) := by decide +kernel
theorem dX4_quotaAllows_12 : decode cX4_quotaAllows 12 = .ok (.if_icmp .ge 7, 3) := by decide +kernel
theorem dX4_quotaAllows_15 : decode cX4_quotaAllows 15 = .ok (.iconst 1, 1) := by decide +kernel
theorem dX4_quotaAllows_16 : decode cX4_quotaAllows 16 = .ok (.goto 4, 3) := by decide +kernel
theorem dX4_quotaAllows_19 : decode cX4_quotaAllows 19 = .ok (.iconst 0, 1) := by decide +kernel
theorem dX4_quotaAllows_20 : decode cX4_quotaAllows 20 = .ok (.ireturn, 1) := by decide +kernel
theorem dX4_putIn_0 : decode cX4_putIn 0 = .ok (.aload_n 0, 1) := by decide +kernel
theorem dX4_putIn_1 : decode cX4_putIn 1 = .ok (.getfield 48, 3) := by decide +kernel
theorem dX4_putIn_4 : decode cX4_putIn 4 = .ok (.istore 6, 2) := by decide +kernel
theorem dX4_putIn_6 : decode cX4_putIn 6 = .ok (.aload_n 0, 1) := by decide +kernel
theorem dX4_putIn_7 : decode cX4_putIn 7 = .ok (.dup, 1) := by decide +kernel
theorem dX4_putIn_8 : decode cX4_putIn 8 = .ok (.getfield 48, 3) := by decide +kernel
theorem dX4_putIn_11 : decode cX4_putIn 11 = .ok (.iconst 1, 1) := by decide +kernel
theorem dX4_putIn_12 : decode cX4_putIn 12 = .ok (.iadd, 1) := by decide +kernel
theorem dX4_putIn_13 : decode cX4_putIn 13 = .ok (.putfield 48, 3) := by decide +kernel
theorem dX4_putIn_16 : decode cX4_putIn 16 = .ok (.aload_n 0, 1) := by decide +kernel
theorem dX4_putIn_17 : decode cX4_putIn 17 = .ok (.getfield 25, 3) := by decide +kernel
theorem dX4_putIn_20 : decode cX4_putIn 20 = .ok (.invokevirtual 78, 3) := by decide +kernel
theorem dX4_putIn_23 : decode cX4_putIn 23 = .ok (.istore 7, 2) := by decide +kernel
theorem dX4_putIn_25 : decode cX4_putIn 25 = .ok (.aload_n 0, 1) := by decide +kernel
theorem dX4_putIn_26 : decode cX4_putIn 26 = .ok (.getfield 25, 3) := by decide +kernel
theorem dX4_putIn_29 : decode cX4_putIn 29 = .ok (.iload 7, 2) := by decide +kernel
theorem dX4_putIn_31 : decode cX4_putIn 31 = .ok (.bipush 7, 2) := by decide +kernel
theorem dX4_putIn_33 : decode cX4_putIn 33 = .ok (.iload 6, 2) := by decide +kernel
theorem dX4_putIn_35 : decode cX4_putIn 35 = .ok (.invokevirtual 82, 3) := by decide +kernel
theorem dX4_putIn_38 : decode cX4_putIn 38 = .ok (.aload_n 0, 1) := by decide +kernel
theorem dX4_putIn_39 : decode cX4_putIn 39 = .ok (.getfield 25, 3) := by decide +kernel
theorem dX4_putIn_42 : decode cX4_putIn 42 = .ok (.iload 7, 2) := by decide +kernel
theorem dX4_putIn_44 : decode cX4_putIn 44 = .ok (.iconst 0, 1) := by decide +kernel
theorem dX4_putIn_45 : decode cX4_putIn 45 = .ok (.iload_n 1, 1) := by decide +kernel
theorem dX4_putIn_46 : decode cX4_putIn 46 = .ok (.invokevirtual 82, 3) := by decide +kernel
theorem dX4_putIn_49 : decode cX4_putIn 49 = .ok (.aload_n 0, 1) := by decide +kernel
theorem dX4_putIn_50 : decode cX4_putIn 50 = .ok (.getfield 25, 3) := by decide +kernel
theorem dX4_putIn_53 : decode cX4_putIn 53 = .ok (.iload 7, 2) := by decide +kernel
theorem dX4_putIn_55 : decode cX4_putIn 55 = .ok (.iconst 1, 1) := by decide +kernel
theorem dX4_putIn_56 : decode cX4_putIn 56 = .ok (.iload_n 2, 1) := by decide +kernel
theorem dX4_putIn_57 : decode cX4_putIn 57 = .ok (.invokevirtual 82, 3) := by decide +kernel
theorem dX4_putIn_60 : decode cX4_putIn 60 = .ok (.aload_n 0, 1) := by decide +kernel
theorem dX4_putIn_61 : decode cX4_putIn 61 = .ok (.getfield 25, 3) := by decide +kernel
theorem dX4_putIn_64 : decode cX4_putIn 64 = .ok (.iload 7, 2) := by decide +kernel
theorem dX4_putIn_66 : decode cX4_putIn 66 = .ok (.iconst 2, 1) := by decide +kernel
theorem dX4_putIn_67 : decode cX4_putIn 67 = .ok (.iconst 4, 1) := by decide +kernel
theorem dX4_putIn_68 : decode cX4_putIn 68 = .ok (.iload_n 3, 1) := by decide +kernel
theorem dX4_putIn_69 : decode cX4_putIn 69 = .ok (.iload 5, 2) := by decide +kernel
theorem dX4_putIn_71 : decode cX4_putIn 71 = .ok (.bipush 25, 2) := by decide +kernel
theorem dX4_putIn_73 : decode cX4_putIn 73 = .ok (.idiv, 1) := by decide +kernel
theorem dX4_putIn_74 : decode cX4_putIn 74 = .ok (.iadd, 1) := by decide +kernel
theorem dX4_putIn_75 : decode cX4_putIn 75 = .ok (.invokestatic 86, 3) := by decide +kernel
theorem dX4_putIn_78 : decode cX4_putIn 78 = .ok (.invokevirtual 82, 3) := by decide +kernel
theorem dX4_putIn_81 : decode cX4_putIn 81 = .ok (.aload_n 0, 1) := by decide +kernel
theorem dX4_putIn_82 : decode cX4_putIn 82 = .ok (.getfield 25, 3) := by decide +kernel
theorem dX4_putIn_85 : decode cX4_putIn 85 = .ok (.iload 7, 2) := by decide +kernel
theorem dX4_putIn_87 : decode cX4_putIn 87 = .ok (.iconst 5, 1) := by decide +kernel
theorem dX4_putIn_88 : decode cX4_putIn 88 = .ok (.iload 4, 2) := by decide +kernel
theorem dX4_putIn_90 : decode cX4_putIn 90 = .ok (.invokevirtual 82, 3) := by decide +kernel
theorem dX4_putIn_93 : decode cX4_putIn 93 = .ok (.aload_n 0, 1) := by decide +kernel
theorem dX4_putIn_94 : decode cX4_putIn 94 = .ok (.getfield 25, 3) := by decide +kernel
theorem dX4_putIn_97 : decode cX4_putIn 97 = .ok (.iload 7, 2) := by decide +kernel
theorem dX4_putIn_99 : decode cX4_putIn 99 = .ok (.bipush 6, 2) := by decide +kernel
theorem dX4_putIn_101 : decode cX4_putIn 101 = .ok (.iload 5, 2) := by decide +kernel
theorem dX4_putIn_103 : decode cX4_putIn 103 = .ok (.invokevirtual 82, 3) := by decide +kernel
theorem dX4_putIn_106 : decode cX4_putIn 106 = .ok (.iload 6, 2) := by decide +kernel
theorem dX4_putIn_108 : decode cX4_putIn 108 = .ok (.ireturn, 1) := by decide +kernel
theorem dX4_serveFirst_0 : decode cX4_serveFirst 0 = .ok (.aload_n 0, 1) := by decide +kernel
theorem dX4_serveFirst_1 : decode cX4_serveFirst 1 = .ok (.getfield 25, 3) := by decide +kernel
theorem dX4_serveFirst_4 : decode cX4_serveFirst 4 = .ok (.invokevirtual 92, 3) := by decide +kernel
theorem dX4_serveFirst_7 : decode cX4_serveFirst 7 = .ok (.istore_n 1, 1) := by decide +kernel
theorem dX4_serveFirst_8 : decode cX4_serveFirst 8 = .ok (.iload_n 1, 1) := by decide +kernel
theorem dX4_serveFirst_9 : decode cX4_serveFirst 9 = .ok (.iconst (-1), 1) := by decide +kernel
theorem dX4_serveFirst_10 : decode cX4_serveFirst 10 = .ok (.if_icmp .ne 5, 3) := by decide +kernel
theorem dX4_serveFirst_13 : decode cX4_serveFirst 13 = .ok (.iconst (-1), 1) := by decide +kernel
theorem dX4_serveFirst_14 : decode cX4_serveFirst 14 = .ok (.ireturn, 1) := by decide +kernel
theorem dX4_serveFirst_15 : decode cX4_serveFirst 15 = .ok (.aload_n 0, 1) := by decide +kernel
theorem dX4_serveFirst_16 : decode cX4_serveFirst 16 = .ok (.getfield 25, 3) := by decide +kernel
theorem dX4_serveFirst_19 : decode cX4_serveFirst 19 = .ok (.iload_n 1, 1) := by decide +kernel
theorem dX4_serveFirst_20 : decode cX4_serveFirst 20 = .ok (.bipush 7, 2) := by decide +kernel
theorem dX4_serveFirst_22 : decode cX4_serveFirst 22 = .ok (.invokevirtual 95, 3) := by decide +kernel
theorem dX4_serveFirst_25 : decode cX4_serveFirst 25 = .ok (.istore_n 2, 1) := by decide +kernel
theorem dX4_serveFirst_26 : decode cX4_serveFirst 26 = .ok (.aload_n 0, 1) := by decide +kernel
theorem dX4_serveFirst_27 : decode cX4_serveFirst 27 = .ok (.dup, 1) := by decide +kernel
theorem dX4_serveFirst_28 : decode cX4_serveFirst 28 = .ok (.getfield 42, 3) := by decide +kernel
theorem dX4_serveFirst_31 : decode cX4_serveFirst 31 = .ok (.aload_n 0, 1) := by decide +kernel
theorem dX4_serveFirst_32 : decode cX4_serveFirst 32 = .ok (.getfield 25, 3) := by decide +kernel
theorem dX4_serveFirst_35 : decode cX4_serveFirst 35 = .ok (.iload_n 1, 1) := by decide +kernel
theorem dX4_serveFirst_36 : decode cX4_serveFirst 36 = .ok (.iconst 3, 1) := by decide +kernel
theorem dX4_serveFirst_37 : decode cX4_serveFirst 37 = .ok (.invokevirtual 95, 3) := by decide +kernel
theorem dX4_serveFirst_40 : decode cX4_serveFirst 40 = .ok (.iadd, 1) := by decide +kernel
theorem dX4_serveFirst_41 : decode cX4_serveFirst 41 = .ok (.putfield 42, 3) := by decide +kernel
theorem dX4_serveFirst_44 : decode cX4_serveFirst 44 = .ok (.aload_n 0, 1) := by decide +kernel
theorem dX4_serveFirst_45 : decode cX4_serveFirst 45 = .ok (.iload_n 1, 1) := by decide +kernel
theorem dX4_serveFirst_46 : decode cX4_serveFirst 46 = .ok (.iconst 0, 1) := by decide +kernel
theorem dX4_serveFirst_47 : decode cX4_serveFirst 47 = .ok (.invokevirtual 98, 3) := by decide +kernel
theorem dX4_serveFirst_50 : decode cX4_serveFirst 50 = .ok (.pop, 1) := by decide +kernel
theorem dX4_serveFirst_51 : decode cX4_serveFirst 51 = .ok (.iload_n 2, 1) := by decide +kernel
theorem dX4_serveFirst_52 : decode cX4_serveFirst 52 = .ok (.ireturn, 1) := by decide +kernel
theorem dX4_letLeave_0 : decode cX4_letLeave 0 = .ok (.aload_n 0, 1) := by decide +kernel
theorem dX4_letLeave_1 : decode cX4_letLeave 1 = .ok (.iload_n 1, 1) := by decide +kernel
theorem dX4_letLeave_2 : decode cX4_letLeave 2 = .ok (.iload_n 2, 1) := by decide +kernel
theorem dX4_letLeave_3 : decode cX4_letLeave 3 = .ok (.invokevirtual 101, 3) := by decide +kernel
theorem dX4_letLeave_6 : decode cX4_letLeave 6 = .ok (.istore_n 3, 1) := by decide +kernel
theorem dX4_letLeave_7 : decode cX4_letLeave 7 = .ok (.aload_n 0, 1) := by decide +kernel
theorem dX4_letLeave_8 : decode cX4_letLeave 8 = .ok (.getfield 25, 3) := by decide +kernel
theorem dX4_letLeave_11 : decode cX4_letLeave 11 = .ok (.iload_n 1, 1) := by decide +kernel
theorem dX4_letLeave_12 : decode cX4_letLeave 12 = .ok (.iconst 0, 1) := by decide +kernel
theorem dX4_letLeave_13 : decode cX4_letLeave 13 = .ok (.invokevirtual 95, 3) := by decide +kernel
theorem dX4_letLeave_16 : decode cX4_letLeave 16 = .ok (.istore 4, 2) := by decide +kernel
theorem dX4_letLeave_18 : decode cX4_letLeave 18 = .ok (.aload_n 0, 1) := by decide +kernel
theorem dX4_letLeave_19 : decode cX4_letLeave 19 = .ok (.dup, 1) := by decide +kernel
theorem dX4_letLeave_20 : decode cX4_letLeave 20 = .ok (.getfield 51, 3) := by decide +kernel
theorem dX4_letLeave_23 : decode cX4_letLeave 23 = .ok (.aload_n 0, 1) := by decide +kernel
theorem dX4_letLeave_24 : decode cX4_letLeave 24 = .ok (.getfield 25, 3) := by decide +kernel
theorem dX4_letLeave_27 : decode cX4_letLeave 27 = .ok (.iload_n 1, 1) := by decide +kernel
theorem dX4_letLeave_28 : decode cX4_letLeave 28 = .ok (.bipush 6, 2) := by decide +kernel
theorem dX4_letLeave_30 : decode cX4_letLeave 30 = .ok (.invokevirtual 95, 3) := by decide +kernel
theorem dX4_letLeave_33 : decode cX4_letLeave 33 = .ok (.iload_n 3, 1) := by decide +kernel
theorem dX4_letLeave_34 : decode cX4_letLeave 34 = .ok (.isub, 1) := by decide +kernel
theorem dX4_letLeave_35 : decode cX4_letLeave 35 = .ok (.iadd, 1) := by decide +kernel
theorem dX4_letLeave_36 : decode cX4_letLeave 36 = .ok (.putfield 51, 3) := by decide +kernel
theorem dX4_letLeave_39 : decode cX4_letLeave 39 = .ok (.iload 4, 2) := by decide +kernel
theorem dX4_letLeave_41 : decode cX4_letLeave 41 = .ok (.ifCond .lt 24, 3) := by decide +kernel
theorem dX4_letLeave_44 : decode cX4_letLeave 44 = .ok (.iload 4, 2) := by decide +kernel
theorem dX4_letLeave_46 : decode cX4_letLeave 46 = .ok (.aload_n 0, 1) := by decide +kernel
theorem dX4_letLeave_47 : decode cX4_letLeave 47 = .ok (.getfield 39, 3) := by decide +kernel
theorem dX4_letLeave_50 : decode cX4_letLeave 50 = .ok (.arraylength, 1) := by decide +kernel
theorem dX4_letLeave_51 : decode cX4_letLeave 51 = .ok (.if_icmp .ge 14, 3) := by decide +kernel
theorem dX4_letLeave_54 : decode cX4_letLeave 54 = .ok (.aload_n 0, 1) := by decide +kernel
theorem dX4_letLeave_55 : decode cX4_letLeave 55 = .ok (.getfield 39, 3) := by decide +kernel
theorem dX4_letLeave_58 : decode cX4_letLeave 58 = .ok (.iload 4, 2) := by decide +kernel
theorem dX4_letLeave_60 : decode cX4_letLeave 60 = .ok (.dup2, 1) := by decide +kernel
theorem dX4_letLeave_61 : decode cX4_letLeave 61 = .ok (.iaload, 1) := by decide +kernel
theorem dX4_letLeave_62 : decode cX4_letLeave 62 = .ok (.iload_n 3, 1) := by decide +kernel
theorem dX4_letLeave_63 : decode cX4_letLeave 63 = .ok (.iadd, 1) := by decide +kernel
theorem dX4_letLeave_64 : decode cX4_letLeave 64 = .ok (.iastore, 1) := by decide +kernel
theorem dX4_letLeave_65 : decode cX4_letLeave 65 = .ok (.iload_n 2, 1) := by decide +kernel
theorem dX4_letLeave_66 : decode cX4_letLeave 66 = .ok (.ifCond .lt 22, 3) := by decide +kernel
theorem dX4_letLeave_69 : decode cX4_letLeave 69 = .ok (.iload_n 2, 1) := by decide +kernel
theorem dX4_letLeave_70 : decode cX4_letLeave 70 = .ok (.aload_n 0, 1) := by decide +kernel
theorem dX4_letLeave_71 : decode cX4_letLeave 71 = .ok (.getfield 36, 3) := by decide +kernel
theorem dX4_letLeave_74 : decode cX4_letLeave 74 = .ok (.arraylength, 1) := by decide +kernel
theorem dX4_letLeave_75 : decode cX4_letLeave 75 = .ok (.if_icmp .ge 13, 3) := by decide +kernel
theorem dX4_letLeave_78 : decode cX4_letLeave 78 = .ok (.aload_n 0, 1) := by decide +kernel
theorem dX4_letLeave_79 : decode cX4_letLeave 79 = .ok (.getfield 36, 3) := by decide +kernel
theorem dX4_letLeave_82 : decode cX4_letLeave 82 = .ok (.iload_n 2, 1) := by decide +kernel
theorem dX4_letLeave_83 : decode cX4_letLeave 83 = .ok (.dup2, 1) := by decide +kernel
theorem dX4_letLeave_84 : decode cX4_letLeave 84 = .ok (.iaload, 1) := by decide +kernel
theorem dX4_letLeave_85 : decode cX4_letLeave 85 = .ok (.iconst 1, 1) := by decide +kernel
theorem dX4_letLeave_86 : decode cX4_letLeave 86 = .ok (.iadd, 1) := by decide +kernel
theorem dX4_letLeave_87 : decode cX4_letLeave 87 = .ok (.iastore, 1) := by decide +kernel
theorem dX4_letLeave_88 : decode cX4_letLeave 88 = .ok (.aload_n 0, 1) := by decide +kernel
theorem dX4_letLeave_89 : decode cX4_letLeave 89 = .ok (.getfield 25, 3) := by decide +kernel
theorem dX4_letLeave_92 : decode cX4_letLeave 92 = .ok (.iload_n 1, 1) := by decide +kernel
theorem dX4_letLeave_93 : decode cX4_letLeave 93 = .ok (.iconst 3, 1) := by decide +kernel
theorem dX4_letLeave_94 : decode cX4_letLeave 94 = .ok (.invokevirtual 95, 3) := by decide +kernel
theorem dX4_letLeave_97 : decode cX4_letLeave 97 = .ok (.istore 5, 2) := by decide +kernel
theorem dX4_letLeave_99 : decode cX4_letLeave 99 = .ok (.aload_n 0, 1) := by decide +kernel
theorem dX4_letLeave_100 : decode cX4_letLeave 100 = .ok (.getfield 32, 3) := by decide +kernel
theorem dX4_letLeave_103 : decode cX4_letLeave 103 = .ok (.aload_n 0, 1) := by decide +kernel
theorem dX4_letLeave_104 : decode cX4_letLeave 104 = .ok (.getfield 25, 3) := by decide +kernel
theorem dX4_letLeave_107 : decode cX4_letLeave 107 = .ok (.iload_n 1, 1) := by decide +kernel
theorem dX4_letLeave_108 : decode cX4_letLeave 108 = .ok (.bipush 7, 2) := by decide +kernel
theorem dX4_letLeave_110 : decode cX4_letLeave 110 = .ok (.invokevirtual 95, 3) := by decide +kernel
theorem dX4_letLeave_113 : decode cX4_letLeave 113 = .ok (.iload_n 2, 1) := by decide +kernel
theorem dX4_letLeave_114 : decode cX4_letLeave 114 = .ok (.iload 5, 2) := by decide +kernel
theorem dX4_letLeave_116 : decode cX4_letLeave 116 = .ok (.iload_n 3, 1) := by decide +kernel
theorem dX4_letLeave_117 : decode cX4_letLeave 117 = .ok (.aload_n 0, 1) := by decide +kernel
theorem dX4_letLeave_118 : decode cX4_letLeave 118 = .ok (.getfield 25, 3) := by decide +kernel
theorem dX4_letLeave_121 : decode cX4_letLeave 121 = .ok (.iload_n 1, 1) := by decide +kernel
theorem dX4_letLeave_122 : decode cX4_letLeave 122 = .ok (.iconst 2, 1) := by decide +kernel
theorem dX4_letLeave_123 : decode cX4_letLeave 123 = .ok (.invokevirtual 95, 3) := by decide +kernel
theorem dX4_letLeave_126 : decode cX4_letLeave 126 = .ok (.invokevirtual 104, 3) := by decide +kernel
theorem dX4_letLeave_129 : decode cX4_letLeave 129 = .ok (.aload_n 0, 1) := by decide +kernel
theorem dX4_letLeave_130 : decode cX4_letLeave 130 = .ok (.getfield 25, 3) := by decide +kernel
theorem dX4_letLeave_133 : decode cX4_letLeave 133 = .ok (.iload_n 1, 1) := by decide +kernel
theorem dX4_letLeave_134 : decode cX4_letLeave 134 = .ok (.invokevirtual 108, 3) := by decide +kernel
theorem dX4_letLeave_137 : decode cX4_letLeave 137 = .ok (.iload_n 3, 1) := by decide +kernel
theorem dX4_letLeave_138 : decode cX4_letLeave 138 = .ok (.ireturn, 1) := by decide +kernel
theorem dX4_bribeGivenBack_0 : decode cX4_bribeGivenBack 0 = .ok (.aload_n 0, 1) := by decide +kernel
theorem dX4_bribeGivenBack_1 : decode cX4_bribeGivenBack 1 = .ok (.getfield 25, 3) := by decide +kernel
theorem dX4_bribeGivenBack_4 : decode cX4_bribeGivenBack 4 = .ok (.iload_n 1, 1) := by decide +kernel
theorem dX4_bribeGivenBack_5 : decode cX4_bribeGivenBack 5 = .ok (.bipush 6, 2) := by decide +kernel
theorem dX4_bribeGivenBack_7 : decode cX4_bribeGivenBack 7 = .ok (.invokevirtual 95, 3) := by decide +kernel
theorem dX4_bribeGivenBack_10 : decode cX4_bribeGivenBack 10 = .ok (.istore_n 3, 1) := by decide +kernel
theorem dX4_bribeGivenBack_11 : decode cX4_bribeGivenBack 11 = .ok (.iload_n 2, 1) := by decide +kernel
theorem dX4_bribeGivenBack_12 : decode cX4_bribeGivenBack 12 = .ok (.lookupswitch 54 #[(0, 28), (1, 52)], 28) := by decide +kernel
theorem dX4_bribeGivenBack_40 : decode cX4_bribeGivenBack 40 = .ok (.aload_n 0, 1) := by decide +kernel
theorem dX4_bribeGivenBack_41 : decode cX4_bribeGivenBack 41 = .ok (.getfield 25, 3) := by decide +kernel
theorem dX4_bribeGivenBack_44 : decode cX4_bribeGivenBack 44 = .ok (.iload_n 1, 1) := by decide +kernel
theorem dX4_bribeGivenBack_45 : decode cX4_bribeGivenBack 45 = .ok (.iconst 3, 1) := by decide +kernel
theorem dX4_bribeGivenBack_46 : decode cX4_bribeGivenBack 46 = .ok (.invokevirtual 95, 3) := by decide +kernel
theorem dX4_bribeGivenBack_49 : decode cX4_bribeGivenBack 49 = .ok (.aload_n 0, 1) := by decide +kernel
theorem dX4_bribeGivenBack_50 : decode cX4_bribeGivenBack 50 = .ok (.getfield 15, 3) := by decide +kernel
theorem dX4_bribeGivenBack_53 : decode cX4_bribeGivenBack 53 = .ok (.if_icmp .gt 7, 3) := by decide +kernel
theorem dX4_bribeGivenBack_56 : decode cX4_bribeGivenBack 56 = .ok (.iconst 0, 1) := by decide +kernel
theorem dX4_bribeGivenBack_57 : decode cX4_bribeGivenBack 57 = .ok (.goto 6, 3) := by decide +kernel
theorem dX4_bribeGivenBack_60 : decode cX4_bribeGivenBack 60 = .ok (.iload_n 3, 1) := by decide +kernel
theorem dX4_bribeGivenBack_61 : decode cX4_bribeGivenBack 61 = .ok (.iconst 2, 1) := by decide +kernel
theorem dX4_bribeGivenBack_62 : decode cX4_bribeGivenBack 62 = .ok (.idiv, 1) := by decide +kernel
theorem dX4_bribeGivenBack_63 : decode cX4_bribeGivenBack 63 = .ok (.ireturn, 1) := by decide +kernel
theorem dX4_bribeGivenBack_64 : decode cX4_bribeGivenBack 64 = .ok (.iload_n 3, 1) := by decide +kernel
theorem dX4_bribeGivenBack_65 : decode cX4_bribeGivenBack 65 = .ok (.ireturn, 1) := by decide +kernel
theorem dX4_bribeGivenBack_66 : decode cX4_bribeGivenBack 66 = .ok (.iload_n 3, 1) := by decide +kernel
theorem dX4_bribeGivenBack_67 : decode cX4_bribeGivenBack 67 = .ok (.iload_n 3, 1) := by decide +kernel
theorem dX4_bribeGivenBack_68 : decode cX4_bribeGivenBack 68 = .ok (.iconst 4, 1) := by decide +kernel
theorem dX4_bribeGivenBack_69 : decode cX4_bribeGivenBack 69 = .ok (.idiv, 1) := by decide +kernel
theorem dX4_bribeGivenBack_70 : decode cX4_bribeGivenBack 70 = .ok (.isub, 1) := by decide +kernel
theorem dX4_bribeGivenBack_71 : decode cX4_bribeGivenBack 71 = .ok (.ireturn, 1) := by decide +kernel
theorem dX4_hasTimeFor_0 : decode cX4_hasTimeFor 0 = .ok (.iload_n 1, 1) := by decide +kernel
theorem dX4_hasTimeFor_1 : decode cX4_hasTimeFor 1 = .ok (.ldc 112, 2) := by decide +kernel
theorem dX4_hasTimeFor_3 : decode cX4_hasTimeFor 3 = .ok (.aload_n 0, 1) := by decide +kernel
theorem dX4_hasTimeFor_4 : decode cX4_hasTimeFor 4 = .ok (.getfield 45, 3) := by decide +kernel
theorem dX4_hasTimeFor_7 : decode cX4_hasTimeFor 7 = .ok (.isub, 1) := by decide +kernel
theorem dX4_hasTimeFor_8 : decode cX4_hasTimeFor 8 = .ok (.if_icmp .gt 7, 3) := by decide +kernel
theorem dX4_hasTimeFor_11 : decode cX4_hasTimeFor 11 = .ok (.iconst 1, 1) := by decide +kernel
theorem dX4_hasTimeFor_12 : decode cX4_hasTimeFor 12 = .ok (.goto 4, 3) := by decide +kernel
theorem dX4_hasTimeFor_15 : decode cX4_hasTimeFor 15 = .ok (.iconst 0, 1) := by decide +kernel
theorem dX4_hasTimeFor_16 : decode cX4_hasTimeFor 16 = .ok (.ireturn, 1) := by decide +kernel
theorem dX4_letPass_0 : decode cX4_letPass 0 = .ok (.iconst 0, 1) := by decide +kernel
theorem dX4_letPass_1 : decode cX4_letPass 1 = .ok (.istore_n 2, 1) := by decide +kernel
theorem dX4_letPass_2 : decode cX4_letPass 2 = .ok (.iconst 0, 1) := by decide +kernel
theorem dX4_letPass_3 : decode cX4_letPass 3 = .ok (.istore_n 3, 1) := by decide +kernel
theorem dX4_letPass_4 : decode cX4_letPass 4 = .ok (.iload_n 3, 1) := by decide +kernel
theorem dX4_letPass_5 : decode cX4_letPass 5 = .ok (.iload_n 1, 1) := by decide +kernel
theorem dX4_letPass_6 : decode cX4_letPass 6 = .ok (.if_icmp .ge 16, 3) := by decide +kernel
theorem dX4_letPass_9 : decode cX4_letPass 9 = .ok (.iload_n 2, 1) := by decide +kernel
theorem dX4_letPass_10 : decode cX4_letPass 10 = .ok (.aload_n 0, 1) := by decide +kernel
theorem dX4_letPass_11 : decode cX4_letPass 11 = .ok (.invokevirtual 113, 3) := by decide +kernel
theorem dX4_letPass_14 : decode cX4_letPass 14 = .ok (.iadd, 1) := by decide +kernel
theorem dX4_letPass_15 : decode cX4_letPass 15 = .ok (.istore_n 2, 1) := by decide +kernel
theorem dX4_letPass_16 : decode cX4_letPass 16 = .ok (.iinc 3 1, 3) := by decide +kernel
theorem dX4_letPass_19 : decode cX4_letPass 19 = .ok (.goto (-15), 3) := by decide +kernel
theorem dX4_letPass_22 : decode cX4_letPass 22 = .ok (.iload_n 2, 1) := by decide +kernel
theorem dX4_letPass_23 : decode cX4_letPass 23 = .ok (.ireturn, 1) := by decide +kernel
theorem dX4_letOneTickPass_0 : decode cX4_letOneTickPass 0 = .ok (.aload_n 0, 1) := by decide +kernel
theorem dX4_letOneTickPass_1 : decode cX4_letOneTickPass 1 = .ok (.dup, 1) := by decide +kernel
theorem dX4_letOneTickPass_2 : decode cX4_letOneTickPass 2 = .ok (.getfield 45, 3) := by decide +kernel
theorem dX4_letOneTickPass_5 : decode cX4_letOneTickPass 5 = .ok (.iconst 1, 1) := by decide +kernel
theorem dX4_letOneTickPass_6 : decode cX4_letOneTickPass 6 = .ok (.iadd, 1) := by decide +kernel
theorem dX4_letOneTickPass_7 : decode cX4_letOneTickPass 7 = .ok (.putfield 45, 3) := by decide +kernel
theorem dX4_letOneTickPass_10 : decode cX4_letOneTickPass 10 = .ok (.iconst 0, 1) := by decide +kernel
theorem dX4_letOneTickPass_11 : decode cX4_letOneTickPass 11 = .ok (.istore_n 1, 1) := by decide +kernel
theorem dX4_letOneTickPass_12 : decode cX4_letOneTickPass 12 = .ok (.iconst 0, 1) := by decide +kernel
theorem dX4_letOneTickPass_13 : decode cX4_letOneTickPass 13 = .ok (.istore_n 2, 1) := by decide +kernel
theorem dX4_letOneTickPass_14 : decode cX4_letOneTickPass 14 = .ok (.aload_n 0, 1) := by decide +kernel
theorem dX4_letOneTickPass_15 : decode cX4_letOneTickPass 15 = .ok (.getfield 25, 3) := by decide +kernel
theorem dX4_letOneTickPass_18 : decode cX4_letOneTickPass 18 = .ok (.getfield 67, 3) := by decide +kernel
theorem dX4_letOneTickPass_21 : decode cX4_letOneTickPass 21 = .ok (.istore_n 3, 1) := by decide +kernel
theorem dX4_letOneTickPass_22 : decode cX4_letOneTickPass 22 = .ok (.iload_n 3, 1) := by decide +kernel
theorem dX4_letOneTickPass_23 : decode cX4_letOneTickPass 23 = .ok (.ifCond .le 33, 3) := by decide +kernel
theorem dX4_letOneTickPass_26 : decode cX4_letOneTickPass 26 = .ok (.aload_n 0, 1) := by decide +kernel
theorem dX4_letOneTickPass_27 : decode cX4_letOneTickPass 27 = .ok (.iload_n 2, 1) := by decide +kernel
theorem dX4_letOneTickPass_28 : decode cX4_letOneTickPass 28 = .ok (.invokevirtual 116, 3) := by decide +kernel
theorem dX4_letOneTickPass_31 : decode cX4_letOneTickPass 31 = .ok (.ifCond .eq 16, 3) := by decide +kernel
theorem dX4_letOneTickPass_34 : decode cX4_letOneTickPass 34 = .ok (.aload_n 0, 1) := by decide +kernel
theorem dX4_letOneTickPass_35 : decode cX4_letOneTickPass 35 = .ok (.iload_n 2, 1) := by decide +kernel
theorem dX4_letOneTickPass_36 : decode cX4_letOneTickPass 36 = .ok (.iconst 1, 1) := by decide +kernel
theorem dX4_letOneTickPass_37 : decode cX4_letOneTickPass 37 = .ok (.invokevirtual 98, 3) := by decide +kernel
theorem dX4_letOneTickPass_40 : decode cX4_letOneTickPass 40 = .ok (.pop, 1) := by decide +kernel
theorem dX4_letOneTickPass_41 : decode cX4_letOneTickPass 41 = .ok (.iinc 1 1, 3) := by decide +kernel
theorem dX4_letOneTickPass_44 : decode cX4_letOneTickPass 44 = .ok (.goto 6, 3) := by decide +kernel
theorem dX4_letOneTickPass_47 : decode cX4_letOneTickPass 47 = .ok (.iinc 2 1, 3) := by decide +kernel
theorem dX4_letOneTickPass_50 : decode cX4_letOneTickPass 50 = .ok (.iinc 3 (-1), 3) := by decide +kernel
theorem dX4_letOneTickPass_53 : decode cX4_letOneTickPass 53 = .ok (.goto (-31), 3) := by decide +kernel
theorem dX4_letOneTickPass_56 : decode cX4_letOneTickPass 56 = .ok (.iload_n 1, 1) := by decide +kernel
theorem dX4_letOneTickPass_57 : decode cX4_letOneTickPass 57 = .ok (.ireturn, 1) := by decide +kernel
theorem dX4_growOlder_0 : decode cX4_growOlder 0 = .ok (.aload_n 0, 1) := by decide +kernel
theorem dX4_growOlder_1 : decode cX4_growOlder 1 = .ok (.getfield 25, 3) := by decide +kernel
theorem dX4_growOlder_4 : decode cX4_growOlder 4 = .ok (.iload_n 1, 1) := by decide +kernel
theorem dX4_growOlder_5 : decode cX4_growOlder 5 = .ok (.iconst 3, 1) := by decide +kernel
theorem dX4_growOlder_6 : decode cX4_growOlder 6 = .ok (.invokevirtual 95, 3) := by decide +kernel
theorem dX4_growOlder_9 : decode cX4_growOlder 9 = .ok (.iconst 1, 1) := by decide +kernel
theorem dX4_growOlder_10 : decode cX4_growOlder 10 = .ok (.iadd, 1) := by decide +kernel
theorem dX4_growOlder_11 : decode cX4_growOlder 11 = .ok (.istore_n 2, 1) := by decide +kernel
theorem dX4_growOlder_12 : decode cX4_growOlder 12 = .ok (.aload_n 0, 1) := by decide +kernel
theorem dX4_growOlder_13 : decode cX4_growOlder 13 = .ok (.getfield 25, 3) := by decide +kernel
theorem dX4_growOlder_16 : decode cX4_growOlder 16 = .ok (.iload_n 1, 1) := by decide +kernel
theorem dX4_growOlder_17 : decode cX4_growOlder 17 = .ok (.iconst 3, 1) := by decide +kernel
theorem dX4_growOlder_18 : decode cX4_growOlder 18 = .ok (.iload_n 2, 1) := by decide +kernel
theorem dX4_growOlder_19 : decode cX4_growOlder 19 = .ok (.invokevirtual 82, 3) := by decide +kernel
theorem dX4_growOlder_22 : decode cX4_growOlder 22 = .ok (.iload_n 2, 1) := by decide +kernel
theorem dX4_growOlder_23 : decode cX4_growOlder 23 = .ok (.aload_n 0, 1) := by decide +kernel
theorem dX4_growOlder_24 : decode cX4_growOlder 24 = .ok (.getfield 25, 3) := by decide +kernel
theorem dX4_growOlder_27 : decode cX4_growOlder 27 = .ok (.iload_n 1, 1) := by decide +kernel
theorem dX4_growOlder_28 : decode cX4_growOlder 28 = .ok (.iconst 5, 1) := by decide +kernel
theorem dX4_growOlder_29 : decode cX4_growOlder 29 = .ok (.invokevirtual 95, 3) := by decide +kernel
theorem dX4_growOlder_32 : decode cX4_growOlder 32 = .ok (.if_icmp .lt 5, 3) := by decide +kernel
theorem dX4_growOlder_35 : decode cX4_growOlder 35 = .ok (.iconst 1, 1) := by decide +kernel
theorem dX4_growOlder_36 : decode cX4_growOlder 36 = .ok (.ireturn, 1) := by decide +kernel
theorem dX4_growOlder_37 : decode cX4_growOlder 37 = .ok (.aload_n 0, 1) := by decide +kernel
theorem dX4_growOlder_38 : decode cX4_growOlder 38 = .ok (.getfield 25, 3) := by decide +kernel
theorem dX4_growOlder_41 : decode cX4_growOlder 41 = .ok (.iload_n 1, 1) := by decide +kernel
theorem dX4_growOlder_42 : decode cX4_growOlder 42 = .ok (.iconst 2, 1) := by decide +kernel
theorem dX4_growOlder_43 : decode cX4_growOlder 43 = .ok (.invokevirtual 95, 3) := by decide +kernel
theorem dX4_growOlder_46 : decode cX4_growOlder 46 = .ok (.istore_n 3, 1) := by decide +kernel
theorem dX4_growOlder_47 : decode cX4_growOlder 47 = .ok (.aload_n 0, 1) := by decide +kernel
theorem dX4_growOlder_48 : decode cX4_growOlder 48 = .ok (.getfield 25, 3) := by decide +kernel
theorem dX4_growOlder_51 : decode cX4_growOlder 51 = .ok (.iload_n 1, 1) := by decide +kernel
theorem dX4_growOlder_52 : decode cX4_growOlder 52 = .ok (.iconst 4, 1) := by decide +kernel
theorem dX4_growOlder_53 : decode cX4_growOlder 53 = .ok (.invokevirtual 95, 3) := by decide +kernel
theorem dX4_growOlder_56 : decode cX4_growOlder 56 = .ok (.iconst 1, 1) := by decide +kernel
theorem dX4_growOlder_57 : decode cX4_growOlder 57 = .ok (.iadd, 1) := by decide +kernel
theorem dX4_growOlder_58 : decode cX4_growOlder 58 = .ok (.istore 4, 2) := by decide +kernel
theorem dX4_growOlder_60 : decode cX4_growOlder 60 = .ok (.iload_n 3, 1) := by decide +kernel
theorem dX4_growOlder_61 : decode cX4_growOlder 61 = .ok (.ifCond .lt 38, 3) := by decide +kernel
theorem dX4_growOlder_64 : decode cX4_growOlder 64 = .ok (.iload_n 3, 1) := by decide +kernel
theorem dX4_growOlder_65 : decode cX4_growOlder 65 = .ok (.aload_n 0, 1) := by decide +kernel
theorem dX4_growOlder_66 : decode cX4_growOlder 66 = .ok (.getfield 18, 3) := by decide +kernel
theorem dX4_growOlder_69 : decode cX4_growOlder 69 = .ok (.arraylength, 1) := by decide +kernel
theorem dX4_growOlder_70 : decode cX4_growOlder 70 = .ok (.if_icmp .ge 29, 3) := by decide +kernel
theorem dX4_growOlder_73 : decode cX4_growOlder 73 = .ok (.iload 4, 2) := by decide +kernel
theorem dX4_growOlder_75 : decode cX4_growOlder 75 = .ok (.aload_n 0, 1) := by decide +kernel
theorem dX4_growOlder_76 : decode cX4_growOlder 76 = .ok (.getfield 18, 3) := by decide +kernel
theorem dX4_growOlder_79 : decode cX4_growOlder 79 = .ok (.iload_n 3, 1) := by decide +kernel
theorem dX4_growOlder_80 : decode cX4_growOlder 80 = .ok (.iaload, 1) := by decide +kernel
theorem dX4_growOlder_81 : decode cX4_growOlder 81 = .ok (.if_icmp .lt 18, 3) := by decide +kernel
theorem dX4_growOlder_84 : decode cX4_growOlder 84 = .ok (.aload_n 0, 1) := by decide +kernel
theorem dX4_growOlder_85 : decode cX4_growOlder 85 = .ok (.getfield 25, 3) := by decide +kernel
theorem dX4_growOlder_88 : decode cX4_growOlder 88 = .ok (.iload_n 1, 1) := by decide +kernel
theorem dX4_growOlder_89 : decode cX4_growOlder 89 = .ok (.iconst 2, 1) := by decide +kernel
theorem dX4_growOlder_90 : decode cX4_growOlder 90 = .ok (.iload_n 3, 1) := by decide +kernel
theorem dX4_growOlder_91 : decode cX4_growOlder 91 = .ok (.iconst 1, 1) := by decide +kernel
theorem dX4_growOlder_92 : decode cX4_growOlder 92 = .ok (.iadd, 1) := by decide +kernel
theorem dX4_growOlder_93 : decode cX4_growOlder 93 = .ok (.invokevirtual 82, 3) := by decide +kernel
theorem dX4_growOlder_96 : decode cX4_growOlder 96 = .ok (.iconst 0, 1) := by decide +kernel
theorem dX4_growOlder_97 : decode cX4_growOlder 97 = .ok (.istore 4, 2) := by decide +kernel
theorem dX4_growOlder_99 : decode cX4_growOlder 99 = .ok (.aload_n 0, 1) := by decide +kernel
theorem dX4_growOlder_100 : decode cX4_growOlder 100 = .ok (.getfield 25, 3) := by decide +kernel
theorem dX4_growOlder_103 : decode cX4_growOlder 103 = .ok (.iload_n 1, 1) := by decide +kernel
theorem dX4_growOlder_104 : decode cX4_growOlder 104 = .ok (.iconst 4, 1) := by decide +kernel
theorem dX4_growOlder_105 : decode cX4_growOlder 105 = .ok (.iload 4, 2) := by decide +kernel
theorem dX4_growOlder_107 : decode cX4_growOlder 107 = .ok (.invokevirtual 82, 3) := by decide +kernel
theorem dX4_growOlder_110 : decode cX4_growOlder 110 = .ok (.iconst 0, 1) := by decide +kernel
theorem dX4_growOlder_111 : decode cX4_growOlder 111 = .ok (.ireturn, 1) := by decide +kernel
theorem dX4_givenBackTo_0 : decode cX4_givenBackTo 0 = .ok (.iload_n 1, 1) := by decide +kernel
theorem dX4_givenBackTo_1 : decode cX4_givenBackTo 1 = .ok (.ifCond .lt 21, 3) := by decide +kernel
theorem dX4_givenBackTo_4 : decode cX4_givenBackTo 4 = .ok (.iload_n 1, 1) := by decide +kernel
theorem dX4_givenBackTo_5 : decode cX4_givenBackTo 5 = .ok (.aload_n 0, 1) := by decide +kernel
theorem dX4_givenBackTo_6 : decode cX4_givenBackTo 6 = .ok (.getfield 39, 3) := by decide +kernel
theorem dX4_givenBackTo_9 : decode cX4_givenBackTo 9 = .ok (.arraylength, 1) := by decide +kernel
theorem dX4_givenBackTo_10 : decode cX4_givenBackTo 10 = .ok (.if_icmp .ge 12, 3) := by decide +kernel
theorem dX4_givenBackTo_13 : decode cX4_givenBackTo 13 = .ok (.aload_n 0, 1) := by decide +kernel
theorem dX4_givenBackTo_14 : decode cX4_givenBackTo 14 = .ok (.getfield 39, 3) := by decide +kernel
theorem dX4_givenBackTo_17 : decode cX4_givenBackTo 17 = .ok (.iload_n 1, 1) := by decide +kernel
theorem dX4_givenBackTo_18 : decode cX4_givenBackTo 18 = .ok (.iaload, 1) := by decide +kernel
theorem dX4_givenBackTo_19 : decode cX4_givenBackTo 19 = .ok (.goto 4, 3) := by decide +kernel
theorem dX4_givenBackTo_22 : decode cX4_givenBackTo 22 = .ok (.iconst 0, 1) := by decide +kernel
theorem dX4_givenBackTo_23 : decode cX4_givenBackTo 23 = .ok (.ireturn, 1) := by decide +kernel
theorem dX4_sumGivenBack_0 : decode cX4_sumGivenBack 0 = .ok (.iconst 0, 1) := by decide +kernel
theorem dX4_sumGivenBack_1 : decode cX4_sumGivenBack 1 = .ok (.istore_n 1, 1) := by decide +kernel
theorem dX4_sumGivenBack_2 : decode cX4_sumGivenBack 2 = .ok (.aload_n 0, 1) := by decide +kernel
theorem dX4_sumGivenBack_3 : decode cX4_sumGivenBack 3 = .ok (.getfield 39, 3) := by decide +kernel
theorem dX4_sumGivenBack_6 : decode cX4_sumGivenBack 6 = .ok (.astore_n 2, 1) := by decide +kernel
theorem dX4_sumGivenBack_7 : decode cX4_sumGivenBack 7 = .ok (.aload_n 2, 1) := by decide +kernel
theorem dX4_sumGivenBack_8 : decode cX4_sumGivenBack 8 = .ok (.arraylength, 1) := by decide +kernel
theorem dX4_sumGivenBack_9 : decode cX4_sumGivenBack 9 = .ok (.istore_n 3, 1) := by decide +kernel
theorem dX4_sumGivenBack_10 : decode cX4_sumGivenBack 10 = .ok (.iconst 0, 1) := by decide +kernel
theorem dX4_sumGivenBack_11 : decode cX4_sumGivenBack 11 = .ok (.istore 4, 2) := by decide +kernel
theorem dX4_sumGivenBack_13 : decode cX4_sumGivenBack 13 = .ok (.iload 4, 2) := by decide +kernel
theorem dX4_sumGivenBack_15 : decode cX4_sumGivenBack 15 = .ok (.iload_n 3, 1) := by decide +kernel
theorem dX4_sumGivenBack_16 : decode cX4_sumGivenBack 16 = .ok (.if_icmp .ge 20, 3) := by decide +kernel
theorem dX4_sumGivenBack_19 : decode cX4_sumGivenBack 19 = .ok (.aload_n 2, 1) := by decide +kernel
theorem dX4_sumGivenBack_20 : decode cX4_sumGivenBack 20 = .ok (.iload 4, 2) := by decide +kernel
theorem dX4_sumGivenBack_22 : decode cX4_sumGivenBack 22 = .ok (.iaload, 1) := by decide +kernel
theorem dX4_sumGivenBack_23 : decode cX4_sumGivenBack 23 = .ok (.istore 5, 2) := by decide +kernel
theorem dX4_sumGivenBack_25 : decode cX4_sumGivenBack 25 = .ok (.iload_n 1, 1) := by decide +kernel
theorem dX4_sumGivenBack_26 : decode cX4_sumGivenBack 26 = .ok (.iload 5, 2) := by decide +kernel
theorem dX4_sumGivenBack_28 : decode cX4_sumGivenBack 28 = .ok (.iadd, 1) := by decide +kernel
theorem dX4_sumGivenBack_29 : decode cX4_sumGivenBack 29 = .ok (.istore_n 1, 1) := by decide +kernel
theorem dX4_sumGivenBack_30 : decode cX4_sumGivenBack 30 = .ok (.iinc 4 1, 3) := by decide +kernel
theorem dX4_sumGivenBack_33 : decode cX4_sumGivenBack 33 = .ok (.goto (-20), 3) := by decide +kernel
theorem dX4_sumGivenBack_36 : decode cX4_sumGivenBack 36 = .ok (.iload_n 1, 1) := by decide +kernel
theorem dX4_sumGivenBack_37 : decode cX4_sumGivenBack 37 = .ok (.ireturn, 1) := by decide +kernel
theorem dX4_leftBy_0 : decode cX4_leftBy 0 = .ok (.iload_n 1, 1) := by decide +kernel
theorem dX4_leftBy_1 : decode cX4_leftBy 1 = .ok (.ifCond .lt 21, 3) := by decide +kernel
theorem dX4_leftBy_4 : decode cX4_leftBy 4 = .ok (.iload_n 1, 1) := by decide +kernel
theorem dX4_leftBy_5 : decode cX4_leftBy 5 = .ok (.aload_n 0, 1) := by decide +kernel
theorem dX4_leftBy_6 : decode cX4_leftBy 6 = .ok (.getfield 36, 3) := by decide +kernel
theorem dX4_leftBy_9 : decode cX4_leftBy 9 = .ok (.arraylength, 1) := by decide +kernel
theorem dX4_leftBy_10 : decode cX4_leftBy 10 = .ok (.if_icmp .ge 12, 3) := by decide +kernel
theorem dX4_leftBy_13 : decode cX4_leftBy 13 = .ok (.aload_n 0, 1) := by decide +kernel
theorem dX4_leftBy_14 : decode cX4_leftBy 14 = .ok (.getfield 36, 3) := by decide +kernel
theorem dX4_leftBy_17 : decode cX4_leftBy 17 = .ok (.iload_n 1, 1) := by decide +kernel
theorem dX4_leftBy_18 : decode cX4_leftBy 18 = .ok (.iaload, 1) := by decide +kernel
theorem dX4_leftBy_19 : decode cX4_leftBy 19 = .ok (.goto 4, 3) := by decide +kernel
theorem dX4_leftBy_22 : decode cX4_leftBy 22 = .ok (.iconst 0, 1) := by decide +kernel
theorem dX4_leftBy_23 : decode cX4_leftBy 23 = .ok (.ireturn, 1) := by decide +kernel
theorem dX4_figure_0 : decode cX4_figure 0 = .ok (.iload_n 1, 1) := by decide +kernel
theorem dX4_figure_1 : decode cX4_figure 1 = .ok (.tableswitch 147 0 12 #[67, 75, 80, 85, 91, 97, 103, 108, 113, 121, 129, 137, 142], 67) := by decide +kernel
theorem dX4_figure_68 : decode cX4_figure 68 = .ok (.aload_n 0, 1) := by decide +kernel
theorem dX4_figure_69 : decode cX4_figure 69 = .ok (.getfield 25, 3) := by decide +kernel
theorem dX4_figure_72 : decode cX4_figure 72 = .ok (.getfield 67, 3) := by decide +kernel
theorem dX4_figure_75 : decode cX4_figure 75 = .ok (.ireturn, 1) := by decide +kernel
theorem dX4_figure_76 : decode cX4_figure 76 = .ok (.aload_n 0, 1) := by decide +kernel
theorem dX4_figure_77 : decode cX4_figure 77 = .ok (.getfield 45, 3) := by decide +kernel
theorem dX4_figure_80 : decode cX4_figure 80 = .ok (.ireturn, 1) := by decide +kernel
theorem dX4_figure_81 : decode cX4_figure 81 = .ok (.aload_n 0, 1) := by decide +kernel
theorem dX4_figure_82 : decode cX4_figure 82 = .ok (.getfield 48, 3) := by decide +kernel
theorem dX4_figure_85 : decode cX4_figure 85 = .ok (.ireturn, 1) := by decide +kernel
theorem dX4_figure_86 : decode cX4_figure 86 = .ok (.aload_n 0, 1) := by decide +kernel
theorem dX4_figure_87 : decode cX4_figure 87 = .ok (.iconst 0, 1) := by decide +kernel
theorem dX4_figure_88 : decode cX4_figure 88 = .ok (.invokevirtual 119, 3) := by decide +kernel
theorem dX4_figure_91 : decode cX4_figure 91 = .ok (.ireturn, 1) := by decide +kernel
theorem dX4_figure_92 : decode cX4_figure 92 = .ok (.aload_n 0, 1) := by decide +kernel
theorem dX4_figure_93 : decode cX4_figure 93 = .ok (.iconst 1, 1) := by decide +kernel
theorem dX4_figure_94 : decode cX4_figure 94 = .ok (.invokevirtual 119, 3) := by decide +kernel
theorem dX4_figure_97 : decode cX4_figure 97 = .ok (.ireturn, 1) := by decide +kernel
theorem dX4_figure_98 : decode cX4_figure 98 = .ok (.aload_n 0, 1) := by decide +kernel
theorem dX4_figure_99 : decode cX4_figure 99 = .ok (.iconst 2, 1) := by decide +kernel
theorem dX4_figure_100 : decode cX4_figure 100 = .ok (.invokevirtual 119, 3) := by decide +kernel
theorem dX4_figure_103 : decode cX4_figure 103 = .ok (.ireturn, 1) := by decide +kernel
theorem dX4_figure_104 : decode cX4_figure 104 = .ok (.aload_n 0, 1) := by decide +kernel
theorem dX4_figure_105 : decode cX4_figure 105 = .ok (.getfield 51, 3) := by decide +kernel
theorem dX4_figure_108 : decode cX4_figure 108 = .ok (.ireturn, 1) := by decide +kernel
theorem dX4_figure_109 : decode cX4_figure 109 = .ok (.aload_n 0, 1) := by decide +kernel
theorem dX4_figure_110 : decode cX4_figure 110 = .ok (.invokevirtual 122, 3) := by decide +kernel
theorem dX4_figure_113 : decode cX4_figure 113 = .ok (.ireturn, 1) := by decide +kernel
theorem dX4_figure_114 : decode cX4_figure 114 = .ok (.aload_n 0, 1) := by decide +kernel
theorem dX4_figure_115 : decode cX4_figure 115 = .ok (.getfield 25, 3) := by decide +kernel
theorem dX4_figure_118 : decode cX4_figure 118 = .ok (.invokevirtual 125, 3) := by decide +kernel
theorem dX4_figure_121 : decode cX4_figure 121 = .ok (.ireturn, 1) := by decide +kernel
theorem dX4_figure_122 : decode cX4_figure 122 = .ok (.aload_n 0, 1) := by decide +kernel
theorem dX4_figure_123 : decode cX4_figure 123 = .ok (.getfield 25, 3) := by decide +kernel
theorem dX4_figure_126 : decode cX4_figure 126 = .ok (.invokevirtual 128, 3) := by decide +kernel
theorem dX4_figure_129 : decode cX4_figure 129 = .ok (.ireturn, 1) := by decide +kernel
theorem dX4_figure_130 : decode cX4_figure 130 = .ok (.aload_n 0, 1) := by decide +kernel
theorem dX4_figure_131 : decode cX4_figure 131 = .ok (.getfield 32, 3) := by decide +kernel
theorem dX4_figure_134 : decode cX4_figure 134 = .ok (.getfield 131, 3) := by decide +kernel
theorem dX4_figure_137 : decode cX4_figure 137 = .ok (.ireturn, 1) := by decide +kernel
theorem dX4_figure_138 : decode cX4_figure 138 = .ok (.aload_n 0, 1) := by decide +kernel
theorem dX4_figure_139 : decode cX4_figure 139 = .ok (.getfield 9, 3) := by decide +kernel
theorem dX4_figure_142 : decode cX4_figure 142 = .ok (.ireturn, 1) := by decide +kernel
theorem dX4_figure_143 : decode cX4_figure 143 = .ok (.aload_n 0, 1) := by decide +kernel
theorem dX4_figure_144 : decode cX4_figure 144 = .ok (.getfield 15, 3) := by decide +kernel
theorem dX4_figure_147 : decode cX4_figure 147 = .ok (.ireturn, 1) := by decide +kernel
theorem dX4_figure_148 : decode cX4_figure 148 = .ok (.aload_n 0, 1) := by decide +kernel
theorem dX4_figure_149 : decode cX4_figure 149 = .ok (.getfield 42, 3) := by decide +kernel
theorem dX4_figure_152 : decode cX4_figure 152 = .ok (.ireturn, 1) := by decide +kernel
theorem dX5_init_0 : decode cX5_init 0 = .ok (.aload_n 0, 1) := by decide +kernel
theorem dX5_init_1 : decode cX5_init 1 = .ok (.invokespecial 3, 3) := by decide +kernel
theorem dX5_init_4 : decode cX5_init 4 = .ok (.aload_n 0, 1) := by decide +kernel
theorem dX5_init_5 : decode cX5_init 5 = .ok (.bipush 100, 2) := by decide +kernel
theorem dX5_init_7 : decode cX5_init 7 = .ok (.newarray .int, 2) := by decide +kernel
theorem dX5_init_9 : decode cX5_init 9 = .ok (.putfield 9, 3) := by decide +kernel
theorem dX5_init_12 : decode cX5_init 12 = .ok (.return_, 1) := by decide +kernel
theorem dX5_at_0 : decode cX5_at 0 = .ok (.iload_n 1, 1) := by decide +kernel
theorem dX5_at_1 : decode cX5_at 1 = .ok (.ifCond .lt 29, 3) := by decide +kernel
theorem dX5_at_4 : decode cX5_at 4 = .ok (.iload_n 1, 1) := by decide +kernel
theorem dX5_at_5 : decode cX5_at 5 = .ok (.aload_n 0, 1) := by decide +kernel
theorem dX5_at_6 : decode cX5_at 6 = .ok (.getfield 15, 3) := by decide +kernel
theorem dX5_at_9 : decode cX5_at 9 = .ok (.if_icmp .ge 21, 3) := by decide +kernel
theorem dX5_at_12 : decode cX5_at 12 = .ok (.iload_n 1, 1) := by decide +kernel
theorem dX5_at_13 : decode cX5_at 13 = .ok (.aload_n 0, 1) := by decide +kernel
theorem dX5_at_14 : decode cX5_at 14 = .ok (.getfield 9, 3) := by decide +kernel
theorem dX5_at_17 : decode cX5_at 17 = .ok (.arraylength, 1) := by decide +kernel
theorem dX5_at_18 : decode cX5_at 18 = .ok (.if_icmp .ge 12, 3) := by decide +kernel
theorem dX5_at_21 : decode cX5_at 21 = .ok (.aload_n 0, 1) := by decide +kernel
theorem dX5_at_22 : decode cX5_at 22 = .ok (.getfield 9, 3) := by decide +kernel
theorem dX5_at_25 : decode cX5_at 25 = .ok (.iload_n 1, 1) := by decide +kernel
theorem dX5_at_26 : decode cX5_at 26 = .ok (.iaload, 1) := by decide +kernel
theorem dX5_at_27 : decode cX5_at 27 = .ok (.goto 4, 3) := by decide +kernel
theorem dX5_at_30 : decode cX5_at 30 = .ok (.iconst (-1), 1) := by decide +kernel
theorem dX5_at_31 : decode cX5_at 31 = .ok (.ireturn, 1) := by decide +kernel
theorem dX5_add_0 : decode cX5_add 0 = .ok (.aload_n 0, 1) := by decide +kernel
theorem dX5_add_1 : decode cX5_add 1 = .ok (.getfield 15, 3) := by decide +kernel
theorem dX5_add_4 : decode cX5_add 4 = .ok (.ifCond .lt 15, 3) := by decide +kernel
theorem dX5_add_7 : decode cX5_add 7 = .ok (.aload_n 0, 1) := by decide +kernel
theorem dX5_add_8 : decode cX5_add 8 = .ok (.getfield 15, 3) := by decide +kernel
theorem dX5_add_11 : decode cX5_add 11 = .ok (.aload_n 0, 1) := by decide +kernel
theorem dX5_add_12 : decode cX5_add 12 = .ok (.getfield 9, 3) := by decide +kernel
theorem dX5_add_15 : decode cX5_add 15 = .ok (.arraylength, 1) := by decide +kernel
theorem dX5_add_16 : decode cX5_add 16 = .ok (.if_icmp .lt 5, 3) := by decide +kernel
theorem dX5_add_19 : decode cX5_add 19 = .ok (.iconst 0, 1) := by decide +kernel
theorem dX5_add_20 : decode cX5_add 20 = .ok (.ireturn, 1) := by decide +kernel
theorem dX5_add_21 : decode cX5_add 21 = .ok (.aload_n 0, 1) := by decide +kernel
theorem dX5_add_22 : decode cX5_add 22 = .ok (.getfield 9, 3) := by decide +kernel
theorem dX5_add_25 : decode cX5_add 25 = .ok (.aload_n 0, 1) := by decide +kernel
theorem dX5_add_26 : decode cX5_add 26 = .ok (.getfield 15, 3) := by decide +kernel
theorem dX5_add_29 : decode cX5_add 29 = .ok (.iload_n 1, 1) := by decide +kernel
theorem dX5_add_30 : decode cX5_add 30 = .ok (.iastore, 1) := by decide +kernel
theorem dX5_add_31 : decode cX5_add 31 = .ok (.aload_n 0, 1) := by decide +kernel
theorem dX5_add_32 : decode cX5_add 32 = .ok (.dup, 1) := by decide +kernel
theorem dX5_add_33 : decode cX5_add 33 = .ok (.getfield 15, 3) := by decide +kernel
theorem dX5_add_36 : decode cX5_add 36 = .ok (.iconst 1, 1) := by decide +kernel
theorem dX5_add_37 : decode cX5_add 37 = .ok (.iadd, 1) := by decide +kernel
theorem dX5_add_38 : decode cX5_add 38 = .ok (.putfield 15, 3) := by decide +kernel
theorem dX5_add_41 : decode cX5_add 41 = .ok (.iconst 1, 1) := by decide +kernel
theorem dX5_add_42 : decode cX5_add 42 = .ok (.ireturn, 1) := by decide +kernel
theorem dX6_init_0 : decode cX6_init 0 = .ok (.aload_n 0, 1) := by decide +kernel
theorem dX6_init_1 : decode cX6_init 1 = .ok (.invokespecial 1, 3) := by decide +kernel
theorem dX6_init_4 : decode cX6_init 4 = .ok (.aload_n 0, 1) := by decide +kernel
theorem dX6_init_5 : decode cX6_init 5 = .ok (.new 7, 3) := by decide +kernel
theorem dX6_init_8 : decode cX6_init 8 = .ok (.dup, 1) := by decide +kernel
theorem dX6_init_9 : decode cX6_init 9 = .ok (.invokespecial 9, 3) := by decide +kernel
theorem dX6_init_12 : decode cX6_init 12 = .ok (.putfield 10, 3) := by decide +kernel
theorem dX6_init_15 : decode cX6_init 15 = .ok (.aload_n 0, 1) := by decide +kernel
theorem dX6_init_16 : decode cX6_init 16 = .ok (.new 7, 3) := by decide +kernel
theorem dX6_init_19 : decode cX6_init 19 = .ok (.dup, 1) := by decide +kernel
theorem dX6_init_20 : decode cX6_init 20 = .ok (.invokespecial 9, 3) := by decide +kernel
theorem dX6_init_23 : decode cX6_init 23 = .ok (.putfield 16, 3) := by decide +kernel
theorem dX6_init_26 : decode cX6_init 26 = .ok (.aload_n 0, 1) := by decide +kernel
theorem dX6_init_27 : decode cX6_init 27 = .ok (.new 19, 3) := by decide +kernel
theorem dX6_init_30 : decode cX6_init 30 = .ok (.dup, 1) := by decide +kernel
theorem dX6_init_31 : decode cX6_init 31 = .ok (.invokespecial 21, 3) := by decide +kernel
theorem dX6_init_34 : decode cX6_init 34 = .ok (.putfield 22, 3) := by decide +kernel
theorem dX6_init_37 : decode cX6_init 37 = .ok (.aload_n 0, 1) := by decide +kernel
theorem dX6_init_38 : decode cX6_init 38 = .ok (.new 26, 3) := by decide +kernel
theorem dX6_init_41 : decode cX6_init 41 = .ok (.dup, 1) := by decide +kernel
theorem dX6_init_42 : decode cX6_init 42 = .ok (.invokespecial 28, 3) := by decide +kernel
theorem dX6_init_45 : decode cX6_init 45 = .ok (.putfield 29, 3) := by decide +kernel
theorem dX6_init_48 : decode cX6_init 48 = .ok (.aload_n 0, 1) := by decide +kernel
theorem dX6_init_49 : decode cX6_init 49 = .ok (.bipush 40, 2) := by decide +kernel
theorem dX6_init_51 : decode cX6_init 51 = .ok (.newarray .int, 2) := by decide +kernel
theorem dX6_init_53 : decode cX6_init 53 = .ok (.putfield 33, 3) := by decide +kernel
theorem dX6_init_56 : decode cX6_init 56 = .ok (.return_, 1) := by decide +kernel
theorem dX6_setPatience_0 : decode cX6_setPatience 0 = .ok (.iload_n 1, 1) := by decide +kernel
theorem dX6_setPatience_1 : decode cX6_setPatience 1 = .ok (.ifCond .lt 15, 3) := by decide +kernel
theorem dX6_setPatience_4 : decode cX6_setPatience 4 = .ok (.iload_n 1, 1) := by decide +kernel
theorem dX6_setPatience_5 : decode cX6_setPatience 5 = .ok (.aload_n 0, 1) := by decide +kernel
theorem dX6_setPatience_6 : decode cX6_setPatience 6 = .ok (.getfield 10, 3) := by decide +kernel
theorem dX6_setPatience_9 : decode cX6_setPatience 9 = .ok (.getfield 37, 3) := by decide +kernel
theorem dX6_setPatience_12 : decode cX6_setPatience 12 = .ok (.arraylength, 1) := by decide +kernel
theorem dX6_setPatience_13 : decode cX6_setPatience 13 = .ok (.if_icmp .lt 13, 3) := by decide +kernel
theorem dX6_setPatience_16 : decode cX6_setPatience 16 = .ok (.new 40, 3) := by decide +kernel
theorem dX6_setPatience_19 : decode cX6_setPatience 19 = .ok (.dup, 1) := by decide +kernel
theorem dX6_setPatience_20 : decode cX6_setPatience 20 = .ok (.ldc 42, 2) := by decide +kernel
theorem dX6_setPatience_22 : decode cX6_setPatience 22 = .ok (.invokespecial 44, 3) := by decide +kernel
theorem dX6_setPatience_25 : decode cX6_setPatience 25 = .ok (.athrow, 1) := by decide +kernel
theorem dX6_setPatience_26 : decode cX6_setPatience 26 = .ok (.iload_n 2, 1) := by decide +kernel
theorem dX6_setPatience_27 : decode cX6_setPatience 27 = .ok (.iconst 1, 1) := by decide +kernel
theorem dX6_setPatience_28 : decode cX6_setPatience 28 = .ok (.bipush 50, 2) := by decide +kernel
theorem dX6_setPatience_30 : decode cX6_setPatience 30 = .ok (.invokestatic 47, 3) := by decide +kernel
theorem dX6_setPatience_33 : decode cX6_setPatience 33 = .ok (.aload_n 0, 1) := by decide +kernel
theorem dX6_setPatience_34 : decode cX6_setPatience 34 = .ok (.getfield 22, 3) := by decide +kernel
theorem dX6_setPatience_37 : decode cX6_setPatience 37 = .ok (.aload_n 0, 1) := by decide +kernel
theorem dX6_setPatience_38 : decode cX6_setPatience 38 = .ok (.getfield 10, 3) := by decide +kernel
theorem dX6_setPatience_41 : decode cX6_setPatience 41 = .ok (.invokevirtual 51, 3) := by decide +kernel
theorem dX6_setPatience_44 : decode cX6_setPatience 44 = .ok (.aload_n 0, 1) := by decide +kernel
theorem dX6_setPatience_45 : decode cX6_setPatience 45 = .ok (.getfield 10, 3) := by decide +kernel
theorem dX6_setPatience_48 : decode cX6_setPatience 48 = .ok (.getfield 37, 3) := by decide +kernel
theorem dX6_setPatience_51 : decode cX6_setPatience 51 = .ok (.iload_n 1, 1) := by decide +kernel
theorem dX6_setPatience_52 : decode cX6_setPatience 52 = .ok (.iaload, 1) := by decide +kernel
theorem dX6_setPatience_53 : decode cX6_setPatience 53 = .ok (.istore_n 3, 1) := by decide +kernel
theorem dX6_setPatience_54 : decode cX6_setPatience 54 = .ok (.aload_n 0, 1) := by decide +kernel
theorem dX6_setPatience_55 : decode cX6_setPatience 55 = .ok (.getfield 10, 3) := by decide +kernel
theorem dX6_setPatience_58 : decode cX6_setPatience 58 = .ok (.getfield 37, 3) := by decide +kernel
theorem dX6_setPatience_61 : decode cX6_setPatience 61 = .ok (.iload_n 1, 1) := by decide +kernel
theorem dX6_setPatience_62 : decode cX6_setPatience 62 = .ok (.iload_n 2, 1) := by decide +kernel
theorem dX6_setPatience_63 : decode cX6_setPatience 63 = .ok (.iastore, 1) := by decide +kernel
theorem dX6_setPatience_64 : decode cX6_setPatience 64 = .ok (.iload_n 3, 1) := by decide +kernel
theorem dX6_setPatience_65 : decode cX6_setPatience 65 = .ok (.ireturn, 1) := by decide +kernel
theorem dX6_setQuota_0 : decode cX6_setQuota 0 = .ok (.iload_n 1, 1) := by decide +kernel
theorem dX6_setQuota_1 : decode cX6_setQuota 1 = .ok (.iconst 0, 1) := by decide +kernel
theorem dX6_setQuota_2 : decode cX6_setQuota 2 = .ok (.bipush 10, 2) := by decide +kernel
theorem dX6_setQuota_4 : decode cX6_setQuota 4 = .ok (.invokestatic 47, 3) := by decide +kernel
theorem dX6_setQuota_7 : decode cX6_setQuota 7 = .ok (.aload_n 0, 1) := by decide +kernel
theorem dX6_setQuota_8 : decode cX6_setQuota 8 = .ok (.getfield 22, 3) := by decide +kernel
theorem dX6_setQuota_11 : decode cX6_setQuota 11 = .ok (.aload_n 0, 1) := by decide +kernel
theorem dX6_setQuota_12 : decode cX6_setQuota 12 = .ok (.getfield 10, 3) := by decide +kernel
theorem dX6_setQuota_15 : decode cX6_setQuota 15 = .ok (.invokevirtual 51, 3) := by decide +kernel
theorem dX6_setQuota_18 : decode cX6_setQuota 18 = .ok (.aload_n 0, 1) := by decide +kernel
theorem dX6_setQuota_19 : decode cX6_setQuota 19 = .ok (.getfield 10, 3) := by decide +kernel
theorem dX6_setQuota_22 : decode cX6_setQuota 22 = .ok (.getfield 55, 3) := by decide +kernel
theorem dX6_setQuota_25 : decode cX6_setQuota 25 = .ok (.istore_n 2, 1) := by decide +kernel
theorem dX6_setQuota_26 : decode cX6_setQuota 26 = .ok (.aload_n 0, 1) := by decide +kernel
theorem dX6_setQuota_27 : decode cX6_setQuota 27 = .ok (.getfield 10, 3) := by decide +kernel
theorem dX6_setQuota_30 : decode cX6_setQuota 30 = .ok (.iload_n 1, 1) := by decide +kernel
theorem dX6_setQuota_31 : decode cX6_setQuota 31 = .ok (.putfield 55, 3) := by decide +kernel
theorem dX6_setQuota_34 : decode cX6_setQuota 34 = .ok (.iload_n 2, 1) := by decide +kernel
theorem dX6_setQuota_35 : decode cX6_setQuota 35 = .ok (.ireturn, 1) := by decide +kernel
theorem dX6_setGrace_0 : decode cX6_setGrace 0 = .ok (.iload_n 1, 1) := by decide +kernel
theorem dX6_setGrace_1 : decode cX6_setGrace 1 = .ok (.iconst 0, 1) := by decide +kernel
theorem dX6_setGrace_2 : decode cX6_setGrace 2 = .ok (.sipush 200, 3) := by decide +kernel
theorem dX6_setGrace_5 : decode cX6_setGrace 5 = .ok (.invokestatic 47, 3) := by decide +kernel
theorem dX6_setGrace_8 : decode cX6_setGrace 8 = .ok (.aload_n 0, 1) := by decide +kernel
theorem dX6_setGrace_9 : decode cX6_setGrace 9 = .ok (.getfield 22, 3) := by decide +kernel
theorem dX6_setGrace_12 : decode cX6_setGrace 12 = .ok (.aload_n 0, 1) := by decide +kernel
theorem dX6_setGrace_13 : decode cX6_setGrace 13 = .ok (.getfield 10, 3) := by decide +kernel
theorem dX6_setGrace_16 : decode cX6_setGrace 16 = .ok (.invokevirtual 51, 3) := by decide +kernel
theorem dX6_setGrace_19 : decode cX6_setGrace 19 = .ok (.aload_n 0, 1) := by decide +kernel
theorem dX6_setGrace_20 : decode cX6_setGrace 20 = .ok (.getfield 10, 3) := by decide +kernel
theorem dX6_setGrace_23 : decode cX6_setGrace 23 = .ok (.getfield 59, 3) := by decide +kernel
theorem dX6_setGrace_26 : decode cX6_setGrace 26 = .ok (.istore_n 2, 1) := by decide +kernel
theorem dX6_setGrace_27 : decode cX6_setGrace 27 = .ok (.aload_n 0, 1) := by decide +kernel
theorem dX6_setGrace_28 : decode cX6_setGrace 28 = .ok (.getfield 10, 3) := by decide +kernel
theorem dX6_setGrace_31 : decode cX6_setGrace 31 = .ok (.iload_n 1, 1) := by decide +kernel
theorem dX6_setGrace_32 : decode cX6_setGrace 32 = .ok (.putfield 59, 3) := by decide +kernel
theorem dX6_setGrace_35 : decode cX6_setGrace 35 = .ok (.iload_n 2, 1) := by decide +kernel
theorem dX6_setGrace_36 : decode cX6_setGrace 36 = .ok (.ireturn, 1) := by decide +kernel
theorem dX6_send_0 : decode cX6_send 0 = .ok (.iload_n 1, 1) := by decide +kernel
theorem dX6_send_1 : decode cX6_send 1 = .ok (.iload_n 2, 1) := by decide +kernel
theorem dX6_send_2 : decode cX6_send 2 = .ok (.iload_n 3, 1) := by decide +kernel
theorem dX6_send_3 : decode cX6_send 3 = .ok (.invokestatic 62, 3) := by decide +kernel
theorem dX6_send_6 : decode cX6_send 6 = .ok (.aload_n 0, 1) := by decide +kernel
theorem dX6_send_7 : decode cX6_send 7 = .ok (.iload_n 1, 1) := by decide +kernel
theorem dX6_send_8 : decode cX6_send 8 = .ok (.iconst (-1), 1) := by decide +kernel
theorem dX6_send_9 : decode cX6_send 9 = .ok (.invokevirtual 65, 3) := by decide +kernel
theorem dX6_send_12 : decode cX6_send 12 = .ok (.aload_n 0, 1) := by decide +kernel
theorem dX6_send_13 : decode cX6_send 13 = .ok (.getfield 22, 3) := by decide +kernel
theorem dX6_send_16 : decode cX6_send 16 = .ok (.aload_n 0, 1) := by decide +kernel
theorem dX6_send_17 : decode cX6_send 17 = .ok (.getfield 10, 3) := by decide +kernel
theorem dX6_send_20 : decode cX6_send 20 = .ok (.invokevirtual 51, 3) := by decide +kernel
theorem dX6_send_23 : decode cX6_send 23 = .ok (.aload_n 0, 1) := by decide +kernel
theorem dX6_send_24 : decode cX6_send 24 = .ok (.getfield 10, 3) := by decide +kernel
theorem dX6_send_27 : decode cX6_send 27 = .ok (.iload_n 1, 1) := by decide +kernel
theorem dX6_send_28 : decode cX6_send 28 = .ok (.iconst (-1), 1) := by decide +kernel
theorem dX6_send_29 : decode cX6_send 29 = .ok (.iload_n 2, 1) := by decide +kernel
theorem dX6_send_30 : decode cX6_send 30 = .ok (.iload_n 3, 1) := by decide +kernel
theorem dX6_send_31 : decode cX6_send 31 = .ok (.iconst 0, 1) := by decide +kernel
theorem dX6_send_32 : decode cX6_send 32 = .ok (.invokevirtual 69, 3) := by decide +kernel
theorem dX6_send_35 : decode cX6_send 35 = .ok (.ireturn, 1) := by decide +kernel
theorem dX6_sendBribed_0 : decode cX6_sendBribed 0 = .ok (.iload_n 1, 1) := by decide +kernel
theorem dX6_sendBribed_1 : decode cX6_sendBribed 1 = .ok (.iload_n 2, 1) := by decide +kernel
theorem dX6_sendBribed_2 : decode cX6_sendBribed 2 = .ok (.iload_n 3, 1) := by decide +kernel
theorem dX6_sendBribed_3 : decode cX6_sendBribed 3 = .ok (.invokestatic 62, 3) := by decide +kernel
theorem dX6_sendBribed_6 : decode cX6_sendBribed 6 = .ok (.iload 4, 2) := by decide +kernel
theorem dX6_sendBribed_8 : decode cX6_sendBribed 8 = .ok (.iconst 1, 1) := by decide +kernel
theorem dX6_sendBribed_9 : decode cX6_sendBribed 9 = .ok (.bipush 100, 2) := by decide +kernel
theorem dX6_sendBribed_11 : decode cX6_sendBribed 11 = .ok (.invokestatic 47, 3) := by decide +kernel
theorem dX6_sendBribed_14 : decode cX6_sendBribed 14 = .ok (.aload_n 0, 1) := by decide +kernel
theorem dX6_sendBribed_15 : decode cX6_sendBribed 15 = .ok (.iload_n 1, 1) := by decide +kernel
theorem dX6_sendBribed_16 : decode cX6_sendBribed 16 = .ok (.iconst (-1), 1) := by decide +kernel
theorem dX6_sendBribed_17 : decode cX6_sendBribed 17 = .ok (.invokevirtual 65, 3) := by decide +kernel
theorem dX6_sendBribed_20 : decode cX6_sendBribed 20 = .ok (.aload_n 0, 1) := by decide +kernel
theorem dX6_sendBribed_21 : decode cX6_sendBribed 21 = .ok (.getfield 22, 3) := by decide +kernel
theorem dX6_sendBribed_24 : decode cX6_sendBribed 24 = .ok (.aload_n 0, 1) := by decide +kernel
theorem dX6_sendBribed_25 : decode cX6_sendBribed 25 = .ok (.getfield 10, 3) := by decide +kernel
theorem dX6_sendBribed_28 : decode cX6_sendBribed 28 = .ok (.invokevirtual 51, 3) := by decide +kernel
theorem dX6_sendBribed_31 : decode cX6_sendBribed 31 = .ok (.aload_n 0, 1) := by decide +kernel
theorem dX6_sendBribed_32 : decode cX6_sendBribed 32 = .ok (.getfield 10, 3) := by decide +kernel
theorem dX6_sendBribed_35 : decode cX6_sendBribed 35 = .ok (.iload_n 1, 1) := by decide +kernel
theorem dX6_sendBribed_36 : decode cX6_sendBribed 36 = .ok (.iconst (-1), 1) := by decide +kernel
theorem dX6_sendBribed_37 : decode cX6_sendBribed 37 = .ok (.iload_n 2, 1) := by decide +kernel
theorem dX6_sendBribed_38 : decode cX6_sendBribed 38 = .ok (.iload_n 3, 1) := by decide +kernel
theorem dX6_sendBribed_39 : decode cX6_sendBribed 39 = .ok (.iload 4, 2) := by decide +kernel
theorem dX6_sendBribed_41 : decode cX6_sendBribed 41 = .ok (.invokevirtual 69, 3) := by decide +kernel
theorem dX6_sendBribed_44 : decode cX6_sendBribed 44 = .ok (.ireturn, 1) := by decide +kernel
theorem dX6_sendJoint_0 : decode cX6_sendJoint 0 = .ok (.iload_n 1, 1) := by decide +kernel
theorem dX6_sendJoint_1 : decode cX6_sendJoint 1 = .ok (.iload_n 3, 1) := by decide +kernel
theorem dX6_sendJoint_2 : decode cX6_sendJoint 2 = .ok (.iload 4, 2) := by decide +kernel
theorem dX6_sendJoint_4 : decode cX6_sendJoint 4 = .ok (.invokestatic 62, 3) := by decide +kernel
theorem dX6_sendJoint_7 : decode cX6_sendJoint 7 = .ok (.iload_n 2, 1) := by decide +kernel
theorem dX6_sendJoint_8 : decode cX6_sendJoint 8 = .ok (.iconst 0, 1) := by decide +kernel
theorem dX6_sendJoint_9 : decode cX6_sendJoint 9 = .ok (.bipush 7, 2) := by decide +kernel
theorem dX6_sendJoint_11 : decode cX6_sendJoint 11 = .ok (.invokestatic 47, 3) := by decide +kernel
theorem dX6_sendJoint_14 : decode cX6_sendJoint 14 = .ok (.iload_n 2, 1) := by decide +kernel
theorem dX6_sendJoint_15 : decode cX6_sendJoint 15 = .ok (.iload_n 1, 1) := by decide +kernel
theorem dX6_sendJoint_16 : decode cX6_sendJoint 16 = .ok (.if_icmp .ne 13, 3) := by decide +kernel
theorem dX6_sendJoint_19 : decode cX6_sendJoint 19 = .ok (.new 73, 3) := by decide +kernel
theorem dX6_sendJoint_22 : decode cX6_sendJoint 22 = .ok (.dup, 1) := by decide +kernel
theorem dX6_sendJoint_23 : decode cX6_sendJoint 23 = .ok (.ldc 75, 2) := by decide +kernel
theorem dX6_sendJoint_25 : decode cX6_sendJoint 25 = .ok (.invokespecial 77, 3) := by decide +kernel
theorem dX6_sendJoint_28 : decode cX6_sendJoint 28 = .ok (.athrow, 1) := by decide +kernel
theorem dX6_sendJoint_29 : decode cX6_sendJoint 29 = .ok (.aload_n 0, 1) := by decide +kernel
theorem dX6_sendJoint_30 : decode cX6_sendJoint 30 = .ok (.iload_n 1, 1) := by decide +kernel
theorem dX6_sendJoint_31 : decode cX6_sendJoint 31 = .ok (.iload_n 2, 1) := by decide +kernel
theorem dX6_sendJoint_32 : decode cX6_sendJoint 32 = .ok (.invokevirtual 65, 3) := by decide +kernel
theorem dX6_sendJoint_35 : decode cX6_sendJoint 35 = .ok (.aload_n 0, 1) := by decide +kernel
theorem dX6_sendJoint_36 : decode cX6_sendJoint 36 = .ok (.getfield 22, 3) := by decide +kernel
theorem dX6_sendJoint_39 : decode cX6_sendJoint 39 = .ok (.aload_n 0, 1) := by decide +kernel
theorem dX6_sendJoint_40 : decode cX6_sendJoint 40 = .ok (.getfield 10, 3) := by decide +kernel
theorem dX6_sendJoint_43 : decode cX6_sendJoint 43 = .ok (.invokevirtual 51, 3) := by decide +kernel
theorem dX6_sendJoint_46 : decode cX6_sendJoint 46 = .ok (.aload_n 0, 1) := by decide +kernel
theorem dX6_sendJoint_47 : decode cX6_sendJoint 47 = .ok (.getfield 10, 3) := by decide +kernel
theorem dX6_sendJoint_50 : decode cX6_sendJoint 50 = .ok (.iload_n 1, 1) := by decide +kernel
theorem dX6_sendJoint_51 : decode cX6_sendJoint 51 = .ok (.iload_n 2, 1) := by decide +kernel
theorem dX6_sendJoint_52 : decode cX6_sendJoint 52 = .ok (.iload_n 3, 1) := by decide +kernel
theorem dX6_sendJoint_53 : decode cX6_sendJoint 53 = .ok (.iload 4, 2) := by decide +kernel
theorem dX6_sendJoint_55 : decode cX6_sendJoint 55 = .ok (.iconst 0, 1) := by decide +kernel
theorem dX6_sendJoint_56 : decode cX6_sendJoint 56 = .ok (.invokevirtual 69, 3) := by decide +kernel
theorem dX6_sendJoint_59 : decode cX6_sendJoint 59 = .ok (.ireturn, 1) := by decide +kernel
theorem dX6_withdraw_0 : decode cX6_withdraw 0 = .ok (.aload_n 0, 1) := by decide +kernel
theorem dX6_withdraw_1 : decode cX6_withdraw 1 = .ok (.iload_n 1, 1) := by decide +kernel
theorem dX6_withdraw_2 : decode cX6_withdraw 2 = .ok (.invokevirtual 78, 3) := by decide +kernel
theorem dX6_withdraw_5 : decode cX6_withdraw 5 = .ok (.istore_n 2, 1) := by decide +kernel
theorem dX6_withdraw_6 : decode cX6_withdraw 6 = .ok (.aload_n 0, 1) := by decide +kernel
theorem dX6_withdraw_7 : decode cX6_withdraw 7 = .ok (.getfield 22, 3) := by decide +kernel
theorem dX6_withdraw_10 : decode cX6_withdraw 10 = .ok (.aload_n 0, 1) := by decide +kernel
theorem dX6_withdraw_11 : decode cX6_withdraw 11 = .ok (.getfield 10, 3) := by decide +kernel
theorem dX6_withdraw_14 : decode cX6_withdraw 14 = .ok (.invokevirtual 51, 3) := by decide +kernel
theorem dX6_withdraw_17 : decode cX6_withdraw 17 = .ok (.aload_n 0, 1) := by decide +kernel
theorem dX6_withdraw_18 : decode cX6_withdraw 18 = .ok (.getfield 10, 3) := by decide +kernel
theorem dX6_withdraw_21 : decode cX6_withdraw 21 = .ok (.iload_n 2, 1) := by decide +kernel
theorem dX6_withdraw_22 : decode cX6_withdraw 22 = .ok (.iconst 2, 1) := by decide +kernel
theorem dX6_withdraw_23 : decode cX6_withdraw 23 = .ok (.invokevirtual 82, 3) := by decide +kernel
theorem dX6_withdraw_26 : decode cX6_withdraw 26 = .ok (.ireturn, 1) := by decide +kernel
theorem dX6_serve_0 : decode cX6_serve 0 = .ok (.aload_n 0, 1) := by decide +kernel
theorem dX6_serve_1 : decode cX6_serve 1 = .ok (.getfield 10, 3) := by decide +kernel
theorem dX6_serve_4 : decode cX6_serve 4 = .ok (.getfield 86, 3) := by decide +kernel
theorem dX6_serve_7 : decode cX6_serve 7 = .ok (.getfield 90, 3) := by decide +kernel
theorem dX6_serve_10 : decode cX6_serve 10 = .ok (.ifCond .ne 13, 3) := by decide +kernel
theorem dX6_serve_13 : decode cX6_serve 13 = .ok (.new 95, 3) := by decide +kernel
theorem dX6_serve_16 : decode cX6_serve 16 = .ok (.dup, 1) := by decide +kernel
theorem dX6_serve_17 : decode cX6_serve 17 = .ok (.ldc 97, 2) := by decide +kernel
theorem dX6_serve_19 : decode cX6_serve 19 = .ok (.invokespecial 99, 3) := by decide +kernel
theorem dX6_serve_22 : decode cX6_serve 22 = .ok (.athrow, 1) := by decide +kernel
theorem dX6_serve_23 : decode cX6_serve 23 = .ok (.aload_n 0, 1) := by decide +kernel
theorem dX6_serve_24 : decode cX6_serve 24 = .ok (.getfield 22, 3) := by decide +kernel
theorem dX6_serve_27 : decode cX6_serve 27 = .ok (.aload_n 0, 1) := by decide +kernel
theorem dX6_serve_28 : decode cX6_serve 28 = .ok (.getfield 10, 3) := by decide +kernel
theorem dX6_serve_31 : decode cX6_serve 31 = .ok (.invokevirtual 51, 3) := by decide +kernel
theorem dX6_serve_34 : decode cX6_serve 34 = .ok (.aload_n 0, 1) := by decide +kernel
theorem dX6_serve_35 : decode cX6_serve 35 = .ok (.getfield 10, 3) := by decide +kernel
theorem dX6_serve_38 : decode cX6_serve 38 = .ok (.invokevirtual 100, 3) := by decide +kernel
theorem dX6_serve_41 : decode cX6_serve 41 = .ok (.ireturn, 1) := by decide +kernel
theorem dX6_pass_0 : decode cX6_pass 0 = .ok (.iload_n 1, 1) := by decide +kernel
theorem dX6_pass_1 : decode cX6_pass 1 = .ok (.iconst 1, 1) := by decide +kernel
theorem dX6_pass_2 : decode cX6_pass 2 = .ok (.sipush 200, 3) := by decide +kernel
theorem dX6_pass_5 : decode cX6_pass 5 = .ok (.invokestatic 47, 3) := by decide +kernel
theorem dX6_pass_8 : decode cX6_pass 8 = .ok (.aload_n 0, 1) := by decide +kernel
theorem dX6_pass_9 : decode cX6_pass 9 = .ok (.getfield 10, 3) := by decide +kernel
theorem dX6_pass_12 : decode cX6_pass 12 = .ok (.iload_n 1, 1) := by decide +kernel
theorem dX6_pass_13 : decode cX6_pass 13 = .ok (.invokevirtual 104, 3) := by decide +kernel
theorem dX6_pass_16 : decode cX6_pass 16 = .ok (.ifCond .ne 13, 3) := by decide +kernel
theorem dX6_pass_19 : decode cX6_pass 19 = .ok (.new 108, 3) := by decide +kernel
theorem dX6_pass_22 : decode cX6_pass 22 = .ok (.dup, 1) := by decide +kernel
theorem dX6_pass_23 : decode cX6_pass 23 = .ok (.ldc 110, 2) := by decide +kernel
theorem dX6_pass_25 : decode cX6_pass 25 = .ok (.invokespecial 112, 3) := by decide +kernel
theorem dX6_pass_28 : decode cX6_pass 28 = .ok (.athrow, 1) := by decide +kernel
theorem dX6_pass_29 : decode cX6_pass 29 = .ok (.aload_n 0, 1) := by decide +kernel
theorem dX6_pass_30 : decode cX6_pass 30 = .ok (.getfield 22, 3) := by decide +kernel
theorem dX6_pass_33 : decode cX6_pass 33 = .ok (.aload_n 0, 1) := by decide +kernel
theorem dX6_pass_34 : decode cX6_pass 34 = .ok (.getfield 10, 3) := by decide +kernel
theorem dX6_pass_37 : decode cX6_pass 37 = .ok (.invokevirtual 51, 3) := by decide +kernel
theorem dX6_pass_40 : decode cX6_pass 40 = .ok (.aload_n 0, 1) := by decide +kernel
theorem dX6_pass_41 : decode cX6_pass 41 = .ok (.getfield 10, 3) := by decide +kernel
theorem dX6_pass_44 : decode cX6_pass 44 = .ok (.iload_n 1, 1) := by decide +kernel
theorem dX6_pass_45 : decode cX6_pass 45 = .ok (.invokevirtual 113, 3) := by decide +kernel
theorem dX6_pass_48 : decode cX6_pass 48 = .ok (.ireturn, 1) := by decide +kernel
theorem dX6_petition_0 : decode cX6_petition 0 = .ok (.aload_n 0, 1) := by decide +kernel
theorem dX6_petition_1 : decode cX6_petition 1 = .ok (.iload_n 1, 1) := by decide +kernel
theorem dX6_petition_2 : decode cX6_petition 2 = .ok (.invokevirtual 78, 3) := by decide +kernel
theorem dX6_petition_5 : decode cX6_petition 5 = .ok (.istore_n 3, 1) := by decide +kernel
theorem dX6_petition_6 : decode cX6_petition 6 = .ok (.iload_n 2, 1) := by decide +kernel
theorem dX6_petition_7 : decode cX6_petition 7 = .ok (.iconst 0, 1) := by decide +kernel
theorem dX6_petition_8 : decode cX6_petition 8 = .ok (.bipush 9, 2) := by decide +kernel
theorem dX6_petition_10 : decode cX6_petition 10 = .ok (.invokestatic 47, 3) := by decide +kernel
theorem dX6_petition_13 : decode cX6_petition 13 = .ok (.aload_n 0, 1) := by decide +kernel
theorem dX6_petition_14 : decode cX6_petition 14 = .ok (.getfield 10, 3) := by decide +kernel
theorem dX6_petition_17 : decode cX6_petition 17 = .ok (.getfield 86, 3) := by decide +kernel
theorem dX6_petition_20 : decode cX6_petition 20 = .ok (.iload_n 3, 1) := by decide +kernel
theorem dX6_petition_21 : decode cX6_petition 21 = .ok (.iload_n 2, 1) := by decide +kernel
theorem dX6_petition_22 : decode cX6_petition 22 = .ok (.invokevirtual 116, 3) := by decide +kernel
theorem dX6_petition_25 : decode cX6_petition 25 = .ok (.ireturn, 1) := by decide +kernel
theorem dX6_peek_0 : decode cX6_peek 0 = .ok (.iload_n 1, 1) := by decide +kernel
theorem dX6_peek_1 : decode cX6_peek 1 = .ok (.ifCond .lt 26, 3) := by decide +kernel
theorem dX6_peek_4 : decode cX6_peek 4 = .ok (.iload_n 1, 1) := by decide +kernel
theorem dX6_peek_5 : decode cX6_peek 5 = .ok (.aload_n 0, 1) := by decide +kernel
theorem dX6_peek_6 : decode cX6_peek 6 = .ok (.getfield 10, 3) := by decide +kernel
theorem dX6_peek_9 : decode cX6_peek 9 = .ok (.getfield 86, 3) := by decide +kernel
theorem dX6_peek_12 : decode cX6_peek 12 = .ok (.getfield 90, 3) := by decide +kernel
theorem dX6_peek_15 : decode cX6_peek 15 = .ok (.if_icmp .ge 12, 3) := by decide +kernel
theorem dX6_peek_18 : decode cX6_peek 18 = .ok (.iload_n 1, 1) := by decide +kernel
theorem dX6_peek_19 : decode cX6_peek 19 = .ok (.aload_n 0, 1) := by decide +kernel
theorem dX6_peek_20 : decode cX6_peek 20 = .ok (.getfield 33, 3) := by decide +kernel
theorem dX6_peek_23 : decode cX6_peek 23 = .ok (.arraylength, 1) := by decide +kernel
theorem dX6_peek_24 : decode cX6_peek 24 = .ok (.if_icmp .lt 13, 3) := by decide +kernel
theorem dX6_peek_27 : decode cX6_peek 27 = .ok (.new 40, 3) := by decide +kernel
theorem dX6_peek_30 : decode cX6_peek 30 = .ok (.dup, 1) := by decide +kernel
theorem dX6_peek_31 : decode cX6_peek 31 = .ok (.ldc 119, 2) := by decide +kernel
theorem dX6_peek_33 : decode cX6_peek 33 = .ok (.invokespecial 44, 3) := by decide +kernel
theorem dX6_peek_36 : decode cX6_peek 36 = .ok (.athrow, 1) := by decide +kernel
theorem dX6_peek_37 : decode cX6_peek 37 = .ok (.aload_n 0, 1) := by decide +kernel
theorem dX6_peek_38 : decode cX6_peek 38 = .ok (.getfield 10, 3) := by decide +kernel
theorem dX6_peek_41 : decode cX6_peek 41 = .ok (.getfield 86, 3) := by decide +kernel
theorem dX6_peek_44 : decode cX6_peek 44 = .ok (.aload_n 0, 1) := by decide +kernel
theorem dX6_peek_45 : decode cX6_peek 45 = .ok (.getfield 33, 3) := by decide +kernel
theorem dX6_peek_48 : decode cX6_peek 48 = .ok (.invokevirtual 121, 3) := by decide +kernel
theorem dX6_peek_51 : decode cX6_peek 51 = .ok (.aload_n 0, 1) := by decide +kernel
theorem dX6_peek_52 : decode cX6_peek 52 = .ok (.getfield 10, 3) := by decide +kernel
theorem dX6_peek_55 : decode cX6_peek 55 = .ok (.getfield 86, 3) := by decide +kernel
theorem dX6_peek_58 : decode cX6_peek 58 = .ok (.aload_n 0, 1) := by decide +kernel
theorem dX6_peek_59 : decode cX6_peek 59 = .ok (.getfield 33, 3) := by decide +kernel
theorem dX6_peek_62 : decode cX6_peek 62 = .ok (.iload_n 1, 1) := by decide +kernel
theorem dX6_peek_63 : decode cX6_peek 63 = .ok (.iaload, 1) := by decide +kernel
theorem dX6_peek_64 : decode cX6_peek 64 = .ok (.bipush 7, 2) := by decide +kernel
theorem dX6_peek_66 : decode cX6_peek 66 = .ok (.invokevirtual 125, 3) := by decide +kernel
theorem dX6_peek_69 : decode cX6_peek 69 = .ok (.ireturn, 1) := by decide +kernel
theorem dX6_sentBy_0 : decode cX6_sentBy 0 = .ok (.iload_n 1, 1) := by decide +kernel
theorem dX6_sentBy_1 : decode cX6_sentBy 1 = .ok (.iconst 0, 1) := by decide +kernel
theorem dX6_sentBy_2 : decode cX6_sentBy 2 = .ok (.bipush 7, 2) := by decide +kernel
theorem dX6_sentBy_4 : decode cX6_sentBy 4 = .ok (.invokestatic 47, 3) := by decide +kernel
theorem dX6_sentBy_7 : decode cX6_sentBy 7 = .ok (.aload_n 0, 1) := by decide +kernel
theorem dX6_sentBy_8 : decode cX6_sentBy 8 = .ok (.getfield 10, 3) := by decide +kernel
theorem dX6_sentBy_11 : decode cX6_sentBy 11 = .ok (.getfield 86, 3) := by decide +kernel
theorem dX6_sentBy_14 : decode cX6_sentBy 14 = .ok (.iload_n 1, 1) := by decide +kernel
theorem dX6_sentBy_15 : decode cX6_sentBy 15 = .ok (.invokevirtual 128, 3) := by decide +kernel
theorem dX6_sentBy_18 : decode cX6_sentBy 18 = .ok (.ireturn, 1) := by decide +kernel
theorem dX6_returned_0 : decode cX6_returned 0 = .ok (.iload_n 1, 1) := by decide +kernel
theorem dX6_returned_1 : decode cX6_returned 1 = .ok (.iconst 0, 1) := by decide +kernel
theorem dX6_returned_2 : decode cX6_returned 2 = .ok (.bipush 7, 2) := by decide +kernel
theorem dX6_returned_4 : decode cX6_returned 4 = .ok (.invokestatic 47, 3) := by decide +kernel
theorem dX6_returned_7 : decode cX6_returned 7 = .ok (.aload_n 0, 1) := by decide +kernel
theorem dX6_returned_8 : decode cX6_returned 8 = .ok (.getfield 10, 3) := by decide +kernel
theorem dX6_returned_11 : decode cX6_returned 11 = .ok (.iload_n 1, 1) := by decide +kernel
theorem dX6_returned_12 : decode cX6_returned 12 = .ok (.invokevirtual 131, 3) := by decide +kernel
theorem dX6_returned_15 : decode cX6_returned 15 = .ok (.ireturn, 1) := by decide +kernel
theorem dX6_entry_0 : decode cX6_entry 0 = .ok (.iload_n 1, 1) := by decide +kernel
theorem dX6_entry_1 : decode cX6_entry 1 = .ok (.ifCond .lt 17, 3) := by decide +kernel
theorem dX6_entry_4 : decode cX6_entry 4 = .ok (.iload_n 1, 1) := by decide +kernel
theorem dX6_entry_5 : decode cX6_entry 5 = .ok (.aload_n 0, 1) := by decide +kernel
theorem dX6_entry_6 : decode cX6_entry 6 = .ok (.getfield 10, 3) := by decide +kernel
theorem dX6_entry_9 : decode cX6_entry 9 = .ok (.getfield 134, 3) := by decide +kernel
theorem dX6_entry_12 : decode cX6_entry 12 = .ok (.getfield 138, 3) := by decide +kernel
theorem dX6_entry_15 : decode cX6_entry 15 = .ok (.if_icmp .lt 13, 3) := by decide +kernel
theorem dX6_entry_18 : decode cX6_entry 18 = .ok (.new 40, 3) := by decide +kernel
theorem dX6_entry_21 : decode cX6_entry 21 = .ok (.dup, 1) := by decide +kernel
theorem dX6_entry_22 : decode cX6_entry 22 = .ok (.ldc 141, 2) := by decide +kernel
theorem dX6_entry_24 : decode cX6_entry 24 = .ok (.invokespecial 44, 3) := by decide +kernel
theorem dX6_entry_27 : decode cX6_entry 27 = .ok (.athrow, 1) := by decide +kernel
theorem dX6_entry_28 : decode cX6_entry 28 = .ok (.iload_n 2, 1) := by decide +kernel
theorem dX6_entry_29 : decode cX6_entry 29 = .ok (.iconst 0, 1) := by decide +kernel
theorem dX6_entry_30 : decode cX6_entry 30 = .ok (.iconst 4, 1) := by decide +kernel
theorem dX6_entry_31 : decode cX6_entry 31 = .ok (.invokestatic 47, 3) := by decide +kernel
theorem dX6_entry_34 : decode cX6_entry 34 = .ok (.aload_n 0, 1) := by decide +kernel
theorem dX6_entry_35 : decode cX6_entry 35 = .ok (.getfield 10, 3) := by decide +kernel
theorem dX6_entry_38 : decode cX6_entry 38 = .ok (.getfield 134, 3) := by decide +kernel
theorem dX6_entry_41 : decode cX6_entry 41 = .ok (.iload_n 1, 1) := by decide +kernel
theorem dX6_entry_42 : decode cX6_entry 42 = .ok (.iload_n 2, 1) := by decide +kernel
theorem dX6_entry_43 : decode cX6_entry 43 = .ok (.invokevirtual 143, 3) := by decide +kernel
theorem dX6_entry_46 : decode cX6_entry 46 = .ok (.ireturn, 1) := by decide +kernel
theorem dX6_value_0 : decode cX6_value 0 = .ok (.iload_n 1, 1) := by decide +kernel
theorem dX6_value_1 : decode cX6_value 1 = .ok (.iconst 0, 1) := by decide +kernel
theorem dX6_value_2 : decode cX6_value 2 = .ok (.bipush 13, 2) := by decide +kernel
theorem dX6_value_4 : decode cX6_value 4 = .ok (.invokestatic 47, 3) := by decide +kernel
theorem dX6_value_7 : decode cX6_value 7 = .ok (.aload_n 0, 1) := by decide +kernel
theorem dX6_value_8 : decode cX6_value 8 = .ok (.getfield 10, 3) := by decide +kernel
theorem dX6_value_11 : decode cX6_value 11 = .ok (.iload_n 1, 1) := by decide +kernel
theorem dX6_value_12 : decode cX6_value 12 = .ok (.invokevirtual 144, 3) := by decide +kernel
theorem dX6_value_15 : decode cX6_value 15 = .ok (.ireturn, 1) := by decide +kernel
theorem dX6_ofRank_0 : decode cX6_ofRank 0 = .ok (.iload_n 1, 1) := by decide +kernel
theorem dX6_ofRank_1 : decode cX6_ofRank 1 = .ok (.iconst 0, 1) := by decide +kernel
theorem dX6_ofRank_2 : decode cX6_ofRank 2 = .ok (.iconst 4, 1) := by decide +kernel
theorem dX6_ofRank_3 : decode cX6_ofRank 3 = .ok (.invokestatic 47, 3) := by decide +kernel
theorem dX6_ofRank_6 : decode cX6_ofRank 6 = .ok (.aload_n 0, 1) := by decide +kernel
theorem dX6_ofRank_7 : decode cX6_ofRank 7 = .ok (.getfield 10, 3) := by decide +kernel
theorem dX6_ofRank_10 : decode cX6_ofRank 10 = .ok (.getfield 86, 3) := by decide +kernel
theorem dX6_ofRank_13 : decode cX6_ofRank 13 = .ok (.iload_n 1, 1) := by decide +kernel
theorem dX6_ofRank_14 : decode cX6_ofRank 14 = .ok (.invokevirtual 147, 3) := by decide +kernel
theorem dX6_ofRank_17 : decode cX6_ofRank 17 = .ok (.ireturn, 1) := by decide +kernel
theorem dX6_rankIn_0 : decode cX6_rankIn 0 = .ok (.aload_n 0, 1) := by decide +kernel
theorem dX6_rankIn_1 : decode cX6_rankIn 1 = .ok (.iload_n 1, 1) := by decide +kernel
theorem dX6_rankIn_2 : decode cX6_rankIn 2 = .ok (.invokevirtual 78, 3) := by decide +kernel
theorem dX6_rankIn_5 : decode cX6_rankIn 5 = .ok (.istore_n 3, 1) := by decide +kernel
theorem dX6_rankIn_6 : decode cX6_rankIn 6 = .ok (.iload_n 2, 1) := by decide +kernel
theorem dX6_rankIn_7 : decode cX6_rankIn 7 = .ok (.iconst 0, 1) := by decide +kernel
theorem dX6_rankIn_8 : decode cX6_rankIn 8 = .ok (.sipush 200, 3) := by decide +kernel
theorem dX6_rankIn_11 : decode cX6_rankIn 11 = .ok (.invokestatic 47, 3) := by decide +kernel
theorem dX6_rankIn_14 : decode cX6_rankIn 14 = .ok (.aload_n 0, 1) := by decide +kernel
theorem dX6_rankIn_15 : decode cX6_rankIn 15 = .ok (.getfield 16, 3) := by decide +kernel
theorem dX6_rankIn_18 : decode cX6_rankIn 18 = .ok (.aload_n 0, 1) := by decide +kernel
theorem dX6_rankIn_19 : decode cX6_rankIn 19 = .ok (.getfield 10, 3) := by decide +kernel
theorem dX6_rankIn_22 : decode cX6_rankIn 22 = .ok (.invokevirtual 150, 3) := by decide +kernel
theorem dX6_rankIn_25 : decode cX6_rankIn 25 = .ok (.iconst 0, 1) := by decide +kernel
theorem dX6_rankIn_26 : decode cX6_rankIn 26 = .ok (.istore 4, 2) := by decide +kernel
theorem dX6_rankIn_28 : decode cX6_rankIn 28 = .ok (.iload 4, 2) := by decide +kernel
theorem dX6_rankIn_30 : decode cX6_rankIn 30 = .ok (.iload_n 2, 1) := by decide +kernel
theorem dX6_rankIn_31 : decode cX6_rankIn 31 = .ok (.if_icmp .ge 22, 3) := by decide +kernel
theorem dX6_rankIn_34 : decode cX6_rankIn 34 = .ok (.aload_n 0, 1) := by decide +kernel
theorem dX6_rankIn_35 : decode cX6_rankIn 35 = .ok (.getfield 16, 3) := by decide +kernel
theorem dX6_rankIn_38 : decode cX6_rankIn 38 = .ok (.iload_n 3, 1) := by decide +kernel
theorem dX6_rankIn_39 : decode cX6_rankIn 39 = .ok (.invokevirtual 153, 3) := by decide +kernel
theorem dX6_rankIn_42 : decode cX6_rankIn 42 = .ok (.ifCond .eq 5, 3) := by decide +kernel
theorem dX6_rankIn_45 : decode cX6_rankIn 45 = .ok (.iconst (-1), 1) := by decide +kernel
theorem dX6_rankIn_46 : decode cX6_rankIn 46 = .ok (.ireturn, 1) := by decide +kernel
theorem dX6_rankIn_47 : decode cX6_rankIn 47 = .ok (.iinc 4 1, 3) := by decide +kernel
theorem dX6_rankIn_50 : decode cX6_rankIn 50 = .ok (.goto (-22), 3) := by decide +kernel
theorem dX6_rankIn_53 : decode cX6_rankIn 53 = .ok (.aload_n 0, 1) := by decide +kernel
theorem dX6_rankIn_54 : decode cX6_rankIn 54 = .ok (.getfield 16, 3) := by decide +kernel
theorem dX6_rankIn_57 : decode cX6_rankIn 57 = .ok (.getfield 86, 3) := by decide +kernel
theorem dX6_rankIn_60 : decode cX6_rankIn 60 = .ok (.iload_n 3, 1) := by decide +kernel
theorem dX6_rankIn_61 : decode cX6_rankIn 61 = .ok (.iconst 2, 1) := by decide +kernel
theorem dX6_rankIn_62 : decode cX6_rankIn 62 = .ok (.invokevirtual 125, 3) := by decide +kernel
theorem dX6_rankIn_65 : decode cX6_rankIn 65 = .ok (.ireturn, 1) := by decide +kernel
theorem dX6_firstToExpire_0 : decode cX6_firstToExpire 0 = .ok (.sipush 201, 3) := by decide +kernel
theorem dX6_firstToExpire_3 : decode cX6_firstToExpire 3 = .ok (.istore_n 1, 1) := by decide +kernel
theorem dX6_firstToExpire_4 : decode cX6_firstToExpire 4 = .ok (.iconst (-1), 1) := by decide +kernel
theorem dX6_firstToExpire_5 : decode cX6_firstToExpire 5 = .ok (.istore_n 2, 1) := by decide +kernel
theorem dX6_firstToExpire_6 : decode cX6_firstToExpire 6 = .ok (.iconst 0, 1) := by decide +kernel
theorem dX6_firstToExpire_7 : decode cX6_firstToExpire 7 = .ok (.istore_n 3, 1) := by decide +kernel
theorem dX6_firstToExpire_8 : decode cX6_firstToExpire 8 = .ok (.iload_n 3, 1) := by decide +kernel
theorem dX6_firstToExpire_9 : decode cX6_firstToExpire 9 = .ok (.aload_n 0, 1) := by decide +kernel
theorem dX6_firstToExpire_10 : decode cX6_firstToExpire 10 = .ok (.getfield 10, 3) := by decide +kernel
theorem dX6_firstToExpire_13 : decode cX6_firstToExpire 13 = .ok (.getfield 86, 3) := by decide +kernel
theorem dX6_firstToExpire_16 : decode cX6_firstToExpire 16 = .ok (.getfield 90, 3) := by decide +kernel
theorem dX6_firstToExpire_19 : decode cX6_firstToExpire 19 = .ok (.if_icmp .ge 47, 3) := by decide +kernel
theorem dX6_firstToExpire_22 : decode cX6_firstToExpire 22 = .ok (.aload_n 0, 1) := by decide +kernel
theorem dX6_firstToExpire_23 : decode cX6_firstToExpire 23 = .ok (.getfield 10, 3) := by decide +kernel
theorem dX6_firstToExpire_26 : decode cX6_firstToExpire 26 = .ok (.getfield 86, 3) := by decide +kernel
theorem dX6_firstToExpire_29 : decode cX6_firstToExpire 29 = .ok (.iload_n 3, 1) := by decide +kernel
theorem dX6_firstToExpire_30 : decode cX6_firstToExpire 30 = .ok (.bipush 7, 2) := by decide +kernel
theorem dX6_firstToExpire_32 : decode cX6_firstToExpire 32 = .ok (.invokevirtual 116, 3) := by decide +kernel
theorem dX6_firstToExpire_35 : decode cX6_firstToExpire 35 = .ok (.istore 4, 2) := by decide +kernel
theorem dX6_firstToExpire_37 : decode cX6_firstToExpire 37 = .ok (.iload 4, 2) := by decide +kernel
theorem dX6_firstToExpire_39 : decode cX6_firstToExpire 39 = .ok (.iload_n 1, 1) := by decide +kernel
theorem dX6_firstToExpire_40 : decode cX6_firstToExpire 40 = .ok (.if_icmp .ge 20, 3) := by decide +kernel
theorem dX6_firstToExpire_43 : decode cX6_firstToExpire 43 = .ok (.iload 4, 2) := by decide +kernel
theorem dX6_firstToExpire_45 : decode cX6_firstToExpire 45 = .ok (.istore_n 1, 1) := by decide +kernel
theorem dX6_firstToExpire_46 : decode cX6_firstToExpire 46 = .ok (.aload_n 0, 1) := by decide +kernel
theorem dX6_firstToExpire_47 : decode cX6_firstToExpire 47 = .ok (.getfield 10, 3) := by decide +kernel
theorem dX6_firstToExpire_50 : decode cX6_firstToExpire 50 = .ok (.getfield 86, 3) := by decide +kernel
theorem dX6_firstToExpire_53 : decode cX6_firstToExpire 53 = .ok (.iload_n 3, 1) := by decide +kernel
theorem dX6_firstToExpire_54 : decode cX6_firstToExpire 54 = .ok (.bipush 7, 2) := by decide +kernel
theorem dX6_firstToExpire_56 : decode cX6_firstToExpire 56 = .ok (.invokevirtual 125, 3) := by decide +kernel
theorem dX6_firstToExpire_59 : decode cX6_firstToExpire 59 = .ok (.istore_n 2, 1) := by decide +kernel
theorem dX6_firstToExpire_60 : decode cX6_firstToExpire 60 = .ok (.iinc 3 1, 3) := by decide +kernel
theorem dX6_firstToExpire_63 : decode cX6_firstToExpire 63 = .ok (.goto (-55), 3) := by decide +kernel
theorem dX6_firstToExpire_66 : decode cX6_firstToExpire 66 = .ok (.iload_n 2, 1) := by decide +kernel
theorem dX6_firstToExpire_67 : decode cX6_firstToExpire 67 = .ok (.ireturn, 1) := by decide +kernel
theorem dX6_servedIn_0 : decode cX6_servedIn 0 = .ok (.aload_n 0, 1) := by decide +kernel
theorem dX6_servedIn_1 : decode cX6_servedIn 1 = .ok (.iload_n 1, 1) := by decide +kernel
theorem dX6_servedIn_2 : decode cX6_servedIn 2 = .ok (.invokevirtual 78, 3) := by decide +kernel
theorem dX6_servedIn_5 : decode cX6_servedIn 5 = .ok (.pop, 1) := by decide +kernel
theorem dX6_servedIn_6 : decode cX6_servedIn 6 = .ok (.aload_n 0, 1) := by decide +kernel
theorem dX6_servedIn_7 : decode cX6_servedIn 7 = .ok (.getfield 16, 3) := by decide +kernel
theorem dX6_servedIn_10 : decode cX6_servedIn 10 = .ok (.aload_n 0, 1) := by decide +kernel
theorem dX6_servedIn_11 : decode cX6_servedIn 11 = .ok (.getfield 10, 3) := by decide +kernel
theorem dX6_servedIn_14 : decode cX6_servedIn 14 = .ok (.invokevirtual 150, 3) := by decide +kernel
theorem dX6_servedIn_17 : decode cX6_servedIn 17 = .ok (.iconst 0, 1) := by decide +kernel
theorem dX6_servedIn_18 : decode cX6_servedIn 18 = .ok (.istore_n 2, 1) := by decide +kernel
theorem dX6_servedIn_19 : decode cX6_servedIn 19 = .ok (.iload_n 2, 1) := by decide +kernel
theorem dX6_servedIn_20 : decode cX6_servedIn 20 = .ok (.bipush 40, 2) := by decide +kernel
theorem dX6_servedIn_22 : decode cX6_servedIn 22 = .ok (.if_icmp .ge 48, 3) := by decide +kernel
theorem dX6_servedIn_25 : decode cX6_servedIn 25 = .ok (.aload_n 0, 1) := by decide +kernel
theorem dX6_servedIn_26 : decode cX6_servedIn 26 = .ok (.getfield 16, 3) := by decide +kernel
theorem dX6_servedIn_29 : decode cX6_servedIn 29 = .ok (.invokevirtual 100, 3) := by decide +kernel
theorem dX6_servedIn_32 : decode cX6_servedIn 32 = .ok (.iload_n 1, 1) := by decide +kernel
theorem dX6_servedIn_33 : decode cX6_servedIn 33 = .ok (.if_icmp .ne 5, 3) := by decide +kernel
theorem dX6_servedIn_36 : decode cX6_servedIn 36 = .ok (.iload_n 2, 1) := by decide +kernel
theorem dX6_servedIn_37 : decode cX6_servedIn 37 = .ok (.ireturn, 1) := by decide +kernel
theorem dX6_servedIn_38 : decode cX6_servedIn 38 = .ok (.aload_n 0, 1) := by decide +kernel
theorem dX6_servedIn_39 : decode cX6_servedIn 39 = .ok (.getfield 16, 3) := by decide +kernel
theorem dX6_servedIn_42 : decode cX6_servedIn 42 = .ok (.iconst 1, 1) := by decide +kernel
theorem dX6_servedIn_43 : decode cX6_servedIn 43 = .ok (.invokevirtual 113, 3) := by decide +kernel
theorem dX6_servedIn_46 : decode cX6_servedIn 46 = .ok (.pop, 1) := by decide +kernel
theorem dX6_servedIn_47 : decode cX6_servedIn 47 = .ok (.aload_n 0, 1) := by decide +kernel
theorem dX6_servedIn_48 : decode cX6_servedIn 48 = .ok (.getfield 16, 3) := by decide +kernel
theorem dX6_servedIn_51 : decode cX6_servedIn 51 = .ok (.getfield 86, 3) := by decide +kernel
theorem dX6_servedIn_54 : decode cX6_servedIn 54 = .ok (.iload_n 1, 1) := by decide +kernel
theorem dX6_servedIn_55 : decode cX6_servedIn 55 = .ok (.invokevirtual 156, 3) := by decide +kernel
theorem dX6_servedIn_58 : decode cX6_servedIn 58 = .ok (.iconst (-1), 1) := by decide +kernel
theorem dX6_servedIn_59 : decode cX6_servedIn 59 = .ok (.if_icmp .ne 5, 3) := by decide +kernel
theorem dX6_servedIn_62 : decode cX6_servedIn 62 = .ok (.iconst (-1), 1) := by decide +kernel
theorem dX6_servedIn_63 : decode cX6_servedIn 63 = .ok (.ireturn, 1) := by decide +kernel
theorem dX6_servedIn_64 : decode cX6_servedIn 64 = .ok (.iinc 2 1, 3) := by decide +kernel
theorem dX6_servedIn_67 : decode cX6_servedIn 67 = .ok (.goto (-48), 3) := by decide +kernel
theorem dX6_servedIn_70 : decode cX6_servedIn 70 = .ok (.iconst (-1), 1) := by decide +kernel
theorem dX6_servedIn_71 : decode cX6_servedIn 71 = .ok (.ireturn, 1) := by decide +kernel
theorem dX6_bribeToLead_0 : decode cX6_bribeToLead 0 = .ok (.iload_n 1, 1) := by decide +kernel
theorem dX6_bribeToLead_1 : decode cX6_bribeToLead 1 = .ok (.iconst 0, 1) := by decide +kernel
theorem dX6_bribeToLead_2 : decode cX6_bribeToLead 2 = .ok (.iconst 4, 1) := by decide +kernel
theorem dX6_bribeToLead_3 : decode cX6_bribeToLead 3 = .ok (.invokestatic 47, 3) := by decide +kernel
theorem dX6_bribeToLead_6 : decode cX6_bribeToLead 6 = .ok (.aload_n 0, 1) := by decide +kernel
theorem dX6_bribeToLead_7 : decode cX6_bribeToLead 7 = .ok (.getfield 10, 3) := by decide +kernel
theorem dX6_bribeToLead_10 : decode cX6_bribeToLead 10 = .ok (.getfield 86, 3) := by decide +kernel
theorem dX6_bribeToLead_13 : decode cX6_bribeToLead 13 = .ok (.invokevirtual 159, 3) := by decide +kernel
theorem dX6_bribeToLead_16 : decode cX6_bribeToLead 16 = .ok (.iconst 1, 1) := by decide +kernel
theorem dX6_bribeToLead_17 : decode cX6_bribeToLead 17 = .ok (.iadd, 1) := by decide +kernel
theorem dX6_bribeToLead_18 : decode cX6_bribeToLead 18 = .ok (.istore_n 2, 1) := by decide +kernel
theorem dX6_bribeToLead_19 : decode cX6_bribeToLead 19 = .ok (.iload_n 2, 1) := by decide +kernel
theorem dX6_bribeToLead_20 : decode cX6_bribeToLead 20 = .ok (.iload_n 1, 1) := by decide +kernel
theorem dX6_bribeToLead_21 : decode cX6_bribeToLead 21 = .ok (.if_icmp .gt 5, 3) := by decide +kernel
theorem dX6_bribeToLead_24 : decode cX6_bribeToLead 24 = .ok (.iconst 0, 1) := by decide +kernel
theorem dX6_bribeToLead_25 : decode cX6_bribeToLead 25 = .ok (.ireturn, 1) := by decide +kernel
theorem dX6_bribeToLead_26 : decode cX6_bribeToLead 26 = .ok (.iload_n 2, 1) := by decide +kernel
theorem dX6_bribeToLead_27 : decode cX6_bribeToLead 27 = .ok (.iconst 4, 1) := by decide +kernel
theorem dX6_bribeToLead_28 : decode cX6_bribeToLead 28 = .ok (.if_icmp .le 5, 3) := by decide +kernel
theorem dX6_bribeToLead_31 : decode cX6_bribeToLead 31 = .ok (.iconst (-1), 1) := by decide +kernel
theorem dX6_bribeToLead_32 : decode cX6_bribeToLead 32 = .ok (.ireturn, 1) := by decide +kernel
theorem dX6_bribeToLead_33 : decode cX6_bribeToLead 33 = .ok (.iload_n 2, 1) := by decide +kernel
theorem dX6_bribeToLead_34 : decode cX6_bribeToLead 34 = .ok (.iload_n 1, 1) := by decide +kernel
theorem dX6_bribeToLead_35 : decode cX6_bribeToLead 35 = .ok (.isub, 1) := by decide +kernel
theorem dX6_bribeToLead_36 : decode cX6_bribeToLead 36 = .ok (.bipush 25, 2) := by decide +kernel
theorem dX6_bribeToLead_38 : decode cX6_bribeToLead 38 = .ok (.imul, 1) := by decide +kernel
theorem dX6_bribeToLead_39 : decode cX6_bribeToLead 39 = .ok (.ireturn, 1) := by decide +kernel
theorem dX6_meanWait_0 : decode cX6_meanWait 0 = .ok (.aload_n 0, 1) := by decide +kernel
theorem dX6_meanWait_1 : decode cX6_meanWait 1 = .ok (.getfield 10, 3) := by decide +kernel
theorem dX6_meanWait_4 : decode cX6_meanWait 4 = .ok (.iconst 0, 1) := by decide +kernel
theorem dX6_meanWait_5 : decode cX6_meanWait 5 = .ok (.invokevirtual 162, 3) := by decide +kernel
theorem dX6_meanWait_8 : decode cX6_meanWait 8 = .ok (.istore_n 1, 1) := by decide +kernel
theorem dX6_meanWait_9 : decode cX6_meanWait 9 = .ok (.iload_n 1, 1) := by decide +kernel
theorem dX6_meanWait_10 : decode cX6_meanWait 10 = .ok (.ifCond .ne 5, 3) := by decide +kernel
theorem dX6_meanWait_13 : decode cX6_meanWait 13 = .ok (.dconst 0, 1) := by decide +kernel
theorem dX6_meanWait_14 : decode cX6_meanWait 14 = .ok (.dreturn, 1) := by decide +kernel
theorem dX6_meanWait_15 : decode cX6_meanWait 15 = .ok (.aload_n 0, 1) := by decide +kernel
theorem dX6_meanWait_16 : decode cX6_meanWait 16 = .ok (.getfield 10, 3) := by decide +kernel
theorem dX6_meanWait_19 : decode cX6_meanWait 19 = .ok (.getfield 165, 3) := by decide +kernel
theorem dX6_meanWait_22 : decode cX6_meanWait 22 = .ok (.i2d, 1) := by decide +kernel
theorem dX6_meanWait_23 : decode cX6_meanWait 23 = .ok (.iload_n 1, 1) := by decide +kernel
theorem dX6_meanWait_24 : decode cX6_meanWait 24 = .ok (.i2d, 1) := by decide +kernel
theorem dX6_meanWait_25 : decode cX6_meanWait 25 = .ok (.ddiv, 1) := by decide +kernel
theorem dX6_meanWait_26 : decode cX6_meanWait 26 = .ok (.dreturn, 1) := by decide +kernel
theorem dX6_append_0 : decode cX6_append 0 = .ok (.iload_n 1, 1) := by decide +kernel
theorem dX6_append_1 : decode cX6_append 1 = .ok (.iconst 0, 1) := by decide +kernel
theorem dX6_append_2 : decode cX6_append 2 = .ok (.bipush 127, 2) := by decide +kernel
theorem dX6_append_4 : decode cX6_append 4 = .ok (.invokestatic 47, 3) := by decide +kernel
theorem dX6_append_7 : decode cX6_append 7 = .ok (.aload_n 0, 1) := by decide +kernel
theorem dX6_append_8 : decode cX6_append 8 = .ok (.getfield 29, 3) := by decide +kernel
theorem dX6_append_11 : decode cX6_append 11 = .ok (.getfield 168, 3) := by decide +kernel
theorem dX6_append_14 : decode cX6_append 14 = .ok (.iload_n 1, 1) := by decide +kernel
theorem dX6_append_15 : decode cX6_append 15 = .ok (.invokevirtual 172, 3) := by decide +kernel
theorem dX6_append_18 : decode cX6_append 18 = .ok (.ifCond .ne 13, 3) := by decide +kernel
theorem dX6_append_21 : decode cX6_append 21 = .ok (.new 108, 3) := by decide +kernel
theorem dX6_append_24 : decode cX6_append 24 = .ok (.dup, 1) := by decide +kernel
theorem dX6_append_25 : decode cX6_append 25 = .ok (.ldc 176, 2) := by decide +kernel
theorem dX6_append_27 : decode cX6_append 27 = .ok (.invokespecial 112, 3) := by decide +kernel
theorem dX6_append_30 : decode cX6_append 30 = .ok (.athrow, 1) := by decide +kernel
theorem dX6_append_31 : decode cX6_append 31 = .ok (.aload_n 0, 1) := by decide +kernel
theorem dX6_append_32 : decode cX6_append 32 = .ok (.getfield 29, 3) := by decide +kernel
theorem dX6_append_35 : decode cX6_append 35 = .ok (.getfield 168, 3) := by decide +kernel
theorem dX6_append_38 : decode cX6_append 38 = .ok (.getfield 178, 3) := by decide +kernel
theorem dX6_append_41 : decode cX6_append 41 = .ok (.ireturn, 1) := by decide +kernel
theorem dX6_clearText_0 : decode cX6_clearText 0 = .ok (.aload_n 0, 1) := by decide +kernel
theorem dX6_clearText_1 : decode cX6_clearText 1 = .ok (.getfield 29, 3) := by decide +kernel
theorem dX6_clearText_4 : decode cX6_clearText 4 = .ok (.getfield 168, 3) := by decide +kernel
theorem dX6_clearText_7 : decode cX6_clearText 7 = .ok (.getfield 178, 3) := by decide +kernel
theorem dX6_clearText_10 : decode cX6_clearText 10 = .ok (.istore_n 1, 1) := by decide +kernel
theorem dX6_clearText_11 : decode cX6_clearText 11 = .ok (.aload_n 0, 1) := by decide +kernel
theorem dX6_clearText_12 : decode cX6_clearText 12 = .ok (.getfield 29, 3) := by decide +kernel
theorem dX6_clearText_15 : decode cX6_clearText 15 = .ok (.getfield 168, 3) := by decide +kernel
theorem dX6_clearText_18 : decode cX6_clearText 18 = .ok (.iconst 0, 1) := by decide +kernel
theorem dX6_clearText_19 : decode cX6_clearText 19 = .ok (.putfield 178, 3) := by decide +kernel
theorem dX6_clearText_22 : decode cX6_clearText 22 = .ok (.iload_n 1, 1) := by decide +kernel
theorem dX6_clearText_23 : decode cX6_clearText 23 = .ok (.ireturn, 1) := by decide +kernel
theorem dX6_carryOut_0 : decode cX6_carryOut 0 = .ok (.aload_n 0, 1) := by decide +kernel
theorem dX6_carryOut_1 : decode cX6_carryOut 1 = .ok (.getfield 29, 3) := by decide +kernel
theorem dX6_carryOut_4 : decode cX6_carryOut 4 = .ok (.invokevirtual 181, 3) := by decide +kernel
theorem dX6_carryOut_7 : decode cX6_carryOut 7 = .ok (.istore_n 1, 1) := by decide +kernel
theorem dX6_carryOut_8 : decode cX6_carryOut 8 = .ok (.iload_n 1, 1) := by decide +kernel
theorem dX6_carryOut_9 : decode cX6_carryOut 9 = .ok (.iconst (-1), 1) := by decide +kernel
theorem dX6_carryOut_10 : decode cX6_carryOut 10 = .ok (.if_icmp .eq 8, 3) := by decide +kernel
theorem dX6_carryOut_13 : decode cX6_carryOut 13 = .ok (.bipush (-10), 2) := by decide +kernel
theorem dX6_carryOut_15 : decode cX6_carryOut 15 = .ok (.iload_n 1, 1) := by decide +kernel
theorem dX6_carryOut_16 : decode cX6_carryOut 16 = .ok (.isub, 1) := by decide +kernel
theorem dX6_carryOut_17 : decode cX6_carryOut 17 = .ok (.ireturn, 1) := by decide +kernel
theorem dX6_carryOut_18 : decode cX6_carryOut 18 = .ok (.aload_n 0, 1) := by decide +kernel
theorem dX6_carryOut_19 : decode cX6_carryOut 19 = .ok (.getfield 22, 3) := by decide +kernel
theorem dX6_carryOut_22 : decode cX6_carryOut 22 = .ok (.aload_n 0, 1) := by decide +kernel
theorem dX6_carryOut_23 : decode cX6_carryOut 23 = .ok (.getfield 10, 3) := by decide +kernel
theorem dX6_carryOut_26 : decode cX6_carryOut 26 = .ok (.invokevirtual 51, 3) := by decide +kernel
theorem dX6_carryOut_29 : decode cX6_carryOut 29 = .ok (.iconst 0, 1) := by decide +kernel
theorem dX6_carryOut_30 : decode cX6_carryOut 30 = .ok (.istore_n 2, 1) := by decide +kernel
theorem dX6_carryOut_31 : decode cX6_carryOut 31 = .ok (.aload_n 0, 1) := by decide +kernel
theorem dX6_carryOut_32 : decode cX6_carryOut 32 = .ok (.getfield 29, 3) := by decide +kernel
theorem dX6_carryOut_35 : decode cX6_carryOut 35 = .ok (.invokevirtual 184, 3) := by decide +kernel
theorem dX6_carryOut_38 : decode cX6_carryOut 38 = .ok (.iload_n 2, 1) := by decide +kernel
theorem dX6_carryOut_39 : decode cX6_carryOut 39 = .ok (.bipush 100, 2) := by decide +kernel
theorem dX6_carryOut_41 : decode cX6_carryOut 41 = .ok (.if_icmp .ge 35, 3) := by decide +kernel
theorem dX6_carryOut_44 : decode cX6_carryOut 44 = .ok (.aload_n 0, 1) := by decide +kernel
theorem dX6_carryOut_45 : decode cX6_carryOut 45 = .ok (.getfield 29, 3) := by decide +kernel
theorem dX6_carryOut_48 : decode cX6_carryOut 48 = .ok (.invokevirtual 187, 3) := by decide +kernel
theorem dX6_carryOut_51 : decode cX6_carryOut 51 = .ok (.ifCond .ne 25, 3) := by decide +kernel
theorem dX6_carryOut_54 : decode cX6_carryOut 54 = .ok (.aload_n 0, 1) := by decide +kernel
theorem dX6_carryOut_55 : decode cX6_carryOut 55 = .ok (.getfield 29, 3) := by decide +kernel
theorem dX6_carryOut_58 : decode cX6_carryOut 58 = .ok (.invokevirtual 191, 3) := by decide +kernel
theorem dX6_carryOut_61 : decode cX6_carryOut 61 = .ok (.aload_n 0, 1) := by decide +kernel
theorem dX6_carryOut_62 : decode cX6_carryOut 62 = .ok (.invokevirtual 194, 3) := by decide +kernel
theorem dX6_carryOut_65 : decode cX6_carryOut 65 = .ok (.ifCond .ne 5, 3) := by decide +kernel
theorem dX6_carryOut_68 : decode cX6_carryOut 68 = .ok (.iload_n 2, 1) := by decide +kernel
theorem dX6_carryOut_69 : decode cX6_carryOut 69 = .ok (.ireturn, 1) := by decide +kernel
theorem dX6_carryOut_70 : decode cX6_carryOut 70 = .ok (.iinc 2 1, 3) := by decide +kernel
theorem dX6_carryOut_73 : decode cX6_carryOut 73 = .ok (.goto (-35), 3) := by decide +kernel
theorem dX6_carryOut_76 : decode cX6_carryOut 76 = .ok (.iload_n 2, 1) := by decide +kernel
theorem dX6_carryOut_77 : decode cX6_carryOut 77 = .ok (.ireturn, 1) := by decide +kernel
theorem dX6_undo_0 : decode cX6_undo 0 = .ok (.aload_n 0, 1) := by decide +kernel
theorem dX6_undo_1 : decode cX6_undo 1 = .ok (.getfield 22, 3) := by decide +kernel
theorem dX6_undo_4 : decode cX6_undo 4 = .ok (.getfield 197, 3) := by decide +kernel
theorem dX6_undo_7 : decode cX6_undo 7 = .ok (.ifCond .ne 13, 3) := by decide +kernel
theorem dX6_undo_10 : decode cX6_undo 10 = .ok (.new 108, 3) := by decide +kernel
theorem dX6_undo_13 : decode cX6_undo 13 = .ok (.dup, 1) := by decide +kernel
theorem dX6_undo_14 : decode cX6_undo 14 = .ok (.ldc 198, 2) := by decide +kernel
theorem dX6_undo_16 : decode cX6_undo 16 = .ok (.invokespecial 112, 3) := by decide +kernel
theorem dX6_undo_19 : decode cX6_undo 19 = .ok (.athrow, 1) := by decide +kernel
theorem dX6_undo_20 : decode cX6_undo 20 = .ok (.aload_n 0, 1) := by decide +kernel
theorem dX6_undo_21 : decode cX6_undo 21 = .ok (.getfield 22, 3) := by decide +kernel
theorem dX6_undo_24 : decode cX6_undo 24 = .ok (.aload_n 0, 1) := by decide +kernel
theorem dX6_undo_25 : decode cX6_undo 25 = .ok (.getfield 10, 3) := by decide +kernel
theorem dX6_undo_28 : decode cX6_undo 28 = .ok (.invokevirtual 200, 3) := by decide +kernel
theorem dX6_undo_31 : decode cX6_undo 31 = .ok (.aload_n 0, 1) := by decide +kernel
theorem dX6_undo_32 : decode cX6_undo 32 = .ok (.getfield 22, 3) := by decide +kernel
theorem dX6_undo_35 : decode cX6_undo 35 = .ok (.getfield 197, 3) := by decide +kernel
theorem dX6_undo_38 : decode cX6_undo 38 = .ok (.ireturn, 1) := by decide +kernel
theorem dX6_checkRange_0 : decode cX6_checkRange 0 = .ok (.iload_n 0, 1) := by decide +kernel
theorem dX6_checkRange_1 : decode cX6_checkRange 1 = .ok (.iload_n 1, 1) := by decide +kernel
theorem dX6_checkRange_2 : decode cX6_checkRange 2 = .ok (.if_icmp .lt 8, 3) := by decide +kernel
theorem dX6_checkRange_5 : decode cX6_checkRange 5 = .ok (.iload_n 0, 1) := by decide +kernel
theorem dX6_checkRange_6 : decode cX6_checkRange 6 = .ok (.iload_n 2, 1) := by decide +kernel
theorem dX6_checkRange_7 : decode cX6_checkRange 7 = .ok (.if_icmp .le 13, 3) := by decide +kernel
theorem dX6_checkRange_10 : decode cX6_checkRange 10 = .ok (.new 73, 3) := by decide +kernel
theorem dX6_checkRange_13 : decode cX6_checkRange 13 = .ok (.dup, 1) := by decide +kernel
theorem dX6_checkRange_14 : decode cX6_checkRange 14 = .ok (.ldc 216, 2) := by decide +kernel
theorem dX6_checkRange_16 : decode cX6_checkRange 16 = .ok (.invokespecial 77, 3) := by decide +kernel
theorem dX6_checkRange_19 : decode cX6_checkRange 19 = .ok (.athrow, 1) := by decide +kernel
theorem dX6_checkRange_20 : decode cX6_checkRange 20 = .ok (.return_, 1) := by decide +kernel
theorem dX6_checkSending_0 : decode cX6_checkSending 0 = .ok (.iload_n 0, 1) := by decide +kernel
theorem dX6_checkSending_1 : decode cX6_checkSending 1 = .ok (.iconst 0, 1) := by decide +kernel
theorem dX6_checkSending_2 : decode cX6_checkSending 2 = .ok (.bipush 7, 2) := by decide +kernel
theorem dX6_checkSending_4 : decode cX6_checkSending 4 = .ok (.invokestatic 47, 3) := by decide +kernel
theorem dX6_checkSending_7 : decode cX6_checkSending 7 = .ok (.iload_n 1, 1) := by decide +kernel
theorem dX6_checkSending_8 : decode cX6_checkSending 8 = .ok (.iconst 0, 1) := by decide +kernel
theorem dX6_checkSending_9 : decode cX6_checkSending 9 = .ok (.iconst 4, 1) := by decide +kernel
theorem dX6_checkSending_10 : decode cX6_checkSending 10 = .ok (.invokestatic 47, 3) := by decide +kernel
theorem dX6_checkSending_13 : decode cX6_checkSending 13 = .ok (.iload_n 2, 1) := by decide +kernel
theorem dX6_checkSending_14 : decode cX6_checkSending 14 = .ok (.iconst 1, 1) := by decide +kernel
theorem dX6_checkSending_15 : decode cX6_checkSending 15 = .ok (.sipush 200, 3) := by decide +kernel
theorem dX6_checkSending_18 : decode cX6_checkSending 18 = .ok (.invokestatic 47, 3) := by decide +kernel
theorem dX6_checkSending_21 : decode cX6_checkSending 21 = .ok (.return_, 1) := by decide +kernel
theorem dX6_checkRoom_0 : decode cX6_checkRoom 0 = .ok (.aload_n 0, 1) := by decide +kernel
theorem dX6_checkRoom_1 : decode cX6_checkRoom 1 = .ok (.getfield 10, 3) := by decide +kernel
theorem dX6_checkRoom_4 : decode cX6_checkRoom 4 = .ok (.iload_n 1, 1) := by decide +kernel
theorem dX6_checkRoom_5 : decode cX6_checkRoom 5 = .ok (.iload_n 2, 1) := by decide +kernel
theorem dX6_checkRoom_6 : decode cX6_checkRoom 6 = .ok (.invokevirtual 218, 3) := by decide +kernel
theorem dX6_checkRoom_9 : decode cX6_checkRoom 9 = .ok (.ifCond .ne 13, 3) := by decide +kernel
theorem dX6_checkRoom_12 : decode cX6_checkRoom 12 = .ok (.new 108, 3) := by decide +kernel
theorem dX6_checkRoom_15 : decode cX6_checkRoom 15 = .ok (.dup, 1) := by decide +kernel
theorem dX6_checkRoom_16 : decode cX6_checkRoom 16 = .ok (.ldc 222, 2) := by decide +kernel
theorem dX6_checkRoom_18 : decode cX6_checkRoom 18 = .ok (.invokespecial 112, 3) := by decide +kernel
theorem dX6_checkRoom_21 : decode cX6_checkRoom 21 = .ok (.athrow, 1) := by decide +kernel
theorem dX6_checkRoom_22 : decode cX6_checkRoom 22 = .ok (.return_, 1) := by decide +kernel
theorem dX6_findRow_0 : decode cX6_findRow 0 = .ok (.aload_n 0, 1) := by decide +kernel
theorem dX6_findRow_1 : decode cX6_findRow 1 = .ok (.getfield 10, 3) := by decide +kernel
theorem dX6_findRow_4 : decode cX6_findRow 4 = .ok (.getfield 86, 3) := by decide +kernel
theorem dX6_findRow_7 : decode cX6_findRow 7 = .ok (.iload_n 1, 1) := by decide +kernel
theorem dX6_findRow_8 : decode cX6_findRow 8 = .ok (.invokevirtual 156, 3) := by decide +kernel
theorem dX6_findRow_11 : decode cX6_findRow 11 = .ok (.istore_n 2, 1) := by decide +kernel
theorem dX6_findRow_12 : decode cX6_findRow 12 = .ok (.iload_n 2, 1) := by decide +kernel
theorem dX6_findRow_13 : decode cX6_findRow 13 = .ok (.iconst (-1), 1) := by decide +kernel
theorem dX6_findRow_14 : decode cX6_findRow 14 = .ok (.if_icmp .ne 13, 3) := by decide +kernel
theorem dX6_findRow_17 : decode cX6_findRow 17 = .ok (.new 40, 3) := by decide +kernel
theorem dX6_findRow_20 : decode cX6_findRow 20 = .ok (.dup, 1) := by decide +kernel
theorem dX6_findRow_21 : decode cX6_findRow 21 = .ok (.ldc 224, 2) := by decide +kernel
theorem dX6_findRow_23 : decode cX6_findRow 23 = .ok (.invokespecial 44, 3) := by decide +kernel
theorem dX6_findRow_26 : decode cX6_findRow 26 = .ok (.athrow, 1) := by decide +kernel
theorem dX6_findRow_27 : decode cX6_findRow 27 = .ok (.iload_n 2, 1) := by decide +kernel
theorem dX6_findRow_28 : decode cX6_findRow 28 = .ok (.ireturn, 1) := by decide +kernel
theorem dX6_carryOutOrder_0 : decode cX6_carryOutOrder 0 = .ok (.aload_n 0, 1) := by decide +kernel
theorem dX6_carryOutOrder_1 : decode cX6_carryOutOrder 1 = .ok (.getfield 29, 3) := by decide +kernel
theorem dX6_carryOutOrder_4 : decode cX6_carryOutOrder 4 = .ok (.getfield 226, 3) := by decide +kernel
theorem dX6_carryOutOrder_7 : decode cX6_carryOutOrder 7 = .ok (.lookupswitch 153 #[(98, 41), (112, 41), (115, 100), (116, 117)], 41) := by decide +kernel
theorem dX6_carryOutOrder_48 : decode cX6_carryOutOrder 48 = .ok (.aload_n 0, 1) := by decide +kernel
theorem dX6_carryOutOrder_49 : decode cX6_carryOutOrder 49 = .ok (.getfield 10, 3) := by decide +kernel
theorem dX6_carryOutOrder_52 : decode cX6_carryOutOrder 52 = .ok (.aload_n 0, 1) := by decide +kernel
theorem dX6_carryOutOrder_53 : decode cX6_carryOutOrder 53 = .ok (.getfield 29, 3) := by decide +kernel
theorem dX6_carryOutOrder_56 : decode cX6_carryOutOrder 56 = .ok (.getfield 229, 3) := by decide +kernel
theorem dX6_carryOutOrder_59 : decode cX6_carryOutOrder 59 = .ok (.iconst (-1), 1) := by decide +kernel
theorem dX6_carryOutOrder_60 : decode cX6_carryOutOrder 60 = .ok (.invokevirtual 218, 3) := by decide +kernel
theorem dX6_carryOutOrder_63 : decode cX6_carryOutOrder 63 = .ok (.ifCond .ne 5, 3) := by decide +kernel
theorem dX6_carryOutOrder_66 : decode cX6_carryOutOrder 66 = .ok (.iconst 0, 1) := by decide +kernel
theorem dX6_carryOutOrder_67 : decode cX6_carryOutOrder 67 = .ok (.ireturn, 1) := by decide +kernel
theorem dX6_carryOutOrder_68 : decode cX6_carryOutOrder 68 = .ok (.aload_n 0, 1) := by decide +kernel
theorem dX6_carryOutOrder_69 : decode cX6_carryOutOrder 69 = .ok (.getfield 10, 3) := by decide +kernel
theorem dX6_carryOutOrder_72 : decode cX6_carryOutOrder 72 = .ok (.aload_n 0, 1) := by decide +kernel
theorem dX6_carryOutOrder_73 : decode cX6_carryOutOrder 73 = .ok (.getfield 29, 3) := by decide +kernel
theorem dX6_carryOutOrder_76 : decode cX6_carryOutOrder 76 = .ok (.getfield 229, 3) := by decide +kernel
theorem dX6_carryOutOrder_79 : decode cX6_carryOutOrder 79 = .ok (.iconst (-1), 1) := by decide +kernel
theorem dX6_carryOutOrder_80 : decode cX6_carryOutOrder 80 = .ok (.aload_n 0, 1) := by decide +kernel
theorem dX6_carryOutOrder_81 : decode cX6_carryOutOrder 81 = .ok (.getfield 29, 3) := by decide +kernel
theorem dX6_carryOutOrder_84 : decode cX6_carryOutOrder 84 = .ok (.getfield 232, 3) := by decide +kernel
theorem dX6_carryOutOrder_87 : decode cX6_carryOutOrder 87 = .ok (.aload_n 0, 1) := by decide +kernel
theorem dX6_carryOutOrder_88 : decode cX6_carryOutOrder 88 = .ok (.getfield 29, 3) := by decide +kernel
theorem dX6_carryOutOrder_91 : decode cX6_carryOutOrder 91 = .ok (.getfield 235, 3) := by decide +kernel
theorem dX6_carryOutOrder_94 : decode cX6_carryOutOrder 94 = .ok (.aload_n 0, 1) := by decide +kernel
theorem dX6_carryOutOrder_95 : decode cX6_carryOutOrder 95 = .ok (.getfield 29, 3) := by decide +kernel
theorem dX6_carryOutOrder_98 : decode cX6_carryOutOrder 98 = .ok (.getfield 238, 3) := by decide +kernel
theorem dX6_carryOutOrder_101 : decode cX6_carryOutOrder 101 = .ok (.invokevirtual 69, 3) := by decide +kernel
theorem dX6_carryOutOrder_104 : decode cX6_carryOutOrder 104 = .ok (.pop, 1) := by decide +kernel
theorem dX6_carryOutOrder_105 : decode cX6_carryOutOrder 105 = .ok (.iconst 1, 1) := by decide +kernel
theorem dX6_carryOutOrder_106 : decode cX6_carryOutOrder 106 = .ok (.ireturn, 1) := by decide +kernel
theorem dX6_carryOutOrder_107 : decode cX6_carryOutOrder 107 = .ok (.aload_n 0, 1) := by decide +kernel
theorem dX6_carryOutOrder_108 : decode cX6_carryOutOrder 108 = .ok (.getfield 10, 3) := by decide +kernel
theorem dX6_carryOutOrder_111 : decode cX6_carryOutOrder 111 = .ok (.invokevirtual 100, 3) := by decide +kernel
theorem dX6_carryOutOrder_114 : decode cX6_carryOutOrder 114 = .ok (.iconst (-1), 1) := by decide +kernel
theorem dX6_carryOutOrder_115 : decode cX6_carryOutOrder 115 = .ok (.if_icmp .eq 7, 3) := by decide +kernel
theorem dX6_carryOutOrder_118 : decode cX6_carryOutOrder 118 = .ok (.iconst 1, 1) := by decide +kernel
theorem dX6_carryOutOrder_119 : decode cX6_carryOutOrder 119 = .ok (.goto 4, 3) := by decide +kernel
theorem dX6_carryOutOrder_122 : decode cX6_carryOutOrder 122 = .ok (.iconst 0, 1) := by decide +kernel
theorem dX6_carryOutOrder_123 : decode cX6_carryOutOrder 123 = .ok (.ireturn, 1) := by decide +kernel
theorem dX6_carryOutOrder_124 : decode cX6_carryOutOrder 124 = .ok (.aload_n 0, 1) := by decide +kernel
theorem dX6_carryOutOrder_125 : decode cX6_carryOutOrder 125 = .ok (.getfield 10, 3) := by decide +kernel
theorem dX6_carryOutOrder_128 : decode cX6_carryOutOrder 128 = .ok (.aload_n 0, 1) := by decide +kernel
theorem dX6_carryOutOrder_129 : decode cX6_carryOutOrder 129 = .ok (.getfield 29, 3) := by decide +kernel
theorem dX6_carryOutOrder_132 : decode cX6_carryOutOrder 132 = .ok (.getfield 241, 3) := by decide +kernel
theorem dX6_carryOutOrder_135 : decode cX6_carryOutOrder 135 = .ok (.invokevirtual 104, 3) := by decide +kernel
theorem dX6_carryOutOrder_138 : decode cX6_carryOutOrder 138 = .ok (.ifCond .ne 5, 3) := by decide +kernel
theorem dX6_carryOutOrder_141 : decode cX6_carryOutOrder 141 = .ok (.iconst 0, 1) := by decide +kernel
theorem dX6_carryOutOrder_142 : decode cX6_carryOutOrder 142 = .ok (.ireturn, 1) := by decide +kernel
theorem dX6_carryOutOrder_143 : decode cX6_carryOutOrder 143 = .ok (.aload_n 0, 1) := by decide +kernel
theorem dX6_carryOutOrder_144 : decode cX6_carryOutOrder 144 = .ok (.getfield 10, 3) := by decide +kernel
theorem dX6_carryOutOrder_147 : decode cX6_carryOutOrder 147 = .ok (.aload_n 0, 1) := by decide +kernel
theorem dX6_carryOutOrder_148 : decode cX6_carryOutOrder 148 = .ok (.getfield 29, 3) := by decide +kernel
theorem dX6_carryOutOrder_151 : decode cX6_carryOutOrder 151 = .ok (.getfield 241, 3) := by decide +kernel
theorem dX6_carryOutOrder_154 : decode cX6_carryOutOrder 154 = .ok (.invokevirtual 113, 3) := by decide +kernel
theorem dX6_carryOutOrder_157 : decode cX6_carryOutOrder 157 = .ok (.pop, 1) := by decide +kernel
theorem dX6_carryOutOrder_158 : decode cX6_carryOutOrder 158 = .ok (.iconst 1, 1) := by decide +kernel
theorem dX6_carryOutOrder_159 : decode cX6_carryOutOrder 159 = .ok (.ireturn, 1) := by decide +kernel
theorem dX6_carryOutOrder_160 : decode cX6_carryOutOrder 160 = .ok (.iconst 0, 1) := by decide +kernel
theorem dX6_carryOutOrder_161 : decode cX6_carryOutOrder 161 = .ok (.ireturn, 1) := by decide +kernel
