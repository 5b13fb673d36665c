set_option maxRecDepth 20000 in
theorem ggX6_init_X6_in : GoodIn wsX6_init wsX6_in := goodIn_r _ [14] (by decide +kernel) (by decide +kernel)
set_option maxRecDepth 20000 in
theorem gX6_init_X6_in : GoodIn wsX6_init (va_wsS RX6 28 yX6_in wsX6_in) := goodIn_app (goodIn_of _ (by decide +kernel)) ggX6_init_X6_in
theorem dX6_init_0 : decode cX6_init 0 = .ok (.aload_n 0, 1) := by decide +kernel
theorem dX6_init_1 : decode cX6_init 1 = .ok (.invokespecial 1, 3) := by decide +kernel
theorem dX6_init_4 : decode cX6_init 4 = .ok (.aload_n 0, 1) := by decide +kernel
theorem dX6_init_5 : decode cX6_init 5 = .ok (.sipush 975, 3) := by decide +kernel
theorem dX6_init_8 : decode cX6_init 8 = .ok (.newarray .int, 2) := by decide +kernel
theorem dX6_init_10 : decode cX6_init 10 = .ok (.putfield 7, 3) := by decide +kernel
theorem dX6_init_13 : decode cX6_init 13 = .ok (.aload_n 0, 1) := by decide +kernel
theorem dX6_init_14 : decode cX6_init 14 = .ok (.sipush 3900, 3) := by decide +kernel
theorem dX6_init_17 : decode cX6_init 17 = .ok (.newarray .int, 2) := by decide +kernel
theorem dX6_init_19 : decode cX6_init 19 = .ok (.putfield 13, 3) := by decide +kernel
theorem dX6_init_22 : decode cX6_init 22 = .ok (.aload_n 0, 1) := by decide +kernel
theorem dX6_init_23 : decode cX6_init 23 = .ok (.sipush 975, 3) := by decide +kernel
theorem dX6_init_26 : decode cX6_init 26 = .ok (.newarray .int, 2) := by decide +kernel
theorem dX6_init_28 : decode cX6_init 28 = .ok (.putfield 16, 3) := by decide +kernel
theorem dX6_init_31 : decode cX6_init 31 = .ok (.aload_n 0, 1) := by decide +kernel
theorem dX6_init_32 : decode cX6_init 32 = .ok (.sipush 200, 3) := by decide +kernel
theorem dX6_init_35 : decode cX6_init 35 = .ok (.newarray .int, 2) := by decide +kernel
theorem dX6_init_37 : decode cX6_init 37 = .ok (.putfield 19, 3) := by decide +kernel
theorem dX6_init_40 : decode cX6_init 40 = .ok (.aload_n 0, 1) := by decide +kernel
theorem dX6_init_41 : decode cX6_init 41 = .ok (.sipush 600, 3) := by decide +kernel
theorem dX6_init_44 : decode cX6_init 44 = .ok (.newarray .int, 2) := by decide +kernel
theorem dX6_init_46 : decode cX6_init 46 = .ok (.putfield 22, 3) := by decide +kernel
theorem dX6_init_49 : decode cX6_init 49 = .ok (.aload_n 0, 1) := by decide +kernel
theorem dX6_init_50 : decode cX6_init 50 = .ok (.sipush 180, 3) := by decide +kernel
theorem dX6_init_53 : decode cX6_init 53 = .ok (.newarray .int, 2) := by decide +kernel
theorem dX6_init_55 : decode cX6_init 55 = .ok (.putfield 25, 3) := by decide +kernel
theorem dX6_init_58 : decode cX6_init 58 = .ok (.aload_n 0, 1) := by decide +kernel
theorem dX6_init_59 : decode cX6_init 59 = .ok (.getfield 7, 3) := by decide +kernel
theorem dX6_init_62 : decode cX6_init 62 = .ok (.iconst 0, 1) := by decide +kernel
theorem dX6_init_63 : decode cX6_init 63 = .ok (.bipush 60, 2) := by decide +kernel
theorem dX6_init_65 : decode cX6_init 65 = .ok (.iastore, 1) := by decide +kernel
theorem dX6_init_66 : decode cX6_init 66 = .ok (.aload_n 0, 1) := by decide +kernel
theorem dX6_init_67 : decode cX6_init 67 = .ok (.getfield 7, 3) := by decide +kernel
theorem dX6_init_70 : decode cX6_init 70 = .ok (.iconst 1, 1) := by decide +kernel
theorem dX6_init_71 : decode cX6_init 71 = .ok (.bipush 6, 2) := by decide +kernel
theorem dX6_init_73 : decode cX6_init 73 = .ok (.iastore, 1) := by decide +kernel
theorem dX6_init_74 : decode cX6_init 74 = .ok (.aload_n 0, 1) := by decide +kernel
theorem dX6_init_75 : decode cX6_init 75 = .ok (.getfield 7, 3) := by decide +kernel
theorem dX6_init_78 : decode cX6_init 78 = .ok (.iconst 2, 1) := by decide +kernel
theorem dX6_init_79 : decode cX6_init 79 = .ok (.iconst 3, 1) := by decide +kernel
theorem dX6_init_80 : decode cX6_init 80 = .ok (.iastore, 1) := by decide +kernel
theorem dX6_init_81 : decode cX6_init 81 = .ok (.aload_n 0, 1) := by decide +kernel
theorem dX6_init_82 : decode cX6_init 82 = .ok (.getfield 7, 3) := by decide +kernel
theorem dX6_init_85 : decode cX6_init 85 = .ok (.iconst 3, 1) := by decide +kernel
theorem dX6_init_86 : decode cX6_init 86 = .ok (.iconst 3, 1) := by decide +kernel
theorem dX6_init_87 : decode cX6_init 87 = .ok (.iastore, 1) := by decide +kernel
theorem dX6_init_88 : decode cX6_init 88 = .ok (.aload_n 0, 1) := by decide +kernel
theorem dX6_init_89 : decode cX6_init 89 = .ok (.getfield 7, 3) := by decide +kernel
theorem dX6_init_92 : decode cX6_init 92 = .ok (.iconst 4, 1) := by decide +kernel
theorem dX6_init_93 : decode cX6_init 93 = .ok (.iconst 2, 1) := by decide +kernel
theorem dX6_init_94 : decode cX6_init 94 = .ok (.iastore, 1) := by decide +kernel
theorem dX6_init_95 : decode cX6_init 95 = .ok (.aload_n 0, 1) := by decide +kernel
theorem dX6_init_96 : decode cX6_init 96 = .ok (.getfield 7, 3) := by decide +kernel
theorem dX6_init_99 : decode cX6_init 99 = .ok (.iconst 5, 1) := by decide +kernel
theorem dX6_init_100 : decode cX6_init 100 = .ok (.iconst 1, 1) := by decide +kernel
theorem dX6_init_101 : decode cX6_init 101 = .ok (.iastore, 1) := by decide +kernel
theorem dX6_init_102 : decode cX6_init 102 = .ok (.iconst 0, 1) := by decide +kernel
theorem dX6_init_103 : decode cX6_init 103 = .ok (.istore_n 1, 1) := by decide +kernel
theorem dX6_init_104 : decode cX6_init 104 = .ok (.iload_n 1, 1) := by decide +kernel
theorem dX6_init_105 : decode cX6_init 105 = .ok (.bipush 8, 2) := by decide +kernel
theorem dX6_init_107 : decode cX6_init 107 = .ok (.if_icmp .ge 34, 3) := by decide +kernel
theorem dX6_init_110 : decode cX6_init 110 = .ok (.aload_n 0, 1) := by decide +kernel
theorem dX6_init_111 : decode cX6_init 111 = .ok (.getfield 7, 3) := by decide +kernel
theorem dX6_init_114 : decode cX6_init 114 = .ok (.bipush 6, 2) := by decide +kernel
theorem dX6_init_116 : decode cX6_init 116 = .ok (.iload_n 1, 1) := by decide +kernel
theorem dX6_init_117 : decode cX6_init 117 = .ok (.iadd, 1) := by decide +kernel
theorem dX6_init_118 : decode cX6_init 118 = .ok (.iload_n 1, 1) := by decide +kernel
theorem dX6_init_119 : decode cX6_init 119 = .ok (.iconst 3, 1) := by decide +kernel
theorem dX6_init_120 : decode cX6_init 120 = .ok (.iconst 5, 1) := by decide +kernel
theorem dX6_init_121 : decode cX6_init 121 = .ok (.invokestatic 28, 3) := by decide +kernel
theorem dX6_init_124 : decode cX6_init 124 = .ok (.ifCond .eq 8, 3) := by decide +kernel
theorem dX6_init_127 : decode cX6_init 127 = .ok (.bipush 100, 2) := by decide +kernel
theorem dX6_init_129 : decode cX6_init 129 = .ok (.goto 5, 3) := by decide +kernel
theorem dX6_init_132 : decode cX6_init 132 = .ok (.bipush 50, 2) := by decide +kernel
theorem dX6_init_134 : decode cX6_init 134 = .ok (.iastore, 1) := by decide +kernel
theorem dX6_init_135 : decode cX6_init 135 = .ok (.iinc 1 1, 3) := by decide +kernel
theorem dX6_init_138 : decode cX6_init 138 = .ok (.goto (-34), 3) := by decide +kernel
theorem dX6_init_141 : decode cX6_init 141 = .ok (.return_, 1) := by decide +kernel
theorem dX6_thrown_0 : decode cX6_thrown 0 = .ok (.aload_n 0, 1) := by decide +kernel
theorem dX6_thrown_1 : decode cX6_thrown 1 = .ok (.getfield 32, 3) := by decide +kernel
theorem dX6_thrown_4 : decode cX6_thrown 4 = .ok (.ireturn, 1) := by decide +kernel
theorem dX6_in_0 : decode cX6_in 0 = .ok (.iload_n 0, 1) := by decide +kernel
theorem dX6_in_1 : decode cX6_in 1 = .ok (.iload_n 1, 1) := by decide +kernel
theorem dX6_in_2 : decode cX6_in 2 = .ok (.if_icmp .lt 12, 3) := by decide +kernel
theorem dX6_in_5 : decode cX6_in 5 = .ok (.iload_n 0, 1) := by decide +kernel
theorem dX6_in_6 : decode cX6_in 6 = .ok (.iload_n 2, 1) := by decide +kernel
theorem dX6_in_7 : decode cX6_in 7 = .ok (.if_icmp .gt 7, 3) := by decide +kernel
theorem dX6_in_10 : decode cX6_in 10 = .ok (.iconst 1, 1) := by decide +kernel
theorem dX6_in_11 : decode cX6_in 11 = .ok (.goto 4, 3) := by decide +kernel
theorem dX6_in_14 : decode cX6_in 14 = .ok (.iconst 0, 1) := by decide +kernel
theorem dX6_in_15 : decode cX6_in 15 = .ok (.ireturn, 1) := by decide +kernel
theorem dX6_fails_0 : decode cX6_fails 0 = .ok (.aload_n 0, 1) := by decide +kernel
theorem dX6_fails_1 : decode cX6_fails 1 = .ok (.iload_n 1, 1) := by decide +kernel
theorem dX6_fails_2 : decode cX6_fails 2 = .ok (.putfield 32, 3) := by decide +kernel
theorem dX6_fails_5 : decode cX6_fails 5 = .ok (.iconst 0, 1) := by decide +kernel
theorem dX6_fails_6 : decode cX6_fails 6 = .ok (.ireturn, 1) := by decide +kernel
theorem dX6_tells_0 : decode cX6_tells 0 = .ok (.aload_n 0, 1) := by decide +kernel
theorem dX6_tells_1 : decode cX6_tells 1 = .ok (.iconst 0, 1) := by decide +kernel
theorem dX6_tells_2 : decode cX6_tells 2 = .ok (.putfield 32, 3) := by decide +kernel
theorem dX6_tells_5 : decode cX6_tells 5 = .ok (.iload_n 1, 1) := by decide +kernel
theorem dX6_tells_6 : decode cX6_tells 6 = .ok (.ireturn, 1) := by decide +kernel
theorem dX6_hold_0 : decode cX6_hold 0 = .ok (.iconst 0, 1) := by decide +kernel
theorem dX6_hold_1 : decode cX6_hold 1 = .ok (.istore_n 1, 1) := by decide +kernel
theorem dX6_hold_2 : decode cX6_hold 2 = .ok (.iload_n 1, 1) := by decide +kernel
theorem dX6_hold_3 : decode cX6_hold 3 = .ok (.sipush 975, 3) := by decide +kernel
theorem dX6_hold_6 : decode cX6_hold 6 = .ok (.if_icmp .ge 21, 3) := by decide +kernel
theorem dX6_hold_9 : decode cX6_hold 9 = .ok (.aload_n 0, 1) := by decide +kernel
theorem dX6_hold_10 : decode cX6_hold 10 = .ok (.getfield 16, 3) := by decide +kernel
theorem dX6_hold_13 : decode cX6_hold 13 = .ok (.iload_n 1, 1) := by decide +kernel
theorem dX6_hold_14 : decode cX6_hold 14 = .ok (.aload_n 0, 1) := by decide +kernel
theorem dX6_hold_15 : decode cX6_hold 15 = .ok (.getfield 7, 3) := by decide +kernel
theorem dX6_hold_18 : decode cX6_hold 18 = .ok (.iload_n 1, 1) := by decide +kernel
theorem dX6_hold_19 : decode cX6_hold 19 = .ok (.iaload, 1) := by decide +kernel
theorem dX6_hold_20 : decode cX6_hold 20 = .ok (.iastore, 1) := by decide +kernel
theorem dX6_hold_21 : decode cX6_hold 21 = .ok (.iinc 1 1, 3) := by decide +kernel
theorem dX6_hold_24 : decode cX6_hold 24 = .ok (.goto (-22), 3) := by decide +kernel
theorem dX6_hold_27 : decode cX6_hold 27 = .ok (.return_, 1) := by decide +kernel
set_option maxRecDepth 20000 in
theorem ggX6_ends_X6_tells : GoodIn wsX6_ends wsX6_tells := goodIn_r _ [8, 9, 10, 11, 12, 13, 14, 15, 16, 17, 18, 19, 20, 21, 22, 23, 24, 25] (by decide +kernel) (by decide +kernel)
set_option maxRecDepth 20000 in
theorem gX6_ends_X6_tells : GoodIn wsX6_ends (wsV RX6 39 RX6 yX6_tells wsX6_tells) := goodIn_app (goodIn_of _ (by decide +kernel)) ggX6_ends_X6_tells
theorem dX6_ends_0 : decode cX6_ends 0 = .ok (.aload_n 0, 1) := by decide +kernel
theorem dX6_ends_1 : decode cX6_ends 1 = .ok (.getfield 36, 3) := by decide +kernel
theorem dX6_ends_4 : decode cX6_ends 4 = .ok (.iconst 4, 1) := by decide +kernel
theorem dX6_ends_5 : decode cX6_ends 5 = .ok (.if_icmp .ne 44, 3) := by decide +kernel
theorem dX6_ends_8 : decode cX6_ends 8 = .ok (.iconst 0, 1) := by decide +kernel
theorem dX6_ends_9 : decode cX6_ends 9 = .ok (.istore_n 2, 1) := by decide +kernel
theorem dX6_ends_10 : decode cX6_ends 10 = .ok (.iload_n 2, 1) := by decide +kernel
theorem dX6_ends_11 : decode cX6_ends 11 = .ok (.sipush 2925, 3) := by decide +kernel
theorem dX6_ends_14 : decode cX6_ends 14 = .ok (.if_icmp .ge 25, 3) := by decide +kernel
theorem dX6_ends_17 : decode cX6_ends 17 = .ok (.aload_n 0, 1) := by decide +kernel
theorem dX6_ends_18 : decode cX6_ends 18 = .ok (.getfield 13, 3) := by decide +kernel
theorem dX6_ends_21 : decode cX6_ends 21 = .ok (.iload_n 2, 1) := by decide +kernel
theorem dX6_ends_22 : decode cX6_ends 22 = .ok (.aload_n 0, 1) := by decide +kernel
theorem dX6_ends_23 : decode cX6_ends 23 = .ok (.getfield 13, 3) := by decide +kernel
theorem dX6_ends_26 : decode cX6_ends 26 = .ok (.iload_n 2, 1) := by decide +kernel
theorem dX6_ends_27 : decode cX6_ends 27 = .ok (.sipush 975, 3) := by decide +kernel
theorem dX6_ends_30 : decode cX6_ends 30 = .ok (.iadd, 1) := by decide +kernel
theorem dX6_ends_31 : decode cX6_ends 31 = .ok (.iaload, 1) := by decide +kernel
theorem dX6_ends_32 : decode cX6_ends 32 = .ok (.iastore, 1) := by decide +kernel
theorem dX6_ends_33 : decode cX6_ends 33 = .ok (.iinc 2 1, 3) := by decide +kernel
theorem dX6_ends_36 : decode cX6_ends 36 = .ok (.goto (-26), 3) := by decide +kernel
theorem dX6_ends_39 : decode cX6_ends 39 = .ok (.aload_n 0, 1) := by decide +kernel
theorem dX6_ends_40 : decode cX6_ends 40 = .ok (.dup, 1) := by decide +kernel
theorem dX6_ends_41 : decode cX6_ends 41 = .ok (.getfield 36, 3) := by decide +kernel
theorem dX6_ends_44 : decode cX6_ends 44 = .ok (.iconst 1, 1) := by decide +kernel
theorem dX6_ends_45 : decode cX6_ends 45 = .ok (.isub, 1) := by decide +kernel
theorem dX6_ends_46 : decode cX6_ends 46 = .ok (.putfield 36, 3) := by decide +kernel
theorem dX6_ends_49 : decode cX6_ends 49 = .ok (.iconst 0, 1) := by decide +kernel
theorem dX6_ends_50 : decode cX6_ends 50 = .ok (.istore_n 2, 1) := by decide +kernel
theorem dX6_ends_51 : decode cX6_ends 51 = .ok (.iload_n 2, 1) := by decide +kernel
theorem dX6_ends_52 : decode cX6_ends 52 = .ok (.sipush 975, 3) := by decide +kernel
theorem dX6_ends_55 : decode cX6_ends 55 = .ok (.if_icmp .ge 30, 3) := by decide +kernel
theorem dX6_ends_58 : decode cX6_ends 58 = .ok (.aload_n 0, 1) := by decide +kernel
theorem dX6_ends_59 : decode cX6_ends 59 = .ok (.getfield 13, 3) := by decide +kernel
theorem dX6_ends_62 : decode cX6_ends 62 = .ok (.sipush 975, 3) := by decide +kernel
theorem dX6_ends_65 : decode cX6_ends 65 = .ok (.aload_n 0, 1) := by decide +kernel
theorem dX6_ends_66 : decode cX6_ends 66 = .ok (.getfield 36, 3) := by decide +kernel
theorem dX6_ends_69 : decode cX6_ends 69 = .ok (.imul, 1) := by decide +kernel
theorem dX6_ends_70 : decode cX6_ends 70 = .ok (.iload_n 2, 1) := by decide +kernel
theorem dX6_ends_71 : decode cX6_ends 71 = .ok (.iadd, 1) := by decide +kernel
theorem dX6_ends_72 : decode cX6_ends 72 = .ok (.aload_n 0, 1) := by decide +kernel
theorem dX6_ends_73 : decode cX6_ends 73 = .ok (.getfield 16, 3) := by decide +kernel
theorem dX6_ends_76 : decode cX6_ends 76 = .ok (.iload_n 2, 1) := by decide +kernel
theorem dX6_ends_77 : decode cX6_ends 77 = .ok (.iaload, 1) := by decide +kernel
theorem dX6_ends_78 : decode cX6_ends 78 = .ok (.iastore, 1) := by decide +kernel
theorem dX6_ends_79 : decode cX6_ends 79 = .ok (.iinc 2 1, 3) := by decide +kernel
theorem dX6_ends_82 : decode cX6_ends 82 = .ok (.goto (-31), 3) := by decide +kernel
theorem dX6_ends_85 : decode cX6_ends 85 = .ok (.aload_n 0, 1) := by decide +kernel
theorem dX6_ends_86 : decode cX6_ends 86 = .ok (.dup, 1) := by decide +kernel
theorem dX6_ends_87 : decode cX6_ends 87 = .ok (.getfield 36, 3) := by decide +kernel
theorem dX6_ends_90 : decode cX6_ends 90 = .ok (.iconst 1, 1) := by decide +kernel
theorem dX6_ends_91 : decode cX6_ends 91 = .ok (.iadd, 1) := by decide +kernel
theorem dX6_ends_92 : decode cX6_ends 92 = .ok (.putfield 36, 3) := by decide +kernel
theorem dX6_ends_95 : decode cX6_ends 95 = .ok (.aload_n 0, 1) := by decide +kernel
theorem dX6_ends_96 : decode cX6_ends 96 = .ok (.iload_n 1, 1) := by decide +kernel
theorem dX6_ends_97 : decode cX6_ends 97 = .ok (.invokevirtual 39, 3) := by decide +kernel
theorem dX6_ends_100 : decode cX6_ends 100 = .ok (.ireturn, 1) := by decide +kernel
theorem dX6_of_0 : decode cX6_of 0 = .ok (.aload_n 0, 1) := by decide +kernel
theorem dX6_of_1 : decode cX6_of 1 = .ok (.getfield 7, 3) := by decide +kernel
theorem dX6_of_4 : decode cX6_of 4 = .ok (.bipush 15, 2) := by decide +kernel
theorem dX6_of_6 : decode cX6_of 6 = .ok (.bipush 16, 2) := by decide +kernel
theorem dX6_of_8 : decode cX6_of 8 = .ok (.iload_n 1, 1) := by decide +kernel
theorem dX6_of_9 : decode cX6_of 9 = .ok (.imul, 1) := by decide +kernel
theorem dX6_of_10 : decode cX6_of 10 = .ok (.iadd, 1) := by decide +kernel
theorem dX6_of_11 : decode cX6_of 11 = .ok (.iload_n 2, 1) := by decide +kernel
theorem dX6_of_12 : decode cX6_of 12 = .ok (.iadd, 1) := by decide +kernel
theorem dX6_of_13 : decode cX6_of 13 = .ok (.iaload, 1) := by decide +kernel
theorem dX6_of_14 : decode cX6_of 14 = .ok (.ireturn, 1) := by decide +kernel
theorem dX6_puts_0 : decode cX6_puts 0 = .ok (.aload_n 0, 1) := by decide +kernel
theorem dX6_puts_1 : decode cX6_puts 1 = .ok (.getfield 7, 3) := by decide +kernel
theorem dX6_puts_4 : decode cX6_puts 4 = .ok (.bipush 15, 2) := by decide +kernel
theorem dX6_puts_6 : decode cX6_puts 6 = .ok (.bipush 16, 2) := by decide +kernel
theorem dX6_puts_8 : decode cX6_puts 8 = .ok (.iload_n 1, 1) := by decide +kernel
theorem dX6_puts_9 : decode cX6_puts 9 = .ok (.imul, 1) := by decide +kernel
theorem dX6_puts_10 : decode cX6_puts 10 = .ok (.iadd, 1) := by decide +kernel
theorem dX6_puts_11 : decode cX6_puts 11 = .ok (.iload_n 2, 1) := by decide +kernel
theorem dX6_puts_12 : decode cX6_puts 12 = .ok (.iadd, 1) := by decide +kernel
theorem dX6_puts_13 : decode cX6_puts 13 = .ok (.iload_n 3, 1) := by decide +kernel
theorem dX6_puts_14 : decode cX6_puts 14 = .ok (.iastore, 1) := by decide +kernel
theorem dX6_puts_15 : decode cX6_puts 15 = .ok (.return_, 1) := by decide +kernel
theorem dX6_isWord_0 : decode cX6_isWord 0 = .ok (.iload_n 1, 1) := by decide +kernel
theorem dX6_isWord_1 : decode cX6_isWord 1 = .ok (.ifCond .lt 18, 3) := by decide +kernel
theorem dX6_isWord_4 : decode cX6_isWord 4 = .ok (.iload_n 1, 1) := by decide +kernel
theorem dX6_isWord_5 : decode cX6_isWord 5 = .ok (.aload_n 0, 1) := by decide +kernel
theorem dX6_isWord_6 : decode cX6_isWord 6 = .ok (.getfield 7, 3) := by decide +kernel
theorem dX6_isWord_9 : decode cX6_isWord 9 = .ok (.bipush 14, 2) := by decide +kernel
theorem dX6_isWord_11 : decode cX6_isWord 11 = .ok (.iaload, 1) := by decide +kernel
theorem dX6_isWord_12 : decode cX6_isWord 12 = .ok (.if_icmp .ge 7, 3) := by decide +kernel
theorem dX6_isWord_15 : decode cX6_isWord 15 = .ok (.iconst 1, 1) := by decide +kernel
theorem dX6_isWord_16 : decode cX6_isWord 16 = .ok (.goto 4, 3) := by decide +kernel
theorem dX6_isWord_19 : decode cX6_isWord 19 = .ok (.iconst 0, 1) := by decide +kernel
theorem dX6_isWord_20 : decode cX6_isWord 20 = .ok (.ireturn, 1) := by decide +kernel
theorem dX6_widthOfSign_0 : decode cX6_widthOfSign 0 = .ok (.iload_n 0, 1) := by decide +kernel
theorem dX6_widthOfSign_1 : decode cX6_widthOfSign 1 = .ok (.iconst (-1), 1) := by decide +kernel
theorem dX6_widthOfSign_2 : decode cX6_widthOfSign 2 = .ok (.if_icmp .ne 7, 3) := by decide +kernel
theorem dX6_widthOfSign_5 : decode cX6_widthOfSign 5 = .ok (.iconst 0, 1) := by decide +kernel
theorem dX6_widthOfSign_6 : decode cX6_widthOfSign 6 = .ok (.goto 17, 3) := by decide +kernel
theorem dX6_widthOfSign_9 : decode cX6_widthOfSign 9 = .ok (.iload_n 0, 1) := by decide +kernel
theorem dX6_widthOfSign_10 : decode cX6_widthOfSign 10 = .ok (.ifCond .eq 8, 3) := by decide +kernel
theorem dX6_widthOfSign_13 : decode cX6_widthOfSign 13 = .ok (.iload_n 0, 1) := by decide +kernel
theorem dX6_widthOfSign_14 : decode cX6_widthOfSign 14 = .ok (.iconst 5, 1) := by decide +kernel
theorem dX6_widthOfSign_15 : decode cX6_widthOfSign 15 = .ok (.if_icmp .ne 7, 3) := by decide +kernel
theorem dX6_widthOfSign_18 : decode cX6_widthOfSign 18 = .ok (.iconst 3, 1) := by decide +kernel
theorem dX6_widthOfSign_19 : decode cX6_widthOfSign 19 = .ok (.goto 4, 3) := by decide +kernel
theorem dX6_widthOfSign_22 : decode cX6_widthOfSign 22 = .ok (.iconst 2, 1) := by decide +kernel
theorem dX6_widthOfSign_23 : decode cX6_widthOfSign 23 = .ok (.ireturn, 1) := by decide +kernel
theorem dX6_widthOfLetter_0 : decode cX6_widthOfLetter 0 = .ok (.iload_n 0, 1) := by decide +kernel
theorem dX6_widthOfLetter_1 : decode cX6_widthOfLetter 1 = .ok (.bipush 97, 2) := by decide +kernel
theorem dX6_widthOfLetter_3 : decode cX6_widthOfLetter 3 = .ok (.iadd, 1) := by decide +kernel
theorem dX6_widthOfLetter_4 : decode cX6_widthOfLetter 4 = .ok (.istore_n 1, 1) := by decide +kernel
theorem dX6_widthOfLetter_5 : decode cX6_widthOfLetter 5 = .ok (.iload_n 1, 1) := by decide +kernel
theorem dX6_widthOfLetter_6 : decode cX6_widthOfLetter 6 = .ok (.bipush 102, 2) := by decide +kernel
theorem dX6_widthOfLetter_8 : decode cX6_widthOfLetter 8 = .ok (.if_icmp .eq 27, 3) := by decide +kernel
theorem dX6_widthOfLetter_11 : decode cX6_widthOfLetter 11 = .ok (.iload_n 1, 1) := by decide +kernel
theorem dX6_widthOfLetter_12 : decode cX6_widthOfLetter 12 = .ok (.bipush 105, 2) := by decide +kernel
theorem dX6_widthOfLetter_14 : decode cX6_widthOfLetter 14 = .ok (.if_icmp .eq 21, 3) := by decide +kernel
theorem dX6_widthOfLetter_17 : decode cX6_widthOfLetter 17 = .ok (.iload_n 1, 1) := by decide +kernel
theorem dX6_widthOfLetter_18 : decode cX6_widthOfLetter 18 = .ok (.bipush 106, 2) := by decide +kernel
theorem dX6_widthOfLetter_20 : decode cX6_widthOfLetter 20 = .ok (.if_icmp .eq 15, 3) := by decide +kernel
theorem dX6_widthOfLetter_23 : decode cX6_widthOfLetter 23 = .ok (.iload_n 1, 1) := by decide +kernel
theorem dX6_widthOfLetter_24 : decode cX6_widthOfLetter 24 = .ok (.bipush 108, 2) := by decide +kernel
theorem dX6_widthOfLetter_26 : decode cX6_widthOfLetter 26 = .ok (.if_icmp .eq 9, 3) := by decide +kernel
theorem dX6_widthOfLetter_29 : decode cX6_widthOfLetter 29 = .ok (.iload_n 1, 1) := by decide +kernel
theorem dX6_widthOfLetter_30 : decode cX6_widthOfLetter 30 = .ok (.bipush 116, 2) := by decide +kernel
theorem dX6_widthOfLetter_32 : decode cX6_widthOfLetter 32 = .ok (.if_icmp .ne 7, 3) := by decide +kernel
theorem dX6_widthOfLetter_35 : decode cX6_widthOfLetter 35 = .ok (.iconst 1, 1) := by decide +kernel
theorem dX6_widthOfLetter_36 : decode cX6_widthOfLetter 36 = .ok (.goto 4, 3) := by decide +kernel
theorem dX6_widthOfLetter_39 : decode cX6_widthOfLetter 39 = .ok (.iconst 0, 1) := by decide +kernel
theorem dX6_widthOfLetter_40 : decode cX6_widthOfLetter 40 = .ok (.istore_n 2, 1) := by decide +kernel
theorem dX6_widthOfLetter_41 : decode cX6_widthOfLetter 41 = .ok (.iload_n 2, 1) := by decide +kernel
theorem dX6_widthOfLetter_42 : decode cX6_widthOfLetter 42 = .ok (.ifCond .eq 7, 3) := by decide +kernel
theorem dX6_widthOfLetter_45 : decode cX6_widthOfLetter 45 = .ok (.iconst 2, 1) := by decide +kernel
theorem dX6_widthOfLetter_46 : decode cX6_widthOfLetter 46 = .ok (.goto 21, 3) := by decide +kernel
theorem dX6_widthOfLetter_49 : decode cX6_widthOfLetter 49 = .ok (.iload_n 1, 1) := by decide +kernel
theorem dX6_widthOfLetter_50 : decode cX6_widthOfLetter 50 = .ok (.bipush 109, 2) := by decide +kernel
theorem dX6_widthOfLetter_52 : decode cX6_widthOfLetter 52 = .ok (.if_icmp .eq 9, 3) := by decide +kernel
theorem dX6_widthOfLetter_55 : decode cX6_widthOfLetter 55 = .ok (.iload_n 1, 1) := by decide +kernel
theorem dX6_widthOfLetter_56 : decode cX6_widthOfLetter 56 = .ok (.bipush 119, 2) := by decide +kernel
theorem dX6_widthOfLetter_58 : decode cX6_widthOfLetter 58 = .ok (.if_icmp .ne 8, 3) := by decide +kernel
theorem dX6_widthOfLetter_61 : decode cX6_widthOfLetter 61 = .ok (.bipush 6, 2) := by decide +kernel
theorem dX6_widthOfLetter_63 : decode cX6_widthOfLetter 63 = .ok (.goto 4, 3) := by decide +kernel
theorem dX6_widthOfLetter_66 : decode cX6_widthOfLetter 66 = .ok (.iconst 4, 1) := by decide +kernel
theorem dX6_widthOfLetter_67 : decode cX6_widthOfLetter 67 = .ok (.ireturn, 1) := by decide +kernel
set_option maxRecDepth 20000 in
theorem ggX6_widthOf_X6_of : GoodIn wsX6_widthOf wsX6_of := goodIn_r _ [5, 6, 13, 14, 15, 16, 17, 18, 19, 20, 21, 22, 23, 24, 25, 26, 27, 28] (by decide +kernel) (by decide +kernel)
set_option maxRecDepth 20000 in
theorem gX6_widthOf_X6_of : GoodIn wsX6_widthOf (wsV RX6 43 RX6 yX6_of wsX6_of) := goodIn_app (goodIn_of _ (by decide +kernel)) ggX6_widthOf_X6_of
set_option maxRecDepth 20000 in
theorem ggX6_widthOf_X6_widthOfSign : GoodIn wsX6_widthOf wsX6_widthOfSign := goodIn_r _ [9] (by decide +kernel) (by decide +kernel)
set_option maxRecDepth 20000 in
theorem gX6_widthOf_X6_widthOfSign : GoodIn wsX6_widthOf (va_wsS RX6 47 yX6_widthOfSign wsX6_widthOfSign) := goodIn_app (goodIn_of _ (by decide +kernel)) ggX6_widthOf_X6_widthOfSign
set_option maxRecDepth 20000 in
theorem ggX6_widthOf_X6_widthOfLetter : GoodIn wsX6_widthOf wsX6_widthOfLetter := goodIn_r _ [12] (by decide +kernel) (by decide +kernel)
set_option maxRecDepth 20000 in
theorem gX6_widthOf_X6_widthOfLetter : GoodIn wsX6_widthOf (va_wsS RX6 50 yX6_widthOfLetter wsX6_widthOfLetter) := goodIn_app (goodIn_of _ (by decide +kernel)) ggX6_widthOf_X6_widthOfLetter
theorem dX6_widthOf_0 : decode cX6_widthOf 0 = .ok (.aload_n 0, 1) := by decide +kernel
theorem dX6_widthOf_1 : decode cX6_widthOf 1 = .ok (.iload_n 1, 1) := by decide +kernel
theorem dX6_widthOf_2 : decode cX6_widthOf 2 = .ok (.bipush 13, 2) := by decide +kernel
theorem dX6_widthOf_4 : decode cX6_widthOf 4 = .ok (.invokevirtual 43, 3) := by decide +kernel
theorem dX6_widthOf_7 : decode cX6_widthOf 7 = .ok (.invokestatic 47, 3) := by decide +kernel
theorem dX6_widthOf_10 : decode cX6_widthOf 10 = .ok (.aload_n 0, 1) := by decide +kernel
theorem dX6_widthOf_11 : decode cX6_widthOf 11 = .ok (.iload_n 1, 1) := by decide +kernel
theorem dX6_widthOf_12 : decode cX6_widthOf 12 = .ok (.bipush 14, 2) := by decide +kernel
theorem dX6_widthOf_14 : decode cX6_widthOf 14 = .ok (.invokevirtual 43, 3) := by decide +kernel
theorem dX6_widthOf_17 : decode cX6_widthOf 17 = .ok (.invokestatic 47, 3) := by decide +kernel
theorem dX6_widthOf_20 : decode cX6_widthOf 20 = .ok (.iadd, 1) := by decide +kernel
theorem dX6_widthOf_21 : decode cX6_widthOf 21 = .ok (.istore_n 2, 1) := by decide +kernel
theorem dX6_widthOf_22 : decode cX6_widthOf 22 = .ok (.iconst 0, 1) := by decide +kernel
theorem dX6_widthOf_23 : decode cX6_widthOf 23 = .ok (.istore_n 3, 1) := by decide +kernel
theorem dX6_widthOf_24 : decode cX6_widthOf 24 = .ok (.iload_n 3, 1) := by decide +kernel
theorem dX6_widthOf_25 : decode cX6_widthOf 25 = .ok (.aload_n 0, 1) := by decide +kernel
theorem dX6_widthOf_26 : decode cX6_widthOf 26 = .ok (.iload_n 1, 1) := by decide +kernel
theorem dX6_widthOf_27 : decode cX6_widthOf 27 = .ok (.bipush 12, 2) := by decide +kernel
theorem dX6_widthOf_29 : decode cX6_widthOf 29 = .ok (.invokevirtual 43, 3) := by decide +kernel
theorem dX6_widthOf_32 : decode cX6_widthOf 32 = .ok (.if_icmp .ge 21, 3) := by decide +kernel
theorem dX6_widthOf_35 : decode cX6_widthOf 35 = .ok (.iload_n 2, 1) := by decide +kernel
theorem dX6_widthOf_36 : decode cX6_widthOf 36 = .ok (.aload_n 0, 1) := by decide +kernel
theorem dX6_widthOf_37 : decode cX6_widthOf 37 = .ok (.iload_n 1, 1) := by decide +kernel
theorem dX6_widthOf_38 : decode cX6_widthOf 38 = .ok (.iload_n 3, 1) := by decide +kernel
theorem dX6_widthOf_39 : decode cX6_widthOf 39 = .ok (.invokevirtual 43, 3) := by decide +kernel
theorem dX6_widthOf_42 : decode cX6_widthOf 42 = .ok (.invokestatic 50, 3) := by decide +kernel
theorem dX6_widthOf_45 : decode cX6_widthOf 45 = .ok (.iadd, 1) := by decide +kernel
theorem dX6_widthOf_46 : decode cX6_widthOf 46 = .ok (.istore_n 2, 1) := by decide +kernel
theorem dX6_widthOf_47 : decode cX6_widthOf 47 = .ok (.iinc 3 1, 3) := by decide +kernel
theorem dX6_widthOf_50 : decode cX6_widthOf 50 = .ok (.goto (-26), 3) := by decide +kernel
theorem dX6_widthOf_53 : decode cX6_widthOf 53 = .ok (.iload_n 2, 1) := by decide +kernel
theorem dX6_widthOf_54 : decode cX6_widthOf 54 = .ok (.ireturn, 1) := by decide +kernel
set_option maxRecDepth 20000 in
theorem ggX6_overhang_X6_widthOfSign : GoodIn wsX6_overhang wsX6_widthOfSign := goodIn_r _ [5] (by decide +kernel) (by decide +kernel)
set_option maxRecDepth 20000 in
theorem gX6_overhang_X6_widthOfSign : GoodIn wsX6_overhang (va_wsS RX6 47 yX6_widthOfSign wsX6_widthOfSign) := goodIn_app (goodIn_of _ (by decide +kernel)) ggX6_overhang_X6_widthOfSign
theorem dX6_overhang_0 : decode cX6_overhang 0 = .ok (.iload_n 1, 1) := by decide +kernel
theorem dX6_overhang_1 : decode cX6_overhang 1 = .ok (.iconst (-1), 1) := by decide +kernel
theorem dX6_overhang_2 : decode cX6_overhang 2 = .ok (.if_icmp .ne 7, 3) := by decide +kernel
theorem dX6_overhang_5 : decode cX6_overhang 5 = .ok (.iconst 0, 1) := by decide +kernel
theorem dX6_overhang_6 : decode cX6_overhang 6 = .ok (.goto 20, 3) := by decide +kernel
theorem dX6_overhang_9 : decode cX6_overhang 9 = .ok (.iload_n 1, 1) := by decide +kernel
theorem dX6_overhang_10 : decode cX6_overhang 10 = .ok (.invokestatic 47, 3) := by decide +kernel
theorem dX6_overhang_13 : decode cX6_overhang 13 = .ok (.aload_n 0, 1) := by decide +kernel
theorem dX6_overhang_14 : decode cX6_overhang 14 = .ok (.getfield 7, 3) := by decide +kernel
theorem dX6_overhang_17 : decode cX6_overhang 17 = .ok (.bipush 6, 2) := by decide +kernel
theorem dX6_overhang_19 : decode cX6_overhang 19 = .ok (.iload_n 1, 1) := by decide +kernel
theorem dX6_overhang_20 : decode cX6_overhang 20 = .ok (.iadd, 1) := by decide +kernel
theorem dX6_overhang_21 : decode cX6_overhang 21 = .ok (.iaload, 1) := by decide +kernel
theorem dX6_overhang_22 : decode cX6_overhang 22 = .ok (.imul, 1) := by decide +kernel
theorem dX6_overhang_23 : decode cX6_overhang 23 = .ok (.bipush 100, 2) := by decide +kernel
theorem dX6_overhang_25 : decode cX6_overhang 25 = .ok (.idiv, 1) := by decide +kernel
theorem dX6_overhang_26 : decode cX6_overhang 26 = .ok (.istore_n 3, 1) := by decide +kernel
theorem dX6_overhang_27 : decode cX6_overhang 27 = .ok (.iload_n 3, 1) := by decide +kernel
theorem dX6_overhang_28 : decode cX6_overhang 28 = .ok (.iload_n 2, 1) := by decide +kernel
theorem dX6_overhang_29 : decode cX6_overhang 29 = .ok (.if_icmp .ge 7, 3) := by decide +kernel
theorem dX6_overhang_32 : decode cX6_overhang 32 = .ok (.iload_n 3, 1) := by decide +kernel
theorem dX6_overhang_33 : decode cX6_overhang 33 = .ok (.goto 4, 3) := by decide +kernel
theorem dX6_overhang_36 : decode cX6_overhang 36 = .ok (.iload_n 2, 1) := by decide +kernel
theorem dX6_overhang_37 : decode cX6_overhang 37 = .ok (.ireturn, 1) := by decide +kernel
set_option maxRecDepth 20000 in
theorem ggX6_endsOne_X6_of : GoodIn wsX6_endsOne wsX6_of := goodIn_r _ [6, 1, 7, 8, 9, 10, 11, 12, 13, 14, 15, 16, 17, 18, 19, 20, 21, 22] (by decide +kernel) (by decide +kernel)
set_option maxRecDepth 20000 in
theorem gX6_endsOne_X6_of : GoodIn wsX6_endsOne (wsV RX6 43 RX6 yX6_of wsX6_of) := goodIn_app (goodIn_of _ (by decide +kernel)) ggX6_endsOne_X6_of
theorem dX6_endsOne_0 : decode cX6_endsOne 0 = .ok (.aload_n 0, 1) := by decide +kernel
theorem dX6_endsOne_1 : decode cX6_endsOne 1 = .ok (.iload_n 1, 1) := by decide +kernel
theorem dX6_endsOne_2 : decode cX6_endsOne 2 = .ok (.bipush 15, 2) := by decide +kernel
theorem dX6_endsOne_4 : decode cX6_endsOne 4 = .ok (.invokevirtual 43, 3) := by decide +kernel
theorem dX6_endsOne_7 : decode cX6_endsOne 7 = .ok (.iconst 1, 1) := by decide +kernel
theorem dX6_endsOne_8 : decode cX6_endsOne 8 = .ok (.if_icmp .eq 16, 3) := by decide +kernel
theorem dX6_endsOne_11 : decode cX6_endsOne 11 = .ok (.iload_n 1, 1) := by decide +kernel
theorem dX6_endsOne_12 : decode cX6_endsOne 12 = .ok (.aload_n 0, 1) := by decide +kernel
theorem dX6_endsOne_13 : decode cX6_endsOne 13 = .ok (.getfield 7, 3) := by decide +kernel
theorem dX6_endsOne_16 : decode cX6_endsOne 16 = .ok (.bipush 14, 2) := by decide +kernel
theorem dX6_endsOne_18 : decode cX6_endsOne 18 = .ok (.iaload, 1) := by decide +kernel
theorem dX6_endsOne_19 : decode cX6_endsOne 19 = .ok (.iconst 1, 1) := by decide +kernel
theorem dX6_endsOne_20 : decode cX6_endsOne 20 = .ok (.isub, 1) := by decide +kernel
theorem dX6_endsOne_21 : decode cX6_endsOne 21 = .ok (.if_icmp .ne 7, 3) := by decide +kernel
theorem dX6_endsOne_24 : decode cX6_endsOne 24 = .ok (.iconst 1, 1) := by decide +kernel
theorem dX6_endsOne_25 : decode cX6_endsOne 25 = .ok (.goto 4, 3) := by decide +kernel
theorem dX6_endsOne_28 : decode cX6_endsOne 28 = .ok (.iconst 0, 1) := by decide +kernel
theorem dX6_endsOne_29 : decode cX6_endsOne 29 = .ok (.ireturn, 1) := by decide +kernel
set_option maxRecDepth 20000 in
theorem ggX6_row_X6_of : GoodIn wsX6_row wsX6_of := goodIn_r _ [12, 2, 27, 28, 29, 30, 31, 32, 33, 34, 35, 36, 37, 38, 39, 40, 41, 42] (by decide +kernel) (by decide +kernel)
set_option maxRecDepth 20000 in
theorem gX6_row_X6_of : GoodIn wsX6_row (wsV RX6 43 RX6 yX6_of wsX6_of) := goodIn_app (goodIn_of _ (by decide +kernel)) ggX6_row_X6_of
set_option maxRecDepth 20000 in
theorem ggX6_row_X6_overhang : GoodIn wsX6_row wsX6_overhang := goodIn_r _ [16, 2, 17, 18, 11, 19, 27, 28, 29, 30, 31, 32, 33, 34, 35, 36, 37, 38, 39, 40, 41, 42] (by decide +kernel) (by decide +kernel)
set_option maxRecDepth 20000 in
theorem gX6_row_X6_overhang : GoodIn wsX6_row (wsV RX6 62 RX6 yX6_overhang wsX6_overhang) := goodIn_app (goodIn_of _ (by decide +kernel)) ggX6_row_X6_overhang
set_option maxRecDepth 20000 in
theorem ggX6_row_X6_widthOf : GoodIn wsX6_row wsX6_widthOf := goodIn_r _ [23, 8, 9, 10, 11, 12, 2, 17, 18, 19, 24, 25, 26, 27, 28, 29, 30, 31, 32, 33, 34, 35, 36, 37, 38, 39, 40, 41, 42] (by decide +kernel) (by decide +kernel)
set_option maxRecDepth 20000 in
theorem gX6_row_X6_widthOf : GoodIn wsX6_row (wsV RX6 65 RX6 yX6_widthOf wsX6_widthOf) := goodIn_app (goodIn_of _ (by decide +kernel)) ggX6_row_X6_widthOf
theorem dX6_row_0 : decode cX6_row 0 = .ok (.bipush 10, 2) := by decide +kernel
theorem dX6_row_2 : decode cX6_row 2 = .ok (.aload_n 0, 1) := by decide +kernel
theorem dX6_row_3 : decode cX6_row 3 = .ok (.getfield 53, 3) := by decide +kernel
theorem dX6_row_6 : decode cX6_row 6 = .ok (.imul, 1) := by decide +kernel
theorem dX6_row_7 : decode cX6_row 7 = .ok (.istore 4, 2) := by decide +kernel
theorem dX6_row_9 : decode cX6_row 9 = .ok (.iload_n 2, 1) := by decide +kernel
theorem dX6_row_10 : decode cX6_row 10 = .ok (.aload_n 0, 1) := by decide +kernel
theorem dX6_row_11 : decode cX6_row 11 = .ok (.getfield 7, 3) := by decide +kernel
theorem dX6_row_14 : decode cX6_row 14 = .ok (.iconst 4, 1) := by decide +kernel
theorem dX6_row_15 : decode cX6_row 15 = .ok (.iaload, 1) := by decide +kernel
theorem dX6_row_16 : decode cX6_row 16 = .ok (.if_icmp .ge 7, 3) := by decide +kernel
theorem dX6_row_19 : decode cX6_row 19 = .ok (.iload_n 2, 1) := by decide +kernel
theorem dX6_row_20 : decode cX6_row 20 = .ok (.goto 9, 3) := by decide +kernel
theorem dX6_row_23 : decode cX6_row 23 = .ok (.aload_n 0, 1) := by decide +kernel
theorem dX6_row_24 : decode cX6_row 24 = .ok (.getfield 7, 3) := by decide +kernel
theorem dX6_row_27 : decode cX6_row 27 = .ok (.iconst 4, 1) := by decide +kernel
theorem dX6_row_28 : decode cX6_row 28 = .ok (.iaload, 1) := by decide +kernel
theorem dX6_row_29 : decode cX6_row 29 = .ok (.istore 5, 2) := by decide +kernel
theorem dX6_row_31 : decode cX6_row 31 = .ok (.aload_n 0, 1) := by decide +kernel
theorem dX6_row_32 : decode cX6_row 32 = .ok (.getfield 56, 3) := by decide +kernel
theorem dX6_row_35 : decode cX6_row 35 = .ok (.iload 5, 2) := by decide +kernel
theorem dX6_row_37 : decode cX6_row 37 = .ok (.isub, 1) := by decide +kernel
theorem dX6_row_38 : decode cX6_row 38 = .ok (.istore 6, 2) := by decide +kernel
theorem dX6_row_40 : decode cX6_row 40 = .ok (.aload_n 0, 1) := by decide +kernel
theorem dX6_row_41 : decode cX6_row 41 = .ok (.aload_n 0, 1) := by decide +kernel
theorem dX6_row_42 : decode cX6_row 42 = .ok (.iload_n 1, 1) := by decide +kernel
theorem dX6_row_43 : decode cX6_row 43 = .ok (.bipush 13, 2) := by decide +kernel
theorem dX6_row_45 : decode cX6_row 45 = .ok (.invokevirtual 43, 3) := by decide +kernel
theorem dX6_row_48 : decode cX6_row 48 = .ok (.aload_n 0, 1) := by decide +kernel
theorem dX6_row_49 : decode cX6_row 49 = .ok (.getfield 59, 3) := by decide +kernel
theorem dX6_row_52 : decode cX6_row 52 = .ok (.invokevirtual 62, 3) := by decide +kernel
theorem dX6_row_55 : decode cX6_row 55 = .ok (.istore 7, 2) := by decide +kernel
theorem dX6_row_57 : decode cX6_row 57 = .ok (.iconst 0, 1) := by decide +kernel
theorem dX6_row_58 : decode cX6_row 58 = .ok (.istore 8, 2) := by decide +kernel
theorem dX6_row_60 : decode cX6_row 60 = .ok (.iconst 0, 1) := by decide +kernel
theorem dX6_row_61 : decode cX6_row 61 = .ok (.istore 9, 2) := by decide +kernel
theorem dX6_row_63 : decode cX6_row 63 = .ok (.iconst 1, 1) := by decide +kernel
theorem dX6_row_64 : decode cX6_row 64 = .ok (.istore 10, 2) := by decide +kernel
theorem dX6_row_66 : decode cX6_row 66 = .ok (.iload_n 1, 1) := by decide +kernel
theorem dX6_row_67 : decode cX6_row 67 = .ok (.istore 11, 2) := by decide +kernel
theorem dX6_row_69 : decode cX6_row 69 = .ok (.iload 10, 2) := by decide +kernel
theorem dX6_row_71 : decode cX6_row 71 = .ok (.ifCond .eq 252, 3) := by decide +kernel
theorem dX6_row_74 : decode cX6_row 74 = .ok (.iload 11, 2) := by decide +kernel
theorem dX6_row_76 : decode cX6_row 76 = .ok (.aload_n 0, 1) := by decide +kernel
theorem dX6_row_77 : decode cX6_row 77 = .ok (.getfield 7, 3) := by decide +kernel
theorem dX6_row_80 : decode cX6_row 80 = .ok (.bipush 14, 2) := by decide +kernel
theorem dX6_row_82 : decode cX6_row 82 = .ok (.iaload, 1) := by decide +kernel
theorem dX6_row_83 : decode cX6_row 83 = .ok (.if_icmp .ge 240, 3) := by decide +kernel
theorem dX6_row_86 : decode cX6_row 86 = .ok (.iload 8, 2) := by decide +kernel
theorem dX6_row_88 : decode cX6_row 88 = .ok (.aload_n 0, 1) := by decide +kernel
theorem dX6_row_89 : decode cX6_row 89 = .ok (.iload 11, 2) := by decide +kernel
theorem dX6_row_91 : decode cX6_row 91 = .ok (.invokevirtual 65, 3) := by decide +kernel
theorem dX6_row_94 : decode cX6_row 94 = .ok (.iload 11, 2) := by decide +kernel
theorem dX6_row_96 : decode cX6_row 96 = .ok (.iload_n 1, 1) := by decide +kernel
theorem dX6_row_97 : decode cX6_row 97 = .ok (.if_icmp .le 7, 3) := by decide +kernel
theorem dX6_row_100 : decode cX6_row 100 = .ok (.iconst 2, 1) := by decide +kernel
theorem dX6_row_101 : decode cX6_row 101 = .ok (.goto 4, 3) := by decide +kernel
theorem dX6_row_104 : decode cX6_row 104 = .ok (.iconst 0, 1) := by decide +kernel
theorem dX6_row_105 : decode cX6_row 105 = .ok (.iadd, 1) := by decide +kernel
theorem dX6_row_106 : decode cX6_row 106 = .ok (.iadd, 1) := by decide +kernel
theorem dX6_row_107 : decode cX6_row 107 = .ok (.istore 8, 2) := by decide +kernel
theorem dX6_row_109 : decode cX6_row 109 = .ok (.aload_n 0, 1) := by decide +kernel
theorem dX6_row_110 : decode cX6_row 110 = .ok (.aload_n 0, 1) := by decide +kernel
theorem dX6_row_111 : decode cX6_row 111 = .ok (.iload 11, 2) := by decide +kernel
theorem dX6_row_113 : decode cX6_row 113 = .ok (.bipush 14, 2) := by decide +kernel
theorem dX6_row_115 : decode cX6_row 115 = .ok (.invokevirtual 43, 3) := by decide +kernel
theorem dX6_row_118 : decode cX6_row 118 = .ok (.aload_n 0, 1) := by decide +kernel
theorem dX6_row_119 : decode cX6_row 119 = .ok (.getfield 68, 3) := by decide +kernel
theorem dX6_row_122 : decode cX6_row 122 = .ok (.invokevirtual 62, 3) := by decide +kernel
theorem dX6_row_125 : decode cX6_row 125 = .ok (.istore 12, 2) := by decide +kernel
theorem dX6_row_127 : decode cX6_row 127 = .ok (.iload 8, 2) := by decide +kernel
theorem dX6_row_129 : decode cX6_row 129 = .ok (.iload 6, 2) := by decide +kernel
theorem dX6_row_131 : decode cX6_row 131 = .ok (.if_icmp .le 11, 3) := by decide +kernel
theorem dX6_row_134 : decode cX6_row 134 = .ok (.iload 8, 2) := by decide +kernel
theorem dX6_row_136 : decode cX6_row 136 = .ok (.iload 6, 2) := by decide +kernel
theorem dX6_row_138 : decode cX6_row 138 = .ok (.isub, 1) := by decide +kernel
theorem dX6_row_139 : decode cX6_row 139 = .ok (.goto 4, 3) := by decide +kernel
theorem dX6_row_142 : decode cX6_row 142 = .ok (.iconst 0, 1) := by decide +kernel
theorem dX6_row_143 : decode cX6_row 143 = .ok (.istore 13, 2) := by decide +kernel
theorem dX6_row_145 : decode cX6_row 145 = .ok (.iload 13, 2) := by decide +kernel
theorem dX6_row_147 : decode cX6_row 147 = .ok (.ifCond .eq 31, 3) := by decide +kernel
theorem dX6_row_150 : decode cX6_row 150 = .ok (.iload 13, 2) := by decide +kernel
theorem dX6_row_152 : decode cX6_row 152 = .ok (.iload 7, 2) := by decide +kernel
theorem dX6_row_154 : decode cX6_row 154 = .ok (.iload 12, 2) := by decide +kernel
theorem dX6_row_156 : decode cX6_row 156 = .ok (.iadd, 1) := by decide +kernel
theorem dX6_row_157 : decode cX6_row 157 = .ok (.if_icmp .gt 25, 3) := by decide +kernel
theorem dX6_row_160 : decode cX6_row 160 = .ok (.iload_n 2, 1) := by decide +kernel
theorem dX6_row_161 : decode cX6_row 161 = .ok (.iload 5, 2) := by decide +kernel
theorem dX6_row_163 : decode cX6_row 163 = .ok (.isub, 1) := by decide +kernel
theorem dX6_row_164 : decode cX6_row 164 = .ok (.iload 13, 2) := by decide +kernel
theorem dX6_row_166 : decode cX6_row 166 = .ok (.iadd, 1) := by decide +kernel
theorem dX6_row_167 : decode cX6_row 167 = .ok (.aload_n 0, 1) := by decide +kernel
theorem dX6_row_168 : decode cX6_row 168 = .ok (.getfield 7, 3) := by decide +kernel
theorem dX6_row_171 : decode cX6_row 171 = .ok (.iconst 4, 1) := by decide +kernel
theorem dX6_row_172 : decode cX6_row 172 = .ok (.iaload, 1) := by decide +kernel
theorem dX6_row_173 : decode cX6_row 173 = .ok (.iload_n 3, 1) := by decide +kernel
theorem dX6_row_174 : decode cX6_row 174 = .ok (.imul, 1) := by decide +kernel
theorem dX6_row_175 : decode cX6_row 175 = .ok (.if_icmp .gt 7, 3) := by decide +kernel
theorem dX6_row_178 : decode cX6_row 178 = .ok (.iconst 1, 1) := by decide +kernel
theorem dX6_row_179 : decode cX6_row 179 = .ok (.goto 4, 3) := by decide +kernel
theorem dX6_row_182 : decode cX6_row 182 = .ok (.iconst 0, 1) := by decide +kernel
theorem dX6_row_183 : decode cX6_row 183 = .ok (.istore 14, 2) := by decide +kernel
theorem dX6_row_185 : decode cX6_row 185 = .ok (.iload 14, 2) := by decide +kernel
theorem dX6_row_187 : decode cX6_row 187 = .ok (.ifCond .ne 9, 3) := by decide +kernel
theorem dX6_row_190 : decode cX6_row 190 = .ok (.iload 11, 2) := by decide +kernel
theorem dX6_row_192 : decode cX6_row 192 = .ok (.iload_n 1, 1) := by decide +kernel
theorem dX6_row_193 : decode cX6_row 193 = .ok (.if_icmp .ne 106, 3) := by decide +kernel
theorem dX6_row_196 : decode cX6_row 196 = .ok (.iload 11, 2) := by decide +kernel
theorem dX6_row_198 : decode cX6_row 198 = .ok (.iload_n 1, 1) := by decide +kernel
theorem dX6_row_199 : decode cX6_row 199 = .ok (.isub, 1) := by decide +kernel
theorem dX6_row_200 : decode cX6_row 200 = .ok (.iconst 1, 1) := by decide +kernel
theorem dX6_row_201 : decode cX6_row 201 = .ok (.iadd, 1) := by decide +kernel
theorem dX6_row_202 : decode cX6_row 202 = .ok (.istore 9, 2) := by decide +kernel
theorem dX6_row_204 : decode cX6_row 204 = .ok (.aload_n 0, 1) := by decide +kernel
theorem dX6_row_205 : decode cX6_row 205 = .ok (.getfield 22, 3) := by decide +kernel
theorem dX6_row_208 : decode cX6_row 208 = .ok (.iload 4, 2) := by decide +kernel
theorem dX6_row_210 : decode cX6_row 210 = .ok (.iconst 3, 1) := by decide +kernel
theorem dX6_row_211 : decode cX6_row 211 = .ok (.iadd, 1) := by decide +kernel
theorem dX6_row_212 : decode cX6_row 212 = .ok (.iload 8, 2) := by decide +kernel
theorem dX6_row_214 : decode cX6_row 214 = .ok (.iastore, 1) := by decide +kernel
theorem dX6_row_215 : decode cX6_row 215 = .ok (.aload_n 0, 1) := by decide +kernel
theorem dX6_row_216 : decode cX6_row 216 = .ok (.getfield 22, 3) := by decide +kernel
theorem dX6_row_219 : decode cX6_row 219 = .ok (.iload 4, 2) := by decide +kernel
theorem dX6_row_221 : decode cX6_row 221 = .ok (.bipush 6, 2) := by decide +kernel
theorem dX6_row_223 : decode cX6_row 223 = .ok (.iadd, 1) := by decide +kernel
theorem dX6_row_224 : decode cX6_row 224 = .ok (.iload 14, 2) := by decide +kernel
theorem dX6_row_226 : decode cX6_row 226 = .ok (.ifCond .ne 7, 3) := by decide +kernel
theorem dX6_row_229 : decode cX6_row 229 = .ok (.iconst 0, 1) := by decide +kernel
theorem dX6_row_230 : decode cX6_row 230 = .ok (.goto 17, 3) := by decide +kernel
theorem dX6_row_233 : decode cX6_row 233 = .ok (.iload 13, 2) := by decide +kernel
theorem dX6_row_235 : decode cX6_row 235 = .ok (.iload 12, 2) := by decide +kernel
theorem dX6_row_237 : decode cX6_row 237 = .ok (.if_icmp .ge 8, 3) := by decide +kernel
theorem dX6_row_240 : decode cX6_row 240 = .ok (.iload 13, 2) := by decide +kernel
theorem dX6_row_242 : decode cX6_row 242 = .ok (.goto 5, 3) := by decide +kernel
theorem dX6_row_245 : decode cX6_row 245 = .ok (.iload 12, 2) := by decide +kernel
theorem dX6_row_247 : decode cX6_row 247 = .ok (.iastore, 1) := by decide +kernel
theorem dX6_row_248 : decode cX6_row 248 = .ok (.aload_n 0, 1) := by decide +kernel
theorem dX6_row_249 : decode cX6_row 249 = .ok (.getfield 22, 3) := by decide +kernel
theorem dX6_row_252 : decode cX6_row 252 = .ok (.iload 4, 2) := by decide +kernel
theorem dX6_row_254 : decode cX6_row 254 = .ok (.iconst 5, 1) := by decide +kernel
theorem dX6_row_255 : decode cX6_row 255 = .ok (.iadd, 1) := by decide +kernel
theorem dX6_row_256 : decode cX6_row 256 = .ok (.iload 14, 2) := by decide +kernel
theorem dX6_row_258 : decode cX6_row 258 = .ok (.ifCond .eq 19, 3) := by decide +kernel
theorem dX6_row_261 : decode cX6_row 261 = .ok (.iload 13, 2) := by decide +kernel
theorem dX6_row_263 : decode cX6_row 263 = .ok (.aload_n 0, 1) := by decide +kernel
theorem dX6_row_264 : decode cX6_row 264 = .ok (.getfield 22, 3) := by decide +kernel
theorem dX6_row_267 : decode cX6_row 267 = .ok (.iload 4, 2) := by decide +kernel
theorem dX6_row_269 : decode cX6_row 269 = .ok (.bipush 6, 2) := by decide +kernel
theorem dX6_row_271 : decode cX6_row 271 = .ok (.iadd, 1) := by decide +kernel
theorem dX6_row_272 : decode cX6_row 272 = .ok (.iaload, 1) := by decide +kernel
theorem dX6_row_273 : decode cX6_row 273 = .ok (.isub, 1) := by decide +kernel
theorem dX6_row_274 : decode cX6_row 274 = .ok (.goto 4, 3) := by decide +kernel
theorem dX6_row_277 : decode cX6_row 277 = .ok (.iconst 0, 1) := by decide +kernel
theorem dX6_row_278 : decode cX6_row 278 = .ok (.iastore, 1) := by decide +kernel
theorem dX6_row_279 : decode cX6_row 279 = .ok (.aload_n 0, 1) := by decide +kernel
theorem dX6_row_280 : decode cX6_row 280 = .ok (.getfield 22, 3) := by decide +kernel
theorem dX6_row_283 : decode cX6_row 283 = .ok (.iload 4, 2) := by decide +kernel
theorem dX6_row_285 : decode cX6_row 285 = .ok (.bipush 9, 2) := by decide +kernel
theorem dX6_row_287 : decode cX6_row 287 = .ok (.iadd, 1) := by decide +kernel
theorem dX6_row_288 : decode cX6_row 288 = .ok (.iload 14, 2) := by decide +kernel
theorem dX6_row_290 : decode cX6_row 290 = .ok (.ifCond .eq 7, 3) := by decide +kernel
theorem dX6_row_293 : decode cX6_row 293 = .ok (.iconst 0, 1) := by decide +kernel
theorem dX6_row_294 : decode cX6_row 294 = .ok (.goto 4, 3) := by decide +kernel
theorem dX6_row_297 : decode cX6_row 297 = .ok (.iconst 1, 1) := by decide +kernel
theorem dX6_row_298 : decode cX6_row 298 = .ok (.iastore, 1) := by decide +kernel
theorem dX6_row_299 : decode cX6_row 299 = .ok (.aload_n 0, 1) := by decide +kernel
theorem dX6_row_300 : decode cX6_row 300 = .ok (.iload 11, 2) := by decide +kernel
theorem dX6_row_302 : decode cX6_row 302 = .ok (.bipush 15, 2) := by decide +kernel
theorem dX6_row_304 : decode cX6_row 304 = .ok (.invokevirtual 43, 3) := by decide +kernel
theorem dX6_row_307 : decode cX6_row 307 = .ok (.ifCond .ne 7, 3) := by decide +kernel
theorem dX6_row_310 : decode cX6_row 310 = .ok (.iconst 1, 1) := by decide +kernel
theorem dX6_row_311 : decode cX6_row 311 = .ok (.goto 4, 3) := by decide +kernel
theorem dX6_row_314 : decode cX6_row 314 = .ok (.iconst 0, 1) := by decide +kernel
theorem dX6_row_315 : decode cX6_row 315 = .ok (.istore 10, 2) := by decide +kernel
theorem dX6_row_317 : decode cX6_row 317 = .ok (.iinc 11 1, 3) := by decide +kernel
theorem dX6_row_320 : decode cX6_row 320 = .ok (.goto (-251), 3) := by decide +kernel
theorem dX6_row_323 : decode cX6_row 323 = .ok (.aload_n 0, 1) := by decide +kernel
theorem dX6_row_324 : decode cX6_row 324 = .ok (.getfield 22, 3) := by decide +kernel
theorem dX6_row_327 : decode cX6_row 327 = .ok (.iload 4, 2) := by decide +kernel
theorem dX6_row_329 : decode cX6_row 329 = .ok (.aload_n 0, 1) := by decide +kernel
theorem dX6_row_330 : decode cX6_row 330 = .ok (.getfield 71, 3) := by decide +kernel
theorem dX6_row_333 : decode cX6_row 333 = .ok (.iastore, 1) := by decide +kernel
theorem dX6_row_334 : decode cX6_row 334 = .ok (.aload_n 0, 1) := by decide +kernel
theorem dX6_row_335 : decode cX6_row 335 = .ok (.getfield 22, 3) := by decide +kernel
theorem dX6_row_338 : decode cX6_row 338 = .ok (.iload 4, 2) := by decide +kernel
theorem dX6_row_340 : decode cX6_row 340 = .ok (.iconst 1, 1) := by decide +kernel
theorem dX6_row_341 : decode cX6_row 341 = .ok (.iadd, 1) := by decide +kernel
theorem dX6_row_342 : decode cX6_row 342 = .ok (.iload_n 1, 1) := by decide +kernel
theorem dX6_row_343 : decode cX6_row 343 = .ok (.iastore, 1) := by decide +kernel
theorem dX6_row_344 : decode cX6_row 344 = .ok (.aload_n 0, 1) := by decide +kernel
theorem dX6_row_345 : decode cX6_row 345 = .ok (.getfield 22, 3) := by decide +kernel
theorem dX6_row_348 : decode cX6_row 348 = .ok (.iload 4, 2) := by decide +kernel
theorem dX6_row_350 : decode cX6_row 350 = .ok (.iconst 2, 1) := by decide +kernel
theorem dX6_row_351 : decode cX6_row 351 = .ok (.iadd, 1) := by decide +kernel
theorem dX6_row_352 : decode cX6_row 352 = .ok (.iload 9, 2) := by decide +kernel
theorem dX6_row_354 : decode cX6_row 354 = .ok (.iastore, 1) := by decide +kernel
theorem dX6_row_355 : decode cX6_row 355 = .ok (.aload_n 0, 1) := by decide +kernel
theorem dX6_row_356 : decode cX6_row 356 = .ok (.getfield 22, 3) := by decide +kernel
theorem dX6_row_359 : decode cX6_row 359 = .ok (.iload 4, 2) := by decide +kernel
theorem dX6_row_361 : decode cX6_row 361 = .ok (.iconst 4, 1) := by decide +kernel
theorem dX6_row_362 : decode cX6_row 362 = .ok (.iadd, 1) := by decide +kernel
theorem dX6_row_363 : decode cX6_row 363 = .ok (.iload 6, 2) := by decide +kernel
theorem dX6_row_365 : decode cX6_row 365 = .ok (.iastore, 1) := by decide +kernel
theorem dX6_row_366 : decode cX6_row 366 = .ok (.aload_n 0, 1) := by decide +kernel
theorem dX6_row_367 : decode cX6_row 367 = .ok (.getfield 22, 3) := by decide +kernel
theorem dX6_row_370 : decode cX6_row 370 = .ok (.iload 4, 2) := by decide +kernel
theorem dX6_row_372 : decode cX6_row 372 = .ok (.bipush 7, 2) := by decide +kernel
theorem dX6_row_374 : decode cX6_row 374 = .ok (.iadd, 1) := by decide +kernel
theorem dX6_row_375 : decode cX6_row 375 = .ok (.iload 5, 2) := by decide +kernel
theorem dX6_row_377 : decode cX6_row 377 = .ok (.iastore, 1) := by decide +kernel
theorem dX6_row_378 : decode cX6_row 378 = .ok (.aload_n 0, 1) := by decide +kernel
theorem dX6_row_379 : decode cX6_row 379 = .ok (.getfield 22, 3) := by decide +kernel
theorem dX6_row_382 : decode cX6_row 382 = .ok (.iload 4, 2) := by decide +kernel
theorem dX6_row_384 : decode cX6_row 384 = .ok (.bipush 8, 2) := by decide +kernel
theorem dX6_row_386 : decode cX6_row 386 = .ok (.iadd, 1) := by decide +kernel
theorem dX6_row_387 : decode cX6_row 387 = .ok (.iload_n 2, 1) := by decide +kernel
theorem dX6_row_388 : decode cX6_row 388 = .ok (.iload 5, 2) := by decide +kernel
theorem dX6_row_390 : decode cX6_row 390 = .ok (.isub, 1) := by decide +kernel
theorem dX6_row_391 : decode cX6_row 391 = .ok (.aload_n 0, 1) := by decide +kernel
theorem dX6_row_392 : decode cX6_row 392 = .ok (.getfield 22, 3) := by decide +kernel
theorem dX6_row_395 : decode cX6_row 395 = .ok (.iload 4, 2) := by decide +kernel
theorem dX6_row_397 : decode cX6_row 397 = .ok (.iconst 5, 1) := by decide +kernel
theorem dX6_row_398 : decode cX6_row 398 = .ok (.iadd, 1) := by decide +kernel
theorem dX6_row_399 : decode cX6_row 399 = .ok (.iaload, 1) := by decide +kernel
theorem dX6_row_400 : decode cX6_row 400 = .ok (.iadd, 1) := by decide +kernel
theorem dX6_row_401 : decode cX6_row 401 = .ok (.aload_n 0, 1) := by decide +kernel
theorem dX6_row_402 : decode cX6_row 402 = .ok (.getfield 22, 3) := by decide +kernel
theorem dX6_row_405 : decode cX6_row 405 = .ok (.iload 4, 2) := by decide +kernel
theorem dX6_row_407 : decode cX6_row 407 = .ok (.bipush 6, 2) := by decide +kernel
theorem dX6_row_409 : decode cX6_row 409 = .ok (.iadd, 1) := by decide +kernel
theorem dX6_row_410 : decode cX6_row 410 = .ok (.iaload, 1) := by decide +kernel
theorem dX6_row_411 : decode cX6_row 411 = .ok (.iadd, 1) := by decide +kernel
theorem dX6_row_412 : decode cX6_row 412 = .ok (.iastore, 1) := by decide +kernel
theorem dX6_row_413 : decode cX6_row 413 = .ok (.iload 9, 2) := by decide +kernel
theorem dX6_row_415 : decode cX6_row 415 = .ok (.ireturn, 1) := by decide +kernel
set_option maxRecDepth 20000 in
theorem ggX6_setPage_X6_row : GoodIn wsX6_setPage wsX6_row := goodIn_r _ [10, 1, 2, 11, 12, 13, 3, 5, 14, 15, 16, 9, 17, 18, 19, 20, 21, 22, 23, 24, 25, 26, 27, 28, 29, 30, 31, 36, 37, 38, 39, 40, 41, 42, 43, 44, 45, 46, 47, 48, 49, 50, 51] (by decide +kernel) (by decide +kernel)
set_option maxRecDepth 20000 in
theorem gX6_setPage_X6_row : GoodIn wsX6_setPage (wsV RX6 74 RX6 yX6_row wsX6_row) := goodIn_app (goodIn_of _ (by decide +kernel)) ggX6_setPage_X6_row
set_option maxRecDepth 20000 in
theorem ggX6_setPage_X6_endsOne : GoodIn wsX6_setPage wsX6_endsOne := goodIn_r _ [35, 2, 14, 15, 16, 9, 17, 36, 37, 38, 39, 40, 41, 42, 43, 44, 45, 46, 47, 48, 49, 50, 51] (by decide +kernel) (by decide +kernel)
set_option maxRecDepth 20000 in
theorem gX6_setPage_X6_endsOne : GoodIn wsX6_setPage (wsV RX6 78 RX6 yX6_endsOne wsX6_endsOne) := goodIn_app (goodIn_of _ (by decide +kernel)) ggX6_setPage_X6_endsOne
theorem dX6_setPage_0 : decode cX6_setPage 0 = .ok (.iload_n 1, 1) := by decide +kernel
theorem dX6_setPage_1 : decode cX6_setPage 1 = .ok (.istore_n 2, 1) := by decide +kernel
theorem dX6_setPage_2 : decode cX6_setPage 2 = .ok (.iconst 0, 1) := by decide +kernel
theorem dX6_setPage_3 : decode cX6_setPage 3 = .ok (.istore_n 3, 1) := by decide +kernel
theorem dX6_setPage_4 : decode cX6_setPage 4 = .ok (.iconst 0, 1) := by decide +kernel
theorem dX6_setPage_5 : decode cX6_setPage 5 = .ok (.istore 4, 2) := by decide +kernel
theorem dX6_setPage_7 : decode cX6_setPage 7 = .ok (.aload_n 0, 1) := by decide +kernel
theorem dX6_setPage_8 : decode cX6_setPage 8 = .ok (.getfield 53, 3) := by decide +kernel
theorem dX6_setPage_11 : decode cX6_setPage 11 = .ok (.istore 5, 2) := by decide +kernel
theorem dX6_setPage_13 : decode cX6_setPage 13 = .ok (.iload_n 2, 1) := by decide +kernel
theorem dX6_setPage_14 : decode cX6_setPage 14 = .ok (.aload_n 0, 1) := by decide +kernel
theorem dX6_setPage_15 : decode cX6_setPage 15 = .ok (.getfield 7, 3) := by decide +kernel
theorem dX6_setPage_18 : decode cX6_setPage 18 = .ok (.bipush 14, 2) := by decide +kernel
theorem dX6_setPage_20 : decode cX6_setPage 20 = .ok (.iaload, 1) := by decide +kernel
theorem dX6_setPage_21 : decode cX6_setPage 21 = .ok (.if_icmp .ge 66, 3) := by decide +kernel
theorem dX6_setPage_24 : decode cX6_setPage 24 = .ok (.iload 4, 2) := by decide +kernel
theorem dX6_setPage_26 : decode cX6_setPage 26 = .ok (.aload_n 0, 1) := by decide +kernel
theorem dX6_setPage_27 : decode cX6_setPage 27 = .ok (.getfield 7, 3) := by decide +kernel
theorem dX6_setPage_30 : decode cX6_setPage 30 = .ok (.iconst 1, 1) := by decide +kernel
theorem dX6_setPage_31 : decode cX6_setPage 31 = .ok (.iaload, 1) := by decide +kernel
theorem dX6_setPage_32 : decode cX6_setPage 32 = .ok (.if_icmp .ge 55, 3) := by decide +kernel
theorem dX6_setPage_35 : decode cX6_setPage 35 = .ok (.iload_n 2, 1) := by decide +kernel
theorem dX6_setPage_36 : decode cX6_setPage 36 = .ok (.aload_n 0, 1) := by decide +kernel
theorem dX6_setPage_37 : decode cX6_setPage 37 = .ok (.iload_n 2, 1) := by decide +kernel
theorem dX6_setPage_38 : decode cX6_setPage 38 = .ok (.iload_n 3, 1) := by decide +kernel
theorem dX6_setPage_39 : decode cX6_setPage 39 = .ok (.aload_n 0, 1) := by decide +kernel
theorem dX6_setPage_40 : decode cX6_setPage 40 = .ok (.getfield 7, 3) := by decide +kernel
theorem dX6_setPage_43 : decode cX6_setPage 43 = .ok (.iconst 1, 1) := by decide +kernel
theorem dX6_setPage_44 : decode cX6_setPage 44 = .ok (.iaload, 1) := by decide +kernel
theorem dX6_setPage_45 : decode cX6_setPage 45 = .ok (.iconst 1, 1) := by decide +kernel
theorem dX6_setPage_46 : decode cX6_setPage 46 = .ok (.isub, 1) := by decide +kernel
theorem dX6_setPage_47 : decode cX6_setPage 47 = .ok (.iload 4, 2) := by decide +kernel
theorem dX6_setPage_49 : decode cX6_setPage 49 = .ok (.isub, 1) := by decide +kernel
theorem dX6_setPage_50 : decode cX6_setPage 50 = .ok (.invokevirtual 74, 3) := by decide +kernel
theorem dX6_setPage_53 : decode cX6_setPage 53 = .ok (.iadd, 1) := by decide +kernel
theorem dX6_setPage_54 : decode cX6_setPage 54 = .ok (.istore_n 2, 1) := by decide +kernel
theorem dX6_setPage_55 : decode cX6_setPage 55 = .ok (.aload_n 0, 1) := by decide +kernel
theorem dX6_setPage_56 : decode cX6_setPage 56 = .ok (.getfield 22, 3) := by decide +kernel
theorem dX6_setPage_59 : decode cX6_setPage 59 = .ok (.bipush 10, 2) := by decide +kernel
theorem dX6_setPage_61 : decode cX6_setPage 61 = .ok (.aload_n 0, 1) := by decide +kernel
theorem dX6_setPage_62 : decode cX6_setPage 62 = .ok (.getfield 53, 3) := by decide +kernel
theorem dX6_setPage_65 : decode cX6_setPage 65 = .ok (.imul, 1) := by decide +kernel
theorem dX6_setPage_66 : decode cX6_setPage 66 = .ok (.bipush 8, 2) := by decide +kernel
theorem dX6_setPage_68 : decode cX6_setPage 68 = .ok (.iadd, 1) := by decide +kernel
theorem dX6_setPage_69 : decode cX6_setPage 69 = .ok (.iaload, 1) := by decide +kernel
theorem dX6_setPage_70 : decode cX6_setPage 70 = .ok (.istore_n 3, 1) := by decide +kernel
theorem dX6_setPage_71 : decode cX6_setPage 71 = .ok (.aload_n 0, 1) := by decide +kernel
theorem dX6_setPage_72 : decode cX6_setPage 72 = .ok (.dup, 1) := by decide +kernel
theorem dX6_setPage_73 : decode cX6_setPage 73 = .ok (.getfield 53, 3) := by decide +kernel
theorem dX6_setPage_76 : decode cX6_setPage 76 = .ok (.iconst 1, 1) := by decide +kernel
theorem dX6_setPage_77 : decode cX6_setPage 77 = .ok (.iadd, 1) := by decide +kernel
theorem dX6_setPage_78 : decode cX6_setPage 78 = .ok (.putfield 53, 3) := by decide +kernel
theorem dX6_setPage_81 : decode cX6_setPage 81 = .ok (.iinc 4 1, 3) := by decide +kernel
theorem dX6_setPage_84 : decode cX6_setPage 84 = .ok (.goto (-71), 3) := by decide +kernel
theorem dX6_setPage_87 : decode cX6_setPage 87 = .ok (.iconst 0, 1) := by decide +kernel
theorem dX6_setPage_88 : decode cX6_setPage 88 = .ok (.istore 6, 2) := by decide +kernel
theorem dX6_setPage_90 : decode cX6_setPage 90 = .ok (.aload_n 0, 1) := by decide +kernel
theorem dX6_setPage_91 : decode cX6_setPage 91 = .ok (.getfield 7, 3) := by decide +kernel
theorem dX6_setPage_94 : decode cX6_setPage 94 = .ok (.iconst 5, 1) := by decide +kernel
theorem dX6_setPage_95 : decode cX6_setPage 95 = .ok (.iaload, 1) := by decide +kernel
theorem dX6_setPage_96 : decode cX6_setPage 96 = .ok (.iconst 1, 1) := by decide +kernel
theorem dX6_setPage_97 : decode cX6_setPage 97 = .ok (.if_icmp .ne 63, 3) := by decide +kernel
theorem dX6_setPage_100 : decode cX6_setPage 100 = .ok (.iload 4, 2) := by decide +kernel
theorem dX6_setPage_102 : decode cX6_setPage 102 = .ok (.aload_n 0, 1) := by decide +kernel
theorem dX6_setPage_103 : decode cX6_setPage 103 = .ok (.getfield 7, 3) := by decide +kernel
theorem dX6_setPage_106 : decode cX6_setPage 106 = .ok (.iconst 1, 1) := by decide +kernel
theorem dX6_setPage_107 : decode cX6_setPage 107 = .ok (.iaload, 1) := by decide +kernel
theorem dX6_setPage_108 : decode cX6_setPage 108 = .ok (.if_icmp .ne 52, 3) := by decide +kernel
theorem dX6_setPage_111 : decode cX6_setPage 111 = .ok (.iload_n 2, 1) := by decide +kernel
theorem dX6_setPage_112 : decode cX6_setPage 112 = .ok (.aload_n 0, 1) := by decide +kernel
theorem dX6_setPage_113 : decode cX6_setPage 113 = .ok (.getfield 7, 3) := by decide +kernel
theorem dX6_setPage_116 : decode cX6_setPage 116 = .ok (.bipush 14, 2) := by decide +kernel
theorem dX6_setPage_118 : decode cX6_setPage 118 = .ok (.iaload, 1) := by decide +kernel
theorem dX6_setPage_119 : decode cX6_setPage 119 = .ok (.if_icmp .ge 41, 3) := by decide +kernel
theorem dX6_setPage_122 : decode cX6_setPage 122 = .ok (.aload_n 0, 1) := by decide +kernel
theorem dX6_setPage_123 : decode cX6_setPage 123 = .ok (.iload_n 2, 1) := by decide +kernel
theorem dX6_setPage_124 : decode cX6_setPage 124 = .ok (.iconst 1, 1) := by decide +kernel
theorem dX6_setPage_125 : decode cX6_setPage 125 = .ok (.isub, 1) := by decide +kernel
theorem dX6_setPage_126 : decode cX6_setPage 126 = .ok (.invokevirtual 78, 3) := by decide +kernel
theorem dX6_setPage_129 : decode cX6_setPage 129 = .ok (.ifCond .ne 31, 3) := by decide +kernel
theorem dX6_setPage_132 : decode cX6_setPage 132 = .ok (.aload_n 0, 1) := by decide +kernel
theorem dX6_setPage_133 : decode cX6_setPage 133 = .ok (.iload_n 2, 1) := by decide +kernel
theorem dX6_setPage_134 : decode cX6_setPage 134 = .ok (.iconst 0, 1) := by decide +kernel
theorem dX6_setPage_135 : decode cX6_setPage 135 = .ok (.aload_n 0, 1) := by decide +kernel
theorem dX6_setPage_136 : decode cX6_setPage 136 = .ok (.getfield 7, 3) := by decide +kernel
theorem dX6_setPage_139 : decode cX6_setPage 139 = .ok (.iconst 1, 1) := by decide +kernel
theorem dX6_setPage_140 : decode cX6_setPage 140 = .ok (.iaload, 1) := by decide +kernel
theorem dX6_setPage_141 : decode cX6_setPage 141 = .ok (.iconst 1, 1) := by decide +kernel
theorem dX6_setPage_142 : decode cX6_setPage 142 = .ok (.isub, 1) := by decide +kernel
theorem dX6_setPage_143 : decode cX6_setPage 143 = .ok (.invokevirtual 74, 3) := by decide +kernel
theorem dX6_setPage_146 : decode cX6_setPage 146 = .ok (.istore 7, 2) := by decide +kernel
theorem dX6_setPage_148 : decode cX6_setPage 148 = .ok (.aload_n 0, 1) := by decide +kernel
theorem dX6_setPage_149 : decode cX6_setPage 149 = .ok (.iload_n 2, 1) := by decide +kernel
theorem dX6_setPage_150 : decode cX6_setPage 150 = .ok (.iload 7, 2) := by decide +kernel
theorem dX6_setPage_152 : decode cX6_setPage 152 = .ok (.iadd, 1) := by decide +kernel
theorem dX6_setPage_153 : decode cX6_setPage 153 = .ok (.iconst 1, 1) := by decide +kernel
theorem dX6_setPage_154 : decode cX6_setPage 154 = .ok (.isub, 1) := by decide +kernel
theorem dX6_setPage_155 : decode cX6_setPage 155 = .ok (.invokevirtual 78, 3) := by decide +kernel
theorem dX6_setPage_158 : decode cX6_setPage 158 = .ok (.istore 6, 2) := by decide +kernel
theorem dX6_setPage_160 : decode cX6_setPage 160 = .ok (.aload_n 0, 1) := by decide +kernel
theorem dX6_setPage_161 : decode cX6_setPage 161 = .ok (.dup, 1) := by decide +kernel
theorem dX6_setPage_162 : decode cX6_setPage 162 = .ok (.getfield 53, 3) := by decide +kernel
theorem dX6_setPage_165 : decode cX6_setPage 165 = .ok (.iload 6, 2) := by decide +kernel
theorem dX6_setPage_167 : decode cX6_setPage 167 = .ok (.ifCond .eq 7, 3) := by decide +kernel
theorem dX6_setPage_170 : decode cX6_setPage 170 = .ok (.iconst 1, 1) := by decide +kernel
theorem dX6_setPage_171 : decode cX6_setPage 171 = .ok (.goto 4, 3) := by decide +kernel
theorem dX6_setPage_174 : decode cX6_setPage 174 = .ok (.iconst 0, 1) := by decide +kernel
theorem dX6_setPage_175 : decode cX6_setPage 175 = .ok (.isub, 1) := by decide +kernel
theorem dX6_setPage_176 : decode cX6_setPage 176 = .ok (.putfield 53, 3) := by decide +kernel
theorem dX6_setPage_179 : decode cX6_setPage 179 = .ok (.aload_n 0, 1) := by decide +kernel
theorem dX6_setPage_180 : decode cX6_setPage 180 = .ok (.getfield 25, 3) := by decide +kernel
theorem dX6_setPage_183 : decode cX6_setPage 183 = .ok (.iconst 3, 1) := by decide +kernel
theorem dX6_setPage_184 : decode cX6_setPage 184 = .ok (.aload_n 0, 1) := by decide +kernel
theorem dX6_setPage_185 : decode cX6_setPage 185 = .ok (.getfield 71, 3) := by decide +kernel
theorem dX6_setPage_188 : decode cX6_setPage 188 = .ok (.imul, 1) := by decide +kernel
theorem dX6_setPage_189 : decode cX6_setPage 189 = .ok (.iload 5, 2) := by decide +kernel
theorem dX6_setPage_191 : decode cX6_setPage 191 = .ok (.iastore, 1) := by decide +kernel
theorem dX6_setPage_192 : decode cX6_setPage 192 = .ok (.aload_n 0, 1) := by decide +kernel
theorem dX6_setPage_193 : decode cX6_setPage 193 = .ok (.getfield 25, 3) := by decide +kernel
theorem dX6_setPage_196 : decode cX6_setPage 196 = .ok (.iconst 3, 1) := by decide +kernel
theorem dX6_setPage_197 : decode cX6_setPage 197 = .ok (.aload_n 0, 1) := by decide +kernel
theorem dX6_setPage_198 : decode cX6_setPage 198 = .ok (.getfield 71, 3) := by decide +kernel
theorem dX6_setPage_201 : decode cX6_setPage 201 = .ok (.imul, 1) := by decide +kernel
theorem dX6_setPage_202 : decode cX6_setPage 202 = .ok (.iconst 1, 1) := by decide +kernel
theorem dX6_setPage_203 : decode cX6_setPage 203 = .ok (.iadd, 1) := by decide +kernel
theorem dX6_setPage_204 : decode cX6_setPage 204 = .ok (.aload_n 0, 1) := by decide +kernel
theorem dX6_setPage_205 : decode cX6_setPage 205 = .ok (.getfield 53, 3) := by decide +kernel
theorem dX6_setPage_208 : decode cX6_setPage 208 = .ok (.iload 5, 2) := by decide +kernel
theorem dX6_setPage_210 : decode cX6_setPage 210 = .ok (.isub, 1) := by decide +kernel
theorem dX6_setPage_211 : decode cX6_setPage 211 = .ok (.iastore, 1) := by decide +kernel
theorem dX6_setPage_212 : decode cX6_setPage 212 = .ok (.aload_n 0, 1) := by decide +kernel
theorem dX6_setPage_213 : decode cX6_setPage 213 = .ok (.getfield 25, 3) := by decide +kernel
theorem dX6_setPage_216 : decode cX6_setPage 216 = .ok (.iconst 3, 1) := by decide +kernel
theorem dX6_setPage_217 : decode cX6_setPage 217 = .ok (.aload_n 0, 1) := by decide +kernel
theorem dX6_setPage_218 : decode cX6_setPage 218 = .ok (.getfield 71, 3) := by decide +kernel
theorem dX6_setPage_221 : decode cX6_setPage 221 = .ok (.imul, 1) := by decide +kernel
theorem dX6_setPage_222 : decode cX6_setPage 222 = .ok (.iconst 2, 1) := by decide +kernel
theorem dX6_setPage_223 : decode cX6_setPage 223 = .ok (.iadd, 1) := by decide +kernel
theorem dX6_setPage_224 : decode cX6_setPage 224 = .ok (.iload 6, 2) := by decide +kernel
theorem dX6_setPage_226 : decode cX6_setPage 226 = .ok (.ifCond .eq 7, 3) := by decide +kernel
theorem dX6_setPage_229 : decode cX6_setPage 229 = .ok (.iconst 1, 1) := by decide +kernel
theorem dX6_setPage_230 : decode cX6_setPage 230 = .ok (.goto 4, 3) := by decide +kernel
theorem dX6_setPage_233 : decode cX6_setPage 233 = .ok (.iconst 0, 1) := by decide +kernel
theorem dX6_setPage_234 : decode cX6_setPage 234 = .ok (.iastore, 1) := by decide +kernel
theorem dX6_setPage_235 : decode cX6_setPage 235 = .ok (.aload_n 0, 1) := by decide +kernel
theorem dX6_setPage_236 : decode cX6_setPage 236 = .ok (.dup, 1) := by decide +kernel
theorem dX6_setPage_237 : decode cX6_setPage 237 = .ok (.getfield 71, 3) := by decide +kernel
theorem dX6_setPage_240 : decode cX6_setPage 240 = .ok (.iconst 1, 1) := by decide +kernel
theorem dX6_setPage_241 : decode cX6_setPage 241 = .ok (.iadd, 1) := by decide +kernel
theorem dX6_setPage_242 : decode cX6_setPage 242 = .ok (.putfield 71, 3) := by decide +kernel
theorem dX6_setPage_245 : decode cX6_setPage 245 = .ok (.iload 6, 2) := by decide +kernel
theorem dX6_setPage_247 : decode cX6_setPage 247 = .ok (.ifCond .eq 20, 3) := by decide +kernel
theorem dX6_setPage_250 : decode cX6_setPage 250 = .ok (.aload_n 0, 1) := by decide +kernel
theorem dX6_setPage_251 : decode cX6_setPage 251 = .ok (.getfield 22, 3) := by decide +kernel
theorem dX6_setPage_254 : decode cX6_setPage 254 = .ok (.bipush 10, 2) := by decide +kernel
theorem dX6_setPage_256 : decode cX6_setPage 256 = .ok (.aload_n 0, 1) := by decide +kernel
theorem dX6_setPage_257 : decode cX6_setPage 257 = .ok (.getfield 53, 3) := by decide +kernel
theorem dX6_setPage_260 : decode cX6_setPage 260 = .ok (.imul, 1) := by decide +kernel
theorem dX6_setPage_261 : decode cX6_setPage 261 = .ok (.iconst 1, 1) := by decide +kernel
theorem dX6_setPage_262 : decode cX6_setPage 262 = .ok (.iadd, 1) := by decide +kernel
theorem dX6_setPage_263 : decode cX6_setPage 263 = .ok (.iaload, 1) := by decide +kernel
theorem dX6_setPage_264 : decode cX6_setPage 264 = .ok (.goto 4, 3) := by decide +kernel
theorem dX6_setPage_267 : decode cX6_setPage 267 = .ok (.iload_n 2, 1) := by decide +kernel
theorem dX6_setPage_268 : decode cX6_setPage 268 = .ok (.ireturn, 1) := by decide +kernel
set_option maxRecDepth 20000 in
theorem ggX6_setAll_X6_setPage : GoodIn wsX6_setAll wsX6_setPage := goodIn_r _ [11, 4, 6, 12, 13, 5, 14, 15, 16, 10, 17, 1, 2, 3, 18, 19, 20, 21, 22, 23, 24, 25, 26, 27, 28, 29, 30, 31, 32, 33, 34, 35, 36, 37, 38, 39, 40, 41, 42, 43, 44, 45, 46, 47, 48, 49, 50, 51, 52, 53, 54, 55] (by decide +kernel) (by decide +kernel)
set_option maxRecDepth 20000 in
theorem gX6_setAll_X6_setPage : GoodIn wsX6_setAll (wsV RX6 82 RX6 yX6_setPage wsX6_setPage) := goodIn_app (goodIn_of _ (by decide +kernel)) ggX6_setAll_X6_setPage
theorem dX6_setAll_0 : decode cX6_setAll 0 = .ok (.aload_n 0, 1) := by decide +kernel
theorem dX6_setAll_1 : decode cX6_setAll 1 = .ok (.iload_n 1, 1) := by decide +kernel
theorem dX6_setAll_2 : decode cX6_setAll 2 = .ok (.putfield 56, 3) := by decide +kernel
theorem dX6_setAll_5 : decode cX6_setAll 5 = .ok (.aload_n 0, 1) := by decide +kernel
theorem dX6_setAll_6 : decode cX6_setAll 6 = .ok (.iload_n 2, 1) := by decide +kernel
theorem dX6_setAll_7 : decode cX6_setAll 7 = .ok (.putfield 59, 3) := by decide +kernel
theorem dX6_setAll_10 : decode cX6_setAll 10 = .ok (.aload_n 0, 1) := by decide +kernel
theorem dX6_setAll_11 : decode cX6_setAll 11 = .ok (.iload_n 3, 1) := by decide +kernel
theorem dX6_setAll_12 : decode cX6_setAll 12 = .ok (.putfield 68, 3) := by decide +kernel
theorem dX6_setAll_15 : decode cX6_setAll 15 = .ok (.aload_n 0, 1) := by decide +kernel
theorem dX6_setAll_16 : decode cX6_setAll 16 = .ok (.iconst 0, 1) := by decide +kernel
theorem dX6_setAll_17 : decode cX6_setAll 17 = .ok (.putfield 53, 3) := by decide +kernel
theorem dX6_setAll_20 : decode cX6_setAll 20 = .ok (.aload_n 0, 1) := by decide +kernel
theorem dX6_setAll_21 : decode cX6_setAll 21 = .ok (.iconst 0, 1) := by decide +kernel
theorem dX6_setAll_22 : decode cX6_setAll 22 = .ok (.putfield 71, 3) := by decide +kernel
theorem dX6_setAll_25 : decode cX6_setAll 25 = .ok (.iconst 0, 1) := by decide +kernel
theorem dX6_setAll_26 : decode cX6_setAll 26 = .ok (.istore 4, 2) := by decide +kernel
theorem dX6_setAll_28 : decode cX6_setAll 28 = .ok (.iload 4, 2) := by decide +kernel
theorem dX6_setAll_30 : decode cX6_setAll 30 = .ok (.aload_n 0, 1) := by decide +kernel
theorem dX6_setAll_31 : decode cX6_setAll 31 = .ok (.getfield 7, 3) := by decide +kernel
theorem dX6_setAll_34 : decode cX6_setAll 34 = .ok (.bipush 14, 2) := by decide +kernel
theorem dX6_setAll_36 : decode cX6_setAll 36 = .ok (.iaload, 1) := by decide +kernel
theorem dX6_setAll_37 : decode cX6_setAll 37 = .ok (.if_icmp .ge 14, 3) := by decide +kernel
theorem dX6_setAll_40 : decode cX6_setAll 40 = .ok (.aload_n 0, 1) := by decide +kernel
theorem dX6_setAll_41 : decode cX6_setAll 41 = .ok (.iload 4, 2) := by decide +kernel
theorem dX6_setAll_43 : decode cX6_setAll 43 = .ok (.invokevirtual 82, 3) := by decide +kernel
theorem dX6_setAll_46 : decode cX6_setAll 46 = .ok (.istore 4, 2) := by decide +kernel
theorem dX6_setAll_48 : decode cX6_setAll 48 = .ok (.goto (-20), 3) := by decide +kernel
theorem dX6_setAll_51 : decode cX6_setAll 51 = .ok (.return_, 1) := by decide +kernel
set_option maxRecDepth 20000 in
theorem ggX6_makes_X6_setAll : GoodIn wsX6_makes wsX6_setAll := goodIn_r _ [6, 7, 8, 9, 10, 11, 1, 12, 13, 14, 5, 15, 16, 17, 18, 19, 20, 21, 22, 23, 24, 25, 26, 27, 28, 29, 30, 31, 32, 33, 34, 35, 36, 37, 38, 39, 40, 41, 42, 43, 44, 45, 46, 47, 48, 49, 50, 51, 52, 53, 54, 55, 56, 57, 58, 59] (by decide +kernel) (by decide +kernel)
set_option maxRecDepth 20000 in
theorem gX6_makes_X6_setAll : GoodIn wsX6_makes (wsV RX6 85 RX6 yX6_setAll wsX6_setAll) := goodIn_app (goodIn_of _ (by decide +kernel)) ggX6_makes_X6_setAll
theorem dX6_makes_0 : decode cX6_makes 0 = .ok (.aload_n 0, 1) := by decide +kernel
theorem dX6_makes_1 : decode cX6_makes 1 = .ok (.aload_n 0, 1) := by decide +kernel
theorem dX6_makes_2 : decode cX6_makes 2 = .ok (.getfield 7, 3) := by decide +kernel
theorem dX6_makes_5 : decode cX6_makes 5 = .ok (.iconst 0, 1) := by decide +kernel
theorem dX6_makes_6 : decode cX6_makes 6 = .ok (.iaload, 1) := by decide +kernel
theorem dX6_makes_7 : decode cX6_makes 7 = .ok (.aload_n 0, 1) := by decide +kernel
theorem dX6_makes_8 : decode cX6_makes 8 = .ok (.getfield 7, 3) := by decide +kernel
theorem dX6_makes_11 : decode cX6_makes 11 = .ok (.iconst 2, 1) := by decide +kernel
theorem dX6_makes_12 : decode cX6_makes 12 = .ok (.iaload, 1) := by decide +kernel
theorem dX6_makes_13 : decode cX6_makes 13 = .ok (.aload_n 0, 1) := by decide +kernel
theorem dX6_makes_14 : decode cX6_makes 14 = .ok (.getfield 7, 3) := by decide +kernel
theorem dX6_makes_17 : decode cX6_makes 17 = .ok (.iconst 3, 1) := by decide +kernel
theorem dX6_makes_18 : decode cX6_makes 18 = .ok (.iaload, 1) := by decide +kernel
theorem dX6_makes_19 : decode cX6_makes 19 = .ok (.invokevirtual 85, 3) := by decide +kernel
theorem dX6_makes_22 : decode cX6_makes 22 = .ok (.return_, 1) := by decide +kernel
set_option maxRecDepth 20000 in
theorem ggX6_endsOneThere_X6_endsOne : GoodIn wsX6_endsOneThere wsX6_endsOne := goodIn_r _ [6, 7, 8, 9, 10, 5, 11, 12, 13, 14, 15, 16, 17, 18, 19, 20, 21, 22, 23, 24, 25, 26, 27] (by decide +kernel) (by decide +kernel)
set_option maxRecDepth 20000 in
theorem gX6_endsOneThere_X6_endsOne : GoodIn wsX6_endsOneThere (wsV RX6 78 RX6 yX6_endsOne wsX6_endsOne) := goodIn_app (goodIn_of _ (by decide +kernel)) ggX6_endsOneThere_X6_endsOne
theorem dX6_endsOneThere_0 : decode cX6_endsOneThere 0 = .ok (.aload_n 0, 1) := by decide +kernel
theorem dX6_endsOneThere_1 : decode cX6_endsOneThere 1 = .ok (.aload_n 0, 1) := by decide +kernel
theorem dX6_endsOneThere_2 : decode cX6_endsOneThere 2 = .ok (.getfield 22, 3) := by decide +kernel
theorem dX6_endsOneThere_5 : decode cX6_endsOneThere 5 = .ok (.bipush 10, 2) := by decide +kernel
theorem dX6_endsOneThere_7 : decode cX6_endsOneThere 7 = .ok (.iload_n 1, 1) := by decide +kernel
theorem dX6_endsOneThere_8 : decode cX6_endsOneThere 8 = .ok (.imul, 1) := by decide +kernel
theorem dX6_endsOneThere_9 : decode cX6_endsOneThere 9 = .ok (.iconst 1, 1) := by decide +kernel
theorem dX6_endsOneThere_10 : decode cX6_endsOneThere 10 = .ok (.iadd, 1) := by decide +kernel
theorem dX6_endsOneThere_11 : decode cX6_endsOneThere 11 = .ok (.iaload, 1) := by decide +kernel
theorem dX6_endsOneThere_12 : decode cX6_endsOneThere 12 = .ok (.aload_n 0, 1) := by decide +kernel
theorem dX6_endsOneThere_13 : decode cX6_endsOneThere 13 = .ok (.getfield 22, 3) := by decide +kernel
theorem dX6_endsOneThere_16 : decode cX6_endsOneThere 16 = .ok (.bipush 10, 2) := by decide +kernel
theorem dX6_endsOneThere_18 : decode cX6_endsOneThere 18 = .ok (.iload_n 1, 1) := by decide +kernel
theorem dX6_endsOneThere_19 : decode cX6_endsOneThere 19 = .ok (.imul, 1) := by decide +kernel
theorem dX6_endsOneThere_20 : decode cX6_endsOneThere 20 = .ok (.iconst 2, 1) := by decide +kernel
theorem dX6_endsOneThere_21 : decode cX6_endsOneThere 21 = .ok (.iadd, 1) := by decide +kernel
theorem dX6_endsOneThere_22 : decode cX6_endsOneThere 22 = .ok (.iaload, 1) := by decide +kernel
theorem dX6_endsOneThere_23 : decode cX6_endsOneThere 23 = .ok (.iadd, 1) := by decide +kernel
theorem dX6_endsOneThere_24 : decode cX6_endsOneThere 24 = .ok (.iconst 1, 1) := by decide +kernel
theorem dX6_endsOneThere_25 : decode cX6_endsOneThere 25 = .ok (.isub, 1) := by decide +kernel
theorem dX6_endsOneThere_26 : decode cX6_endsOneThere 26 = .ok (.invokevirtual 78, 3) := by decide +kernel
theorem dX6_endsOneThere_29 : decode cX6_endsOneThere 29 = .ok (.ireturn, 1) := by decide +kernel
theorem dX6_lent_0 : decode cX6_lent 0 = .ok (.aload_n 0, 1) := by decide +kernel
theorem dX6_lent_1 : decode cX6_lent 1 = .ok (.getfield 22, 3) := by decide +kernel
theorem dX6_lent_4 : decode cX6_lent 4 = .ok (.bipush 10, 2) := by decide +kernel
theorem dX6_lent_6 : decode cX6_lent 6 = .ok (.iload_n 1, 1) := by decide +kernel
theorem dX6_lent_7 : decode cX6_lent 7 = .ok (.imul, 1) := by decide +kernel
theorem dX6_lent_8 : decode cX6_lent 8 = .ok (.iconst 5, 1) := by decide +kernel
theorem dX6_lent_9 : decode cX6_lent 9 = .ok (.iadd, 1) := by decide +kernel
theorem dX6_lent_10 : decode cX6_lent 10 = .ok (.iaload, 1) := by decide +kernel
theorem dX6_lent_11 : decode cX6_lent 11 = .ok (.aload_n 0, 1) := by decide +kernel
theorem dX6_lent_12 : decode cX6_lent 12 = .ok (.getfield 22, 3) := by decide +kernel
theorem dX6_lent_15 : decode cX6_lent 15 = .ok (.bipush 10, 2) := by decide +kernel
theorem dX6_lent_17 : decode cX6_lent 17 = .ok (.iload_n 1, 1) := by decide +kernel
theorem dX6_lent_18 : decode cX6_lent 18 = .ok (.imul, 1) := by decide +kernel
theorem dX6_lent_19 : decode cX6_lent 19 = .ok (.bipush 6, 2) := by decide +kernel
theorem dX6_lent_21 : decode cX6_lent 21 = .ok (.iadd, 1) := by decide +kernel
theorem dX6_lent_22 : decode cX6_lent 22 = .ok (.iaload, 1) := by decide +kernel
theorem dX6_lent_23 : decode cX6_lent 23 = .ok (.iadd, 1) := by decide +kernel
theorem dX6_lent_24 : decode cX6_lent 24 = .ok (.ireturn, 1) := by decide +kernel
set_option maxRecDepth 20000 in
theorem ggX6_empty_X6_lent : GoodIn wsX6_empty wsX6_lent := goodIn_r _ [6, 1, 7, 8, 9, 10, 11, 12, 13, 14, 15, 16, 17, 18, 19, 20, 21, 22] (by decide +kernel) (by decide +kernel)
set_option maxRecDepth 20000 in
theorem gX6_empty_X6_lent : GoodIn wsX6_empty (wsV RX6 89 RX6 yX6_lent wsX6_lent) := goodIn_app (goodIn_of _ (by decide +kernel)) ggX6_empty_X6_lent
theorem dX6_empty_0 : decode cX6_empty 0 = .ok (.aload_n 0, 1) := by decide +kernel
theorem dX6_empty_1 : decode cX6_empty 1 = .ok (.getfield 22, 3) := by decide +kernel
theorem dX6_empty_4 : decode cX6_empty 4 = .ok (.bipush 10, 2) := by decide +kernel
theorem dX6_empty_6 : decode cX6_empty 6 = .ok (.iload_n 1, 1) := by decide +kernel
theorem dX6_empty_7 : decode cX6_empty 7 = .ok (.imul, 1) := by decide +kernel
theorem dX6_empty_8 : decode cX6_empty 8 = .ok (.bipush 9, 2) := by decide +kernel
theorem dX6_empty_10 : decode cX6_empty 10 = .ok (.iadd, 1) := by decide +kernel
theorem dX6_empty_11 : decode cX6_empty 11 = .ok (.iaload, 1) := by decide +kernel
theorem dX6_empty_12 : decode cX6_empty 12 = .ok (.iconst 1, 1) := by decide +kernel
theorem dX6_empty_13 : decode cX6_empty 13 = .ok (.if_icmp .ne 7, 3) := by decide +kernel
theorem dX6_empty_16 : decode cX6_empty 16 = .ok (.iconst 0, 1) := by decide +kernel
theorem dX6_empty_17 : decode cX6_empty 17 = .ok (.goto 32, 3) := by decide +kernel
theorem dX6_empty_20 : decode cX6_empty 20 = .ok (.aload_n 0, 1) := by decide +kernel
theorem dX6_empty_21 : decode cX6_empty 21 = .ok (.getfield 22, 3) := by decide +kernel
theorem dX6_empty_24 : decode cX6_empty 24 = .ok (.bipush 10, 2) := by decide +kernel
theorem dX6_empty_26 : decode cX6_empty 26 = .ok (.iload_n 1, 1) := by decide +kernel
theorem dX6_empty_27 : decode cX6_empty 27 = .ok (.imul, 1) := by decide +kernel
theorem dX6_empty_28 : decode cX6_empty 28 = .ok (.iconst 4, 1) := by decide +kernel
theorem dX6_empty_29 : decode cX6_empty 29 = .ok (.iadd, 1) := by decide +kernel
theorem dX6_empty_30 : decode cX6_empty 30 = .ok (.iaload, 1) := by decide +kernel
theorem dX6_empty_31 : decode cX6_empty 31 = .ok (.aload_n 0, 1) := by decide +kernel
theorem dX6_empty_32 : decode cX6_empty 32 = .ok (.iload_n 1, 1) := by decide +kernel
theorem dX6_empty_33 : decode cX6_empty 33 = .ok (.invokevirtual 89, 3) := by decide +kernel
theorem dX6_empty_36 : decode cX6_empty 36 = .ok (.iadd, 1) := by decide +kernel
theorem dX6_empty_37 : decode cX6_empty 37 = .ok (.aload_n 0, 1) := by decide +kernel
theorem dX6_empty_38 : decode cX6_empty 38 = .ok (.getfield 22, 3) := by decide +kernel
theorem dX6_empty_41 : decode cX6_empty 41 = .ok (.bipush 10, 2) := by decide +kernel
theorem dX6_empty_43 : decode cX6_empty 43 = .ok (.iload_n 1, 1) := by decide +kernel
theorem dX6_empty_44 : decode cX6_empty 44 = .ok (.imul, 1) := by decide +kernel
theorem dX6_empty_45 : decode cX6_empty 45 = .ok (.iconst 3, 1) := by decide +kernel
theorem dX6_empty_46 : decode cX6_empty 46 = .ok (.iadd, 1) := by decide +kernel
theorem dX6_empty_47 : decode cX6_empty 47 = .ok (.iaload, 1) := by decide +kernel
theorem dX6_empty_48 : decode cX6_empty 48 = .ok (.isub, 1) := by decide +kernel
theorem dX6_empty_49 : decode cX6_empty 49 = .ok (.ireturn, 1) := by decide +kernel
set_option maxRecDepth 20000 in
theorem ggX6_unevennessNow_X6_endsOneThere : GoodIn wsX6_unevennessNow wsX6_endsOneThere := goodIn_r _ [6, 7, 8, 9, 10, 5, 11, 12, 13, 14, 15, 16, 25, 26, 27, 28, 29, 30, 31, 32, 33, 34, 35, 36, 37, 38, 39, 40] (by decide +kernel) (by decide +kernel)
set_option maxRecDepth 20000 in
theorem gX6_unevennessNow_X6_endsOneThere : GoodIn wsX6_unevennessNow (wsV RX6 92 RX6 yX6_endsOneThere wsX6_endsOneThere) := goodIn_app (goodIn_of _ (by decide +kernel)) ggX6_unevennessNow_X6_endsOneThere
set_option maxRecDepth 20000 in
theorem ggX6_unevennessNow_X6_empty : GoodIn wsX6_unevennessNow wsX6_empty := goodIn_r _ [20, 7, 21, 22, 23, 5, 24, 25, 26, 27, 28, 29, 30, 31, 32, 33, 34, 35, 36, 37, 38, 39, 40] (by decide +kernel) (by decide +kernel)
set_option maxRecDepth 20000 in
theorem gX6_unevennessNow_X6_empty : GoodIn wsX6_unevennessNow (wsV RX6 95 RX6 yX6_empty wsX6_empty) := goodIn_app (goodIn_of _ (by decide +kernel)) ggX6_unevennessNow_X6_empty
theorem dX6_unevennessNow_0 : decode cX6_unevennessNow 0 = .ok (.iconst 0, 1) := by decide +kernel
theorem dX6_unevennessNow_1 : decode cX6_unevennessNow 1 = .ok (.istore_n 1, 1) := by decide +kernel
theorem dX6_unevennessNow_2 : decode cX6_unevennessNow 2 = .ok (.iconst 0, 1) := by decide +kernel
theorem dX6_unevennessNow_3 : decode cX6_unevennessNow 3 = .ok (.istore_n 2, 1) := by decide +kernel
theorem dX6_unevennessNow_4 : decode cX6_unevennessNow 4 = .ok (.iload_n 2, 1) := by decide +kernel
theorem dX6_unevennessNow_5 : decode cX6_unevennessNow 5 = .ok (.aload_n 0, 1) := by decide +kernel
theorem dX6_unevennessNow_6 : decode cX6_unevennessNow 6 = .ok (.getfield 53, 3) := by decide +kernel
theorem dX6_unevennessNow_9 : decode cX6_unevennessNow 9 = .ok (.if_icmp .ge 35, 3) := by decide +kernel
theorem dX6_unevennessNow_12 : decode cX6_unevennessNow 12 = .ok (.iload_n 1, 1) := by decide +kernel
theorem dX6_unevennessNow_13 : decode cX6_unevennessNow 13 = .ok (.aload_n 0, 1) := by decide +kernel
theorem dX6_unevennessNow_14 : decode cX6_unevennessNow 14 = .ok (.iload_n 2, 1) := by decide +kernel
theorem dX6_unevennessNow_15 : decode cX6_unevennessNow 15 = .ok (.invokevirtual 92, 3) := by decide +kernel
theorem dX6_unevennessNow_18 : decode cX6_unevennessNow 18 = .ok (.ifCond .eq 7, 3) := by decide +kernel
theorem dX6_unevennessNow_21 : decode cX6_unevennessNow 21 = .ok (.iconst 0, 1) := by decide +kernel
theorem dX6_unevennessNow_22 : decode cX6_unevennessNow 22 = .ok (.goto 14, 3) := by decide +kernel
theorem dX6_unevennessNow_25 : decode cX6_unevennessNow 25 = .ok (.aload_n 0, 1) := by decide +kernel
theorem dX6_unevennessNow_26 : decode cX6_unevennessNow 26 = .ok (.iload_n 2, 1) := by decide +kernel
theorem dX6_unevennessNow_27 : decode cX6_unevennessNow 27 = .ok (.invokevirtual 95, 3) := by decide +kernel
theorem dX6_unevennessNow_30 : decode cX6_unevennessNow 30 = .ok (.aload_n 0, 1) := by decide +kernel
theorem dX6_unevennessNow_31 : decode cX6_unevennessNow 31 = .ok (.iload_n 2, 1) := by decide +kernel
theorem dX6_unevennessNow_32 : decode cX6_unevennessNow 32 = .ok (.invokevirtual 95, 3) := by decide +kernel
theorem dX6_unevennessNow_35 : decode cX6_unevennessNow 35 = .ok (.imul, 1) := by decide +kernel
theorem dX6_unevennessNow_36 : decode cX6_unevennessNow 36 = .ok (.iadd, 1) := by decide +kernel
theorem dX6_unevennessNow_37 : decode cX6_unevennessNow 37 = .ok (.istore_n 1, 1) := by decide +kernel
theorem dX6_unevennessNow_38 : decode cX6_unevennessNow 38 = .ok (.iinc 2 1, 3) := by decide +kernel
theorem dX6_unevennessNow_41 : decode cX6_unevennessNow 41 = .ok (.goto (-37), 3) := by decide +kernel
theorem dX6_unevennessNow_44 : decode cX6_unevennessNow 44 = .ok (.iload_n 1, 1) := by decide +kernel
theorem dX6_unevennessNow_45 : decode cX6_unevennessNow 45 = .ok (.ireturn, 1) := by decide +kernel
set_option maxRecDepth 20000 in
theorem ggX6_areSigns_X6_in : GoodIn wsX6_areSigns wsX6_in := goodIn_r _ [4] (by decide +kernel) (by decide +kernel)
set_option maxRecDepth 20000 in
theorem gX6_areSigns_X6_in : GoodIn wsX6_areSigns (va_wsS RX6 28 yX6_in wsX6_in) := goodIn_app (goodIn_of _ (by decide +kernel)) ggX6_areSigns_X6_in
theorem dX6_areSigns_0 : decode cX6_areSigns 0 = .ok (.iload_n 0, 1) := by decide +kernel
theorem dX6_areSigns_1 : decode cX6_areSigns 1 = .ok (.iconst (-1), 1) := by decide +kernel
theorem dX6_areSigns_2 : decode cX6_areSigns 2 = .ok (.iconst 1, 1) := by decide +kernel
theorem dX6_areSigns_3 : decode cX6_areSigns 3 = .ok (.invokestatic 28, 3) := by decide +kernel
theorem dX6_areSigns_6 : decode cX6_areSigns 6 = .ok (.ifCond .eq 22, 3) := by decide +kernel
theorem dX6_areSigns_9 : decode cX6_areSigns 9 = .ok (.iload_n 1, 1) := by decide +kernel
theorem dX6_areSigns_10 : decode cX6_areSigns 10 = .ok (.iconst (-1), 1) := by decide +kernel
theorem dX6_areSigns_11 : decode cX6_areSigns 11 = .ok (.bipush 7, 2) := by decide +kernel
theorem dX6_areSigns_13 : decode cX6_areSigns 13 = .ok (.invokestatic 28, 3) := by decide +kernel
theorem dX6_areSigns_16 : decode cX6_areSigns 16 = .ok (.ifCond .eq 12, 3) := by decide +kernel
theorem dX6_areSigns_19 : decode cX6_areSigns 19 = .ok (.iload_n 1, 1) := by decide +kernel
theorem dX6_areSigns_20 : decode cX6_areSigns 20 = .ok (.iconst 1, 1) := by decide +kernel
theorem dX6_areSigns_21 : decode cX6_areSigns 21 = .ok (.if_icmp .eq 7, 3) := by decide +kernel
theorem dX6_areSigns_24 : decode cX6_areSigns 24 = .ok (.iconst 1, 1) := by decide +kernel
theorem dX6_areSigns_25 : decode cX6_areSigns 25 = .ok (.goto 4, 3) := by decide +kernel
theorem dX6_areSigns_28 : decode cX6_areSigns 28 = .ok (.iconst 0, 1) := by decide +kernel
theorem dX6_areSigns_29 : decode cX6_areSigns 29 = .ok (.ireturn, 1) := by decide +kernel
set_option maxRecDepth 20000 in
theorem ggX6_opens_X6_puts : GoodIn wsX6_opens wsX6_puts := goodIn_r _ [6, 1, 7, 8, 9, 10, 11, 12, 13, 14, 15, 16, 17, 18, 19, 20, 21, 22] (by decide +kernel) (by decide +kernel)
set_option maxRecDepth 20000 in
theorem gX6_opens_X6_puts : GoodIn wsX6_opens (wsV RX6 98 RX6 yX6_puts wsX6_puts) := goodIn_app (goodIn_of _ (by decide +kernel)) ggX6_opens_X6_puts
theorem dX6_opens_0 : decode cX6_opens 0 = .ok (.bipush 15, 2) := by decide +kernel
theorem dX6_opens_2 : decode cX6_opens 2 = .ok (.bipush 16, 2) := by decide +kernel
theorem dX6_opens_4 : decode cX6_opens 4 = .ok (.aload_n 0, 1) := by decide +kernel
theorem dX6_opens_5 : decode cX6_opens 5 = .ok (.getfield 7, 3) := by decide +kernel
theorem dX6_opens_8 : decode cX6_opens 8 = .ok (.bipush 14, 2) := by decide +kernel
theorem dX6_opens_10 : decode cX6_opens 10 = .ok (.iaload, 1) := by decide +kernel
theorem dX6_opens_11 : decode cX6_opens 11 = .ok (.imul, 1) := by decide +kernel
theorem dX6_opens_12 : decode cX6_opens 12 = .ok (.iadd, 1) := by decide +kernel
theorem dX6_opens_13 : decode cX6_opens 13 = .ok (.iconst 1, 1) := by decide +kernel
theorem dX6_opens_14 : decode cX6_opens 14 = .ok (.isub, 1) := by decide +kernel
theorem dX6_opens_15 : decode cX6_opens 15 = .ok (.istore_n 2, 1) := by decide +kernel
theorem dX6_opens_16 : decode cX6_opens 16 = .ok (.iload_n 2, 1) := by decide +kernel
theorem dX6_opens_17 : decode cX6_opens 17 = .ok (.bipush 15, 2) := by decide +kernel
theorem dX6_opens_19 : decode cX6_opens 19 = .ok (.bipush 16, 2) := by decide +kernel
theorem dX6_opens_21 : decode cX6_opens 21 = .ok (.iload_n 1, 1) := by decide +kernel
theorem dX6_opens_22 : decode cX6_opens 22 = .ok (.imul, 1) := by decide +kernel
theorem dX6_opens_23 : decode cX6_opens 23 = .ok (.iadd, 1) := by decide +kernel
theorem dX6_opens_24 : decode cX6_opens 24 = .ok (.if_icmp .lt 24, 3) := by decide +kernel
theorem dX6_opens_27 : decode cX6_opens 27 = .ok (.aload_n 0, 1) := by decide +kernel
theorem dX6_opens_28 : decode cX6_opens 28 = .ok (.getfield 7, 3) := by decide +kernel
theorem dX6_opens_31 : decode cX6_opens 31 = .ok (.iload_n 2, 1) := by decide +kernel
theorem dX6_opens_32 : decode cX6_opens 32 = .ok (.bipush 16, 2) := by decide +kernel
theorem dX6_opens_34 : decode cX6_opens 34 = .ok (.iadd, 1) := by decide +kernel
theorem dX6_opens_35 : decode cX6_opens 35 = .ok (.aload_n 0, 1) := by decide +kernel
theorem dX6_opens_36 : decode cX6_opens 36 = .ok (.getfield 7, 3) := by decide +kernel
theorem dX6_opens_39 : decode cX6_opens 39 = .ok (.iload_n 2, 1) := by decide +kernel
theorem dX6_opens_40 : decode cX6_opens 40 = .ok (.iaload, 1) := by decide +kernel
theorem dX6_opens_41 : decode cX6_opens 41 = .ok (.iastore, 1) := by decide +kernel
theorem dX6_opens_42 : decode cX6_opens 42 = .ok (.iinc 2 (-1), 3) := by decide +kernel
theorem dX6_opens_45 : decode cX6_opens 45 = .ok (.goto (-29), 3) := by decide +kernel
theorem dX6_opens_48 : decode cX6_opens 48 = .ok (.aload_n 0, 1) := by decide +kernel
theorem dX6_opens_49 : decode cX6_opens 49 = .ok (.getfield 7, 3) := by decide +kernel
theorem dX6_opens_52 : decode cX6_opens 52 = .ok (.bipush 14, 2) := by decide +kernel
theorem dX6_opens_54 : decode cX6_opens 54 = .ok (.dup2, 1) := by decide +kernel
theorem dX6_opens_55 : decode cX6_opens 55 = .ok (.iaload, 1) := by decide +kernel
theorem dX6_opens_56 : decode cX6_opens 56 = .ok (.iconst 1, 1) := by decide +kernel
theorem dX6_opens_57 : decode cX6_opens 57 = .ok (.iadd, 1) := by decide +kernel
theorem dX6_opens_58 : decode cX6_opens 58 = .ok (.iastore, 1) := by decide +kernel
theorem dX6_opens_59 : decode cX6_opens 59 = .ok (.iconst 0, 1) := by decide +kernel
theorem dX6_opens_60 : decode cX6_opens 60 = .ok (.istore_n 2, 1) := by decide +kernel
theorem dX6_opens_61 : decode cX6_opens 61 = .ok (.iload_n 2, 1) := by decide +kernel
theorem dX6_opens_62 : decode cX6_opens 62 = .ok (.bipush 16, 2) := by decide +kernel
theorem dX6_opens_64 : decode cX6_opens 64 = .ok (.if_icmp .ge 16, 3) := by decide +kernel
theorem dX6_opens_67 : decode cX6_opens 67 = .ok (.aload_n 0, 1) := by decide +kernel
theorem dX6_opens_68 : decode cX6_opens 68 = .ok (.iload_n 1, 1) := by decide +kernel
theorem dX6_opens_69 : decode cX6_opens 69 = .ok (.iload_n 2, 1) := by decide +kernel
theorem dX6_opens_70 : decode cX6_opens 70 = .ok (.iconst 0, 1) := by decide +kernel
theorem dX6_opens_71 : decode cX6_opens 71 = .ok (.invokevirtual 98, 3) := by decide +kernel
theorem dX6_opens_74 : decode cX6_opens 74 = .ok (.iinc 2 1, 3) := by decide +kernel
theorem dX6_opens_77 : decode cX6_opens 77 = .ok (.goto (-16), 3) := by decide +kernel
theorem dX6_opens_80 : decode cX6_opens 80 = .ok (.return_, 1) := by decide +kernel
set_option maxRecDepth 20000 in
theorem ggX6_insert_X6_fails : GoodIn wsX6_insert wsX6_fails := goodIn_r _ [6, 7, 37, 38, 39, 40, 41, 42, 43, 44, 45, 46, 47, 48, 49, 50, 51, 52] (by decide +kernel) (by decide +kernel)
set_option maxRecDepth 20000 in
theorem gX6_insert_X6_fails : GoodIn wsX6_insert (wsV RX6 101 RX6 yX6_fails wsX6_fails) := goodIn_app (goodIn_of _ (by decide +kernel)) ggX6_insert_X6_fails
set_option maxRecDepth 20000 in
theorem ggX6_insert_X6_in : GoodIn wsX6_insert wsX6_in := goodIn_r _ [10] (by decide +kernel) (by decide +kernel)
set_option maxRecDepth 20000 in
theorem gX6_insert_X6_in : GoodIn wsX6_insert (va_wsS RX6 28 yX6_in wsX6_in) := goodIn_app (goodIn_of _ (by decide +kernel)) ggX6_insert_X6_in
set_option maxRecDepth 20000 in
theorem ggX6_insert_X6_areSigns : GoodIn wsX6_insert wsX6_areSigns := goodIn_r _ [13, 8, 9, 5, 10] (by decide +kernel) (by decide +kernel)
set_option maxRecDepth 20000 in
theorem gX6_insert_X6_areSigns : GoodIn wsX6_insert (va_wsS RX6 104 yX6_areSigns wsX6_areSigns) := goodIn_app (goodIn_of _ (by decide +kernel)) ggX6_insert_X6_areSigns
set_option maxRecDepth 20000 in
theorem ggX6_insert_X6_hold : GoodIn wsX6_insert wsX6_hold := goodIn_r _ [17, 18, 1, 37, 38, 39, 40, 41, 42, 43, 44, 45, 46, 47, 48, 49, 50, 51, 52] (by decide +kernel) (by decide +kernel)
set_option maxRecDepth 20000 in
theorem gX6_insert_X6_hold : GoodIn wsX6_insert (wsV RX6 108 RX6 yX6_hold wsX6_hold) := goodIn_app (goodIn_of _ (by decide +kernel)) ggX6_insert_X6_hold
set_option maxRecDepth 20000 in
theorem ggX6_insert_X6_opens : GoodIn wsX6_insert wsX6_opens := goodIn_r _ [22, 1, 23, 24, 25, 5, 26, 37, 38, 39, 40, 41, 42, 43, 44, 45, 46, 47, 48, 49, 50, 51, 52] (by decide +kernel) (by decide +kernel)
set_option maxRecDepth 20000 in
theorem gX6_insert_X6_opens : GoodIn wsX6_insert (wsV RX6 111 RX6 yX6_opens wsX6_opens) := goodIn_app (goodIn_of _ (by decide +kernel)) ggX6_insert_X6_opens
set_option maxRecDepth 20000 in
theorem ggX6_insert_X6_puts : GoodIn wsX6_insert wsX6_puts := goodIn_r _ [26, 1, 37, 38, 39, 40, 41, 42, 43, 44, 45, 46, 47, 48, 49, 50, 51, 52] (by decide +kernel) (by decide +kernel)
set_option maxRecDepth 20000 in
theorem gX6_insert_X6_puts : GoodIn wsX6_insert (wsV RX6 98 RX6 yX6_puts wsX6_puts) := goodIn_app (goodIn_of _ (by decide +kernel)) ggX6_insert_X6_puts
set_option maxRecDepth 20000 in
theorem ggX6_insert_X6_ends : GoodIn wsX6_insert wsX6_ends := goodIn_r _ [30, 31, 32, 18, 33, 34, 35, 5, 36, 7, 37, 38, 39, 40, 41, 42, 43, 44, 45, 46, 47, 48, 49, 50, 51, 52] (by decide +kernel) (by decide +kernel)
set_option maxRecDepth 20000 in
theorem gX6_insert_X6_ends : GoodIn wsX6_insert (wsV RX6 115 RX6 yX6_ends wsX6_ends) := goodIn_app (goodIn_of _ (by decide +kernel)) ggX6_insert_X6_ends
theorem dX6_insert_0 : decode cX6_insert 0 = .ok (.iload_n 1, 1) := by decide +kernel
theorem dX6_insert_1 : decode cX6_insert 1 = .ok (.ifCond .lt 14, 3) := by decide +kernel
theorem dX6_insert_4 : decode cX6_insert 4 = .ok (.iload_n 1, 1) := by decide +kernel
theorem dX6_insert_5 : decode cX6_insert 5 = .ok (.aload_n 0, 1) := by decide +kernel
theorem dX6_insert_6 : decode cX6_insert 6 = .ok (.getfield 7, 3) := by decide +kernel
theorem dX6_insert_9 : decode cX6_insert 9 = .ok (.bipush 14, 2) := by decide +kernel
theorem dX6_insert_11 : decode cX6_insert 11 = .ok (.iaload, 1) := by decide +kernel
theorem dX6_insert_12 : decode cX6_insert 12 = .ok (.if_icmp .le 9, 3) := by decide +kernel
theorem dX6_insert_15 : decode cX6_insert 15 = .ok (.aload_n 0, 1) := by decide +kernel
theorem dX6_insert_16 : decode cX6_insert 16 = .ok (.iconst 1, 1) := by decide +kernel
theorem dX6_insert_17 : decode cX6_insert 17 = .ok (.invokevirtual 101, 3) := by decide +kernel
theorem dX6_insert_20 : decode cX6_insert 20 = .ok (.ireturn, 1) := by decide +kernel
theorem dX6_insert_21 : decode cX6_insert 21 = .ok (.iload_n 2, 1) := by decide +kernel
theorem dX6_insert_22 : decode cX6_insert 22 = .ok (.iconst 0, 1) := by decide +kernel
theorem dX6_insert_23 : decode cX6_insert 23 = .ok (.bipush 25, 2) := by decide +kernel
theorem dX6_insert_25 : decode cX6_insert 25 = .ok (.invokestatic 28, 3) := by decide +kernel
theorem dX6_insert_28 : decode cX6_insert 28 = .ok (.ifCond .eq 23, 3) := by decide +kernel
theorem dX6_insert_31 : decode cX6_insert 31 = .ok (.iload_n 3, 1) := by decide +kernel
theorem dX6_insert_32 : decode cX6_insert 32 = .ok (.iconst 1, 1) := by decide +kernel
theorem dX6_insert_33 : decode cX6_insert 33 = .ok (.bipush 12, 2) := by decide +kernel
theorem dX6_insert_35 : decode cX6_insert 35 = .ok (.invokestatic 28, 3) := by decide +kernel
theorem dX6_insert_38 : decode cX6_insert 38 = .ok (.ifCond .eq 13, 3) := by decide +kernel
theorem dX6_insert_41 : decode cX6_insert 41 = .ok (.iload 4, 2) := by decide +kernel
theorem dX6_insert_43 : decode cX6_insert 43 = .ok (.iload 5, 2) := by decide +kernel
theorem dX6_insert_45 : decode cX6_insert 45 = .ok (.invokestatic 104, 3) := by decide +kernel
theorem dX6_insert_48 : decode cX6_insert 48 = .ok (.ifCond .ne 9, 3) := by decide +kernel
theorem dX6_insert_51 : decode cX6_insert 51 = .ok (.aload_n 0, 1) := by decide +kernel
theorem dX6_insert_52 : decode cX6_insert 52 = .ok (.iconst 2, 1) := by decide +kernel
theorem dX6_insert_53 : decode cX6_insert 53 = .ok (.invokevirtual 101, 3) := by decide +kernel
theorem dX6_insert_56 : decode cX6_insert 56 = .ok (.ireturn, 1) := by decide +kernel
theorem dX6_insert_57 : decode cX6_insert 57 = .ok (.aload_n 0, 1) := by decide +kernel
theorem dX6_insert_58 : decode cX6_insert 58 = .ok (.getfield 7, 3) := by decide +kernel
theorem dX6_insert_61 : decode cX6_insert 61 = .ok (.bipush 14, 2) := by decide +kernel
theorem dX6_insert_63 : decode cX6_insert 63 = .ok (.iaload, 1) := by decide +kernel
theorem dX6_insert_64 : decode cX6_insert 64 = .ok (.bipush 60, 2) := by decide +kernel
theorem dX6_insert_66 : decode cX6_insert 66 = .ok (.if_icmp .ne 9, 3) := by decide +kernel
theorem dX6_insert_69 : decode cX6_insert 69 = .ok (.aload_n 0, 1) := by decide +kernel
theorem dX6_insert_70 : decode cX6_insert 70 = .ok (.iconst 3, 1) := by decide +kernel
theorem dX6_insert_71 : decode cX6_insert 71 = .ok (.invokevirtual 101, 3) := by decide +kernel
theorem dX6_insert_74 : decode cX6_insert 74 = .ok (.ireturn, 1) := by decide +kernel
theorem dX6_insert_75 : decode cX6_insert 75 = .ok (.aload_n 0, 1) := by decide +kernel
theorem dX6_insert_76 : decode cX6_insert 76 = .ok (.invokevirtual 108, 3) := by decide +kernel
theorem dX6_insert_79 : decode cX6_insert 79 = .ok (.aload_n 0, 1) := by decide +kernel
theorem dX6_insert_80 : decode cX6_insert 80 = .ok (.iload_n 1, 1) := by decide +kernel
theorem dX6_insert_81 : decode cX6_insert 81 = .ok (.invokevirtual 111, 3) := by decide +kernel
theorem dX6_insert_84 : decode cX6_insert 84 = .ok (.iconst 0, 1) := by decide +kernel
theorem dX6_insert_85 : decode cX6_insert 85 = .ok (.istore 6, 2) := by decide +kernel
theorem dX6_insert_87 : decode cX6_insert 87 = .ok (.iload 6, 2) := by decide +kernel
theorem dX6_insert_89 : decode cX6_insert 89 = .ok (.iload_n 3, 1) := by decide +kernel
theorem dX6_insert_90 : decode cX6_insert 90 = .ok (.if_icmp .ge 23, 3) := by decide +kernel
theorem dX6_insert_93 : decode cX6_insert 93 = .ok (.aload_n 0, 1) := by decide +kernel
theorem dX6_insert_94 : decode cX6_insert 94 = .ok (.iload_n 1, 1) := by decide +kernel
theorem dX6_insert_95 : decode cX6_insert 95 = .ok (.iload 6, 2) := by decide +kernel
theorem dX6_insert_97 : decode cX6_insert 97 = .ok (.iload_n 2, 1) := by decide +kernel
theorem dX6_insert_98 : decode cX6_insert 98 = .ok (.iload 6, 2) := by decide +kernel
theorem dX6_insert_100 : decode cX6_insert 100 = .ok (.iadd, 1) := by decide +kernel
theorem dX6_insert_101 : decode cX6_insert 101 = .ok (.bipush 26, 2) := by decide +kernel
theorem dX6_insert_103 : decode cX6_insert 103 = .ok (.irem, 1) := by decide +kernel
theorem dX6_insert_104 : decode cX6_insert 104 = .ok (.invokevirtual 98, 3) := by decide +kernel
theorem dX6_insert_107 : decode cX6_insert 107 = .ok (.iinc 6 1, 3) := by decide +kernel
theorem dX6_insert_110 : decode cX6_insert 110 = .ok (.goto (-23), 3) := by decide +kernel
theorem dX6_insert_113 : decode cX6_insert 113 = .ok (.aload_n 0, 1) := by decide +kernel
theorem dX6_insert_114 : decode cX6_insert 114 = .ok (.iload_n 1, 1) := by decide +kernel
theorem dX6_insert_115 : decode cX6_insert 115 = .ok (.bipush 12, 2) := by decide +kernel
theorem dX6_insert_117 : decode cX6_insert 117 = .ok (.iload_n 3, 1) := by decide +kernel
theorem dX6_insert_118 : decode cX6_insert 118 = .ok (.invokevirtual 98, 3) := by decide +kernel
theorem dX6_insert_121 : decode cX6_insert 121 = .ok (.aload_n 0, 1) := by decide +kernel
theorem dX6_insert_122 : decode cX6_insert 122 = .ok (.iload_n 1, 1) := by decide +kernel
theorem dX6_insert_123 : decode cX6_insert 123 = .ok (.bipush 13, 2) := by decide +kernel
theorem dX6_insert_125 : decode cX6_insert 125 = .ok (.iload 4, 2) := by decide +kernel
theorem dX6_insert_127 : decode cX6_insert 127 = .ok (.invokevirtual 98, 3) := by decide +kernel
theorem dX6_insert_130 : decode cX6_insert 130 = .ok (.aload_n 0, 1) := by decide +kernel
theorem dX6_insert_131 : decode cX6_insert 131 = .ok (.iload_n 1, 1) := by decide +kernel
theorem dX6_insert_132 : decode cX6_insert 132 = .ok (.bipush 14, 2) := by decide +kernel
theorem dX6_insert_134 : decode cX6_insert 134 = .ok (.iload 5, 2) := by decide +kernel
theorem dX6_insert_136 : decode cX6_insert 136 = .ok (.invokevirtual 98, 3) := by decide +kernel
theorem dX6_insert_139 : decode cX6_insert 139 = .ok (.aload_n 0, 1) := by decide +kernel
theorem dX6_insert_140 : decode cX6_insert 140 = .ok (.aload_n 0, 1) := by decide +kernel
theorem dX6_insert_141 : decode cX6_insert 141 = .ok (.getfield 7, 3) := by decide +kernel
theorem dX6_insert_144 : decode cX6_insert 144 = .ok (.bipush 14, 2) := by decide +kernel
theorem dX6_insert_146 : decode cX6_insert 146 = .ok (.iaload, 1) := by decide +kernel
theorem dX6_insert_147 : decode cX6_insert 147 = .ok (.invokevirtual 115, 3) := by decide +kernel
theorem dX6_insert_150 : decode cX6_insert 150 = .ok (.ireturn, 1) := by decide +kernel
set_option maxRecDepth 20000 in
theorem ggX6_removeWord_X6_isWord : GoodIn wsX6_removeWord wsX6_isWord := goodIn_r _ [6, 1, 27, 28, 29, 30, 31, 32, 33, 34, 35, 36, 37, 38, 39, 40, 41, 42] (by decide +kernel) (by decide +kernel)
set_option maxRecDepth 20000 in
theorem gX6_removeWord_X6_isWord : GoodIn wsX6_removeWord (wsV RX6 118 RX6 yX6_isWord wsX6_isWord) := goodIn_app (goodIn_of _ (by decide +kernel)) ggX6_removeWord_X6_isWord
set_option maxRecDepth 20000 in
theorem ggX6_removeWord_X6_fails : GoodIn wsX6_removeWord wsX6_fails := goodIn_r _ [10, 11, 27, 28, 29, 30, 31, 32, 33, 34, 35, 36, 37, 38, 39, 40, 41, 42] (by decide +kernel) (by decide +kernel)
set_option maxRecDepth 20000 in
theorem gX6_removeWord_X6_fails : GoodIn wsX6_removeWord (wsV RX6 101 RX6 yX6_fails wsX6_fails) := goodIn_app (goodIn_of _ (by decide +kernel)) ggX6_removeWord_X6_fails
set_option maxRecDepth 20000 in
theorem ggX6_removeWord_X6_hold : GoodIn wsX6_removeWord wsX6_hold := goodIn_r _ [15, 16, 1, 27, 28, 29, 30, 31, 32, 33, 34, 35, 36, 37, 38, 39, 40, 41, 42] (by decide +kernel) (by decide +kernel)
set_option maxRecDepth 20000 in
theorem gX6_removeWord_X6_hold : GoodIn wsX6_removeWord (wsV RX6 108 RX6 yX6_hold wsX6_hold) := goodIn_app (goodIn_of _ (by decide +kernel)) ggX6_removeWord_X6_hold
set_option maxRecDepth 20000 in
theorem ggX6_removeWord_X6_ends : GoodIn wsX6_removeWord wsX6_ends := goodIn_r _ [20, 21, 22, 16, 23, 24, 25, 5, 26, 11, 27, 28, 29, 30, 31, 32, 33, 34, 35, 36, 37, 38, 39, 40, 41, 42] (by decide +kernel) (by decide +kernel)
set_option maxRecDepth 20000 in
theorem gX6_removeWord_X6_ends : GoodIn wsX6_removeWord (wsV RX6 115 RX6 yX6_ends wsX6_ends) := goodIn_app (goodIn_of _ (by decide +kernel)) ggX6_removeWord_X6_ends
theorem dX6_removeWord_0 : decode cX6_removeWord 0 = .ok (.aload_n 0, 1) := by decide +kernel
theorem dX6_removeWord_1 : decode cX6_removeWord 1 = .ok (.iload_n 1, 1) := by decide +kernel
theorem dX6_removeWord_2 : decode cX6_removeWord 2 = .ok (.invokevirtual 118, 3) := by decide +kernel
theorem dX6_removeWord_5 : decode cX6_removeWord 5 = .ok (.ifCond .ne 9, 3) := by decide +kernel
theorem dX6_removeWord_8 : decode cX6_removeWord 8 = .ok (.aload_n 0, 1) := by decide +kernel
theorem dX6_removeWord_9 : decode cX6_removeWord 9 = .ok (.iconst 1, 1) := by decide +kernel
theorem dX6_removeWord_10 : decode cX6_removeWord 10 = .ok (.invokevirtual 101, 3) := by decide +kernel
theorem dX6_removeWord_13 : decode cX6_removeWord 13 = .ok (.ireturn, 1) := by decide +kernel
theorem dX6_removeWord_14 : decode cX6_removeWord 14 = .ok (.aload_n 0, 1) := by decide +kernel
theorem dX6_removeWord_15 : decode cX6_removeWord 15 = .ok (.invokevirtual 108, 3) := by decide +kernel
theorem dX6_removeWord_18 : decode cX6_removeWord 18 = .ok (.aload_n 0, 1) := by decide +kernel
theorem dX6_removeWord_19 : decode cX6_removeWord 19 = .ok (.getfield 7, 3) := by decide +kernel
theorem dX6_removeWord_22 : decode cX6_removeWord 22 = .ok (.bipush 14, 2) := by decide +kernel
theorem dX6_removeWord_24 : decode cX6_removeWord 24 = .ok (.dup2, 1) := by decide +kernel
theorem dX6_removeWord_25 : decode cX6_removeWord 25 = .ok (.iaload, 1) := by decide +kernel
theorem dX6_removeWord_26 : decode cX6_removeWord 26 = .ok (.iconst 1, 1) := by decide +kernel
theorem dX6_removeWord_27 : decode cX6_removeWord 27 = .ok (.isub, 1) := by decide +kernel
theorem dX6_removeWord_28 : decode cX6_removeWord 28 = .ok (.iastore, 1) := by decide +kernel
theorem dX6_removeWord_29 : decode cX6_removeWord 29 = .ok (.bipush 15, 2) := by decide +kernel
theorem dX6_removeWord_31 : decode cX6_removeWord 31 = .ok (.bipush 16, 2) := by decide +kernel
theorem dX6_removeWord_33 : decode cX6_removeWord 33 = .ok (.iload_n 1, 1) := by decide +kernel
theorem dX6_removeWord_34 : decode cX6_removeWord 34 = .ok (.imul, 1) := by decide +kernel
theorem dX6_removeWord_35 : decode cX6_removeWord 35 = .ok (.iadd, 1) := by decide +kernel
theorem dX6_removeWord_36 : decode cX6_removeWord 36 = .ok (.istore_n 2, 1) := by decide +kernel
theorem dX6_removeWord_37 : decode cX6_removeWord 37 = .ok (.iload_n 2, 1) := by decide +kernel
theorem dX6_removeWord_38 : decode cX6_removeWord 38 = .ok (.bipush 15, 2) := by decide +kernel
theorem dX6_removeWord_40 : decode cX6_removeWord 40 = .ok (.bipush 16, 2) := by decide +kernel
theorem dX6_removeWord_42 : decode cX6_removeWord 42 = .ok (.aload_n 0, 1) := by decide +kernel
theorem dX6_removeWord_43 : decode cX6_removeWord 43 = .ok (.getfield 7, 3) := by decide +kernel
theorem dX6_removeWord_46 : decode cX6_removeWord 46 = .ok (.bipush 14, 2) := by decide +kernel
theorem dX6_removeWord_48 : decode cX6_removeWord 48 = .ok (.iaload, 1) := by decide +kernel
theorem dX6_removeWord_49 : decode cX6_removeWord 49 = .ok (.imul, 1) := by decide +kernel
theorem dX6_removeWord_50 : decode cX6_removeWord 50 = .ok (.iadd, 1) := by decide +kernel
theorem dX6_removeWord_51 : decode cX6_removeWord 51 = .ok (.if_icmp .ge 24, 3) := by decide +kernel
theorem dX6_removeWord_54 : decode cX6_removeWord 54 = .ok (.aload_n 0, 1) := by decide +kernel
theorem dX6_removeWord_55 : decode cX6_removeWord 55 = .ok (.getfield 7, 3) := by decide +kernel
theorem dX6_removeWord_58 : decode cX6_removeWord 58 = .ok (.iload_n 2, 1) := by decide +kernel
theorem dX6_removeWord_59 : decode cX6_removeWord 59 = .ok (.aload_n 0, 1) := by decide +kernel
theorem dX6_removeWord_60 : decode cX6_removeWord 60 = .ok (.getfield 7, 3) := by decide +kernel
theorem dX6_removeWord_63 : decode cX6_removeWord 63 = .ok (.iload_n 2, 1) := by decide +kernel
theorem dX6_removeWord_64 : decode cX6_removeWord 64 = .ok (.bipush 16, 2) := by decide +kernel
theorem dX6_removeWord_66 : decode cX6_removeWord 66 = .ok (.iadd, 1) := by decide +kernel
theorem dX6_removeWord_67 : decode cX6_removeWord 67 = .ok (.iaload, 1) := by decide +kernel
theorem dX6_removeWord_68 : decode cX6_removeWord 68 = .ok (.iastore, 1) := by decide +kernel
theorem dX6_removeWord_69 : decode cX6_removeWord 69 = .ok (.iinc 2 1, 3) := by decide +kernel
theorem dX6_removeWord_72 : decode cX6_removeWord 72 = .ok (.goto (-35), 3) := by decide +kernel
theorem dX6_removeWord_75 : decode cX6_removeWord 75 = .ok (.aload_n 0, 1) := by decide +kernel
theorem dX6_removeWord_76 : decode cX6_removeWord 76 = .ok (.aload_n 0, 1) := by decide +kernel
theorem dX6_removeWord_77 : decode cX6_removeWord 77 = .ok (.getfield 7, 3) := by decide +kernel
theorem dX6_removeWord_80 : decode cX6_removeWord 80 = .ok (.bipush 14, 2) := by decide +kernel
theorem dX6_removeWord_82 : decode cX6_removeWord 82 = .ok (.iaload, 1) := by decide +kernel
theorem dX6_removeWord_83 : decode cX6_removeWord 83 = .ok (.invokevirtual 115, 3) := by decide +kernel
theorem dX6_removeWord_86 : decode cX6_removeWord 86 = .ok (.ireturn, 1) := by decide +kernel
set_option maxRecDepth 20000 in
theorem ggX6_endParagraph_X6_isWord : GoodIn wsX6_endParagraph wsX6_isWord := goodIn_r _ [5, 6, 35, 36, 37, 38, 39, 40, 41, 42, 43, 44, 45, 46, 47, 48, 49, 50] (by decide +kernel) (by decide +kernel)
set_option maxRecDepth 20000 in
theorem gX6_endParagraph_X6_isWord : GoodIn wsX6_endParagraph (wsV RX6 118 RX6 yX6_isWord wsX6_isWord) := goodIn_app (goodIn_of _ (by decide +kernel)) ggX6_endParagraph_X6_isWord
set_option maxRecDepth 20000 in
theorem ggX6_endParagraph_X6_fails : GoodIn wsX6_endParagraph wsX6_fails := goodIn_r _ [10, 11, 35, 36, 37, 38, 39, 40, 41, 42, 43, 44, 45, 46, 47, 48, 49, 50] (by decide +kernel) (by decide +kernel)
set_option maxRecDepth 20000 in
theorem gX6_endParagraph_X6_fails : GoodIn wsX6_endParagraph (wsV RX6 101 RX6 yX6_fails wsX6_fails) := goodIn_app (goodIn_of _ (by decide +kernel)) ggX6_endParagraph_X6_fails
set_option maxRecDepth 20000 in
theorem ggX6_endParagraph_X6_hold : GoodIn wsX6_endParagraph wsX6_hold := goodIn_r _ [15, 16, 6, 35, 36, 37, 38, 39, 40, 41, 42, 43, 44, 45, 46, 47, 48, 49, 50] (by decide +kernel) (by decide +kernel)
set_option maxRecDepth 20000 in
theorem gX6_endParagraph_X6_hold : GoodIn wsX6_endParagraph (wsV RX6 108 RX6 yX6_hold wsX6_hold) := goodIn_app (goodIn_of _ (by decide +kernel)) ggX6_endParagraph_X6_hold
set_option maxRecDepth 20000 in
theorem ggX6_endParagraph_X6_of : GoodIn wsX6_endParagraph wsX6_of := goodIn_r _ [20, 6, 35, 36, 37, 38, 39, 40, 41, 42, 43, 44, 45, 46, 47, 48, 49, 50] (by decide +kernel) (by decide +kernel)
set_option maxRecDepth 20000 in
theorem gX6_endParagraph_X6_of : GoodIn wsX6_endParagraph (wsV RX6 43 RX6 yX6_of wsX6_of) := goodIn_app (goodIn_of _ (by decide +kernel)) ggX6_endParagraph_X6_of
set_option maxRecDepth 20000 in
theorem ggX6_endParagraph_X6_puts : GoodIn wsX6_endParagraph wsX6_puts := goodIn_r _ [24, 6, 35, 36, 37, 38, 39, 40, 41, 42, 43, 44, 45, 46, 47, 48, 49, 50] (by decide +kernel) (by decide +kernel)
set_option maxRecDepth 20000 in
theorem gX6_endParagraph_X6_puts : GoodIn wsX6_endParagraph (wsV RX6 98 RX6 yX6_puts wsX6_puts) := goodIn_app (goodIn_of _ (by decide +kernel)) ggX6_endParagraph_X6_puts
set_option maxRecDepth 20000 in
theorem ggX6_endParagraph_X6_ends : GoodIn wsX6_endParagraph wsX6_ends := goodIn_r _ [28, 29, 30, 16, 31, 32, 33, 4, 34, 11, 35, 36, 37, 38, 39, 40, 41, 42, 43, 44, 45, 46, 47, 48, 49, 50] (by decide +kernel) (by decide +kernel)
set_option maxRecDepth 20000 in
theorem gX6_endParagraph_X6_ends : GoodIn wsX6_endParagraph (wsV RX6 115 RX6 yX6_ends wsX6_ends) := goodIn_app (goodIn_of _ (by decide +kernel)) ggX6_endParagraph_X6_ends
theorem dX6_endParagraph_0 : decode cX6_endParagraph 0 = .ok (.aload_n 0, 1) := by decide +kernel
theorem dX6_endParagraph_1 : decode cX6_endParagraph 1 = .ok (.iload_n 1, 1) := by decide +kernel
theorem dX6_endParagraph_2 : decode cX6_endParagraph 2 = .ok (.invokevirtual 118, 3) := by decide +kernel
theorem dX6_endParagraph_5 : decode cX6_endParagraph 5 = .ok (.ifCond .ne 9, 3) := by decide +kernel
theorem dX6_endParagraph_8 : decode cX6_endParagraph 8 = .ok (.aload_n 0, 1) := by decide +kernel
theorem dX6_endParagraph_9 : decode cX6_endParagraph 9 = .ok (.iconst 1, 1) := by decide +kernel
theorem dX6_endParagraph_10 : decode cX6_endParagraph 10 = .ok (.invokevirtual 101, 3) := by decide +kernel
theorem dX6_endParagraph_13 : decode cX6_endParagraph 13 = .ok (.ireturn, 1) := by decide +kernel
theorem dX6_endParagraph_14 : decode cX6_endParagraph 14 = .ok (.aload_n 0, 1) := by decide +kernel
theorem dX6_endParagraph_15 : decode cX6_endParagraph 15 = .ok (.invokevirtual 108, 3) := by decide +kernel
theorem dX6_endParagraph_18 : decode cX6_endParagraph 18 = .ok (.aload_n 0, 1) := by decide +kernel
theorem dX6_endParagraph_19 : decode cX6_endParagraph 19 = .ok (.iload_n 1, 1) := by decide +kernel
theorem dX6_endParagraph_20 : decode cX6_endParagraph 20 = .ok (.bipush 15, 2) := by decide +kernel
theorem dX6_endParagraph_22 : decode cX6_endParagraph 22 = .ok (.invokevirtual 43, 3) := by decide +kernel
theorem dX6_endParagraph_25 : decode cX6_endParagraph 25 = .ok (.istore_n 3, 1) := by decide +kernel
theorem dX6_endParagraph_26 : decode cX6_endParagraph 26 = .ok (.aload_n 0, 1) := by decide +kernel
theorem dX6_endParagraph_27 : decode cX6_endParagraph 27 = .ok (.iload_n 1, 1) := by decide +kernel
theorem dX6_endParagraph_28 : decode cX6_endParagraph 28 = .ok (.bipush 15, 2) := by decide +kernel
theorem dX6_endParagraph_30 : decode cX6_endParagraph 30 = .ok (.iload_n 2, 1) := by decide +kernel
theorem dX6_endParagraph_31 : decode cX6_endParagraph 31 = .ok (.ifCond .eq 7, 3) := by decide +kernel
theorem dX6_endParagraph_34 : decode cX6_endParagraph 34 = .ok (.iconst 1, 1) := by decide +kernel
theorem dX6_endParagraph_35 : decode cX6_endParagraph 35 = .ok (.goto 4, 3) := by decide +kernel
theorem dX6_endParagraph_38 : decode cX6_endParagraph 38 = .ok (.iconst 0, 1) := by decide +kernel
theorem dX6_endParagraph_39 : decode cX6_endParagraph 39 = .ok (.invokevirtual 98, 3) := by decide +kernel
theorem dX6_endParagraph_42 : decode cX6_endParagraph 42 = .ok (.aload_n 0, 1) := by decide +kernel
theorem dX6_endParagraph_43 : decode cX6_endParagraph 43 = .ok (.iload_n 3, 1) := by decide +kernel
theorem dX6_endParagraph_44 : decode cX6_endParagraph 44 = .ok (.invokevirtual 115, 3) := by decide +kernel
theorem dX6_endParagraph_47 : decode cX6_endParagraph 47 = .ok (.ireturn, 1) := by decide +kernel
set_option maxRecDepth 20000 in
theorem ggX6_setSigns_X6_isWord : GoodIn wsX6_setSigns wsX6_isWord := goodIn_r _ [5, 6, 51, 52, 53, 54, 55, 56, 57, 58, 59, 60, 61, 62, 63, 64, 65, 66] (by decide +kernel) (by decide +kernel)
set_option maxRecDepth 20000 in
theorem gX6_setSigns_X6_isWord : GoodIn wsX6_setSigns (wsV RX6 118 RX6 yX6_isWord wsX6_isWord) := goodIn_app (goodIn_of _ (by decide +kernel)) ggX6_setSigns_X6_isWord
set_option maxRecDepth 20000 in
theorem ggX6_setSigns_X6_fails : GoodIn wsX6_setSigns wsX6_fails := goodIn_r _ [10, 11, 51, 52, 53, 54, 55, 56, 57, 58, 59, 60, 61, 62, 63, 64, 65, 66] (by decide +kernel) (by decide +kernel)
set_option maxRecDepth 20000 in
theorem gX6_setSigns_X6_fails : GoodIn wsX6_setSigns (wsV RX6 101 RX6 yX6_fails wsX6_fails) := goodIn_app (goodIn_of _ (by decide +kernel)) ggX6_setSigns_X6_fails
set_option maxRecDepth 20000 in
theorem ggX6_setSigns_X6_areSigns : GoodIn wsX6_setSigns wsX6_areSigns := goodIn_r _ [14, 15, 16, 4, 17] (by decide +kernel) (by decide +kernel)
set_option maxRecDepth 20000 in
theorem gX6_setSigns_X6_areSigns : GoodIn wsX6_setSigns (va_wsS RX6 104 yX6_areSigns wsX6_areSigns) := goodIn_app (goodIn_of _ (by decide +kernel)) ggX6_setSigns_X6_areSigns
set_option maxRecDepth 20000 in
theorem ggX6_setSigns_X6_hold : GoodIn wsX6_setSigns wsX6_hold := goodIn_r _ [21, 22, 6, 51, 52, 53, 54, 55, 56, 57, 58, 59, 60, 61, 62, 63, 64, 65, 66] (by decide +kernel) (by decide +kernel)
set_option maxRecDepth 20000 in
theorem gX6_setSigns_X6_hold : GoodIn wsX6_setSigns (wsV RX6 108 RX6 yX6_hold wsX6_hold) := goodIn_app (goodIn_of _ (by decide +kernel)) ggX6_setSigns_X6_hold
set_option maxRecDepth 20000 in
theorem ggX6_setSigns_X6_puts : GoodIn wsX6_setSigns wsX6_puts := goodIn_r _ [26, 6, 51, 52, 53, 54, 55, 56, 57, 58, 59, 60, 61, 62, 63, 64, 65, 66] (by decide +kernel) (by decide +kernel)
set_option maxRecDepth 20000 in
theorem gX6_setSigns_X6_puts : GoodIn wsX6_setSigns (wsV RX6 98 RX6 yX6_puts wsX6_puts) := goodIn_app (goodIn_of _ (by decide +kernel)) ggX6_setSigns_X6_puts
set_option maxRecDepth 20000 in
theorem ggX6_setSigns_X6_widthOf : GoodIn wsX6_setSigns wsX6_widthOf := goodIn_r _ [30, 31, 32, 33, 4, 34, 6, 35, 36, 37, 38, 39, 40, 51, 52, 53, 54, 55, 56, 57, 58, 59, 60, 61, 62, 63, 64, 65, 66] (by decide +kernel) (by decide +kernel)
set_option maxRecDepth 20000 in
theorem gX6_setSigns_X6_widthOf : GoodIn wsX6_setSigns (wsV RX6 65 RX6 yX6_widthOf wsX6_widthOf) := goodIn_app (goodIn_of _ (by decide +kernel)) ggX6_setSigns_X6_widthOf
set_option maxRecDepth 20000 in
theorem ggX6_setSigns_X6_ends : GoodIn wsX6_setSigns wsX6_ends := goodIn_r _ [44, 45, 46, 22, 47, 48, 49, 4, 50, 11, 51, 52, 53, 54, 55, 56, 57, 58, 59, 60, 61, 62, 63, 64, 65, 66] (by decide +kernel) (by decide +kernel)
set_option maxRecDepth 20000 in
theorem gX6_setSigns_X6_ends : GoodIn wsX6_setSigns (wsV RX6 115 RX6 yX6_ends wsX6_ends) := goodIn_app (goodIn_of _ (by decide +kernel)) ggX6_setSigns_X6_ends
theorem dX6_setSigns_0 : decode cX6_setSigns 0 = .ok (.aload_n 0, 1) := by decide +kernel
theorem dX6_setSigns_1 : decode cX6_setSigns 1 = .ok (.iload_n 1, 1) := by decide +kernel
theorem dX6_setSigns_2 : decode cX6_setSigns 2 = .ok (.invokevirtual 118, 3) := by decide +kernel
theorem dX6_setSigns_5 : decode cX6_setSigns 5 = .ok (.ifCond .ne 9, 3) := by decide +kernel
theorem dX6_setSigns_8 : decode cX6_setSigns 8 = .ok (.aload_n 0, 1) := by decide +kernel
theorem dX6_setSigns_9 : decode cX6_setSigns 9 = .ok (.iconst 1, 1) := by decide +kernel
theorem dX6_setSigns_10 : decode cX6_setSigns 10 = .ok (.invokevirtual 101, 3) := by decide +kernel
theorem dX6_setSigns_13 : decode cX6_setSigns 13 = .ok (.ireturn, 1) := by decide +kernel
theorem dX6_setSigns_14 : decode cX6_setSigns 14 = .ok (.iload_n 2, 1) := by decide +kernel
theorem dX6_setSigns_15 : decode cX6_setSigns 15 = .ok (.iload_n 3, 1) := by decide +kernel
theorem dX6_setSigns_16 : decode cX6_setSigns 16 = .ok (.invokestatic 104, 3) := by decide +kernel
theorem dX6_setSigns_19 : decode cX6_setSigns 19 = .ok (.ifCond .ne 9, 3) := by decide +kernel
theorem dX6_setSigns_22 : decode cX6_setSigns 22 = .ok (.aload_n 0, 1) := by decide +kernel
theorem dX6_setSigns_23 : decode cX6_setSigns 23 = .ok (.iconst 2, 1) := by decide +kernel
theorem dX6_setSigns_24 : decode cX6_setSigns 24 = .ok (.invokevirtual 101, 3) := by decide +kernel
theorem dX6_setSigns_27 : decode cX6_setSigns 27 = .ok (.ireturn, 1) := by decide +kernel
theorem dX6_setSigns_28 : decode cX6_setSigns 28 = .ok (.aload_n 0, 1) := by decide +kernel
theorem dX6_setSigns_29 : decode cX6_setSigns 29 = .ok (.invokevirtual 108, 3) := by decide +kernel
theorem dX6_setSigns_32 : decode cX6_setSigns 32 = .ok (.aload_n 0, 1) := by decide +kernel
theorem dX6_setSigns_33 : decode cX6_setSigns 33 = .ok (.iload_n 1, 1) := by decide +kernel
theorem dX6_setSigns_34 : decode cX6_setSigns 34 = .ok (.bipush 13, 2) := by decide +kernel
theorem dX6_setSigns_36 : decode cX6_setSigns 36 = .ok (.iload_n 2, 1) := by decide +kernel
theorem dX6_setSigns_37 : decode cX6_setSigns 37 = .ok (.invokevirtual 98, 3) := by decide +kernel
theorem dX6_setSigns_40 : decode cX6_setSigns 40 = .ok (.aload_n 0, 1) := by decide +kernel
theorem dX6_setSigns_41 : decode cX6_setSigns 41 = .ok (.iload_n 1, 1) := by decide +kernel
theorem dX6_setSigns_42 : decode cX6_setSigns 42 = .ok (.bipush 14, 2) := by decide +kernel
theorem dX6_setSigns_44 : decode cX6_setSigns 44 = .ok (.iload_n 3, 1) := by decide +kernel
theorem dX6_setSigns_45 : decode cX6_setSigns 45 = .ok (.invokevirtual 98, 3) := by decide +kernel
theorem dX6_setSigns_48 : decode cX6_setSigns 48 = .ok (.aload_n 0, 1) := by decide +kernel
theorem dX6_setSigns_49 : decode cX6_setSigns 49 = .ok (.aload_n 0, 1) := by decide +kernel
theorem dX6_setSigns_50 : decode cX6_setSigns 50 = .ok (.iload_n 1, 1) := by decide +kernel
theorem dX6_setSigns_51 : decode cX6_setSigns 51 = .ok (.invokevirtual 65, 3) := by decide +kernel
theorem dX6_setSigns_54 : decode cX6_setSigns 54 = .ok (.invokevirtual 115, 3) := by decide +kernel
theorem dX6_setSigns_57 : decode cX6_setSigns 57 = .ok (.ireturn, 1) := by decide +kernel
set_option maxRecDepth 20000 in
theorem ggX6_isSetting_X6_in : GoodIn wsX6_isSetting wsX6_in := goodIn_r _ [4] (by decide +kernel) (by decide +kernel)
set_option maxRecDepth 20000 in
theorem gX6_isSetting_X6_in : GoodIn wsX6_isSetting (va_wsS RX6 28 yX6_in wsX6_in) := goodIn_app (goodIn_of _ (by decide +kernel)) ggX6_isSetting_X6_in
theorem dX6_isSetting_0 : decode cX6_isSetting 0 = .ok (.iload_n 0, 1) := by decide +kernel
theorem dX6_isSetting_1 : decode cX6_isSetting 1 = .ok (.tableswitch 72 0 5 #[39, 49, 57, 57, 57, 65], 39) := by decide +kernel
theorem dX6_isSetting_40 : decode cX6_isSetting 40 = .ok (.iload_n 1, 1) := by decide +kernel
theorem dX6_isSetting_41 : decode cX6_isSetting 41 = .ok (.bipush 20, 2) := by decide +kernel
theorem dX6_isSetting_43 : decode cX6_isSetting 43 = .ok (.sipush 200, 3) := by decide +kernel
theorem dX6_isSetting_46 : decode cX6_isSetting 46 = .ok (.invokestatic 28, 3) := by decide +kernel
theorem dX6_isSetting_49 : decode cX6_isSetting 49 = .ok (.ireturn, 1) := by decide +kernel
theorem dX6_isSetting_50 : decode cX6_isSetting 50 = .ok (.iload_n 1, 1) := by decide +kernel
theorem dX6_isSetting_51 : decode cX6_isSetting 51 = .ok (.iconst 2, 1) := by decide +kernel
theorem dX6_isSetting_52 : decode cX6_isSetting 52 = .ok (.bipush 20, 2) := by decide +kernel
theorem dX6_isSetting_54 : decode cX6_isSetting 54 = .ok (.invokestatic 28, 3) := by decide +kernel
theorem dX6_isSetting_57 : decode cX6_isSetting 57 = .ok (.ireturn, 1) := by decide +kernel
theorem dX6_isSetting_58 : decode cX6_isSetting 58 = .ok (.iload_n 1, 1) := by decide +kernel
theorem dX6_isSetting_59 : decode cX6_isSetting 59 = .ok (.iconst 0, 1) := by decide +kernel
theorem dX6_isSetting_60 : decode cX6_isSetting 60 = .ok (.bipush 10, 2) := by decide +kernel
theorem dX6_isSetting_62 : decode cX6_isSetting 62 = .ok (.invokestatic 28, 3) := by decide +kernel
theorem dX6_isSetting_65 : decode cX6_isSetting 65 = .ok (.ireturn, 1) := by decide +kernel
theorem dX6_isSetting_66 : decode cX6_isSetting 66 = .ok (.iload_n 1, 1) := by decide +kernel
theorem dX6_isSetting_67 : decode cX6_isSetting 67 = .ok (.iconst 0, 1) := by decide +kernel
theorem dX6_isSetting_68 : decode cX6_isSetting 68 = .ok (.iconst 1, 1) := by decide +kernel
theorem dX6_isSetting_69 : decode cX6_isSetting 69 = .ok (.invokestatic 28, 3) := by decide +kernel
theorem dX6_isSetting_72 : decode cX6_isSetting 72 = .ok (.ireturn, 1) := by decide +kernel
theorem dX6_isSetting_73 : decode cX6_isSetting 73 = .ok (.iconst 0, 1) := by decide +kernel
theorem dX6_isSetting_74 : decode cX6_isSetting 74 = .ok (.ireturn, 1) := by decide +kernel
set_option maxRecDepth 20000 in
theorem ggX6_set_X6_isSetting : GoodIn wsX6_set wsX6_isSetting := goodIn_r _ [5, 6, 7, 4, 8] (by decide +kernel) (by decide +kernel)
set_option maxRecDepth 20000 in
theorem gX6_set_X6_isSetting : GoodIn wsX6_set (va_wsS RX6 121 yX6_isSetting wsX6_isSetting) := goodIn_app (goodIn_of _ (by decide +kernel)) ggX6_set_X6_isSetting
set_option maxRecDepth 20000 in
theorem ggX6_set_X6_fails : GoodIn wsX6_set wsX6_fails := goodIn_r _ [12, 13, 29, 30, 31, 32, 33, 34, 35, 36, 37, 38, 39, 40, 41, 42, 43, 44] (by decide +kernel) (by decide +kernel)
set_option maxRecDepth 20000 in
theorem gX6_set_X6_fails : GoodIn wsX6_set (wsV RX6 101 RX6 yX6_fails wsX6_fails) := goodIn_app (goodIn_of _ (by decide +kernel)) ggX6_set_X6_fails
set_option maxRecDepth 20000 in
theorem ggX6_set_X6_hold : GoodIn wsX6_set wsX6_hold := goodIn_r _ [17, 18, 1, 29, 30, 31, 32, 33, 34, 35, 36, 37, 38, 39, 40, 41, 42, 43, 44] (by decide +kernel) (by decide +kernel)
set_option maxRecDepth 20000 in
theorem gX6_set_X6_hold : GoodIn wsX6_set (wsV RX6 108 RX6 yX6_hold wsX6_hold) := goodIn_app (goodIn_of _ (by decide +kernel)) ggX6_set_X6_hold
set_option maxRecDepth 20000 in
theorem ggX6_set_X6_ends : GoodIn wsX6_set wsX6_ends := goodIn_r _ [22, 23, 24, 18, 25, 26, 27, 4, 28, 13, 29, 30, 31, 32, 33, 34, 35, 36, 37, 38, 39, 40, 41, 42, 43, 44] (by decide +kernel) (by decide +kernel)
set_option maxRecDepth 20000 in
theorem gX6_set_X6_ends : GoodIn wsX6_set (wsV RX6 115 RX6 yX6_ends wsX6_ends) := goodIn_app (goodIn_of _ (by decide +kernel)) ggX6_set_X6_ends
theorem dX6_set_0 : decode cX6_set 0 = .ok (.iload_n 1, 1) := by decide +kernel
theorem dX6_set_1 : decode cX6_set 1 = .ok (.iload_n 2, 1) := by decide +kernel
theorem dX6_set_2 : decode cX6_set 2 = .ok (.invokestatic 121, 3) := by decide +kernel
theorem dX6_set_5 : decode cX6_set 5 = .ok (.ifCond .ne 9, 3) := by decide +kernel
theorem dX6_set_8 : decode cX6_set 8 = .ok (.aload_n 0, 1) := by decide +kernel
theorem dX6_set_9 : decode cX6_set 9 = .ok (.iconst 1, 1) := by decide +kernel
theorem dX6_set_10 : decode cX6_set 10 = .ok (.invokevirtual 101, 3) := by decide +kernel
theorem dX6_set_13 : decode cX6_set 13 = .ok (.ireturn, 1) := by decide +kernel
theorem dX6_set_14 : decode cX6_set 14 = .ok (.aload_n 0, 1) := by decide +kernel
theorem dX6_set_15 : decode cX6_set 15 = .ok (.invokevirtual 108, 3) := by decide +kernel
theorem dX6_set_18 : decode cX6_set 18 = .ok (.aload_n 0, 1) := by decide +kernel
theorem dX6_set_19 : decode cX6_set 19 = .ok (.getfield 7, 3) := by decide +kernel
theorem dX6_set_22 : decode cX6_set 22 = .ok (.iload_n 1, 1) := by decide +kernel
theorem dX6_set_23 : decode cX6_set 23 = .ok (.iaload, 1) := by decide +kernel
theorem dX6_set_24 : decode cX6_set 24 = .ok (.istore_n 3, 1) := by decide +kernel
theorem dX6_set_25 : decode cX6_set 25 = .ok (.aload_n 0, 1) := by decide +kernel
theorem dX6_set_26 : decode cX6_set 26 = .ok (.getfield 7, 3) := by decide +kernel
theorem dX6_set_29 : decode cX6_set 29 = .ok (.iload_n 1, 1) := by decide +kernel
theorem dX6_set_30 : decode cX6_set 30 = .ok (.iload_n 2, 1) := by decide +kernel
theorem dX6_set_31 : decode cX6_set 31 = .ok (.iastore, 1) := by decide +kernel
theorem dX6_set_32 : decode cX6_set 32 = .ok (.aload_n 0, 1) := by decide +kernel
theorem dX6_set_33 : decode cX6_set 33 = .ok (.iload_n 3, 1) := by decide +kernel
theorem dX6_set_34 : decode cX6_set 34 = .ok (.invokevirtual 115, 3) := by decide +kernel
theorem dX6_set_37 : decode cX6_set 37 = .ok (.ireturn, 1) := by decide +kernel
set_option maxRecDepth 20000 in
theorem ggX6_setShare_X6_in : GoodIn wsX6_setShare wsX6_in := goodIn_r _ [5] (by decide +kernel) (by decide +kernel)
set_option maxRecDepth 20000 in
theorem gX6_setShare_X6_in : GoodIn wsX6_setShare (va_wsS RX6 28 yX6_in wsX6_in) := goodIn_app (goodIn_of _ (by decide +kernel)) ggX6_setShare_X6_in
set_option maxRecDepth 20000 in
theorem ggX6_setShare_X6_fails : GoodIn wsX6_setShare wsX6_fails := goodIn_r _ [9, 10, 26, 27, 28, 29, 30, 31, 32, 33, 34, 35, 36, 37, 38, 39, 40, 41] (by decide +kernel) (by decide +kernel)
set_option maxRecDepth 20000 in
theorem gX6_setShare_X6_fails : GoodIn wsX6_setShare (wsV RX6 101 RX6 yX6_fails wsX6_fails) := goodIn_app (goodIn_of _ (by decide +kernel)) ggX6_setShare_X6_fails
set_option maxRecDepth 20000 in
theorem ggX6_setShare_X6_hold : GoodIn wsX6_setShare wsX6_hold := goodIn_r _ [14, 15, 1, 26, 27, 28, 29, 30, 31, 32, 33, 34, 35, 36, 37, 38, 39, 40, 41] (by decide +kernel) (by decide +kernel)
set_option maxRecDepth 20000 in
theorem gX6_setShare_X6_hold : GoodIn wsX6_setShare (wsV RX6 108 RX6 yX6_hold wsX6_hold) := goodIn_app (goodIn_of _ (by decide +kernel)) ggX6_setShare_X6_hold
set_option maxRecDepth 20000 in
theorem ggX6_setShare_X6_ends : GoodIn wsX6_setShare wsX6_ends := goodIn_r _ [19, 20, 21, 15, 22, 23, 24, 4, 25, 10, 26, 27, 28, 29, 30, 31, 32, 33, 34, 35, 36, 37, 38, 39, 40, 41] (by decide +kernel) (by decide +kernel)
set_option maxRecDepth 20000 in
theorem gX6_setShare_X6_ends : GoodIn wsX6_setShare (wsV RX6 115 RX6 yX6_ends wsX6_ends) := goodIn_app (goodIn_of _ (by decide +kernel)) ggX6_setShare_X6_ends
theorem dX6_setShare_0 : decode cX6_setShare 0 = .ok (.iload_n 1, 1) := by decide +kernel
theorem dX6_setShare_1 : decode cX6_setShare 1 = .ok (.iconst 0, 1) := by decide +kernel
theorem dX6_setShare_2 : decode cX6_setShare 2 = .ok (.bipush 7, 2) := by decide +kernel
theorem dX6_setShare_4 : decode cX6_setShare 4 = .ok (.invokestatic 28, 3) := by decide +kernel
theorem dX6_setShare_7 : decode cX6_setShare 7 = .ok (.ifCond .ne 9, 3) := by decide +kernel
theorem dX6_setShare_10 : decode cX6_setShare 10 = .ok (.aload_n 0, 1) := by decide +kernel
theorem dX6_setShare_11 : decode cX6_setShare 11 = .ok (.iconst 1, 1) := by decide +kernel
theorem dX6_setShare_12 : decode cX6_setShare 12 = .ok (.invokevirtual 101, 3) := by decide +kernel
theorem dX6_setShare_15 : decode cX6_setShare 15 = .ok (.ireturn, 1) := by decide +kernel
theorem dX6_setShare_16 : decode cX6_setShare 16 = .ok (.iload_n 2, 1) := by decide +kernel
theorem dX6_setShare_17 : decode cX6_setShare 17 = .ok (.iconst 0, 1) := by decide +kernel
theorem dX6_setShare_18 : decode cX6_setShare 18 = .ok (.bipush 100, 2) := by decide +kernel
theorem dX6_setShare_20 : decode cX6_setShare 20 = .ok (.invokestatic 28, 3) := by decide +kernel
theorem dX6_setShare_23 : decode cX6_setShare 23 = .ok (.ifCond .ne 9, 3) := by decide +kernel
theorem dX6_setShare_26 : decode cX6_setShare 26 = .ok (.aload_n 0, 1) := by decide +kernel
theorem dX6_setShare_27 : decode cX6_setShare 27 = .ok (.iconst 2, 1) := by decide +kernel
theorem dX6_setShare_28 : decode cX6_setShare 28 = .ok (.invokevirtual 101, 3) := by decide +kernel
theorem dX6_setShare_31 : decode cX6_setShare 31 = .ok (.ireturn, 1) := by decide +kernel
theorem dX6_setShare_32 : decode cX6_setShare 32 = .ok (.aload_n 0, 1) := by decide +kernel
theorem dX6_setShare_33 : decode cX6_setShare 33 = .ok (.invokevirtual 108, 3) := by decide +kernel
theorem dX6_setShare_36 : decode cX6_setShare 36 = .ok (.aload_n 0, 1) := by decide +kernel
theorem dX6_setShare_37 : decode cX6_setShare 37 = .ok (.getfield 7, 3) := by decide +kernel
theorem dX6_setShare_40 : decode cX6_setShare 40 = .ok (.bipush 6, 2) := by decide +kernel
theorem dX6_setShare_42 : decode cX6_setShare 42 = .ok (.iload_n 1, 1) := by decide +kernel
theorem dX6_setShare_43 : decode cX6_setShare 43 = .ok (.iadd, 1) := by decide +kernel
theorem dX6_setShare_44 : decode cX6_setShare 44 = .ok (.iaload, 1) := by decide +kernel
theorem dX6_setShare_45 : decode cX6_setShare 45 = .ok (.istore_n 3, 1) := by decide +kernel
theorem dX6_setShare_46 : decode cX6_setShare 46 = .ok (.aload_n 0, 1) := by decide +kernel
theorem dX6_setShare_47 : decode cX6_setShare 47 = .ok (.getfield 7, 3) := by decide +kernel
theorem dX6_setShare_50 : decode cX6_setShare 50 = .ok (.bipush 6, 2) := by decide +kernel
theorem dX6_setShare_52 : decode cX6_setShare 52 = .ok (.iload_n 1, 1) := by decide +kernel
theorem dX6_setShare_53 : decode cX6_setShare 53 = .ok (.iadd, 1) := by decide +kernel
theorem dX6_setShare_54 : decode cX6_setShare 54 = .ok (.iload_n 2, 1) := by decide +kernel
theorem dX6_setShare_55 : decode cX6_setShare 55 = .ok (.iastore, 1) := by decide +kernel
theorem dX6_setShare_56 : decode cX6_setShare 56 = .ok (.aload_n 0, 1) := by decide +kernel
theorem dX6_setShare_57 : decode cX6_setShare 57 = .ok (.iload_n 3, 1) := by decide +kernel
theorem dX6_setShare_58 : decode cX6_setShare 58 = .ok (.invokevirtual 115, 3) := by decide +kernel
theorem dX6_setShare_61 : decode cX6_setShare 61 = .ok (.ireturn, 1) := by decide +kernel
theorem dX6_lineOf_0 : decode cX6_lineOf 0 = .ok (.iconst 0, 1) := by decide +kernel
theorem dX6_lineOf_1 : decode cX6_lineOf 1 = .ok (.istore_n 2, 1) := by decide +kernel
theorem dX6_lineOf_2 : decode cX6_lineOf 2 = .ok (.aload_n 0, 1) := by decide +kernel
theorem dX6_lineOf_3 : decode cX6_lineOf 3 = .ok (.getfield 22, 3) := by decide +kernel
theorem dX6_lineOf_6 : decode cX6_lineOf 6 = .ok (.bipush 10, 2) := by decide +kernel
theorem dX6_lineOf_8 : decode cX6_lineOf 8 = .ok (.iload_n 2, 1) := by decide +kernel
theorem dX6_lineOf_9 : decode cX6_lineOf 9 = .ok (.imul, 1) := by decide +kernel
theorem dX6_lineOf_10 : decode cX6_lineOf 10 = .ok (.iconst 1, 1) := by decide +kernel
theorem dX6_lineOf_11 : decode cX6_lineOf 11 = .ok (.iadd, 1) := by decide +kernel
theorem dX6_lineOf_12 : decode cX6_lineOf 12 = .ok (.iaload, 1) := by decide +kernel
theorem dX6_lineOf_13 : decode cX6_lineOf 13 = .ok (.aload_n 0, 1) := by decide +kernel
theorem dX6_lineOf_14 : decode cX6_lineOf 14 = .ok (.getfield 22, 3) := by decide +kernel
theorem dX6_lineOf_17 : decode cX6_lineOf 17 = .ok (.bipush 10, 2) := by decide +kernel
theorem dX6_lineOf_19 : decode cX6_lineOf 19 = .ok (.iload_n 2, 1) := by decide +kernel
theorem dX6_lineOf_20 : decode cX6_lineOf 20 = .ok (.imul, 1) := by decide +kernel
theorem dX6_lineOf_21 : decode cX6_lineOf 21 = .ok (.iconst 2, 1) := by decide +kernel
theorem dX6_lineOf_22 : decode cX6_lineOf 22 = .ok (.iadd, 1) := by decide +kernel
theorem dX6_lineOf_23 : decode cX6_lineOf 23 = .ok (.iaload, 1) := by decide +kernel
theorem dX6_lineOf_24 : decode cX6_lineOf 24 = .ok (.iadd, 1) := by decide +kernel
theorem dX6_lineOf_25 : decode cX6_lineOf 25 = .ok (.iload_n 1, 1) := by decide +kernel
theorem dX6_lineOf_26 : decode cX6_lineOf 26 = .ok (.if_icmp .gt 9, 3) := by decide +kernel
theorem dX6_lineOf_29 : decode cX6_lineOf 29 = .ok (.iinc 2 1, 3) := by decide +kernel
theorem dX6_lineOf_32 : decode cX6_lineOf 32 = .ok (.goto (-30), 3) := by decide +kernel
theorem dX6_lineOf_35 : decode cX6_lineOf 35 = .ok (.iload_n 2, 1) := by decide +kernel
theorem dX6_lineOf_36 : decode cX6_lineOf 36 = .ok (.ireturn, 1) := by decide +kernel
set_option maxRecDepth 20000 in
theorem ggX6_edgeOf_X6_lineOf : GoodIn wsX6_edgeOf wsX6_lineOf := goodIn_r _ [6, 1, 22, 23, 24, 25, 26, 27, 28, 29, 30, 31, 32, 33, 34, 35, 36, 37] (by decide +kernel) (by decide +kernel)
set_option maxRecDepth 20000 in
theorem gX6_edgeOf_X6_lineOf : GoodIn wsX6_edgeOf (wsV RX6 124 RX6 yX6_lineOf wsX6_lineOf) := goodIn_app (goodIn_of _ (by decide +kernel)) ggX6_edgeOf_X6_lineOf
set_option maxRecDepth 20000 in
theorem ggX6_edgeOf_X6_widthOf : GoodIn wsX6_edgeOf wsX6_widthOf := goodIn_r _ [10, 11, 12, 13, 5, 14, 15, 16, 17, 18, 19, 20, 21, 22, 23, 24, 25, 26, 27, 28, 29, 30, 31, 32, 33, 34, 35, 36, 37] (by decide +kernel) (by decide +kernel)
set_option maxRecDepth 20000 in
theorem gX6_edgeOf_X6_widthOf : GoodIn wsX6_edgeOf (wsV RX6 65 RX6 yX6_widthOf wsX6_widthOf) := goodIn_app (goodIn_of _ (by decide +kernel)) ggX6_edgeOf_X6_widthOf
theorem dX6_edgeOf_0 : decode cX6_edgeOf 0 = .ok (.aload_n 0, 1) := by decide +kernel
theorem dX6_edgeOf_1 : decode cX6_edgeOf 1 = .ok (.iload_n 1, 1) := by decide +kernel
theorem dX6_edgeOf_2 : decode cX6_edgeOf 2 = .ok (.invokevirtual 124, 3) := by decide +kernel
theorem dX6_edgeOf_5 : decode cX6_edgeOf 5 = .ok (.istore_n 2, 1) := by decide +kernel
theorem dX6_edgeOf_6 : decode cX6_edgeOf 6 = .ok (.aload_n 0, 1) := by decide +kernel
theorem dX6_edgeOf_7 : decode cX6_edgeOf 7 = .ok (.getfield 22, 3) := by decide +kernel
theorem dX6_edgeOf_10 : decode cX6_edgeOf 10 = .ok (.bipush 10, 2) := by decide +kernel
theorem dX6_edgeOf_12 : decode cX6_edgeOf 12 = .ok (.iload_n 2, 1) := by decide +kernel
theorem dX6_edgeOf_13 : decode cX6_edgeOf 13 = .ok (.imul, 1) := by decide +kernel
theorem dX6_edgeOf_14 : decode cX6_edgeOf 14 = .ok (.iconst 5, 1) := by decide +kernel
theorem dX6_edgeOf_15 : decode cX6_edgeOf 15 = .ok (.iadd, 1) := by decide +kernel
theorem dX6_edgeOf_16 : decode cX6_edgeOf 16 = .ok (.iaload, 1) := by decide +kernel
theorem dX6_edgeOf_17 : decode cX6_edgeOf 17 = .ok (.ineg, 1) := by decide +kernel
theorem dX6_edgeOf_18 : decode cX6_edgeOf 18 = .ok (.istore_n 3, 1) := by decide +kernel
theorem dX6_edgeOf_19 : decode cX6_edgeOf 19 = .ok (.aload_n 0, 1) := by decide +kernel
theorem dX6_edgeOf_20 : decode cX6_edgeOf 20 = .ok (.getfield 22, 3) := by decide +kernel
theorem dX6_edgeOf_23 : decode cX6_edgeOf 23 = .ok (.bipush 10, 2) := by decide +kernel
theorem dX6_edgeOf_25 : decode cX6_edgeOf 25 = .ok (.iload_n 2, 1) := by decide +kernel
theorem dX6_edgeOf_26 : decode cX6_edgeOf 26 = .ok (.imul, 1) := by decide +kernel
theorem dX6_edgeOf_27 : decode cX6_edgeOf 27 = .ok (.iconst 1, 1) := by decide +kernel
theorem dX6_edgeOf_28 : decode cX6_edgeOf 28 = .ok (.iadd, 1) := by decide +kernel
theorem dX6_edgeOf_29 : decode cX6_edgeOf 29 = .ok (.iaload, 1) := by decide +kernel
theorem dX6_edgeOf_30 : decode cX6_edgeOf 30 = .ok (.istore 4, 2) := by decide +kernel
theorem dX6_edgeOf_32 : decode cX6_edgeOf 32 = .ok (.iload 4, 2) := by decide +kernel
theorem dX6_edgeOf_34 : decode cX6_edgeOf 34 = .ok (.iload_n 1, 1) := by decide +kernel
theorem dX6_edgeOf_35 : decode cX6_edgeOf 35 = .ok (.if_icmp .ge 20, 3) := by decide +kernel
theorem dX6_edgeOf_38 : decode cX6_edgeOf 38 = .ok (.iload_n 3, 1) := by decide +kernel
theorem dX6_edgeOf_39 : decode cX6_edgeOf 39 = .ok (.aload_n 0, 1) := by decide +kernel
theorem dX6_edgeOf_40 : decode cX6_edgeOf 40 = .ok (.iload 4, 2) := by decide +kernel
theorem dX6_edgeOf_42 : decode cX6_edgeOf 42 = .ok (.invokevirtual 65, 3) := by decide +kernel
theorem dX6_edgeOf_45 : decode cX6_edgeOf 45 = .ok (.iconst 2, 1) := by decide +kernel
theorem dX6_edgeOf_46 : decode cX6_edgeOf 46 = .ok (.iadd, 1) := by decide +kernel
theorem dX6_edgeOf_47 : decode cX6_edgeOf 47 = .ok (.iadd, 1) := by decide +kernel
theorem dX6_edgeOf_48 : decode cX6_edgeOf 48 = .ok (.istore_n 3, 1) := by decide +kernel
theorem dX6_edgeOf_49 : decode cX6_edgeOf 49 = .ok (.iinc 4 1, 3) := by decide +kernel
theorem dX6_edgeOf_52 : decode cX6_edgeOf 52 = .ok (.goto (-20), 3) := by decide +kernel
theorem dX6_edgeOf_55 : decode cX6_edgeOf 55 = .ok (.iload_n 3, 1) := by decide +kernel
theorem dX6_edgeOf_56 : decode cX6_edgeOf 56 = .ok (.ireturn, 1) := by decide +kernel
set_option maxRecDepth 20000 in
theorem ggX6_wordOf_X6_lineOf : GoodIn wsX6_wordOf wsX6_lineOf := goodIn_r _ [6, 1, 26, 27, 28, 29, 30, 31, 32, 33, 34, 35, 36, 37, 38, 39, 40, 41] (by decide +kernel) (by decide +kernel)
set_option maxRecDepth 20000 in
theorem gX6_wordOf_X6_lineOf : GoodIn wsX6_wordOf (wsV RX6 124 RX6 yX6_lineOf wsX6_lineOf) := goodIn_app (goodIn_of _ (by decide +kernel)) ggX6_wordOf_X6_lineOf
set_option maxRecDepth 20000 in
theorem ggX6_wordOf_X6_of : GoodIn wsX6_wordOf wsX6_of := goodIn_r _ [10, 11, 26, 27, 28, 29, 30, 31, 32, 33, 34, 35, 36, 37, 38, 39, 40, 41] (by decide +kernel) (by decide +kernel)
set_option maxRecDepth 20000 in
theorem gX6_wordOf_X6_of : GoodIn wsX6_wordOf (wsV RX6 43 RX6 yX6_of wsX6_of) := goodIn_app (goodIn_of _ (by decide +kernel)) ggX6_wordOf_X6_of
set_option maxRecDepth 20000 in
theorem ggX6_wordOf_X6_widthOf : GoodIn wsX6_wordOf wsX6_widthOf := goodIn_r _ [15, 7, 8, 9, 5, 10, 11, 16, 17, 18, 19, 20, 21, 26, 27, 28, 29, 30, 31, 32, 33, 34, 35, 36, 37, 38, 39, 40, 41] (by decide +kernel) (by decide +kernel)
set_option maxRecDepth 20000 in
theorem gX6_wordOf_X6_widthOf : GoodIn wsX6_wordOf (wsV RX6 65 RX6 yX6_widthOf wsX6_widthOf) := goodIn_app (goodIn_of _ (by decide +kernel)) ggX6_wordOf_X6_widthOf
set_option maxRecDepth 20000 in
theorem ggX6_wordOf_X6_edgeOf : GoodIn wsX6_wordOf wsX6_edgeOf := goodIn_r _ [25, 1, 2, 3, 4, 5, 6, 12, 13, 14, 15, 7, 8, 9, 10, 11, 16, 17, 18, 19, 20, 21, 26, 27, 28, 29, 30, 31, 32, 33, 34, 35, 36, 37, 38, 39, 40, 41] (by decide +kernel) (by decide +kernel)
set_option maxRecDepth 20000 in
theorem gX6_wordOf_X6_edgeOf : GoodIn wsX6_wordOf (wsV RX6 127 RX6 yX6_edgeOf wsX6_edgeOf) := goodIn_app (goodIn_of _ (by decide +kernel)) ggX6_wordOf_X6_edgeOf
theorem dX6_wordOf_0 : decode cX6_wordOf 0 = .ok (.aload_n 0, 1) := by decide +kernel
theorem dX6_wordOf_1 : decode cX6_wordOf 1 = .ok (.iload_n 1, 1) := by decide +kernel
theorem dX6_wordOf_2 : decode cX6_wordOf 2 = .ok (.invokevirtual 124, 3) := by decide +kernel
theorem dX6_wordOf_5 : decode cX6_wordOf 5 = .ok (.istore_n 3, 1) := by decide +kernel
theorem dX6_wordOf_6 : decode cX6_wordOf 6 = .ok (.iload_n 2, 1) := by decide +kernel
theorem dX6_wordOf_7 : decode cX6_wordOf 7 = .ok (.tableswitch 95 0 7 #[45, 53, 59, 59, 59, 69, 71, 85], 45) := by decide +kernel
theorem dX6_wordOf_52 : decode cX6_wordOf 52 = .ok (.aload_n 0, 1) := by decide +kernel
theorem dX6_wordOf_53 : decode cX6_wordOf 53 = .ok (.iload_n 1, 1) := by decide +kernel
theorem dX6_wordOf_54 : decode cX6_wordOf 54 = .ok (.bipush 12, 2) := by decide +kernel
theorem dX6_wordOf_56 : decode cX6_wordOf 56 = .ok (.invokevirtual 43, 3) := by decide +kernel
theorem dX6_wordOf_59 : decode cX6_wordOf 59 = .ok (.ireturn, 1) := by decide +kernel
theorem dX6_wordOf_60 : decode cX6_wordOf 60 = .ok (.aload_n 0, 1) := by decide +kernel
theorem dX6_wordOf_61 : decode cX6_wordOf 61 = .ok (.iload_n 1, 1) := by decide +kernel
theorem dX6_wordOf_62 : decode cX6_wordOf 62 = .ok (.invokevirtual 65, 3) := by decide +kernel
theorem dX6_wordOf_65 : decode cX6_wordOf 65 = .ok (.ireturn, 1) := by decide +kernel
theorem dX6_wordOf_66 : decode cX6_wordOf 66 = .ok (.aload_n 0, 1) := by decide +kernel
theorem dX6_wordOf_67 : decode cX6_wordOf 67 = .ok (.iload_n 1, 1) := by decide +kernel
theorem dX6_wordOf_68 : decode cX6_wordOf 68 = .ok (.iload_n 2, 1) := by decide +kernel
theorem dX6_wordOf_69 : decode cX6_wordOf 69 = .ok (.bipush 11, 2) := by decide +kernel
theorem dX6_wordOf_71 : decode cX6_wordOf 71 = .ok (.iadd, 1) := by decide +kernel
theorem dX6_wordOf_72 : decode cX6_wordOf 72 = .ok (.invokevirtual 43, 3) := by decide +kernel
theorem dX6_wordOf_75 : decode cX6_wordOf 75 = .ok (.ireturn, 1) := by decide +kernel
theorem dX6_wordOf_76 : decode cX6_wordOf 76 = .ok (.iload_n 3, 1) := by decide +kernel
theorem dX6_wordOf_77 : decode cX6_wordOf 77 = .ok (.ireturn, 1) := by decide +kernel
theorem dX6_wordOf_78 : decode cX6_wordOf 78 = .ok (.iload_n 1, 1) := by decide +kernel
theorem dX6_wordOf_79 : decode cX6_wordOf 79 = .ok (.aload_n 0, 1) := by decide +kernel
theorem dX6_wordOf_80 : decode cX6_wordOf 80 = .ok (.getfield 22, 3) := by decide +kernel
theorem dX6_wordOf_83 : decode cX6_wordOf 83 = .ok (.bipush 10, 2) := by decide +kernel
theorem dX6_wordOf_85 : decode cX6_wordOf 85 = .ok (.iload_n 3, 1) := by decide +kernel
theorem dX6_wordOf_86 : decode cX6_wordOf 86 = .ok (.imul, 1) := by decide +kernel
theorem dX6_wordOf_87 : decode cX6_wordOf 87 = .ok (.iconst 1, 1) := by decide +kernel
theorem dX6_wordOf_88 : decode cX6_wordOf 88 = .ok (.iadd, 1) := by decide +kernel
theorem dX6_wordOf_89 : decode cX6_wordOf 89 = .ok (.iaload, 1) := by decide +kernel
theorem dX6_wordOf_90 : decode cX6_wordOf 90 = .ok (.isub, 1) := by decide +kernel
theorem dX6_wordOf_91 : decode cX6_wordOf 91 = .ok (.ireturn, 1) := by decide +kernel
theorem dX6_wordOf_92 : decode cX6_wordOf 92 = .ok (.aload_n 0, 1) := by decide +kernel
theorem dX6_wordOf_93 : decode cX6_wordOf 93 = .ok (.getfield 22, 3) := by decide +kernel
theorem dX6_wordOf_96 : decode cX6_wordOf 96 = .ok (.bipush 10, 2) := by decide +kernel
theorem dX6_wordOf_98 : decode cX6_wordOf 98 = .ok (.iload_n 3, 1) := by decide +kernel
theorem dX6_wordOf_99 : decode cX6_wordOf 99 = .ok (.imul, 1) := by decide +kernel
theorem dX6_wordOf_100 : decode cX6_wordOf 100 = .ok (.iaload, 1) := by decide +kernel
theorem dX6_wordOf_101 : decode cX6_wordOf 101 = .ok (.ireturn, 1) := by decide +kernel
theorem dX6_wordOf_102 : decode cX6_wordOf 102 = .ok (.aload_n 0, 1) := by decide +kernel
theorem dX6_wordOf_103 : decode cX6_wordOf 103 = .ok (.iload_n 1, 1) := by decide +kernel
theorem dX6_wordOf_104 : decode cX6_wordOf 104 = .ok (.invokevirtual 127, 3) := by decide +kernel
theorem dX6_wordOf_107 : decode cX6_wordOf 107 = .ok (.ireturn, 1) := by decide +kernel
set_option maxRecDepth 20000 in
theorem ggX6_word_X6_isWord : GoodIn wsX6_word wsX6_isWord := goodIn_r _ [5, 6, 76, 77, 78, 79, 80, 81, 82, 83, 84, 85, 86, 87, 88, 89, 90, 91] (by decide +kernel) (by decide +kernel)
set_option maxRecDepth 20000 in
theorem gX6_word_X6_isWord : GoodIn wsX6_word (wsV RX6 118 RX6 yX6_isWord wsX6_isWord) := goodIn_app (goodIn_of _ (by decide +kernel)) ggX6_word_X6_isWord
set_option maxRecDepth 20000 in
theorem ggX6_word_X6_fails : GoodIn wsX6_word wsX6_fails := goodIn_r _ [10, 11, 76, 77, 78, 79, 80, 81, 82, 83, 84, 85, 86, 87, 88, 89, 90, 91] (by decide +kernel) (by decide +kernel)
set_option maxRecDepth 20000 in
theorem gX6_word_X6_fails : GoodIn wsX6_word (wsV RX6 101 RX6 yX6_fails wsX6_fails) := goodIn_app (goodIn_of _ (by decide +kernel)) ggX6_word_X6_fails
set_option maxRecDepth 20000 in
theorem ggX6_word_X6_in : GoodIn wsX6_word wsX6_in := goodIn_r _ [14] (by decide +kernel) (by decide +kernel)
set_option maxRecDepth 20000 in
theorem gX6_word_X6_in : GoodIn wsX6_word (va_wsS RX6 28 yX6_in wsX6_in) := goodIn_app (goodIn_of _ (by decide +kernel)) ggX6_word_X6_in
set_option maxRecDepth 20000 in
theorem ggX6_word_X6_makes : GoodIn wsX6_word wsX6_makes := goodIn_r _ [18, 6, 19, 20, 21, 4, 22, 23, 24, 25, 26, 27, 28, 29, 30, 31, 32, 33, 34, 35, 36, 37, 38, 39, 40, 41, 42, 43, 44, 45, 46, 47, 48, 49, 50, 51, 52, 53, 54, 55, 56, 57, 58, 59, 76, 77, 78, 79, 80, 81, 82, 83, 84, 85, 86, 87, 88, 89, 90, 91] (by decide +kernel) (by decide +kernel)
set_option maxRecDepth 20000 in
theorem gX6_word_X6_makes : GoodIn wsX6_word (wsV RX6 130 RX6 yX6_makes wsX6_makes) := goodIn_app (goodIn_of _ (by decide +kernel)) ggX6_word_X6_makes
set_option maxRecDepth 20000 in
theorem ggX6_word_X6_wordOf : GoodIn wsX6_word wsX6_wordOf := goodIn_r _ [63, 32, 64, 65, 66, 4, 67, 38, 39, 40, 41, 6, 49, 50, 51, 52, 46, 47, 48, 53, 54, 55, 68, 69, 70, 71, 76, 77, 78, 79, 80, 81, 82, 83, 84, 85, 86, 87, 88, 89, 90, 91] (by decide +kernel) (by decide +kernel)
set_option maxRecDepth 20000 in
theorem gX6_word_X6_wordOf : GoodIn wsX6_word (wsV RX6 133 RX6 yX6_wordOf wsX6_wordOf) := goodIn_app (goodIn_of _ (by decide +kernel)) ggX6_word_X6_wordOf
set_option maxRecDepth 20000 in
theorem ggX6_word_X6_tells : GoodIn wsX6_word wsX6_tells := goodIn_r _ [75, 11, 76, 77, 78, 79, 80, 81, 82, 83, 84, 85, 86, 87, 88, 89, 90, 91] (by decide +kernel) (by decide +kernel)
set_option maxRecDepth 20000 in
theorem gX6_word_X6_tells : GoodIn wsX6_word (wsV RX6 39 RX6 yX6_tells wsX6_tells) := goodIn_app (goodIn_of _ (by decide +kernel)) ggX6_word_X6_tells
theorem dX6_word_0 : decode cX6_word 0 = .ok (.aload_n 0, 1) := by decide +kernel
theorem dX6_word_1 : decode cX6_word 1 = .ok (.iload_n 1, 1) := by decide +kernel
theorem dX6_word_2 : decode cX6_word 2 = .ok (.invokevirtual 118, 3) := by decide +kernel
theorem dX6_word_5 : decode cX6_word 5 = .ok (.ifCond .ne 9, 3) := by decide +kernel
theorem dX6_word_8 : decode cX6_word 8 = .ok (.aload_n 0, 1) := by decide +kernel
theorem dX6_word_9 : decode cX6_word 9 = .ok (.iconst 1, 1) := by decide +kernel
theorem dX6_word_10 : decode cX6_word 10 = .ok (.invokevirtual 101, 3) := by decide +kernel
theorem dX6_word_13 : decode cX6_word 13 = .ok (.ireturn, 1) := by decide +kernel
theorem dX6_word_14 : decode cX6_word 14 = .ok (.iload_n 2, 1) := by decide +kernel
theorem dX6_word_15 : decode cX6_word 15 = .ok (.iconst 0, 1) := by decide +kernel
theorem dX6_word_16 : decode cX6_word 16 = .ok (.bipush 8, 2) := by decide +kernel
theorem dX6_word_18 : decode cX6_word 18 = .ok (.invokestatic 28, 3) := by decide +kernel
theorem dX6_word_21 : decode cX6_word 21 = .ok (.ifCond .ne 9, 3) := by decide +kernel
theorem dX6_word_24 : decode cX6_word 24 = .ok (.aload_n 0, 1) := by decide +kernel
theorem dX6_word_25 : decode cX6_word 25 = .ok (.iconst 2, 1) := by decide +kernel
theorem dX6_word_26 : decode cX6_word 26 = .ok (.invokevirtual 101, 3) := by decide +kernel
theorem dX6_word_29 : decode cX6_word 29 = .ok (.ireturn, 1) := by decide +kernel
theorem dX6_word_30 : decode cX6_word 30 = .ok (.aload_n 0, 1) := by decide +kernel
theorem dX6_word_31 : decode cX6_word 31 = .ok (.invokevirtual 130, 3) := by decide +kernel
theorem dX6_word_34 : decode cX6_word 34 = .ok (.aload_n 0, 1) := by decide +kernel
theorem dX6_word_35 : decode cX6_word 35 = .ok (.aload_n 0, 1) := by decide +kernel
theorem dX6_word_36 : decode cX6_word 36 = .ok (.iload_n 1, 1) := by decide +kernel
theorem dX6_word_37 : decode cX6_word 37 = .ok (.iload_n 2, 1) := by decide +kernel
theorem dX6_word_38 : decode cX6_word 38 = .ok (.invokevirtual 133, 3) := by decide +kernel
theorem dX6_word_41 : decode cX6_word 41 = .ok (.invokevirtual 39, 3) := by decide +kernel
theorem dX6_word_44 : decode cX6_word 44 = .ok (.ireturn, 1) := by decide +kernel
set_option maxRecDepth 20000 in
theorem ggX6_lineTold_X6_endsOneThere : GoodIn wsX6_lineTold wsX6_endsOneThere := goodIn_r _ [6, 1, 7, 8, 9, 5, 10, 11, 12, 13, 14, 15, 24, 25, 26, 27, 28, 29, 30, 31, 32, 33, 34, 35, 36, 37, 38, 39] (by decide +kernel) (by decide +kernel)
set_option maxRecDepth 20000 in
theorem gX6_lineTold_X6_endsOneThere : GoodIn wsX6_lineTold (wsV RX6 92 RX6 yX6_endsOneThere wsX6_endsOneThere) := goodIn_app (goodIn_of _ (by decide +kernel)) ggX6_lineTold_X6_endsOneThere
set_option maxRecDepth 20000 in
theorem ggX6_lineTold_X6_empty : GoodIn wsX6_lineTold wsX6_empty := goodIn_r _ [19, 1, 20, 21, 22, 5, 23, 24, 25, 26, 27, 28, 29, 30, 31, 32, 33, 34, 35, 36, 37, 38, 39] (by decide +kernel) (by decide +kernel)
set_option maxRecDepth 20000 in
theorem gX6_lineTold_X6_empty : GoodIn wsX6_lineTold (wsV RX6 95 RX6 yX6_empty wsX6_empty) := goodIn_app (goodIn_of _ (by decide +kernel)) ggX6_lineTold_X6_empty
theorem dX6_lineTold_0 : decode cX6_lineTold 0 = .ok (.iload_n 2, 1) := by decide +kernel
theorem dX6_lineTold_1 : decode cX6_lineTold 1 = .ok (.bipush 10, 2) := by decide +kernel
theorem dX6_lineTold_3 : decode cX6_lineTold 3 = .ok (.if_icmp .ge 17, 3) := by decide +kernel
theorem dX6_lineTold_6 : decode cX6_lineTold 6 = .ok (.aload_n 0, 1) := by decide +kernel
theorem dX6_lineTold_7 : decode cX6_lineTold 7 = .ok (.getfield 22, 3) := by decide +kernel
theorem dX6_lineTold_10 : decode cX6_lineTold 10 = .ok (.bipush 10, 2) := by decide +kernel
theorem dX6_lineTold_12 : decode cX6_lineTold 12 = .ok (.iload_n 1, 1) := by decide +kernel
theorem dX6_lineTold_13 : decode cX6_lineTold 13 = .ok (.imul, 1) := by decide +kernel
theorem dX6_lineTold_14 : decode cX6_lineTold 14 = .ok (.iload_n 2, 1) := by decide +kernel
theorem dX6_lineTold_15 : decode cX6_lineTold 15 = .ok (.iadd, 1) := by decide +kernel
theorem dX6_lineTold_16 : decode cX6_lineTold 16 = .ok (.iaload, 1) := by decide +kernel
theorem dX6_lineTold_17 : decode cX6_lineTold 17 = .ok (.goto 30, 3) := by decide +kernel
theorem dX6_lineTold_20 : decode cX6_lineTold 20 = .ok (.iload_n 2, 1) := by decide +kernel
theorem dX6_lineTold_21 : decode cX6_lineTold 21 = .ok (.bipush 10, 2) := by decide +kernel
theorem dX6_lineTold_23 : decode cX6_lineTold 23 = .ok (.if_icmp .ne 19, 3) := by decide +kernel
theorem dX6_lineTold_26 : decode cX6_lineTold 26 = .ok (.aload_n 0, 1) := by decide +kernel
theorem dX6_lineTold_27 : decode cX6_lineTold 27 = .ok (.iload_n 1, 1) := by decide +kernel
theorem dX6_lineTold_28 : decode cX6_lineTold 28 = .ok (.invokevirtual 92, 3) := by decide +kernel
theorem dX6_lineTold_31 : decode cX6_lineTold 31 = .ok (.ifCond .eq 7, 3) := by decide +kernel
theorem dX6_lineTold_34 : decode cX6_lineTold 34 = .ok (.iconst 1, 1) := by decide +kernel
theorem dX6_lineTold_35 : decode cX6_lineTold 35 = .ok (.goto 12, 3) := by decide +kernel
theorem dX6_lineTold_38 : decode cX6_lineTold 38 = .ok (.iconst 0, 1) := by decide +kernel
theorem dX6_lineTold_39 : decode cX6_lineTold 39 = .ok (.goto 8, 3) := by decide +kernel
theorem dX6_lineTold_42 : decode cX6_lineTold 42 = .ok (.aload_n 0, 1) := by decide +kernel
theorem dX6_lineTold_43 : decode cX6_lineTold 43 = .ok (.iload_n 1, 1) := by decide +kernel
theorem dX6_lineTold_44 : decode cX6_lineTold 44 = .ok (.invokevirtual 95, 3) := by decide +kernel
theorem dX6_lineTold_47 : decode cX6_lineTold 47 = .ok (.ireturn, 1) := by decide +kernel
set_option maxRecDepth 20000 in
theorem ggX6_line_X6_makes : GoodIn wsX6_line wsX6_makes := goodIn_r _ [6, 7, 8, 9, 10, 5, 11, 12, 13, 14, 1, 15, 16, 17, 18, 19, 20, 21, 22, 23, 24, 25, 26, 27, 28, 29, 30, 31, 32, 33, 34, 35, 36, 37, 38, 39, 40, 41, 42, 43, 44, 45, 46, 47, 76, 77, 78, 79, 80, 81, 82, 83, 84, 85, 86, 87, 88, 89, 90, 91] (by decide +kernel) (by decide +kernel)
set_option maxRecDepth 20000 in
theorem gX6_line_X6_makes : GoodIn wsX6_line (wsV RX6 130 RX6 yX6_makes wsX6_makes) := goodIn_app (goodIn_of _ (by decide +kernel)) ggX6_line_X6_makes
set_option maxRecDepth 20000 in
theorem ggX6_line_X6_fails : GoodIn wsX6_line wsX6_fails := goodIn_r _ [51, 52, 76, 77, 78, 79, 80, 81, 82, 83, 84, 85, 86, 87, 88, 89, 90, 91] (by decide +kernel) (by decide +kernel)
set_option maxRecDepth 20000 in
theorem gX6_line_X6_fails : GoodIn wsX6_line (wsV RX6 101 RX6 yX6_fails wsX6_fails) := goodIn_app (goodIn_of _ (by decide +kernel)) ggX6_line_X6_fails
set_option maxRecDepth 20000 in
theorem ggX6_line_X6_in : GoodIn wsX6_line wsX6_in := goodIn_r _ [55] (by decide +kernel) (by decide +kernel)
set_option maxRecDepth 20000 in
theorem gX6_line_X6_in : GoodIn wsX6_line (va_wsS RX6 28 yX6_in wsX6_in) := goodIn_app (goodIn_of _ (by decide +kernel)) ggX6_line_X6_in
set_option maxRecDepth 20000 in
theorem ggX6_line_X6_lineTold : GoodIn wsX6_line wsX6_lineTold := goodIn_r _ [59, 20, 60, 61, 62, 5, 63, 44, 45, 46, 47, 7, 26, 27, 28, 29, 64, 65, 66, 67, 68, 69, 70, 71, 76, 77, 78, 79, 80, 81, 82, 83, 84, 85, 86, 87, 88, 89, 90, 91] (by decide +kernel) (by decide +kernel)
set_option maxRecDepth 20000 in
theorem gX6_line_X6_lineTold : GoodIn wsX6_line (wsV RX6 136 RX6 yX6_lineTold wsX6_lineTold) := goodIn_app (goodIn_of _ (by decide +kernel)) ggX6_line_X6_lineTold
set_option maxRecDepth 20000 in
theorem ggX6_line_X6_tells : GoodIn wsX6_line wsX6_tells := goodIn_r _ [75, 52, 76, 77, 78, 79, 80, 81, 82, 83, 84, 85, 86, 87, 88, 89, 90, 91] (by decide +kernel) (by decide +kernel)
set_option maxRecDepth 20000 in
theorem gX6_line_X6_tells : GoodIn wsX6_line (wsV RX6 39 RX6 yX6_tells wsX6_tells) := goodIn_app (goodIn_of _ (by decide +kernel)) ggX6_line_X6_tells
theorem dX6_line_0 : decode cX6_line 0 = .ok (.aload_n 0, 1) := by decide +kernel
theorem dX6_line_1 : decode cX6_line 1 = .ok (.invokevirtual 130, 3) := by decide +kernel
theorem dX6_line_4 : decode cX6_line 4 = .ok (.iload_n 1, 1) := by decide +kernel
theorem dX6_line_5 : decode cX6_line 5 = .ok (.ifCond .lt 11, 3) := by decide +kernel
theorem dX6_line_8 : decode cX6_line 8 = .ok (.iload_n 1, 1) := by decide +kernel
theorem dX6_line_9 : decode cX6_line 9 = .ok (.aload_n 0, 1) := by decide +kernel
theorem dX6_line_10 : decode cX6_line 10 = .ok (.getfield 53, 3) := by decide +kernel
theorem dX6_line_13 : decode cX6_line 13 = .ok (.if_icmp .lt 9, 3) := by decide +kernel
theorem dX6_line_16 : decode cX6_line 16 = .ok (.aload_n 0, 1) := by decide +kernel
theorem dX6_line_17 : decode cX6_line 17 = .ok (.iconst 1, 1) := by decide +kernel
theorem dX6_line_18 : decode cX6_line 18 = .ok (.invokevirtual 101, 3) := by decide +kernel
theorem dX6_line_21 : decode cX6_line 21 = .ok (.ireturn, 1) := by decide +kernel
theorem dX6_line_22 : decode cX6_line 22 = .ok (.iload_n 2, 1) := by decide +kernel
theorem dX6_line_23 : decode cX6_line 23 = .ok (.iconst 0, 1) := by decide +kernel
theorem dX6_line_24 : decode cX6_line 24 = .ok (.bipush 11, 2) := by decide +kernel
theorem dX6_line_26 : decode cX6_line 26 = .ok (.invokestatic 28, 3) := by decide +kernel
theorem dX6_line_29 : decode cX6_line 29 = .ok (.ifCond .eq 16, 3) := by decide +kernel
theorem dX6_line_32 : decode cX6_line 32 = .ok (.aload_n 0, 1) := by decide +kernel
theorem dX6_line_33 : decode cX6_line 33 = .ok (.aload_n 0, 1) := by decide +kernel
theorem dX6_line_34 : decode cX6_line 34 = .ok (.iload_n 1, 1) := by decide +kernel
theorem dX6_line_35 : decode cX6_line 35 = .ok (.iload_n 2, 1) := by decide +kernel
theorem dX6_line_36 : decode cX6_line 36 = .ok (.invokevirtual 136, 3) := by decide +kernel
theorem dX6_line_39 : decode cX6_line 39 = .ok (.invokevirtual 39, 3) := by decide +kernel
theorem dX6_line_42 : decode cX6_line 42 = .ok (.goto 8, 3) := by decide +kernel
theorem dX6_line_45 : decode cX6_line 45 = .ok (.aload_n 0, 1) := by decide +kernel
theorem dX6_line_46 : decode cX6_line 46 = .ok (.iconst 2, 1) := by decide +kernel
theorem dX6_line_47 : decode cX6_line 47 = .ok (.invokevirtual 101, 3) := by decide +kernel
theorem dX6_line_50 : decode cX6_line 50 = .ok (.ireturn, 1) := by decide +kernel
set_option maxRecDepth 20000 in
theorem ggX6_pageTold_X6_lent : GoodIn wsX6_pageTold wsX6_lent := goodIn_r _ [7, 2, 8, 9, 10, 11, 12, 13, 14, 15, 16, 17, 18, 19, 20, 21, 22, 23] (by decide +kernel) (by decide +kernel)
set_option maxRecDepth 20000 in
theorem gX6_pageTold_X6_lent : GoodIn wsX6_pageTold (wsV RX6 89 RX6 yX6_lent wsX6_lent) := goodIn_app (goodIn_of _ (by decide +kernel)) ggX6_pageTold_X6_lent
theorem dX6_pageTold_0 : decode cX6_pageTold 0 = .ok (.aload_n 0, 1) := by decide +kernel
theorem dX6_pageTold_1 : decode cX6_pageTold 1 = .ok (.getfield 25, 3) := by decide +kernel
theorem dX6_pageTold_4 : decode cX6_pageTold 4 = .ok (.iconst 3, 1) := by decide +kernel
theorem dX6_pageTold_5 : decode cX6_pageTold 5 = .ok (.iload_n 1, 1) := by decide +kernel
theorem dX6_pageTold_6 : decode cX6_pageTold 6 = .ok (.imul, 1) := by decide +kernel
theorem dX6_pageTold_7 : decode cX6_pageTold 7 = .ok (.iaload, 1) := by decide +kernel
theorem dX6_pageTold_8 : decode cX6_pageTold 8 = .ok (.istore_n 3, 1) := by decide +kernel
theorem dX6_pageTold_9 : decode cX6_pageTold 9 = .ok (.iload_n 3, 1) := by decide +kernel
theorem dX6_pageTold_10 : decode cX6_pageTold 10 = .ok (.aload_n 0, 1) := by decide +kernel
theorem dX6_pageTold_11 : decode cX6_pageTold 11 = .ok (.getfield 25, 3) := by decide +kernel
theorem dX6_pageTold_14 : decode cX6_pageTold 14 = .ok (.iconst 3, 1) := by decide +kernel
theorem dX6_pageTold_15 : decode cX6_pageTold 15 = .ok (.iload_n 1, 1) := by decide +kernel
theorem dX6_pageTold_16 : decode cX6_pageTold 16 = .ok (.imul, 1) := by decide +kernel
theorem dX6_pageTold_17 : decode cX6_pageTold 17 = .ok (.iconst 1, 1) := by decide +kernel
theorem dX6_pageTold_18 : decode cX6_pageTold 18 = .ok (.iadd, 1) := by decide +kernel
theorem dX6_pageTold_19 : decode cX6_pageTold 19 = .ok (.iaload, 1) := by decide +kernel
theorem dX6_pageTold_20 : decode cX6_pageTold 20 = .ok (.iadd, 1) := by decide +kernel
theorem dX6_pageTold_21 : decode cX6_pageTold 21 = .ok (.istore 4, 2) := by decide +kernel
theorem dX6_pageTold_23 : decode cX6_pageTold 23 = .ok (.iload_n 2, 1) := by decide +kernel
theorem dX6_pageTold_24 : decode cX6_pageTold 24 = .ok (.iconst 4, 1) := by decide +kernel
theorem dX6_pageTold_25 : decode cX6_pageTold 25 = .ok (.if_icmp .ne 16, 3) := by decide +kernel
theorem dX6_pageTold_28 : decode cX6_pageTold 28 = .ok (.aload_n 0, 1) := by decide +kernel
theorem dX6_pageTold_29 : decode cX6_pageTold 29 = .ok (.getfield 22, 3) := by decide +kernel
theorem dX6_pageTold_32 : decode cX6_pageTold 32 = .ok (.bipush 10, 2) := by decide +kernel
theorem dX6_pageTold_34 : decode cX6_pageTold 34 = .ok (.iload 4, 2) := by decide +kernel
theorem dX6_pageTold_36 : decode cX6_pageTold 36 = .ok (.imul, 1) := by decide +kernel
theorem dX6_pageTold_37 : decode cX6_pageTold 37 = .ok (.iconst 2, 1) := by decide +kernel
theorem dX6_pageTold_38 : decode cX6_pageTold 38 = .ok (.isub, 1) := by decide +kernel
theorem dX6_pageTold_39 : decode cX6_pageTold 39 = .ok (.iaload, 1) := by decide +kernel
theorem dX6_pageTold_40 : decode cX6_pageTold 40 = .ok (.ireturn, 1) := by decide +kernel
theorem dX6_pageTold_41 : decode cX6_pageTold 41 = .ok (.iload_n 2, 1) := by decide +kernel
theorem dX6_pageTold_42 : decode cX6_pageTold 42 = .ok (.iconst 2, 1) := by decide +kernel
theorem dX6_pageTold_43 : decode cX6_pageTold 43 = .ok (.if_icmp .lt 8, 3) := by decide +kernel
theorem dX6_pageTold_46 : decode cX6_pageTold 46 = .ok (.iload_n 2, 1) := by decide +kernel
theorem dX6_pageTold_47 : decode cX6_pageTold 47 = .ok (.iconst 5, 1) := by decide +kernel
theorem dX6_pageTold_48 : decode cX6_pageTold 48 = .ok (.if_icmp .ne 32, 3) := by decide +kernel
theorem dX6_pageTold_51 : decode cX6_pageTold 51 = .ok (.iload_n 2, 1) := by decide +kernel
theorem dX6_pageTold_52 : decode cX6_pageTold 52 = .ok (.iconst 5, 1) := by decide +kernel
theorem dX6_pageTold_53 : decode cX6_pageTold 53 = .ok (.if_icmp .ne 16, 3) := by decide +kernel
theorem dX6_pageTold_56 : decode cX6_pageTold 56 = .ok (.aload_n 0, 1) := by decide +kernel
theorem dX6_pageTold_57 : decode cX6_pageTold 57 = .ok (.getfield 25, 3) := by decide +kernel
theorem dX6_pageTold_60 : decode cX6_pageTold 60 = .ok (.iconst 3, 1) := by decide +kernel
theorem dX6_pageTold_61 : decode cX6_pageTold 61 = .ok (.iload_n 1, 1) := by decide +kernel
theorem dX6_pageTold_62 : decode cX6_pageTold 62 = .ok (.imul, 1) := by decide +kernel
theorem dX6_pageTold_63 : decode cX6_pageTold 63 = .ok (.iconst 2, 1) := by decide +kernel
theorem dX6_pageTold_64 : decode cX6_pageTold 64 = .ok (.iadd, 1) := by decide +kernel
theorem dX6_pageTold_65 : decode cX6_pageTold 65 = .ok (.iaload, 1) := by decide +kernel
theorem dX6_pageTold_66 : decode cX6_pageTold 66 = .ok (.goto 13, 3) := by decide +kernel
theorem dX6_pageTold_69 : decode cX6_pageTold 69 = .ok (.aload_n 0, 1) := by decide +kernel
theorem dX6_pageTold_70 : decode cX6_pageTold 70 = .ok (.getfield 25, 3) := by decide +kernel
theorem dX6_pageTold_73 : decode cX6_pageTold 73 = .ok (.iconst 3, 1) := by decide +kernel
theorem dX6_pageTold_74 : decode cX6_pageTold 74 = .ok (.iload_n 1, 1) := by decide +kernel
theorem dX6_pageTold_75 : decode cX6_pageTold 75 = .ok (.imul, 1) := by decide +kernel
theorem dX6_pageTold_76 : decode cX6_pageTold 76 = .ok (.iload_n 2, 1) := by decide +kernel
theorem dX6_pageTold_77 : decode cX6_pageTold 77 = .ok (.iadd, 1) := by decide +kernel
theorem dX6_pageTold_78 : decode cX6_pageTold 78 = .ok (.iaload, 1) := by decide +kernel
theorem dX6_pageTold_79 : decode cX6_pageTold 79 = .ok (.ireturn, 1) := by decide +kernel
theorem dX6_pageTold_80 : decode cX6_pageTold 80 = .ok (.iconst 0, 1) := by decide +kernel
theorem dX6_pageTold_81 : decode cX6_pageTold 81 = .ok (.istore 5, 2) := by decide +kernel
theorem dX6_pageTold_83 : decode cX6_pageTold 83 = .ok (.iload_n 3, 1) := by decide +kernel
theorem dX6_pageTold_84 : decode cX6_pageTold 84 = .ok (.istore 6, 2) := by decide +kernel
theorem dX6_pageTold_86 : decode cX6_pageTold 86 = .ok (.iload 6, 2) := by decide +kernel
theorem dX6_pageTold_88 : decode cX6_pageTold 88 = .ok (.iload 4, 2) := by decide +kernel
theorem dX6_pageTold_90 : decode cX6_pageTold 90 = .ok (.if_icmp .ge 41, 3) := by decide +kernel
theorem dX6_pageTold_93 : decode cX6_pageTold 93 = .ok (.iload 5, 2) := by decide +kernel
theorem dX6_pageTold_95 : decode cX6_pageTold 95 = .ok (.iload_n 2, 1) := by decide +kernel
theorem dX6_pageTold_96 : decode cX6_pageTold 96 = .ok (.iconst 2, 1) := by decide +kernel
theorem dX6_pageTold_97 : decode cX6_pageTold 97 = .ok (.if_icmp .ne 12, 3) := by decide +kernel
theorem dX6_pageTold_100 : decode cX6_pageTold 100 = .ok (.aload_n 0, 1) := by decide +kernel
theorem dX6_pageTold_101 : decode cX6_pageTold 101 = .ok (.iload 6, 2) := by decide +kernel
theorem dX6_pageTold_103 : decode cX6_pageTold 103 = .ok (.invokevirtual 89, 3) := by decide +kernel
theorem dX6_pageTold_106 : decode cX6_pageTold 106 = .ok (.goto 16, 3) := by decide +kernel
theorem dX6_pageTold_109 : decode cX6_pageTold 109 = .ok (.aload_n 0, 1) := by decide +kernel
theorem dX6_pageTold_110 : decode cX6_pageTold 110 = .ok (.getfield 22, 3) := by decide +kernel
theorem dX6_pageTold_113 : decode cX6_pageTold 113 = .ok (.bipush 10, 2) := by decide +kernel
theorem dX6_pageTold_115 : decode cX6_pageTold 115 = .ok (.iload 6, 2) := by decide +kernel
theorem dX6_pageTold_117 : decode cX6_pageTold 117 = .ok (.imul, 1) := by decide +kernel
theorem dX6_pageTold_118 : decode cX6_pageTold 118 = .ok (.bipush 7, 2) := by decide +kernel
