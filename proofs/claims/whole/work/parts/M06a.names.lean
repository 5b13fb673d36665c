set_option maxRecDepth 20000 in
theorem ggX6_init_X6_in : GoodIn wsX6_init wsX6_in := goodIn_r _ [14] (by decide +kernel) (by decide +kernel)
set_option maxRecDepth 20000 in
theorem gX6_init_X6_in : GoodIn wsX6_init (va_wsS RX6 28 yX6_in wsX6_in) := goodIn_app (goodIn_of _ (by decide +kernel)) ggX6_init_X6_in
theorem dX6_init_0 : decode cX6_init 0 = .ok (.aload_n 0, 1) := by decide +kernel
theorem dX6_init_1 : decode cX6_init 1 = .ok (.invokespecial 1, 3) := by decide +kernel
theorem dX6_init_4 : decode cX6_init 4 = .ok (.aload_n 0, 1) := by decide +kernel
theorem dX6_init_5 : decode cX6_init 5 = .ok (.sipush 975, 3) := by decide +kernel
theorem dX6_init_8 : decode cX6_init 8 = .ok (.newarray .int, 2) := by decide +kernel
theorem dX6_init_10 : decode cX6_init 10 = .ok (.putfield 7, 3) := by decide +kernel
theorem dX6_init_13 : decode cX6_init 13 = .ok (.aload_n 0, 1) := by decide +kernel
theorem dX6_init_14 : decode cX6_init 14 = .ok (.sipush 3900, 3) := by decide +kernel
theorem dX6_init_17 : decode cX6_init 17 = .ok (.newarray .int, 2) := by decide +kernel
theorem dX6_init_19 : decode cX6_init 19 = .ok (.putfield 13, 3) := by decide +kernel
theorem dX6_init_22 : decode cX6_init 22 = .ok (.aload_n 0, 1) := by decide +kernel
theorem dX6_init_23 : decode cX6_init 23 = .ok (.sipush 975, 3) := by decide +kernel
theorem dX6_init_26 : decode cX6_init 26 = .ok (.newarray .int, 2) := by decide +kernel
theorem dX6_init_28 : decode cX6_init 28 = .ok (.putfield 16, 3) := by decide +kernel
theorem dX6_init_31 : decode cX6_init 31 = .ok (.aload_n 0, 1) := by decide +kernel
theorem dX6_init_32 : decode cX6_init 32 = .ok (.sipush 200, 3) := by decide +kernel
theorem dX6_init_35 : decode cX6_init 35 = .ok (.newarray .int, 2) := by decide +kernel
theorem dX6_init_37 : decode cX6_init 37 = .ok (.putfield 19, 3) := by decide +kernel
theorem dX6_init_40 : decode cX6_init 40 = .ok (.aload_n 0, 1) := by decide +kernel
theorem dX6_init_41 : decode cX6_init 41 = .ok (.sipush 600, 3) := by decide +kernel
theorem dX6_init_44 : decode cX6_init 44 = .ok (.newarray .int, 2) := by decide +kernel
theorem dX6_init_46 : decode cX6_init 46 = .ok (.putfield 22, 3) := by decide +kernel
theorem dX6_init_49 : decode cX6_init 49 = .ok (.aload_n 0, 1) := by decide +kernel
theorem dX6_init_50 : decode cX6_init 50 = .ok (.sipush 180, 3) := by decide +kernel
theorem dX6_init_53 : decode cX6_init 53 = .ok (.newarray .int, 2) := by decide +kernel
theorem dX6_init_55 : decode cX6_init 55 = .ok (.putfield 25, 3) := by decide +kernel
theorem dX6_init_58 : decode cX6_init 58 = .ok (.aload_n 0, 1) := by decide +kernel
theorem dX6_init_59 : decode cX6_init 59 = .ok (.getfield 7, 3) := by decide +kernel
theorem dX6_init_62 : decode cX6_init 62 = .ok (.iconst 0, 1) := by decide +kernel
theorem dX6_init_63 : decode cX6_init 63 = .ok (.bipush 60, 2) := by decide +kernel
theorem dX6_init_65 : decode cX6_init 65 = .ok (.iastore, 1) := by decide +kernel
theorem dX6_init_66 : decode cX6_init 66 = .ok (.aload_n 0, 1) := by decide +kernel
theorem dX6_init_67 : decode cX6_init 67 = .ok (.getfield 7, 3) := by decide +kernel
theorem dX6_init_70 : decode cX6_init 70 = .ok (.iconst 1, 1) := by decide +kernel
theorem dX6_init_71 : decode cX6_init 71 = .ok (.bipush 6, 2) := by decide +kernel
theorem dX6_init_73 : decode cX6_init 73 = .ok (.iastore, 1) := by decide +kernel
theorem dX6_init_74 : decode cX6_init 74 = .ok (.aload_n 0, 1) := by decide +kernel
theorem dX6_init_75 : decode cX6_init 75 = .ok (.getfield 7, 3) := by decide +kernel
theorem dX6_init_78 : decode cX6_init 78 = .ok (.iconst 2, 1) := by decide +kernel
theorem dX6_init_79 : decode cX6_init 79 = .ok (.iconst 3, 1) := by decide +kernel
theorem dX6_init_80 : decode cX6_init 80 = .ok (.iastore, 1) := by decide +kernel
theorem dX6_init_81 : decode cX6_init 81 = .ok (.aload_n 0, 1) := by decide +kernel
theorem dX6_init_82 : decode cX6_init 82 = .ok (.getfield 7, 3) := by decide +kernel
theorem dX6_init_85 : decode cX6_init 85 = .ok (.iconst 3, 1) := by decide +kernel
theorem dX6_init_86 : decode cX6_init 86 = .ok (.iconst 3, 1) := by decide +kernel
theorem dX6_init_87 : decode cX6_init 87 = .ok (.iastore, 1) := by decide +kernel
theorem dX6_init_88 : decode cX6_init 88 = .ok (.aload_n 0, 1) := by decide +kernel
theorem dX6_init_89 : decode cX6_init 89 = .ok (.getfield 7, 3) := by decide +kernel
theorem dX6_init_92 : decode cX6_init 92 = .ok (.iconst 4, 1) := by decide +kernel
theorem dX6_init_93 : decode cX6_init 93 = .ok (.iconst 2, 1) := by decide +kernel
theorem dX6_init_94 : decode cX6_init 94 = .ok (.iastore, 1) := by decide +kernel
theorem dX6_init_95 : decode cX6_init 95 = .ok (.aload_n 0, 1) := by decide +kernel
theorem dX6_init_96 : decode cX6_init 96 = .ok (.getfield 7, 3) := by decide +kernel
theorem dX6_init_99 : decode cX6_init 99 = .ok (.iconst 5, 1) := by decide +kernel
theorem dX6_init_100 : decode cX6_init 100 = .ok (.iconst 1, 1) := by decide +kernel
theorem dX6_init_101 : decode cX6_init 101 = .ok (.iastore, 1) := by decide +kernel
theorem dX6_init_102 : decode cX6_init 102 = .ok (.iconst 0, 1) := by decide +kernel
theorem dX6_init_103 : decode cX6_init 103 = .ok (.istore_n 1, 1) := by decide +kernel
theorem dX6_init_104 : decode cX6_init 104 = .ok (.iload_n 1, 1) := by decide +kernel
theorem dX6_init_105 : decode cX6_init 105 = .ok (.bipush 8, 2) := by decide +kernel
theorem dX6_init_107 : decode cX6_init 107 = .ok (.if_icmp .ge 34, 3) := by decide +kernel
theorem dX6_init_110 : decode cX6_init 110 = .ok (.aload_n 0, 1) := by decide +kernel
theorem dX6_init_111 : decode cX6_init 111 = .ok (.getfield 7, 3) := by decide +kernel
theorem dX6_init_114 : decode cX6_init 114 = .ok (.bipush 6, 2) := by decide +kernel
theorem dX6_init_116 : decode cX6_init 116 = .ok (.iload_n 1, 1) := by decide +kernel
theorem dX6_init_117 : decode cX6_init 117 = .ok (.iadd, 1) := by decide +kernel
theorem dX6_init_118 : decode cX6_init 118 = .ok (.iload_n 1, 1) := by decide +kernel
theorem dX6_init_119 : decode cX6_init 119 = .ok (.iconst 3, 1) := by decide +kernel
theorem dX6_init_120 : decode cX6_init 120 = .ok (.iconst 5, 1) := by decide +kernel
theorem dX6_init_121 : decode cX6_init 121 = .ok (.invokestatic 28, 3) := by decide +kernel
theorem dX6_init_124 : decode cX6_init 124 = .ok (.ifCond .eq 8, 3) := by decide +kernel
theorem dX6_init_127 : decode cX6_init 127 = .ok (.bipush 100, 2) := by decide +kernel
theorem dX6_init_129 : decode cX6_init 129 = .ok (.goto 5, 3) := by decide +kernel
theorem dX6_init_132 : decode cX6_init 132 = .ok (.bipush 50, 2) := by decide +kernel
theorem dX6_init_134 : decode cX6_init 134 = .ok (.iastore, 1) := by decide +kernel
theorem dX6_init_135 : decode cX6_init 135 = .ok (.iinc 1 1, 3) := by decide +kernel
theorem dX6_init_138 : decode cX6_init 138 = .ok (.goto (-34), 3) := by decide +kernel
theorem dX6_init_141 : decode cX6_init 141 = .ok (.return_, 1) := by decide +kernel
theorem dX6_thrown_0 : decode cX6_thrown 0 = .ok (.aload_n 0, 1) := by decide +kernel
theorem dX6_thrown_1 : decode cX6_thrown 1 = .ok (.getfield 32, 3) := by decide +kernel
theorem dX6_thrown_4 : decode cX6_thrown 4 = .ok (.ireturn, 1) := by decide +kernel
theorem dX6_in_0 : decode cX6_in 0 = .ok (.iload_n 0, 1) := by decide +kernel
theorem dX6_in_1 : decode cX6_in 1 = .ok (.iload_n 1, 1) := by decide +kernel
theorem dX6_in_2 : decode cX6_in 2 = .ok (.if_icmp .lt 12, 3) := by decide +kernel
theorem dX6_in_5 : decode cX6_in 5 = .ok (.iload_n 0, 1) := by decide +kernel
theorem dX6_in_6 : decode cX6_in 6 = .ok (.iload_n 2, 1) := by decide +kernel
theorem dX6_in_7 : decode cX6_in 7 = .ok (.if_icmp .gt 7, 3) := by decide +kernel
theorem dX6_in_10 : decode cX6_in 10 = .ok (.iconst 1, 1) := by decide +kernel
theorem dX6_in_11 : decode cX6_in 11 = .ok (.goto 4, 3) := by decide +kernel
theorem dX6_in_14 : decode cX6_in 14 = .ok (.iconst 0, 1) := by decide +kernel
theorem dX6_in_15 : decode cX6_in 15 = .ok (.ireturn, 1) := by decide +kernel
theorem dX6_fails_0 : decode cX6_fails 0 = .ok (.aload_n 0, 1) := by decide +kernel
theorem dX6_fails_1 : decode cX6_fails 1 = .ok (.iload_n 1, 1) := by decide +kernel
theorem dX6_fails_2 : decode cX6_fails 2 = .ok (.putfield 32, 3) := by decide +kernel
theorem dX6_fails_5 : decode cX6_fails 5 = .ok (.iconst 0, 1) := by decide +kernel
theorem dX6_fails_6 : decode cX6_fails 6 = .ok (.ireturn, 1) := by decide +kernel
theorem dX6_tells_0 : decode cX6_tells 0 = .ok (.aload_n 0, 1) := by decide +kernel
theorem dX6_tells_1 : decode cX6_tells 1 = .ok (.iconst 0, 1) := by decide +kernel
theorem dX6_tells_2 : decode cX6_tells 2 = .ok (.putfield 32, 3) := by decide +kernel
theorem dX6_tells_5 : decode cX6_tells 5 = .ok (.iload_n 1, 1) := by decide +kernel
theorem dX6_tells_6 : decode cX6_tells 6 = .ok (.ireturn, 1) := by decide +kernel
theorem dX6_hold_0 : decode cX6_hold 0 = .ok (.iconst 0, 1) := by decide +kernel
theorem dX6_hold_1 : decode cX6_hold 1 = .ok (.istore_n 1, 1) := by decide +kernel
theorem dX6_hold_2 : decode cX6_hold 2 = .ok (.iload_n 1, 1) := by decide +kernel
theorem dX6_hold_3 : decode cX6_hold 3 = .ok (.sipush 975, 3) := by decide +kernel
theorem dX6_hold_6 : decode cX6_hold 6 = .ok (.if_icmp .ge 21, 3) := by decide +kernel
theorem dX6_hold_9 : decode cX6_hold 9 = .ok (.aload_n 0, 1) := by decide +kernel
theorem dX6_hold_10 : decode cX6_hold 10 = .ok (.getfield 16, 3) := by decide +kernel
theorem dX6_hold_13 : decode cX6_hold 13 = .ok (.iload_n 1, 1) := by decide +kernel
theorem dX6_hold_14 : decode cX6_hold 14 = .ok (.aload_n 0, 1) := by decide +kernel
theorem dX6_hold_15 : decode cX6_hold 15 = .ok (.getfield 7, 3) := by decide +kernel
theorem dX6_hold_18 : decode cX6_hold 18 = .ok (.iload_n 1, 1) := by decide +kernel
theorem dX6_hold_19 : decode cX6_hold 19 = .ok (.iaload, 1) := by decide +kernel
theorem dX6_hold_20 : decode cX6_hold 20 = .ok (.iastore, 1) := by decide +kernel
theorem dX6_hold_21 : decode cX6_hold 21 = .ok (.iinc 1 1, 3) := by decide +kernel
theorem dX6_hold_24 : decode cX6_hold 24 = .ok (.goto (-22), 3) := by decide +kernel
theorem dX6_hold_27 : decode cX6_hold 27 = .ok (.return_, 1) := by decide +kernel
set_option maxRecDepth 20000 in
theorem ggX6_ends_X6_tells : GoodIn wsX6_ends wsX6_tells := goodIn_r _ [8, 9, 10, 11, 12, 13, 14, 15, 16, 17, 18, 19, 20, 21, 22, 23, 24, 25] (by decide +kernel) (by decide +kernel)
set_option maxRecDepth 20000 in
theorem gX6_ends_X6_tells : GoodIn wsX6_ends (wsV RX6 39 RX6 yX6_tells wsX6_tells) := goodIn_app (goodIn_of _ (by decide +kernel)) ggX6_ends_X6_tells
theorem dX6_ends_0 : decode cX6_ends 0 = .ok (.aload_n 0, 1) := by decide +kernel
theorem dX6_ends_1 : decode cX6_ends 1 = .ok (.getfield 36, 3) := by decide +kernel
theorem dX6_ends_4 : decode cX6_ends 4 = .ok (.iconst 4, 1) := by decide +kernel
theorem dX6_ends_5 : decode cX6_ends 5 = .ok (.if_icmp .ne 44, 3) := by decide +kernel
theorem dX6_ends_8 : decode cX6_ends 8 = .ok (.iconst 0, 1) := by decide +kernel
theorem dX6_ends_9 : decode cX6_ends 9 = .ok (.istore_n 2, 1) := by decide +kernel
theorem dX6_ends_10 : decode cX6_ends 10 = .ok (.iload_n 2, 1) := by decide +kernel
theorem dX6_ends_11 : decode cX6_ends 11 = .ok (.sipush 2925, 3) := by decide +kernel
theorem dX6_ends_14 : decode cX6_ends 14 = .ok (.if_icmp .ge 25, 3) := by decide +kernel
theorem dX6_ends_17 : decode cX6_ends 17 = .ok (.aload_n 0, 1) := by decide +kernel
theorem dX6_ends_18 : decode cX6_ends 18 = .ok (.getfield 13, 3) := by decide +kernel
theorem dX6_ends_21 : decode cX6_ends 21 = .ok (.iload_n 2, 1) := by decide +kernel
theorem dX6_ends_22 : decode cX6_ends 22 = .ok (.aload_n 0, 1) := by decide +kernel
theorem dX6_ends_23 : decode cX6_ends 23 = .ok (.getfield 13, 3) := by decide +kernel
theorem dX6_ends_26 : decode cX6_ends 26 = .ok (.iload_n 2, 1) := by decide +kernel
theorem dX6_ends_27 : decode cX6_ends 27 = .ok (.sipush 975, 3) := by decide +kernel
theorem dX6_ends_30 : decode cX6_ends 30 = .ok (.iadd, 1) := by decide +kernel
theorem dX6_ends_31 : decode cX6_ends 31 = .ok (.iaload, 1) := by decide +kernel
theorem dX6_ends_32 : decode cX6_ends 32 = .ok (.iastore, 1) := by decide +kernel
theorem dX6_ends_33 : decode cX6_ends 33 = .ok (.iinc 2 1, 3) := by decide +kernel
theorem dX6_ends_36 : decode cX6_ends 36 = .ok (.goto (-26), 3) := by decide +kernel
theorem dX6_ends_39 : decode cX6_ends 39 = .ok (.aload_n 0, 1) := by decide +kernel
theorem dX6_ends_40 : decode cX6_ends 40 = .ok (.dup, 1) := by decide +kernel
theorem dX6_ends_41 : decode cX6_ends 41 = .ok (.getfield 36, 3) := by decide +kernel
theorem dX6_ends_44 : decode cX6_ends 44 = .ok (.iconst 1, 1) := by decide +kernel
theorem dX6_ends_45 : decode cX6_ends 45 = .ok (.isub, 1) := by decide +kernel
theorem dX6_ends_46 : decode cX6_ends 46 = .ok (.putfield 36, 3) := by decide +kernel
theorem dX6_ends_49 : decode cX6_ends 49 = .ok (.iconst 0, 1) := by decide +kernel
theorem dX6_ends_50 : decode cX6_ends 50 = .ok (.istore_n 2, 1) := by decide +kernel
theorem dX6_ends_51 : decode cX6_ends 51 = .ok (.iload_n 2, 1) := by decide +kernel
theorem dX6_ends_52 : decode cX6_ends 52 = .ok (.sipush 975, 3) := by decide +kernel
theorem dX6_ends_55 : decode cX6_ends 55 = .ok (.if_icmp .ge 30, 3) := by decide +kernel
theorem dX6_ends_58 : decode cX6_ends 58 = .ok (.aload_n 0, 1) := by decide +kernel
theorem dX6_ends_59 : decode cX6_ends 59 = .ok (.getfield 13, 3) := by decide +kernel
theorem dX6_ends_62 : decode cX6_ends 62 = .ok (.sipush 975, 3) := by decide +kernel
theorem dX6_ends_65 : decode cX6_ends 65 = .ok (.aload_n 0, 1) := by decide +kernel
theorem dX6_ends_66 : decode cX6_ends 66 = .ok (.getfield 36, 3) := by decide +kernel
theorem dX6_ends_69 : decode cX6_ends 69 = .ok (.imul, 1) := by decide +kernel
theorem dX6_ends_70 : decode cX6_ends 70 = .ok (.iload_n 2, 1) := by decide +kernel
theorem dX6_ends_71 : decode cX6_ends 71 = .ok (.iadd, 1) := by decide +kernel
theorem dX6_ends_72 : decode cX6_ends 72 = .ok (.aload_n 0, 1) := by decide +kernel
theorem dX6_ends_73 : decode cX6_ends 73 = .ok (.getfield 16, 3) := by decide +kernel
theorem dX6_ends_76 : decode cX6_ends 76 = .ok (.iload_n 2, 1) := by decide +kernel
theorem dX6_ends_77 : decode cX6_ends 77 = .ok (.iaload, 1) := by decide +kernel
theorem dX6_ends_78 : decode cX6_ends 78 = .ok (.iastore, 1) := by decide +kernel
theorem dX6_ends_79 : decode cX6_ends 79 = .ok (.iinc 2 1, 3) := by decide +kernel
theorem dX6_ends_82 : decode cX6_ends 82 = .ok (.goto (-31), 3) := by decide +kernel
theorem dX6_ends_85 : decode cX6_ends 85 = .ok (.aload_n 0, 1) := by decide +kernel
theorem dX6_ends_86 : decode cX6_ends 86 = .ok (.dup, 1) := by decide +kernel
theorem dX6_ends_87 : decode cX6_ends 87 = .ok (.getfield 36, 3) := by decide +kernel
theorem dX6_ends_90 : decode cX6_ends 90 = .ok (.iconst 1, 1) := by decide +kernel
theorem dX6_ends_91 : decode cX6_ends 91 = .ok (.iadd, 1) := by decide +kernel
theorem dX6_ends_92 : decode cX6_ends 92 = .ok (.putfield 36, 3) := by decide +kernel
theorem dX6_ends_95 : decode cX6_ends 95 = .ok (.aload_n 0, 1) := by decide +kernel
theorem dX6_ends_96 : decode cX6_ends 96 = .ok (.iload_n 1, 1) := by decide +kernel
theorem dX6_ends_97 : decode cX6_ends 97 = .ok (.invokevirtual 39, 3) := by decide +kernel
theorem dX6_ends_100 : decode cX6_ends 100 = .ok (.ireturn, 1) := by decide +kernel
theorem dX6_of_0 : decode cX6_of 0 = .ok (.aload_n 0, 1) := by decide +kernel
theorem dX6_of_1 : decode cX6_of 1 = .ok (.getfield 7, 3) := by decide +kernel
theorem dX6_of_4 : decode cX6_of 4 = .ok (.bipush 15, 2) := by decide +kernel
theorem dX6_of_6 : decode cX6_of 6 = .ok (.bipush 16, 2) := by decide +kernel
theorem dX6_of_8 : decode cX6_of 8 = .ok (.iload_n 1, 1) := by decide +kernel
theorem dX6_of_9 : decode cX6_of 9 = .ok (.imul, 1) := by decide +kernel
theorem dX6_of_10 : decode cX6_of 10 = .ok (.iadd, 1) := by decide +kernel
theorem dX6_of_11 : decode cX6_of 11 = .ok (.iload_n 2, 1) := by decide +kernel
theorem dX6_of_12 : decode cX6_of 12 = .ok (.iadd, 1) := by decide +kernel
theorem dX6_of_13 : decode cX6_of 13 = .ok (.iaload, 1) := by decide +kernel
theorem dX6_of_14 : decode cX6_of 14 = .ok (.ireturn, 1) := by decide +kernel
theorem dX6_puts_0 : decode cX6_puts 0 = .ok (.aload_n 0, 1) := by decide +kernel
theorem dX6_puts_1 : decode cX6_puts 1 = .ok (.getfield 7, 3) := by decide +kernel
theorem dX6_puts_4 : decode cX6_puts 4 = .ok (.bipush 15, 2) := by decide +kernel
theorem dX6_puts_6 : decode cX6_puts 6 = .ok (.bipush 16, 2) := by decide +kernel
theorem dX6_puts_8 : decode cX6_puts 8 = .ok (.iload_n 1, 1) := by decide +kernel
theorem dX6_puts_9 : decode cX6_puts 9 = .ok (.imul, 1) := by decide +kernel
theorem dX6_puts_10 : decode cX6_puts 10 = .ok (.iadd, 1) := by decide +kernel
theorem dX6_puts_11 : decode cX6_puts 11 = .ok (.iload_n 2, 1) := by decide +kernel
theorem dX6_puts_12 : decode cX6_puts 12 = .ok (.iadd, 1) := by decide +kernel
theorem dX6_puts_13 : decode cX6_puts 13 = .ok (.iload_n 3, 1) := by decide +kernel
theorem dX6_puts_14 : decode cX6_puts 14 = .ok (.iastore, 1) := by decide +kernel
theorem dX6_puts_15 : decode cX6_puts 15 = .ok (.return_, 1) := by decide +kernel
theorem dX6_isWord_0 : decode cX6_isWord 0 = .ok (.iload_n 1, 1) := by decide +kernel
theorem dX6_isWord_1 : decode cX6_isWord 1 = .ok (.ifCond .lt 18, 3) := by decide +kernel
theorem dX6_isWord_4 : decode cX6_isWord 4 = .ok (.iload_n 1, 1) := by decide +kernel
theorem dX6_isWord_5 : decode cX6_isWord 5 = .ok (.aload_n 0, 1) := by decide +kernel
theorem dX6_isWord_6 : decode cX6_isWord 6 = .ok (.getfield 7, 3) := by decide +kernel
theorem dX6_isWord_9 : decode cX6_isWord 9 = .ok (.bipush 14, 2) := by decide +kernel
theorem dX6_isWord_11 : decode cX6_isWord 11 = .ok (.iaload, 1) := by decide +kernel
theorem dX6_isWord_12 : decode cX6_isWord 12 = .ok (.if_icmp .ge 7, 3) := by decide +kernel
theorem dX6_isWord_15 : decode cX6_isWord 15 = .ok (.iconst 1, 1) := by decide +kernel
theorem dX6_isWord_16 : decode cX6_isWord 16 = .ok (.goto 4, 3) := by decide +kernel
theorem dX6_isWord_19 : decode cX6_isWord 19 = .ok (.iconst 0, 1) := by decide +kernel
theorem dX6_isWord_20 : decode cX6_isWord 20 = .ok (.ireturn, 1) := by decide +kernel
theorem dX6_widthOfSign_0 : decode cX6_widthOfSign 0 = .ok (.iload_n 0, 1) := by decide +kernel
theorem dX6_widthOfSign_1 : decode cX6_widthOfSign 1 = .ok (.iconst (-1), 1) := by decide +kernel
theorem dX6_widthOfSign_2 : decode cX6_widthOfSign 2 = .ok (.if_icmp .ne 7, 3) := by decide +kernel
theorem dX6_widthOfSign_5 : decode cX6_widthOfSign 5 = .ok (.iconst 0, 1) := by decide +kernel
theorem dX6_widthOfSign_6 : decode cX6_widthOfSign 6 = .ok (.goto 17, 3) := by decide +kernel
theorem dX6_widthOfSign_9 : decode cX6_widthOfSign 9 = .ok (.iload_n 0, 1) := by decide +kernel
theorem dX6_widthOfSign_10 : decode cX6_widthOfSign 10 = .ok (.ifCond .eq 8, 3) := by decide +kernel
theorem dX6_widthOfSign_13 : decode cX6_widthOfSign 13 = .ok (.iload_n 0, 1) := by decide +kernel
theorem dX6_widthOfSign_14 : decode cX6_widthOfSign 14 = .ok (.iconst 5, 1) := by decide +kernel
theorem dX6_widthOfSign_15 : decode cX6_widthOfSign 15 = .ok (.if_icmp .ne 7, 3) := by decide +kernel
theorem dX6_widthOfSign_18 : decode cX6_widthOfSign 18 = .ok (.iconst 3, 1) := by decide +kernel
theorem dX6_widthOfSign_19 : decode cX6_widthOfSign 19 = .ok (.goto 4, 3) := by decide +kernel
theorem dX6_widthOfSign_22 : decode cX6_widthOfSign 22 = .ok (.iconst 2, 1) := by decide +kernel
theorem dX6_widthOfSign_23 : decode cX6_widthOfSign 23 = .ok (.ireturn, 1) := by decide +kernel
theorem dX6_widthOfLetter_0 : decode cX6_widthOfLetter 0 = .ok (.iload_n 0, 1) := by decide +kernel
theorem dX6_widthOfLetter_1 : decode cX6_widthOfLetter 1 = .ok (.bipush 97, 2) := by decide +kernel
theorem dX6_widthOfLetter_3 : decode cX6_widthOfLetter 3 = .ok (.iadd, 1) := by decide +kernel
theorem dX6_widthOfLetter_4 : decode cX6_widthOfLetter 4 = .ok (.istore_n 1, 1) := by decide +kernel
theorem dX6_widthOfLetter_5 : decode cX6_widthOfLetter 5 = .ok (.iload_n 1, 1) := by decide +kernel
theorem dX6_widthOfLetter_6 : decode cX6_widthOfLetter 6 = .ok (.bipush 102, 2) := by decide +kernel
theorem dX6_widthOfLetter_8 : decode cX6_widthOfLetter 8 = .ok (.if_icmp .eq 27, 3) := by decide +kernel
theorem dX6_widthOfLetter_11 : decode cX6_widthOfLetter 11 = .ok (.iload_n 1, 1) := by decide +kernel
theorem dX6_widthOfLetter_12 : decode cX6_widthOfLetter 12 = .ok (.bipush 105, 2) := by decide +kernel
theorem dX6_widthOfLetter_14 : decode cX6_widthOfLetter 14 = .ok (.if_icmp .eq 21, 3) := by decide +kernel
theorem dX6_widthOfLetter_17 : decode cX6_widthOfLetter 17 = .ok (.iload_n 1, 1) := by decide +kernel
theorem dX6_widthOfLetter_18 : decode cX6_widthOfLetter 18 = .ok (.bipush 106, 2) := by decide +kernel
theorem dX6_widthOfLetter_20 : decode cX6_widthOfLetter 20 = .ok (.if_icmp .eq 15, 3) := by decide +kernel
theorem dX6_widthOfLetter_23 : decode cX6_widthOfLetter 23 = .ok (.iload_n 1, 1) := by decide +kernel
theorem dX6_widthOfLetter_24 : decode cX6_widthOfLetter 24 = .ok (.bipush 108, 2) := by decide +kernel
theorem dX6_widthOfLetter_26 : decode cX6_widthOfLetter 26 = .ok (.if_icmp .eq 9, 3) := by decide +kernel
theorem dX6_widthOfLetter_29 : decode cX6_widthOfLetter 29 = .ok (.iload_n 1, 1) := by decide +kernel
theorem dX6_widthOfLetter_30 : decode cX6_widthOfLetter 30 = .ok (.bipush 116, 2) := by decide +kernel
theorem dX6_widthOfLetter_32 : decode cX6_widthOfLetter 32 = .ok (.if_icmp .ne 7, 3) := by decide +kernel
theorem dX6_widthOfLetter_35 : decode cX6_widthOfLetter 35 = .ok (.iconst 1, 1) := by decide +kernel
theorem dX6_widthOfLetter_36 : decode cX6_widthOfLetter 36 = .ok (.goto 4, 3) := by decide +kernel
theorem dX6_widthOfLetter_39 : decode cX6_widthOfLetter 39 = .ok (.iconst 0, 1) := by decide +kernel
theorem dX6_widthOfLetter_40 : decode cX6_widthOfLetter 40 = .ok (.istore_n 2, 1) := by decide +kernel
theorem dX6_widthOfLetter_41 : decode cX6_widthOfLetter 41 = .ok (.iload_n 2, 1) := by decide +kernel
theorem dX6_widthOfLetter_42 : decode cX6_widthOfLetter 42 = .ok (.ifCond .eq 7, 3) := by decide +kernel
theorem dX6_widthOfLetter_45 : decode cX6_widthOfLetter 45 = .ok (.iconst 2, 1) := by decide +kernel
theorem dX6_widthOfLetter_46 : decode cX6_widthOfLetter 46 = .ok (.goto 21, 3) := by decide +kernel
theorem dX6_widthOfLetter_49 : decode cX6_widthOfLetter 49 = .ok (.iload_n 1, 1) := by decide +kernel
theorem dX6_widthOfLetter_50 : decode cX6_widthOfLetter 50 = .ok (.bipush 109, 2) := by decide +kernel
theorem dX6_widthOfLetter_52 : decode cX6_widthOfLetter 52 = .ok (.if_icmp .eq 9, 3) := by decide +kernel
theorem dX6_widthOfLetter_55 : decode cX6_widthOfLetter 55 = .ok (.iload_n 1, 1) := by decide +kernel
theorem dX6_widthOfLetter_56 : decode cX6_widthOfLetter 56 = .ok (.bipush 119, 2) := by decide +kernel
theorem dX6_widthOfLetter_58 : decode cX6_widthOfLetter 58 = .ok (.if_icmp .ne 8, 3) := by decide +kernel
theorem dX6_widthOfLetter_61 : decode cX6_widthOfLetter 61 = .ok (.bipush 6, 2) := by decide +kernel
theorem dX6_widthOfLetter_63 : decode cX6_widthOfLetter 63 = .ok (.goto 4, 3) := by decide +kernel
theorem dX6_widthOfLetter_66 : decode cX6_widthOfLetter 66 = .ok (.iconst 4, 1) := by decide +kernel
theorem dX6_widthOfLetter_67 : decode cX6_widthOfLetter 67 = .ok (.ireturn, 1) := by decide +kernel
set_option maxRecDepth 20000 in
theorem ggX6_widthOf_X6_of : GoodIn wsX6_widthOf wsX6_of := goodIn_r _ [5, 6, 13, 14, 15, 16, 17, 18, 19, 20, 21, 22, 23, 24, 25, 26, 27, 28] (by decide +kernel) (by decide +kernel)
set_option maxRecDepth 20000 in
theorem gX6_widthOf_X6_of : GoodIn wsX6_widthOf (wsV RX6 43 RX6 yX6_of wsX6_of) := goodIn_app (goodIn_of _ (by decide +kernel)) ggX6_widthOf_X6_of
set_option maxRecDepth 20000 in
theorem ggX6_widthOf_X6_widthOfSign : GoodIn wsX6_widthOf wsX6_widthOfSign := goodIn_r _ [9] (by decide +kernel) (by decide +kernel)
set_option maxRecDepth 20000 in
theorem gX6_widthOf_X6_widthOfSign : GoodIn wsX6_widthOf (va_wsS RX6 47 yX6_widthOfSign wsX6_widthOfSign) := goodIn_app (goodIn_of _ (by decide +kernel)) ggX6_widthOf_X6_widthOfSign
set_option maxRecDepth 20000 in
theorem ggX6_widthOf_X6_widthOfLetter : GoodIn wsX6_widthOf wsX6_widthOfLetter := goodIn_r _ [12] (by decide +kernel) (by decide +kernel)
set_option maxRecDepth 20000 in
theorem gX6_widthOf_X6_widthOfLetter : GoodIn wsX6_widthOf (va_wsS RX6 50 yX6_widthOfLetter wsX6_widthOfLetter) := goodIn_app (goodIn_of _ (by decide +kernel)) ggX6_widthOf_X6_widthOfLetter
theorem dX6_widthOf_0 : decode cX6_widthOf 0 = .ok (.aload_n 0, 1) := by decide +kernel
theorem dX6_widthOf_1 : decode cX6_widthOf 1 = .ok (.iload_n 1, 1) := by decide +kernel
theorem dX6_widthOf_2 : decode cX6_widthOf 2 = .ok (.bipush 13, 2) := by decide +kernel
theorem dX6_widthOf_4 : decode cX6_widthOf 4 = .ok (.invokevirtual 43, 3) := by decide +kernel
theorem dX6_widthOf_7 : decode cX6_widthOf 7 = .ok (.invokestatic 47, 3) := by decide +kernel
theorem dX6_widthOf_10 : decode cX6_widthOf 10 = .ok (.aload_n 0, 1) := by decide +kernel
theorem dX6_widthOf_11 : decode cX6_widthOf 11 = .ok (.iload_n 1, 1) := by decide +kernel
theorem dX6_widthOf_12 : decode cX6_widthOf 12 = .ok (.bipush 14, 2) := by decide +kernel
theorem dX6_widthOf_14 : decode cX6_widthOf 14 = .ok (.invokevirtual 43, 3) := by decide +kernel
theorem dX6_widthOf_17 : decode cX6_widthOf 17 = .ok (.invokestatic 47, 3) := by decide +kernel
theorem dX6_widthOf_20 : decode cX6_widthOf 20 = .ok (.iadd, 1) := by decide +kernel
theorem dX6_widthOf_21 : decode cX6_widthOf 21 = .ok (.istore_n 2, 1) := by decide +kernel
theorem dX6_widthOf_22 : decode cX6_widthOf 22 = .ok (.iconst 0, 1) := by decide +kernel
theorem dX6_widthOf_23 : decode cX6_widthOf 23 = .ok (.istore_n 3, 1) := by decide +kernel
theorem dX6_widthOf_24 : decode cX6_widthOf 24 = .ok (.iload_n 3, 1) := by decide +kernel
theorem dX6_widthOf_25 : decode cX6_widthOf 25 = .ok (.aload_n 0, 1) := by decide +kernel
theorem dX6_widthOf_26 : decode cX6_widthOf 26 = .ok (.iload_n 1, 1) := by decide +kernel
theorem dX6_widthOf_27 : decode cX6_widthOf 27 = .ok (.bipush 12, 2) := by decide +kernel
theorem dX6_widthOf_29 : decode cX6_widthOf 29 = .ok (.invokevirtual 43, 3) := by decide +kernel
theorem dX6_widthOf_32 : decode cX6_widthOf 32 = .ok (.if_icmp .ge 21, 3) := by decide +kernel
theorem dX6_widthOf_35 : decode cX6_widthOf 35 = .ok (.iload_n 2, 1) := by decide +kernel
theorem dX6_widthOf_36 : decode cX6_widthOf 36 = .ok (.aload_n 0, 1) := by decide +kernel
theorem dX6_widthOf_37 : decode cX6_widthOf 37 = .ok (.iload_n 1, 1) := by decide +kernel
theorem dX6_widthOf_38 : decode cX6_widthOf 38 = .ok (.iload_n 3, 1) := by decide +kernel
theorem dX6_widthOf_39 : decode cX6_widthOf 39 = .ok (.invokevirtual 43, 3) := by decide +kernel
theorem dX6_widthOf_42 : decode cX6_widthOf 42 = .ok (.invokestatic 50, 3) := by decide +kernel
theorem dX6_widthOf_45 : decode cX6_widthOf 45 = .ok (.iadd, 1) := by decide +kernel
theorem dX6_widthOf_46 : decode cX6_widthOf 46 = .ok (.istore_n 2, 1) := by decide +kernel
theorem dX6_widthOf_47 : decode cX6_widthOf 47 = .ok (.iinc 3 1, 3) := by decide +kernel
theorem dX6_widthOf_50 : decode cX6_widthOf 50 = .ok (.goto (-26), 3) := by decide +kernel
theorem dX6_widthOf_53 : decode cX6_widthOf 53 = .ok (.iload_n 2, 1) := by decide +kernel
theorem dX6_widthOf_54 : decode cX6_widthOf 54 = .ok (.ireturn, 1) := by decide +kernel
set_option maxRecDepth 20000 in
theorem ggX6_overhang_X6_widthOfSign : GoodIn wsX6_overhang wsX6_widthOfSign := goodIn_r _ [5] (by decide +kernel) (by decide +kernel)
set_option maxRecDepth 20000 in
theorem gX6_overhang_X6_widthOfSign : GoodIn wsX6_overhang (va_wsS RX6 47 yX6_widthOfSign wsX6_widthOfSign) := goodIn_app (goodIn_of _ (by decide +kernel)) ggX6_overhang_X6_widthOfSign
theorem dX6_overhang_0 : decode cX6_overhang 0 = .ok (.iload_n 1, 1) := by decide +kernel
theorem dX6_overhang_1 : decode cX6_overhang 1 = .ok (.iconst (-1), 1) := by decide +kernel
theorem dX6_overhang_2 : decode cX6_overhang 2 = .ok (.if_icmp .ne 7, 3) := by decide +kernel
theorem dX6_overhang_5 : decode cX6_overhang 5 = .ok (.iconst 0, 1) := by decide +kernel
theorem dX6_overhang_6 : decode cX6_overhang 6 = .ok (.goto 20, 3) := by decide +kernel
theorem dX6_overhang_9 : decode cX6_overhang 9 = .ok (.iload_n 1, 1) := by decide +kernel
theorem dX6_overhang_10 : decode cX6_overhang 10 = .ok (.invokestatic 47, 3) := by decide +kernel
theorem dX6_overhang_13 : decode cX6_overhang 13 = .ok (.aload_n 0, 1) := by decide +kernel
theorem dX6_overhang_14 : decode cX6_overhang 14 = .ok (.getfield 7, 3) := by decide +kernel
theorem dX6_overhang_17 : decode cX6_overhang 17 = .ok (.bipush 6, 2) := by decide +kernel
theorem dX6_overhang_19 : decode cX6_overhang 19 = .ok (.iload_n 1, 1) := by decide +kernel
theorem dX6_overhang_20 : decode cX6_overhang 20 = .ok (.iadd, 1) := by decide +kernel
theorem dX6_overhang_21 : decode cX6_overhang 21 = .ok (.iaload, 1) := by decide +kernel
theorem dX6_overhang_22 : decode cX6_overhang 22 = .ok (.imul, 1) := by decide +kernel
theorem dX6_overhang_23 : decode cX6_overhang 23 = .ok (.bipush 100, 2) := by decide +kernel
theorem dX6_overhang_25 : decode cX6_overhang 25 = .ok (.idiv, 1) := by decide +kernel
theorem dX6_overhang_26 : decode cX6_overhang 26 = .ok (.istore_n 3, 1) := by decide +kernel
theorem dX6_overhang_27 : decode cX6_overhang 27 = .ok (.iload_n 3, 1) := by decide +kernel
theorem dX6_overhang_28 : decode cX6_overhang 28 = .ok (.iload_n 2, 1) := by decide +kernel
theorem dX6_overhang_29 : decode cX6_overhang 29 = .ok (.if_icmp .ge 7, 3) := by decide +kernel
theorem dX6_overhang_32 : decode cX6_overhang 32 = .ok (.iload_n 3, 1) := by decide +kernel
theorem dX6_overhang_33 : decode cX6_overhang 33 = .ok (.goto 4, 3) := by decide +kernel
theorem dX6_overhang_36 : decode cX6_overhang 36 = .ok (.iload_n 2, 1) := by decide +kernel
theorem dX6_overhang_37 : decode cX6_overhang 37 = .ok (.ireturn, 1) := by decide +kernel
set_option maxRecDepth 20000 in
theorem ggX6_endsOne_X6_of : GoodIn wsX6_endsOne wsX6_of := goodIn_r _ [6, 1, 7, 8, 9, 10, 11, 12, 13, 14, 15, 16, 17, 18, 19, 20, 21, 22] (by decide +kernel) (by decide +kernel)
set_option maxRecDepth 20000 in
theorem gX6_endsOne_X6_of : GoodIn wsX6_endsOne (wsV RX6 43 RX6 yX6_of wsX6_of) := goodIn_app (goodIn_of _ (by decide +kernel)) ggX6_endsOne_X6_of
theorem dX6_endsOne_0 : decode cX6_endsOne 0 = .ok (.aload_n 0, 1) := by decide +kernel
theorem dX6_endsOne_1 : decode cX6_endsOne 1 = .ok (.iload_n 1, 1) := by decide +kernel
theorem dX6_endsOne_2 : decode cX6_endsOne 2 = .ok (.bipush 15, 2) := by decide +kernel
theorem dX6_endsOne_4 : decode cX6_endsOne 4 = .ok (.invokevirtual 43, 3) := by decide +kernel
theorem dX6_endsOne_7 : decode cX6_endsOne 7 = .ok (.iconst 1, 1) := by decide +kernel
theorem dX6_endsOne_8 : decode cX6_endsOne 8 = .ok (.if_icmp .eq 16, 3) := by decide +kernel
theorem dX6_endsOne_11 : decode cX6_endsOne 11 = .ok (.iload_n 1, 1) := by decide +kernel
theorem dX6_endsOne_12 : decode cX6_endsOne 12 = .ok (.aload_n 0, 1) := by decide +kernel
theorem dX6_endsOne_13 : decode cX6_endsOne 13 = .ok (.getfield 7, 3) := by decide +kernel
theorem dX6_endsOne_16 : decode cX6_endsOne 16 = .ok (.bipush 14, 2) := by decide +kernel
theorem dX6_endsOne_18 : decode cX6_endsOne 18 = .ok (.iaload, 1) := by decide +kernel
theorem dX6_endsOne_19 : decode cX6_endsOne 19 = .ok (.iconst 1, 1) := by decide +kernel
theorem dX6_endsOne_20 : decode cX6_endsOne 20 = .ok (.isub, 1) := by decide +kernel
theorem dX6_endsOne_21 : decode cX6_endsOne 21 = .ok (.if_icmp .ne 7, 3) := by decide +kernel
theorem dX6_endsOne_24 : decode cX6_endsOne 24 = .ok (.iconst 1, 1) := by decide +kernel
theorem dX6_endsOne_25 : decode cX6_endsOne 25 = .ok (.goto 4, 3) := by decide +kernel
theorem dX6_endsOne_28 : decode cX6_endsOne 28 = .ok (.iconst 0, 1) := by decide +kernel
theorem dX6_endsOne_29 : decode cX6_endsOne 29 = .ok (.ireturn, 1) := by decide +kernel
set_option maxRecDepth 20000 in
theorem ggX6_row_X6_of : GoodIn wsX6_row wsX6_of := goodIn_r _ [12, 2, 27, 28, 29, 30, 31, 32, 33, 34, 35, 36, 37, 38, 39, 40, 41, 42] (by decide +kernel) (by decide +kernel)
set_option maxRecDepth 20000 in
theorem gX6_row_X6_of : GoodIn wsX6_row (wsV RX6 43 RX6 yX6_of wsX6_of) := goodIn_app (goodIn_of _ (by decide +kernel)) ggX6_row_X6_of
set_option maxRecDepth 20000 in
theorem ggX6_row_X6_overhang : GoodIn wsX6_row wsX6_overhang := goodIn_r _ [16, 2, 17, 18, 11, 19, 27, 28, 29, 30, 31, 32, 33, 34, 35, 36, 37, 38, 39, 40, 41, 42] (by decide +kernel) (by decide +kernel)
set_option maxRecDepth 20000 in
theorem gX6_row_X6_overhang : GoodIn wsX6_row (wsV RX6 62 RX6 yX6_overhang wsX6_overhang) := goodIn_app (goodIn_of _ (by decide +kernel)) ggX6_row_X6_overhang
set_option maxRecDepth 20000 in
theorem ggX6_row_X6_widthOf : GoodIn wsX6_row wsX6_widthOf := goodIn_r _ [23, 8, 9, 10, 11, 12, 2, 17, 18, 19, 24, 25, 26, 27, 28, 29, 30, 31, 32, 33, 34, 35, 36, 37, 38, 39, 40, 41, 42] (by decide +kernel) (by decide +kernel)
set_option maxRecDepth 20000 in
theorem gX6_row_X6_widthOf : GoodIn wsX6_row (wsV RX6 65 RX6 yX6_widthOf wsX6_widthOf) := goodIn_app (goodIn_of _ (by decide +kernel)) ggX6_row_X6_widthOf
theorem dX6_row_0 : decode cX6_row 0 = .ok (.bipush 10, 2) := by decide +kernel
theorem dX6_row_2 : decode cX6_row 2 = .ok (.aload_n 0, 1) := by decide +kernel
theorem dX6_row_3 : decode cX6_row 3 = .ok (.getfield 53, 3) := by decide +kernel
theorem dX6_row_6 : decode cX6_row 6 = .ok (.imul, 1) := by decide +kernel
theorem dX6_row_7 : decode cX6_row 7 = .ok (.istore 4, 2) := by decide +kernel
theorem dX6_row_9 : decode cX6_row 9 = .ok (.iload_n 2, 1) := by decide +kernel
theorem dX6_row_10 : decode cX6_row 10 = .ok (.aload_n 0, 1) := by decide +kernel
theorem dX6_row_11 : decode cX6_row 11 = .ok (.getfield 7, 3) := by decide +kernel
theorem dX6_row_14 : decode cX6_row 14 = .ok (.iconst 4, 1) := by decide +kernel
theorem dX6_row_15 : decode cX6_row 15 = .ok (.iaload, 1) := by decide +kernel
theorem dX6_row_16 : decode cX6_row 16 = .ok (.if_icmp .ge 7, 3) := by decide +kernel
theorem dX6_row_19 : decode cX6_row 19 = .ok (.iload_n 2, 1) := by decide +kernel
theorem dX6_row_20 : decode cX6_row 20 = .ok (.goto 9, 3) := by decide +kernel
theorem dX6_row_23 : decode cX6_row 23 = .ok (.aload_n 0, 1) := by decide +kernel
theorem dX6_row_24 : decode cX6_row 24 = .ok (.getfield 7, 3) := by decide +kernel
theorem dX6_row_27 : decode cX6_row 27 = .ok (.iconst 4, 1) := by decide +kernel
theorem dX6_row_28 : decode cX6_row 28 = .ok (.iaload, 1) := by decide +kernel
theorem dX6_row_29 : decode cX6_row 29 = .ok (.istore 5, 2) := by decide +kernel
theorem dX6_row_31 : decode cX6_row 31 = .ok (.aload_n 0, 1) := by decide +kernel
theorem dX6_row_32 : decode cX6_row 32 = .ok (.getfield 56, 3) := by decide +kernel
theorem dX6_row_35 : decode cX6_row 35 = .ok (.iload 5, 2) := by decide +kernel
theorem dX6_row_37 : decode cX6_row 37 = .ok (.isub, 1) := by decide +kernel
theorem dX6_row_38 : decode cX6_row 38 = .ok (.istore 6, 2) := by decide +kernel
theorem dX6_row_40 : decode cX6_row 40 = .ok (.aload_n 0, 1) := by decide +kernel
theorem dX6_row_41 : decode cX6_row 41 = .ok (.aload_n 0, 1) := by decide +kernel
theorem dX6_row_42 : decode cX6_row 42 = .ok (.iload_n 1, 1) := by decide +kernel
theorem dX6_row_43 : decode cX6_row 43 = .ok (.bipush 13, 2) := by decide +kernel
theorem dX6_row_45 : decode cX6_row 45 = .ok (.invokevirtual 43, 3) := by decide +kernel
theorem dX6_row_48 : decode cX6_row 48 = .ok (.aload_n 0, 1) := by decide +kernel
theorem dX6_row_49 : decode cX6_row 49 = .ok (.getfield 59, 3) := by decide +kernel
theorem dX6_row_52 : decode cX6_row 52 = .ok (.invokevirtual 62, 3) := by decide +kernel
theorem dX6_row_55 : decode cX6_row 55 = .ok (.istore 7, 2) := by decide +kernel
theorem dX6_row_57 : decode cX6_row 57 = .ok (.iconst 0, 1) := by decide +kernel
theorem dX6_row_58 : decode cX6_row 58 = .ok (.istore 8, 2) := by decide +kernel
theorem dX6_row_60 : decode cX6_row 60 = .ok (.iconst 0, 1) := by decide +kernel
theorem dX6_row_61 : decode cX6_row 61 = .ok (.istore 9, 2) := by decide +kernel
theorem dX6_row_63 : decode cX6_row 63 = .ok (.iconst 1, 1) := by decide +kernel
theorem dX6_row_64 : decode cX6_row 64 = .ok (.istore 10, 2) := by decide +kernel
theorem dX6_row_66 : decode cX6_row 66 = .ok (.iload_n 1, 1) := by decide +kernel
theorem dX6_row_67 : decode cX6_row 67 = .ok (.istore 11, 2) := by decide +kernel
theorem dX6_row_69 : decode cX6_row 69 = .ok (.iload 10, 2) := by decide +kernel
theorem dX6_row_71 : decode cX6_row 71 = .ok (.ifCond .eq 252, 3) := by decide +kernel
theorem dX6_row_74 : decode cX6_row 74 = .ok (.iload 11, 2) := by decide +kernel
theorem dX6_row_76 : decode cX6_row 76 = .ok (.aload_n 0, 1) := by decide +kernel
theorem dX6_row_77 : decode cX6_row 77 = .ok (.getfield 7, 3) := by decide +kernel
theorem dX6_row_80 : decode cX6_row 80 = .ok (.bipush 14, 2) := by decide +kernel
theorem dX6_row_82 : decode cX6_row 82 = .ok (.iaload, 1) := by decide +kernel
theorem dX6_row_83 : decode cX6_row 83 = .ok (.if_icmp .ge 240, 3) := by decide +kernel
theorem dX6_row_86 : decode cX6_row 86 = .ok (.iload 8, 2) := by decide +kernel
theorem dX6_row_88 : decode cX6_row 88 = .ok (.aload_n 0, 1) := by decide +kernel
theorem dX6_row_89 : decode cX6_row 89 = .ok (.iload 11, 2) := by decide +kernel
theorem dX6_row_91 : decode cX6_row 91 = .ok (.invokevirtual 65, 3) := by decide +kernel
theorem dX6_row_94 : decode cX6_row 94 = .ok (.iload 11, 2) := by decide +kernel
theorem dX6_row_96 : decode cX6_row 96 = .ok (.iload_n 1, 1) := by decide +kernel
theorem dX6_row_97 : decode cX6_row 97 = .ok (.if_icmp .le 7, 3) := by decide +kernel
theorem dX6_row_100 : decode cX6_row 100 = .ok (.iconst 2, 1) := by decide +kernel
theorem dX6_row_101 : decode cX6_row 101 = .ok (.goto 4, 3) := by decide +kernel
theorem dX6_row_104 : decode cX6_row 104 = .ok (.iconst 0, 1) := by decide +kernel
theorem dX6_row_105 : decode cX6_row 105 = .ok (.iadd, 1) := by decide +kernel
theorem dX6_row_106 : decode cX6_row 106 = .ok (.iadd, 1) := by decide +kernel
theorem dX6_row_107 : decode cX6_row 107 = .ok (.istore 8, 2) := by decide +kernel
theorem dX6_row_109 : decode cX6_row 109 = .ok (.aload_n 0, 1) := by decide +kernel
theorem dX6_row_110 : decode cX6_row 110 = .ok (.aload_n 0, 1) := by decide +kernel
theorem dX6_row_111 : decode cX6_row 111 = .ok (.iload 11, 2) := by decide +kernel
theorem dX6_row_113 : decode cX6_row 113 = .ok (.bipush 14, 2) := by decide +kernel
theorem dX6_row_115 : decode cX6_row 115 = .ok (.invokevirtual 43, 3) := by decide +kernel
theorem dX6_row_118 : decode cX6_row 118 = .ok (.aload_n 0, 1) := by decide +kernel
theorem dX6_row_119 : decode cX6_row 119 = .ok (.getfield 68, 3) := by decide +kernel
theorem dX6_row_122 : decode cX6_row 122 = .ok (.invokevirtual 62, 3) := by decide +kernel
theorem dX6_row_125 : decode cX6_row 125 = .ok (.istore 12, 2) := by decide +kernel
theorem dX6_row_127 : decode cX6_row 127 = .ok (.iload 8, 2) := by decide +kernel
theorem dX6_row_129 : decode cX6_row 129 = .ok (.iload 6, 2) := by decide +kernel
theorem dX6_row_131 : decode cX6_row 131 = .ok (.if_icmp .le 11, 3) := by decide +kernel
theorem dX6_row_134 : decode cX6_row 134 = .ok (.iload 8, 2) := by decide +kernel
theorem dX6_row_136 : decode cX6_row 136 = .ok (.iload 6, 2) := by decide +kernel
theorem dX6_row_138 : decode cX6_row 138 = .ok (.isub, 1) := by decide +kernel
theorem dX6_row_139 : decode cX6_row 139 = .ok (.goto 4, 3) := by decide +kernel
theorem dX6_row_142 : decode cX6_row 142 = .ok (.iconst 0, 1) := by decide +kernel
theorem dX6_row_143 : decode cX6_row 143 = .ok (.istore 13, 2) := by decide +kernel
theorem dX6_row_145 : decode cX6_row 145 = .ok (.iload 13, 2) := by decide +kernel
theorem dX6_row_147 : decode cX6_row 147 = .ok (.ifCond .eq 31, 3) := by decide +kernel
theorem dX6_row_150 : decode cX6_row 150 = .ok (.iload 13, 2) := by decide +kernel
theorem dX6_row_152 : decode cX6_row 152 = .ok (.iload 7, 2) := by decide +kernel
theorem dX6_row_154 : decode cX6_row 154 = .ok (.iload 12, 2) := by decide +kernel
theorem dX6_row_156 : decode cX6_row 156 = .ok (.iadd, 1) := by decide +kernel
theorem dX6_row_157 : decode cX6_row 157 = .ok (.if_icmp .gt 25, 3) := by decide +kernel
theorem dX6_row_160 : decode cX6_row 160 = .ok (.iload_n 2, 1) := by decide +kernel
theorem dX6_row_161 : decode cX6_row 161 = .ok (.iload 5, 2) := by decide +kernel
theorem dX6_row_163 : decode cX6_row 163 = .ok (.isub, 1) := by decide +kernel
theorem dX6_row_164 : decode cX6_row 164 = .ok (.iload 13, 2) := by decide +kernel
theorem dX6_row_166 : decode cX6_row 166 = .ok (.iadd, 1) := by decide +kernel
theorem dX6_row_167 : decode cX6_row 167 = .ok (.aload_n 0, 1) := by decide +kernel
theorem dX6_row_168 : decode cX6_row 168 = .ok (.getfield 7, 3) := by decide +kernel
theorem dX6_row_171 : decode cX6_row 171 = .ok (.iconst 4, 1) := by decide +kernel
theorem dX6_row_172 : decode cX6_row 172 = .ok (.iaload, 1) := by decide +kernel
theorem dX6_row_173 : decode cX6_row 173 = .ok (.iload_n 3, 1) := by decide +kernel
theorem dX6_row_174 : decode cX6_row 174 = .ok (.imul, 1) := by decide +kernel
theorem dX6_row_175 : decode cX6_row 175 = .ok (.if_icmp .gt 7, 3) := by decide +kernel
theorem dX6_row_178 : decode cX6_row 178 = .ok (.iconst 1, 1) := by decide +kernel
theorem dX6_row_179 : decode cX6_row 179 = .ok (.goto 4, 3) := by decide +kernel
theorem dX6_row_182 : decode cX6_row 182 = .ok (.iconst 0, 1) := by decide +kernel
theorem dX6_row_183 : decode cX6_row 183 = .ok (.istore 14, 2) := by decide +kernel
theorem dX6_row_185 : decode cX6_row 185 = .ok (.iload 14, 2) := by decide +kernel
theorem dX6_row_187 : decode cX6_row 187 = .ok (.ifCond .ne 9, 3) := by decide +kernel
theorem dX6_row_190 : decode cX6_row 190 = .ok (.iload 11, 2) := by decide +kernel
theorem dX6_row_192 : decode cX6_row 192 = .ok (.iload_n 1, 1) := by decide +kernel
theorem dX6_row_193 : decode cX6_row 193 = .ok (.if_icmp .ne 106, 3) := by decide +kernel
theorem dX6_row_196 : decode cX6_row 196 = .ok (.iload 11, 2) := by decide +kernel
theorem dX6_row_198 : decode cX6_row 198 = .ok (.iload_n 1, 1) := by decide +kernel
theorem dX6_row_199 : decode cX6_row 199 = .ok (.isub, 1) := by decide +kernel
theorem dX6_row_200 : decode cX6_row 200 = .ok (.iconst 1, 1) := by decide +kernel
theorem dX6_row_201 : decode cX6_row 201 = .ok (.iadd, 1) := by decide +kernel
theorem dX6_row_202 : decode cX6_row 202 = .ok (.istore 9, 2) := by decide +kernel
theorem dX6_row_204 : decode cX6_row 204 = .ok (.aload_n 0, 1) := by decide +kernel
theorem dX6_row_205 : decode cX6_row 205 = .ok (.getfield 22, 3) := by decide +kernel
theorem dX6_row_208 : decode cX6_row 208 = .ok (.iload 4, 2) := by decide +kernel
theorem dX6_row_210 : decode cX6_row 210 = .ok (.iconst 3, 1) := by decide +kernel
theorem dX6_row_211 : decode cX6_row 211 = .ok (.iadd, 1) := by decide +kernel
theorem dX6_row_212 : decode cX6_row 212 = .ok (.iload 8, 2) := by decide +kernel
theorem dX6_row_214 : decode cX6_row 214 = .ok (.iastore, 1) := by decide +kernel
theorem dX6_row_215 : decode cX6_row 215 = .ok (.aload_n 0, 1) := by decide +kernel
theorem dX6_row_216 : decode cX6_row 216 = .ok (.getfield 22, 3) := by decide +kernel
theorem dX6_row_219 : decode cX6_row 219 = .ok (.iload 4, 2) := by decide +kernel
theorem dX6_row_221 : decode cX6_row 221 = .ok (.bipush 6, 2) := by decide +kernel
theorem dX6_row_223 : decode cX6_row 223 = .ok (.iadd, 1) := by decide +kernel
theorem dX6_row_224 : decode cX6_row 224 = .ok (.iload 14, 2) := by decide +kernel
theorem dX6_row_226 : decode cX6_row 226 = .ok (.ifCond .ne 7, 3) := by decide +kernel
theorem dX6_row_229 : decode cX6_row 229 = .ok (.iconst 0, 1) := by decide +kernel
theorem dX6_row_230 : decode cX6_row 230 = .ok (.goto 17, 3) := by decide +kernel
theorem dX6_row_233 : decode cX6_row 233 = .ok (.iload 13, 2) := by decide +kernel
theorem dX6_row_235 : decode cX6_row 235 = .ok (.iload 12, 2) := by decide +kernel
theorem dX6_row_237 : decode cX6_row 237 = .ok (.if_icmp .ge 8, 3) := by decide +kernel
theorem dX6_row_240 : decode cX6_row 240 = .ok (.iload 13, 2) := by decide +kernel
theorem dX6_row_242 : decode cX6_row 242 = .ok (.goto 5, 3) := by decide +kernel
theorem dX6_row_245 : decode cX6_row 245 = .ok (.iload 12, 2) := by decide +kernel
theorem dX6_row_247 : decode cX6_row 247 = .ok (.iastore, 1) := by decide +kernel
theorem dX6_row_248 : decode cX6_row 248 = .ok (.aload_n 0, 1) := by decide +kernel
theorem dX6_row_249 : decode cX6_row 249 = .ok (.getfield 22, 3) := by decide +kernel
theorem dX6_row_252 : decode cX6_row 252 = .ok (.iload 4, 2) := by decide +kernel
theorem dX6_row_254 : decode cX6_row 254 = .ok (.iconst 5, 1) := by decide +kernel
theorem dX6_row_255 : decode cX6_row 255 = .ok (.iadd, 1) := by decide +kernel
theorem dX6_row_256 : decode cX6_row 256 = .ok (.iload 14, 2) := by decide +kernel
theorem dX6_row_258 : decode cX6_row 258 = .ok (.ifCond .eq 19, 3) := by decide +kernel
theorem dX6_row_261 : decode cX6_row 261 = .ok (.iload 13, 2) := by decide +kernel
theorem dX6_row_263 : decode cX6_row 263 = .ok (.aload_n 0, 1) := by decide +kernel
theorem dX6_row_264 : decode cX6_row 264 = .ok (.getfield 22, 3) := by decide +kernel
theorem dX6_row_267 : decode cX6_row 267 = .ok (.iload 4, 2) := by decide +kernel
theorem dX6_row_269 : decode cX6_row 269 = .ok (.bipush 6, 2) := by decide +kernel
theorem dX6_row_271 : decode cX6_row 271 = .ok (.iadd, 1) := by decide +kernel
theorem dX6_row_272 : decode cX6_row 272 = .ok (.iaload, 1) := by decide +kernel
theorem dX6_row_273 : decode cX6_row 273 = .ok (.isub, 1) := by decide +kernel
theorem dX6_row_274 : decode cX6_row 274 = .ok (.goto 4, 3) := by decide +kernel
theorem dX6_row_277 : decode cX6_row 277 = .ok (.iconst 0, 1) := by decide +kernel
theorem dX6_row_278 : decode cX6_row 278 = .ok (.iastore, 1) := by decide +kernel
theorem dX6_row_279 : decode cX6_row 279 = .ok (.aload_n 0, 1) := by decide +kernel
theorem dX6_row_280 : decode cX6_row 280 = .ok (.getfield 22, 3) := by decide +kernel
theorem dX6_row_283 : decode cX6_row 283 = .ok (.iload 4, 2) := by decide +kernel
theorem dX6_row_285 : decode cX6_row 285 = .ok (.bipush 9, 2) := by decide +kernel
theorem dX6_row_287 : decode cX6_row 287 = .ok (.iadd, 1) := by decide +kernel
theorem dX6_row_288 : decode cX6_row 288 = .ok (.iload 14, 2) := by decide +kernel
theorem dX6_row_290 : decode cX6_row 290 = .ok (.ifCond .eq 7, 3) := by decide +kernel
theorem dX6_row_293 : decode cX6_row 293 = .ok (.iconst 0, 1) := by decide +kernel
