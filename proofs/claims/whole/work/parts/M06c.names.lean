theorem dX6_insert_12 : decode cX6_insert 12 = .ok (.if_icmp .le 9, 3) := by decide +kernel
theorem dX6_insert_15 : decode cX6_insert 15 = .ok (.aload_n 0, 1) := by decide +kernel
theorem dX6_insert_16 : decode cX6_insert 16 = .ok (.iconst 1, 1) := by decide +kernel
theorem dX6_insert_17 : decode cX6_insert 17 = .ok (.invokevirtual 101, 3) := by decide +kernel
theorem dX6_insert_20 : decode cX6_insert 20 = .ok (.ireturn, 1) := by decide +kernel
theorem dX6_insert_21 : decode cX6_insert 21 = .ok (.iload_n 2, 1) := by decide +kernel
theorem dX6_insert_22 : decode cX6_insert 22 = .ok (.iconst 0, 1) := by decide +kernel
theorem dX6_insert_23 : decode cX6_insert 23 = .ok (.bipush 25, 2) := by decide +kernel
theorem dX6_insert_25 : decode cX6_insert 25 = .ok (.invokestatic 28, 3) := by decide +kernel
theorem dX6_insert_28 : decode cX6_insert 28 = .ok (.ifCond .eq 23, 3) := by decide +kernel
theorem dX6_insert_31 : decode cX6_insert 31 = .ok (.iload_n 3, 1) := by decide +kernel
theorem dX6_insert_32 : decode cX6_insert 32 = .ok (.iconst 1, 1) := by decide +kernel
theorem dX6_insert_33 : decode cX6_insert 33 = .ok (.bipush 12, 2) := by decide +kernel
theorem dX6_insert_35 : decode cX6_insert 35 = .ok (.invokestatic 28, 3) := by decide +kernel
theorem dX6_insert_38 : decode cX6_insert 38 = .ok (.ifCond .eq 13, 3) := by decide +kernel
theorem dX6_insert_41 : decode cX6_insert 41 = .ok (.iload 4, 2) := by decide +kernel
theorem dX6_insert_43 : decode cX6_insert 43 = .ok (.iload 5, 2) := by decide +kernel
theorem dX6_insert_45 : decode cX6_insert 45 = .ok (.invokestatic 104, 3) := by decide +kernel
theorem dX6_insert_48 : decode cX6_insert 48 = .ok (.ifCond .ne 9, 3) := by decide +kernel
theorem dX6_insert_51 : decode cX6_insert 51 = .ok (.aload_n 0, 1) := by decide +kernel
theorem dX6_insert_52 : decode cX6_insert 52 = .ok (.iconst 2, 1) := by decide +kernel
theorem dX6_insert_53 : decode cX6_insert 53 = .ok (.invokevirtual 101, 3) := by decide +kernel
theorem dX6_insert_56 : decode cX6_insert 56 = .ok (.ireturn, 1) := by decide +kernel
theorem dX6_insert_57 : decode cX6_insert 57 = .ok (.aload_n 0, 1) := by decide +kernel
theorem dX6_insert_58 : decode cX6_insert 58 = .ok (.getfield 7, 3) := by decide +kernel
theorem dX6_insert_61 : decode cX6_insert 61 = .ok (.bipush 14, 2) := by decide +kernel
theorem dX6_insert_63 : decode cX6_insert 63 = .ok (.iaload, 1) := by decide +kernel
theorem dX6_insert_64 : decode cX6_insert 64 = .ok (.bipush 60, 2) := by decide +kernel
theorem dX6_insert_66 : decode cX6_insert 66 = .ok (.if_icmp .ne 9, 3) := by decide +kernel
theorem dX6_insert_69 : decode cX6_insert 69 = .ok (.aload_n 0, 1) := by decide +kernel
theorem dX6_insert_70 : decode cX6_insert 70 = .ok (.iconst 3, 1) := by decide +kernel
theorem dX6_insert_71 : decode cX6_insert 71 = .ok (.invokevirtual 101, 3) := by decide +kernel
theorem dX6_insert_74 : decode cX6_insert 74 = .ok (.ireturn, 1) := by decide +kernel
theorem dX6_insert_75 : decode cX6_insert 75 = .ok (.aload_n 0, 1) := by decide +kernel
theorem dX6_insert_76 : decode cX6_insert 76 = .ok (.invokevirtual 108, 3) := by decide +kernel
theorem dX6_insert_79 : decode cX6_insert 79 = .ok (.aload_n 0, 1) := by decide +kernel
theorem dX6_insert_80 : decode cX6_insert 80 = .ok (.iload_n 1, 1) := by decide +kernel
theorem dX6_insert_81 : decode cX6_insert 81 = .ok (.invokevirtual 111, 3) := by decide +kernel
theorem dX6_insert_84 : decode cX6_insert 84 = .ok (.iconst 0, 1) := by decide +kernel
theorem dX6_insert_85 : decode cX6_insert 85 = .ok (.istore 6, 2) := by decide +kernel
theorem dX6_insert_87 : decode cX6_insert 87 = .ok (.iload 6, 2) := by decide +kernel
theorem dX6_insert_89 : decode cX6_insert 89 = .ok (.iload_n 3, 1) := by decide +kernel
theorem dX6_insert_90 : decode cX6_insert 90 = .ok (.if_icmp .ge 23, 3) := by decide +kernel
theorem dX6_insert_93 : decode cX6_insert 93 = .ok (.aload_n 0, 1) := by decide +kernel
theorem dX6_insert_94 : decode cX6_insert 94 = .ok (.iload_n 1, 1) := by decide +kernel
theorem dX6_insert_95 : decode cX6_insert 95 = .ok (.iload 6, 2) := by decide +kernel
theorem dX6_insert_97 : decode cX6_insert 97 = .ok (.iload_n 2, 1) := by decide +kernel
theorem dX6_insert_98 : decode cX6_insert 98 = .ok (.iload 6, 2) := by decide +kernel
theorem dX6_insert_100 : decode cX6_insert 100 = .ok (.iadd, 1) := by decide +kernel
theorem dX6_insert_101 : decode cX6_insert 101 = .ok (.bipush 26, 2) := by decide +kernel
theorem dX6_insert_103 : decode cX6_insert 103 = .ok (.irem, 1) := by decide +kernel
theorem dX6_insert_104 : decode cX6_insert 104 = .ok (.invokevirtual 98, 3) := by decide +kernel
theorem dX6_insert_107 : decode cX6_insert 107 = .ok (.iinc 6 1, 3) := by decide +kernel
theorem dX6_insert_110 : decode cX6_insert 110 = .ok (.goto (-23), 3) := by decide +kernel
theorem dX6_insert_113 : decode cX6_insert 113 = .ok (.aload_n 0, 1) := by decide +kernel
theorem dX6_insert_114 : decode cX6_insert 114 = .ok (.iload_n 1, 1) := by decide +kernel
theorem dX6_insert_115 : decode cX6_insert 115 = .ok (.bipush 12, 2) := by decide +kernel
theorem dX6_insert_117 : decode cX6_insert 117 = .ok (.iload_n 3, 1) := by decide +kernel
theorem dX6_insert_118 : decode cX6_insert 118 = .ok (.invokevirtual 98, 3) := by decide +kernel
theorem dX6_insert_121 : decode cX6_insert 121 = .ok (.aload_n 0, 1) := by decide +kernel
theorem dX6_insert_122 : decode cX6_insert 122 = .ok (.iload_n 1, 1) := by decide +kernel
theorem dX6_insert_123 : decode cX6_insert 123 = .ok (.bipush 13, 2) := by decide +kernel
theorem dX6_insert_125 : decode cX6_insert 125 = .ok (.iload 4, 2) := by decide +kernel
theorem dX6_insert_127 : decode cX6_insert 127 = .ok (.invokevirtual 98, 3) := by decide +kernel
theorem dX6_insert_130 : decode cX6_insert 130 = .ok (.aload_n 0, 1) := by decide +kernel
theorem dX6_insert_131 : decode cX6_insert 131 = .ok (.iload_n 1, 1) := by decide +kernel
theorem dX6_insert_132 : decode cX6_insert 132 = .ok (.bipush 14, 2) := by decide +kernel
theorem dX6_insert_134 : decode cX6_insert 134 = .ok (.iload 5, 2) := by decide +kernel
theorem dX6_insert_136 : decode cX6_insert 136 = .ok (.invokevirtual 98, 3) := by decide +kernel
theorem dX6_insert_139 : decode cX6_insert 139 = .ok (.aload_n 0, 1) := by decide +kernel
theorem dX6_insert_140 : decode cX6_insert 140 = .ok (.aload_n 0, 1) := by decide +kernel
theorem dX6_insert_141 : decode cX6_insert 141 = .ok (.getfield 7, 3) := by decide +kernel
theorem dX6_insert_144 : decode cX6_insert 144 = .ok (.bipush 14, 2) := by decide +kernel
theorem dX6_insert_146 : decode cX6_insert 146 = .ok (.iaload, 1) := by decide +kernel
theorem dX6_insert_147 : decode cX6_insert 147 = .ok (.invokevirtual 115, 3) := by decide +kernel
theorem dX6_insert_150 : decode cX6_insert 150 = .ok (.ireturn, 1) := by decide +kernel
set_option maxRecDepth 20000 in
theorem ggX6_removeWord_X6_isWord : GoodIn wsX6_removeWord wsX6_isWord := goodIn_r _ [6, 1, 27, 28, 29, 30, 31, 32, 33, 34, 35, 36, 37, 38, 39, 40, 41, 42] (by decide +kernel) (by decide +kernel)
set_option maxRecDepth 20000 in
theorem gX6_removeWord_X6_isWord : GoodIn wsX6_removeWord (wsV RX6 118 RX6 yX6_isWord wsX6_isWord) := goodIn_app (goodIn_of _ (by decide +kernel)) ggX6_removeWord_X6_isWord
set_option maxRecDepth 20000 in
theorem ggX6_removeWord_X6_fails : GoodIn wsX6_removeWord wsX6_fails := goodIn_r _ [10, 11, 27, 28, 29, 30, 31, 32, 33, 34, 35, 36, 37, 38, 39, 40, 41, 42] (by decide +kernel) (by decide +kernel)
set_option maxRecDepth 20000 in
theorem gX6_removeWord_X6_fails : GoodIn wsX6_removeWord (wsV RX6 101 RX6 yX6_fails wsX6_fails) := goodIn_app (goodIn_of _ (by decide +kernel)) ggX6_removeWord_X6_fails
set_option maxRecDepth 20000 in
theorem ggX6_removeWord_X6_hold : GoodIn wsX6_removeWord wsX6_hold := goodIn_r _ [15, 16, 1, 27, 28, 29, 30, 31, 32, 33, 34, 35, 36, 37, 38, 39, 40, 41, 42] (by decide +kernel) (by decide +kernel)
set_option maxRecDepth 20000 in
theorem gX6_removeWord_X6_hold : GoodIn wsX6_removeWord (wsV RX6 108 RX6 yX6_hold wsX6_hold) := goodIn_app (goodIn_of _ (by decide +kernel)) ggX6_removeWord_X6_hold
set_option maxRecDepth 20000 in
theorem ggX6_removeWord_X6_ends : GoodIn wsX6_removeWord wsX6_ends := goodIn_r _ [20, 21, 22, 16, 23, 24, 25, 5, 26, 11, 27, 28, 29, 30, 31, 32, 33, 34, 35, 36, 37, 38, 39, 40, 41, 42] (by decide +kernel) (by decide +kernel)
set_option maxRecDepth 20000 in
theorem gX6_removeWord_X6_ends : GoodIn wsX6_removeWord (wsV RX6 115 RX6 yX6_ends wsX6_ends) := goodIn_app (goodIn_of _ (by decide +kernel)) ggX6_removeWord_X6_ends
theorem dX6_removeWord_0 : decode cX6_removeWord 0 = .ok (.aload_n 0, 1) := by decide +kernel
theorem dX6_removeWord_1 : decode cX6_removeWord 1 = .ok (.iload_n 1, 1) := by decide +kernel
theorem dX6_removeWord_2 : decode cX6_removeWord 2 = .ok (.invokevirtual 118, 3) := by decide +kernel
theorem dX6_removeWord_5 : decode cX6_removeWord 5 = .ok (.ifCond .ne 9, 3) := by decide +kernel
theorem dX6_removeWord_8 : decode cX6_removeWord 8 = .ok (.aload_n 0, 1) := by decide +kernel
theorem dX6_removeWord_9 : decode cX6_removeWord 9 = .ok (.iconst 1, 1) := by decide +kernel
theorem dX6_removeWord_10 : decode cX6_removeWord 10 = .ok (.invokevirtual 101, 3) := by decide +kernel
theorem dX6_removeWord_13 : decode cX6_removeWord 13 = .ok (.ireturn, 1) := by decide +kernel
theorem dX6_removeWord_14 : decode cX6_removeWord 14 = .ok (.aload_n 0, 1) := by decide +kernel
theorem dX6_removeWord_15 : decode cX6_removeWord 15 = .ok (.invokevirtual 108, 3) := by decide +kernel
theorem dX6_removeWord_18 : decode cX6_removeWord 18 = .ok (.aload_n 0, 1) := by decide +kernel
theorem dX6_removeWord_19 : decode cX6_removeWord 19 = .ok (.getfield 7, 3) := by decide +kernel
theorem dX6_removeWord_22 : decode cX6_removeWord 22 = .ok (.bipush 14, 2) := by decide +kernel
theorem dX6_removeWord_24 : decode cX6_removeWord 24 = .ok (.dup2, 1) := by decide +kernel
theorem dX6_removeWord_25 : decode cX6_removeWord 25 = .ok (.iaload, 1) := by decide +kernel
theorem dX6_removeWord_26 : decode cX6_removeWord 26 = .ok (.iconst 1, 1) := by decide +kernel
theorem dX6_removeWord_27 : decode cX6_removeWord 27 = .ok (.isub, 1) := by decide +kernel
theorem dX6_removeWord_28 : decode cX6_removeWord 28 = .ok (.iastore, 1) := by decide +kernel
theorem dX6_removeWord_29 : decode cX6_removeWord 29 = .ok (.bipush 15, 2) := by decide +kernel
theorem dX6_removeWord_31 : decode cX6_removeWord 31 = .ok (.bipush 16, 2) := by decide +kernel
theorem dX6_removeWord_33 : decode cX6_removeWord 33 = .ok (.iload_n 1, 1) := by decide +kernel
theorem dX6_removeWord_34 : decode cX6_removeWord 34 = .ok (.imul, 1) := by decide +kernel
theorem dX6_removeWord_35 : decode cX6_removeWord 35 = .ok (.iadd, 1) := by decide +kernel
theorem dX6_removeWord_36 : decode cX6_removeWord 36 = .ok (.istore_n 2, 1) := by decide +kernel
theorem dX6_removeWord_37 : decode cX6_removeWord 37 = .ok (.iload_n 2, 1) := by decide +kernel
theorem dX6_removeWord_38 : decode cX6_removeWord 38 = .ok (.bipush 15, 2) := by decide +kernel
theorem dX6_removeWord_40 : decode cX6_removeWord 40 = .ok (.bipush 16, 2) := by decide +kernel
theorem dX6_removeWord_42 : decode cX6_removeWord 42 = .ok (.aload_n 0, 1) := by decide +kernel
theorem dX6_removeWord_43 : decode cX6_removeWord 43 = .ok (.getfield 7, 3) := by decide +kernel
theorem dX6_removeWord_46 : decode cX6_removeWord 46 = .ok (.bipush 14, 2) := by decide +kernel
theorem dX6_removeWord_48 : decode cX6_removeWord 48 = .ok (.iaload, 1) := by decide +kernel
theorem dX6_removeWord_49 : decode cX6_removeWord 49 = .ok (.imul, 1) := by decide +kernel
theorem dX6_removeWord_50 : decode cX6_removeWord 50 = .ok (.iadd, 1) := by decide +kernel
theorem dX6_removeWord_51 : decode cX6_removeWord 51 = .ok (.if_icmp .ge 24, 3) := by decide +kernel
theorem dX6_removeWord_54 : decode cX6_removeWord 54 = .ok (.aload_n 0, 1) := by decide +kernel
theorem dX6_removeWord_55 : decode cX6_removeWord 55 = .ok (.getfield 7, 3) := by decide +kernel
theorem dX6_removeWord_58 : decode cX6_removeWord 58 = .ok (.iload_n 2, 1) := by decide +kernel
theorem dX6_removeWord_59 : decode cX6_removeWord 59 = .ok (.aload_n 0, 1) := by decide +kernel
theorem dX6_removeWord_60 : decode cX6_removeWord 60 = .ok (.getfield 7, 3) := by decide +kernel
theorem dX6_removeWord_63 : decode cX6_removeWord 63 = .ok (.iload_n 2, 1) := by decide +kernel
theorem dX6_removeWord_64 : decode cX6_removeWord 64 = .ok (.bipush 16, 2) := by decide +kernel
theorem dX6_removeWord_66 : decode cX6_removeWord 66 = .ok (.iadd, 1) := by decide +kernel
theorem dX6_removeWord_67 : decode cX6_removeWord 67 = .ok (.iaload, 1) := by decide +kernel
theorem dX6_removeWord_68 : decode cX6_removeWord 68 = .ok (.iastore, 1) := by decide +kernel
theorem dX6_removeWord_69 : decode cX6_removeWord 69 = .ok (.iinc 2 1, 3) := by decide +kernel
theorem dX6_removeWord_72 : decode cX6_removeWord 72 = .ok (.goto (-35), 3) := by decide +kernel
theorem dX6_removeWord_75 : decode cX6_removeWord 75 = .ok (.aload_n 0, 1) := by decide +kernel
theorem dX6_removeWord_76 : decode cX6_removeWord 76 = .ok (.aload_n 0, 1) := by decide +kernel
theorem dX6_removeWord_77 : decode cX6_removeWord 77 = .ok (.getfield 7, 3) := by decide +kernel
theorem dX6_removeWord_80 : decode cX6_removeWord 80 = .ok (.bipush 14, 2) := by decide +kernel
theorem dX6_removeWord_82 : decode cX6_removeWord 82 = .ok (.iaload, 1) := by decide +kernel
theorem dX6_removeWord_83 : decode cX6_removeWord 83 = .ok (.invokevirtual 115, 3) := by decide +kernel
theorem dX6_removeWord_86 : decode cX6_removeWord 86 = .ok (.ireturn, 1) := by decide +kernel
set_option maxRecDepth 20000 in
theorem ggX6_endParagraph_X6_isWord : GoodIn wsX6_endParagraph wsX6_isWord := goodIn_r _ [5, 6, 35, 36, 37, 38, 39, 40, 41, 42, 43, 44, 45, 46, 47, 48, 49, 50] (by decide +kernel) (by decide +kernel)
set_option maxRecDepth 20000 in
theorem gX6_endParagraph_X6_isWord : GoodIn wsX6_endParagraph (wsV RX6 118 RX6 yX6_isWord wsX6_isWord) := goodIn_app (goodIn_of _ (by decide +kernel)) ggX6_endParagraph_X6_isWord
set_option maxRecDepth 20000 in
theorem ggX6_endParagraph_X6_fails : GoodIn wsX6_endParagraph wsX6_fails := goodIn_r _ [10, 11, 35, 36, 37, 38, 39, 40, 41, 42, 43, 44, 45, 46, 47, 48, 49, 50] (by decide +kernel) (by decide +kernel)
set_option maxRecDepth 20000 in
theorem gX6_endParagraph_X6_fails : GoodIn wsX6_endParagraph (wsV RX6 101 RX6 yX6_fails wsX6_fails) := goodIn_app (goodIn_of _ (by decide +kernel)) ggX6_endParagraph_X6_fails
set_option maxRecDepth 20000 in
theorem ggX6_endParagraph_X6_hold : GoodIn wsX6_endParagraph wsX6_hold := goodIn_r _ [15, 16, 6, 35, 36, 37, 38, 39, 40, 41, 42, 43, 44, 45, 46, 47, 48, 49, 50] (by decide +kernel) (by decide +kernel)
set_option maxRecDepth 20000 in
theorem gX6_endParagraph_X6_hold : GoodIn wsX6_endParagraph (wsV RX6 108 RX6 yX6_hold wsX6_hold) := goodIn_app (goodIn_of _ (by decide +kernel)) ggX6_endParagraph_X6_hold
set_option maxRecDepth 20000 in
theorem ggX6_endParagraph_X6_of : GoodIn wsX6_endParagraph wsX6_of := goodIn_r _ [20, 6, 35, 36, 37, 38, 39, 40, 41, 42, 43, 44, 45, 46, 47, 48, 49, 50] (by decide +kernel) (by decide +kernel)
set_option maxRecDepth 20000 in
theorem gX6_endParagraph_X6_of : GoodIn wsX6_endParagraph (wsV RX6 43 RX6 yX6_of wsX6_of) := goodIn_app (goodIn_of _ (by decide +kernel)) ggX6_endParagraph_X6_of
set_option maxRecDepth 20000 in
theorem ggX6_endParagraph_X6_puts : GoodIn wsX6_endParagraph wsX6_puts := goodIn_r _ [24, 6, 35, 36, 37, 38, 39, 40, 41, 42, 43, 44, 45, 46, 47, 48, 49, 50] (by decide +kernel) (by decide +kernel)
set_option maxRecDepth 20000 in
theorem gX6_endParagraph_X6_puts : GoodIn wsX6_endParagraph (wsV RX6 98 RX6 yX6_puts wsX6_puts) := goodIn_app (goodIn_of _ (by decide +kernel)) ggX6_endParagraph_X6_puts
set_option maxRecDepth 20000 in
theorem ggX6_endParagraph_X6_ends : GoodIn wsX6_endParagraph wsX6_ends := goodIn_r _ [28, 29, 30, 16, 31, 32, 33, 4, 34, 11, 35, 36, 37, 38, 39, 40, 41, 42, 43, 44, 45, 46, 47, 48, 49, 50] (by decide +kernel) (by decide +kernel)
set_option maxRecDepth 20000 in
theorem gX6_endParagraph_X6_ends : GoodIn wsX6_endParagraph (wsV RX6 115 RX6 yX6_ends wsX6_ends) := goodIn_app (goodIn_of _ (by decide +kernel)) ggX6_endParagraph_X6_ends
theorem dX6_endParagraph_0 : decode cX6_endParagraph 0 = .ok (.aload_n 0, 1) := by decide +kernel
theorem dX6_endParagraph_1 : decode cX6_endParagraph 1 = .ok (.iload_n 1, 1) := by decide +kernel
theorem dX6_endParagraph_2 : decode cX6_endParagraph 2 = .ok (.invokevirtual 118, 3) := by decide +kernel
theorem dX6_endParagraph_5 : decode cX6_endParagraph 5 = .ok (.ifCond .ne 9, 3) := by decide +kernel
theorem dX6_endParagraph_8 : decode cX6_endParagraph 8 = .ok (.aload_n 0, 1) := by decide +kernel
theorem dX6_endParagraph_9 : decode cX6_endParagraph 9 = .ok (.iconst 1, 1) := by decide +kernel
theorem dX6_endParagraph_10 : decode cX6_endParagraph 10 = .ok (.invokevirtual 101, 3) := by decide +kernel
theorem dX6_endParagraph_13 : decode cX6_endParagraph 13 = .ok (.ireturn, 1) := by decide +kernel
theorem dX6_endParagraph_14 : decode cX6_endParagraph 14 = .ok (.aload_n 0, 1) := by decide +kernel
theorem dX6_endParagraph_15 : decode cX6_endParagraph 15 = .ok (.invokevirtual 108, 3) := by decide +kernel
theorem dX6_endParagraph_18 : decode cX6_endParagraph 18 = .ok (.aload_n 0, 1) := by decide +kernel
theorem dX6_endParagraph_19 : decode cX6_endParagraph 19 = .ok (.iload_n 1, 1) := by decide +kernel
theorem dX6_endParagraph_20 : decode cX6_endParagraph 20 = .ok (.bipush 15, 2) := by decide +kernel
theorem dX6_endParagraph_22 : decode cX6_endParagraph 22 = .ok (.invokevirtual 43, 3) := by decide +kernel
theorem dX6_endParagraph_25 : decode cX6_endParagraph 25 = .ok (.istore_n 3, 1) := by decide +kernel
theorem dX6_endParagraph_26 : decode cX6_endParagraph 26 = .ok (.aload_n 0, 1) := by decide +kernel
theorem dX6_endParagraph_27 : decode cX6_endParagraph 27 = .ok (.iload_n 1, 1) := by decide +kernel
theorem dX6_endParagraph_28 : decode cX6_endParagraph 28 = .ok (.bipush 15, 2) := by decide +kernel
theorem dX6_endParagraph_30 : decode cX6_endParagraph 30 = .ok (.iload_n 2, 1) := by decide +kernel
theorem dX6_endParagraph_31 : decode cX6_endParagraph 31 = .ok (.ifCond .eq 7, 3) := by decide +kernel
theorem dX6_endParagraph_34 : decode cX6_endParagraph 34 = .ok (.iconst 1, 1) := by decide +kernel
theorem dX6_endParagraph_35 : decode cX6_endParagraph 35 = .ok (.goto 4, 3) := by decide +kernel
theorem dX6_endParagraph_38 : decode cX6_endParagraph 38 = .ok (.iconst 0, 1) := by decide +kernel
theorem dX6_endParagraph_39 : decode cX6_endParagraph 39 = .ok (.invokevirtual 98, 3) := by decide +kernel
theorem dX6_endParagraph_42 : decode cX6_endParagraph 42 = .ok (.aload_n 0, 1) := by decide +kernel
theorem dX6_endParagraph_43 : decode cX6_endParagraph 43 = .ok (.iload_n 3, 1) := by decide +kernel
theorem dX6_endParagraph_44 : decode cX6_endParagraph 44 = .ok (.invokevirtual 115, 3) := by decide +kernel
theorem dX6_endParagraph_47 : decode cX6_endParagraph 47 = .ok (.ireturn, 1) := by decide +kernel
set_option maxRecDepth 20000 in
theorem ggX6_setSigns_X6_isWord : GoodIn wsX6_setSigns wsX6_isWord := goodIn_r _ [5, 6, 51, 52, 53, 54, 55, 56, 57, 58, 59, 60, 61, 62, 63, 64, 65, 66] (by decide +kernel) (by decide +kernel)
set_option maxRecDepth 20000 in
theorem gX6_setSigns_X6_isWord : GoodIn wsX6_setSigns (wsV RX6 118 RX6 yX6_isWord wsX6_isWord) := goodIn_app (goodIn_of _ (by decide +kernel)) ggX6_setSigns_X6_isWord
set_option maxRecDepth 20000 in
theorem ggX6_setSigns_X6_fails : GoodIn wsX6_setSigns wsX6_fails := goodIn_r _ [10, 11, 51, 52, 53, 54, 55, 56, 57, 58, 59, 60, 61, 62, 63, 64, 65, 66] (by decide +kernel) (by decide +kernel)
set_option maxRecDepth 20000 in
theorem gX6_setSigns_X6_fails : GoodIn wsX6_setSigns (wsV RX6 101 RX6 yX6_fails wsX6_fails) := goodIn_app (goodIn_of _ (by decide +kernel)) ggX6_setSigns_X6_fails
set_option maxRecDepth 20000 in
theorem ggX6_setSigns_X6_areSigns : GoodIn wsX6_setSigns wsX6_areSigns := goodIn_r _ [14, 15, 16, 4, 17] (by decide +kernel) (by decide +kernel)
set_option maxRecDepth 20000 in
theorem gX6_setSigns_X6_areSigns : GoodIn wsX6_setSigns (va_wsS RX6 104 yX6_areSigns wsX6_areSigns) := goodIn_app (goodIn_of _ (by decide +kernel)) ggX6_setSigns_X6_areSigns
set_option maxRecDepth 20000 in
theorem ggX6_setSigns_X6_hold : GoodIn wsX6_setSigns wsX6_hold := goodIn_r _ [21, 22, 6, 51, 52, 53, 54, 55, 56, 57, 58, 59, 60, 61, 62, 63, 64, 65, 66] (by decide +kernel) (by decide +kernel)
set_option maxRecDepth 20000 in
theorem gX6_setSigns_X6_hold : GoodIn wsX6_setSigns (wsV RX6 108 RX6 yX6_hold wsX6_hold) := goodIn_app (goodIn_of _ (by decide +kernel)) ggX6_setSigns_X6_hold
set_option maxRecDepth 20000 in
theorem ggX6_setSigns_X6_puts : GoodIn wsX6_setSigns wsX6_puts := goodIn_r _ [26, 6, 51, 52, 53, 54, 55, 56, 57, 58, 59, 60, 61, 62, 63, 64, 65, 66] (by decide +kernel) (by decide +kernel)
set_option maxRecDepth 20000 in
theorem gX6_setSigns_X6_puts : GoodIn wsX6_setSigns (wsV RX6 98 RX6 yX6_puts wsX6_puts) := goodIn_app (goodIn_of _ (by decide +kernel)) ggX6_setSigns_X6_puts
set_option maxRecDepth 20000 in
theorem ggX6_setSigns_X6_widthOf : GoodIn wsX6_setSigns wsX6_widthOf := goodIn_r _ [30, 31, 32, 33, 4, 34, 6, 35, 36, 37, 38, 39, 40, 51, 52, 53, 54, 55, 56, 57, 58, 59, 60, 61, 62, 63, 64, 65, 66] (by decide +kernel) (by decide +kernel)
set_option maxRecDepth 20000 in
theorem gX6_setSigns_X6_widthOf : GoodIn wsX6_setSigns (wsV RX6 65 RX6 yX6_widthOf wsX6_widthOf) := goodIn_app (goodIn_of _ (by decide +kernel)) ggX6_setSigns_X6_widthOf
set_option maxRecDepth 20000 in
theorem ggX6_setSigns_X6_ends : GoodIn wsX6_setSigns wsX6_ends := goodIn_r _ [44, 45, 46, 22, 47, 48, 49, 4, 50, 11, 51, 52, 53, 54, 55, 56, 57, 58, 59, 60, 61, 62, 63, 64, 65, 66] (by decide +kernel) (by decide +kernel)
set_option maxRecDepth 20000 in
theorem gX6_setSigns_X6_ends : GoodIn wsX6_setSigns (wsV RX6 115 RX6 yX6_ends wsX6_ends) := goodIn_app (goodIn_of _ (by decide +kernel)) ggX6_setSigns_X6_ends
theorem dX6_setSigns_0 : decode cX6_setSigns 0 = .ok (.aload_n 0, 1) := by decide +kernel
theorem dX6_setSigns_1 : decode cX6_setSigns 1 = .ok (.iload_n 1, 1) := by decide +kernel
theorem dX6_setSigns_2 : decode cX6_setSigns 2 = .ok (.invokevirtual 118, 3) := by decide +kernel
theorem dX6_setSigns_5 : decode cX6_setSigns 5 = .ok (.ifCond .ne 9, 3) := by decide +kernel
theorem dX6_setSigns_8 : decode cX6_setSigns 8 = .ok (.aload_n 0, 1) := by decide +kernel
theorem dX6_setSigns_9 : decode cX6_setSigns 9 = .ok (.iconst 1, 1) := by decide +kernel
theorem dX6_setSigns_10 : decode cX6_setSigns 10 = .ok (.invokevirtual 101, 3) := by decide +kernel
theorem dX6_setSigns_13 : decode cX6_setSigns 13 = .ok (.ireturn, 1) := by decide +kernel
theorem dX6_setSigns_14 : decode cX6_setSigns 14 = .ok (.iload_n 2, 1) := by decide +kernel
theorem dX6_setSigns_15 : decode cX6_setSigns 15 = .ok (.iload_n 3, 1) := by decide +kernel
theorem dX6_setSigns_16 : decode cX6_setSigns 16 = .ok (.invokestatic 104, 3) := by decide +kernel
theorem dX6_setSigns_19 : decode cX6_setSigns 19 = .ok (.ifCond .ne 9, 3) := by decide +kernel
theorem dX6_setSigns_22 : decode cX6_setSigns 22 = .ok (.aload_n 0, 1) := by decide +kernel
theorem dX6_setSigns_23 : decode cX6_setSigns 23 = .ok (.iconst 2, 1) := by decide +kernel
theorem dX6_setSigns_24 : decode cX6_setSigns 24 = .ok (.invokevirtual 101, 3) := by decide +kernel
theorem dX6_setSigns_27 : decode cX6_setSigns 27 = .ok (.ireturn, 1) := by decide +kernel
theorem dX6_setSigns_28 : decode cX6_setSigns 28 = .ok (.aload_n 0, 1) := by decide +kernel
theorem dX6_setSigns_29 : decode cX6_setSigns 29 = .ok (.invokevirtual 108, 3) := by decide +kernel
theorem dX6_setSigns_32 : decode cX6_setSigns 32 = .ok (.aload_n 0, 1) := by decide +kernel
theorem dX6_setSigns_33 : decode cX6_setSigns 33 = .ok (.iload_n 1, 1) := by decide +kernel
theorem dX6_setSigns_34 : decode cX6_setSigns 34 = .ok (.bipush 13, 2) := by decide +kernel
theorem dX6_setSigns_36 : decode cX6_setSigns 36 = .ok (.iload_n 2, 1) := by decide +kernel
theorem dX6_setSigns_37 : decode cX6_setSigns 37 = .ok (.invokevirtual 98, 3) := by decide +kernel
theorem dX6_setSigns_40 : decode cX6_setSigns 40 = .ok (.aload_n 0, 1) := by decide +kernel
theorem dX6_setSigns_41 : decode cX6_setSigns 41 = .ok (.iload_n 1, 1) := by decide +kernel
theorem dX6_setSigns_42 : decode cX6_setSigns 42 = .ok (.bipush 14, 2) := by decide +kernel
theorem dX6_setSigns_44 : decode cX6_setSigns 44 = .ok (.iload_n 3, 1) := by decide +kernel
theorem dX6_setSigns_45 : decode cX6_setSigns 45 = .ok (.invokevirtual 98, 3) := by decide +kernel
theorem dX6_setSigns_48 : decode cX6_setSigns 48 = .ok (.aload_n 0, 1) := by decide +kernel
theorem dX6_setSigns_49 : decode cX6_setSigns 49 = .ok (.aload_n 0, 1) := by decide +kernel
theorem dX6_setSigns_50 : decode cX6_setSigns 50 = .ok (.iload_n 1, 1) := by decide +kernel
theorem dX6_setSigns_51 : decode cX6_setSigns 51 = .ok (.invokevirtual 65, 3) := by decide +kernel
theorem dX6_setSigns_54 : decode cX6_setSigns 54 = .ok (.invokevirtual 115, 3) := by decide +kernel
theorem dX6_setSigns_57 : decode cX6_setSigns 57 = .ok (.ireturn, 1) := by decide +kernel
set_option maxRecDepth 20000 in
theorem ggX6_isSetting_X6_in : GoodIn wsX6_isSetting wsX6_in := goodIn_r _ [4] (by decide +kernel) (by decide +kernel)
set_option maxRecDepth 20000 in
theorem gX6_isSetting_X6_in : GoodIn wsX6_isSetting (va_wsS RX6 28 yX6_in wsX6_in) := goodIn_app (goodIn_of _ (by decide +kernel)) ggX6_isSetting_X6_in
theorem dX6_isSetting_0 : decode cX6_isSetting 0 = .ok (.iload_n 0, 1) := by decide +kernel
theorem dX6_isSetting_1 : decode cX6_isSetting 1 = .ok (.tableswitch 72 0 5 #[39, 49, 57, 57, 57, 65], 39) := by decide +kernel
theorem dX6_isSetting_40 : decode cX6_isSetting 40 = .ok (.iload_n 1, 1) := by decide +kernel
theorem dX6_isSetting_41 : decode cX6_isSetting 41 = .ok (.bipush 20, 2) := by decide +kernel
theorem dX6_isSetting_43 : decode cX6_isSetting 43 = .ok (.sipush 200, 3) := by decide +kernel
theorem dX6_isSetting_46 : decode cX6_isSetting 46 = .ok (.invokestatic 28, 3) := by decide +kernel
theorem dX6_isSetting_49 : decode cX6_isSetting 49 = .ok (.ireturn, 1) := by decide +kernel
theorem dX6_isSetting_50 : decode cX6_isSetting 50 = .ok (.iload_n 1, 1) := by decide +kernel
theorem dX6_isSetting_51 : decode cX6_isSetting 51 = .ok (.iconst 2, 1) := by decide +kernel
theorem dX6_isSetting_52 : decode cX6_isSetting 52 = .ok (.bipush 20, 2) := by decide +kernel
theorem dX6_isSetting_54 : decode cX6_isSetting 54 = .ok (.invokestatic 28, 3) := by decide +kernel
theorem dX6_isSetting_57 : decode cX6_isSetting 57 = .ok (.ireturn, 1) := by decide +kernel
theorem dX6_isSetting_58 : decode cX6_isSetting 58 = .ok (.iload_n 1, 1) := by decide +kernel
theorem dX6_isSetting_59 : decode cX6_isSetting 59 = .ok (.iconst 0, 1) := by decide +kernel
theorem dX6_isSetting_60 : decode cX6_isSetting 60 = .ok (.bipush 10, 2) := by decide +kernel
theorem dX6_isSetting_62 : decode cX6_isSetting 62 = .ok (.invokestatic 28, 3) := by decide +kernel
theorem dX6_isSetting_65 : decode cX6_isSetting 65 = .ok (.ireturn, 1) := by decide +kernel
theorem dX6_isSetting_66 : decode cX6_isSetting 66 = .ok (.iload_n 1, 1) := by decide +kernel
theorem dX6_isSetting_67 : decode cX6_isSetting 67 = .ok (.iconst 0, 1) := by decide +kernel
theorem dX6_isSetting_68 : decode cX6_isSetting 68 = .ok (.iconst 1, 1) := by decide +kernel
theorem dX6_isSetting_69 : decode cX6_isSetting 69 = .ok (.invokestatic 28, 3) := by decide +kernel
theorem dX6_isSetting_72 : decode cX6_isSetting 72 = .ok (.ireturn, 1) := by decide +kernel
theorem dX6_isSetting_73 : decode cX6_isSetting 73 = .ok (.iconst 0, 1) := by decide +kernel
theorem dX6_isSetting_74 : decode cX6_isSetting 74 = .ok (.ireturn, 1) := by decide +kernel
set_option maxRecDepth 20000 in
theorem ggX6_set_X6_isSetting : GoodIn wsX6_set wsX6_isSetting := goodIn_r _ [5, 6, 7, 4, 8] (by decide +kernel) (by decide +kernel)
set_option maxRecDepth 20000 in
theorem gX6_set_X6_isSetting : GoodIn wsX6_set (va_wsS RX6 121 yX6_isSetting wsX6_isSetting) := goodIn_app (goodIn_of _ (by decide +kernel)) ggX6_set_X6_isSetting
set_option maxRecDepth 20000 in
theorem ggX6_set_X6_fails : GoodIn wsX6_set wsX6_fails := goodIn_r _ [12, 13, 29, 30, 31, 32, 33, 34, 35, 36, 37, 38, 39, 40, 41, 42, 43, 44] (by decide +kernel) (by decide +kernel)
set_option maxRecDepth 20000 in
theorem gX6_set_X6_fails : GoodIn wsX6_set (wsV RX6 101 RX6 yX6_fails wsX6_fails) := goodIn_app (goodIn_of _ (by decide +kernel)) ggX6_set_X6_fails
set_option maxRecDepth 20000 in
theorem ggX6_set_X6_hold : GoodIn wsX6_set wsX6_hold := goodIn_r _ [17, 18, 1, 29, 30, 31, 32, 33, 34, 35, 36, 37, 38, 39, 40, 41, 42, 43, 44] (by decide +kernel) (by decide +kernel)
set_option maxRecDepth 20000 in
theorem gX6_set_X6_hold : GoodIn wsX6_set (wsV RX6 108 RX6 yX6_hold wsX6_hold) := goodIn_app (goodIn_of _ (by decide +kernel)) ggX6_set_X6_hold
set_option maxRecDepth 20000 in
theorem ggX6_set_X6_ends : GoodIn wsX6_set wsX6_ends := goodIn_r _ [22, 23, 24, 18, 25, 26, 27, 4, 28, 13, 29, 30, 31, 32, 33, 34, 35, 36, 37, 38, 39, 40, 41, 42, 43, 44] (by decide +kernel) (by decide +kernel)
set_option maxRecDepth 20000 in
theorem gX6_set_X6_ends : GoodIn wsX6_set (wsV RX6 115 RX6 yX6_ends wsX6_ends) := goodIn_app (goodIn_of _ (by decide +kernel)) ggX6_set_X6_ends
theorem dX6_set_0 : decode cX6_set 0 = .ok (.iload_n 1, 1) := by decide +kernel
theorem dX6_set_1 : decode cX6_set 1 = .ok (.iload_n 2, 1) := by decide +kernel
theorem dX6_set_2 : decode cX6_set 2 = .ok (.invokestatic 121, 3) := by decide +kernel
theorem dX6_set_5 : decode cX6_set 5 = .ok (.ifCond .ne 9, 3) := by decide +kernel
theorem dX6_set_8 : decode cX6_set 8 = .ok (.aload_n 0, 1) := by decide +kernel
theorem dX6_set_9 : decode cX6_set 9 = .ok (.iconst 1, 1) := by decide +kernel
theorem dX6_set_10 : decode cX6_set 10 = .ok (.invokevirtual 101, 3) := by decide +kernel
theorem dX6_set_13 : decode cX6_set 13 = .ok (.ireturn, 1) := by decide +kernel
theorem dX6_set_14 : decode cX6_set 14 = .ok (.aload_n 0, 1) := by decide +kernel
theorem dX6_set_15 : decode cX6_set 15 = .ok (.invokevirtual 108, 3) := by decide +kernel
theorem dX6_set_18 : decode cX6_set 18 = .ok (.aload_n 0, 1) := by decide +kernel
theorem dX6_set_19 : decode cX6_set 19 = .ok (.getfield 7, 3) := by decide +kernel
theorem dX6_set_22 : decode cX6_set 22 = .ok (.iload_n 1, 1) := by decide +kernel
theorem dX6_set_23 : decode cX6_set 23 = .ok (.iaload, 1) := by decide +kernel
theorem dX6_set_24 : decode cX6_set 24 = .ok (.istore_n 3, 1) := by decide +kernel
theorem dX6_set_25 : decode cX6_set 25 = .ok (.aload_n 0, 1) := by decide +kernel
theorem dX6_set_26 : decode cX6_set 26 = .ok (.getfield 7, 3) := by decide +kernel
theorem dX6_set_29 : decode cX6_set 29 = .ok (.iload_n 1, 1) := by decide +kernel
theorem dX6_set_30 : decode cX6_set 30 = .ok (.iload_n 2, 1) := by decide +kernel
theorem dX6_set_31 : decode cX6_set 31 = .ok (.iastore, 1) := by decide +kernel
theorem dX6_set_32 : decode cX6_set 32 = .ok (.aload_n 0, 1) := by decide +kernel
theorem dX6_set_33 : decode cX6_set 33 = .ok (.iload_n 3, 1) := by decide +kernel
theorem dX6_set_34 : decode cX6_set 34 = .ok (.invokevirtual 115, 3) := by decide +kernel
theorem dX6_set_37 : decode cX6_set 37 = .ok (.ireturn, 1) := by decide +kernel
set_option maxRecDepth 20000 in
theorem ggX6_setShare_X6_in : GoodIn wsX6_setShare wsX6_in := goodIn_r _ [5] (by decide +kernel) (by decide +kernel)
set_option maxRecDepth 20000 in
theorem gX6_setShare_X6_in : GoodIn wsX6_setShare (va_wsS RX6 28 yX6_in wsX6_in) := goodIn_app (goodIn_of _ (by decide +kernel)) ggX6_setShare_X6_in
set_option maxRecDepth 20000 in
theorem ggX6_setShare_X6_fails : GoodIn wsX6_setShare wsX6_fails := goodIn_r _ [9, 10, 26, 27, 28, 29, 30, 31, 32, 33, 34, 35, 36, 37, 38, 39, 40, 41] (by decide +kernel) (by decide +kernel)
set_option maxRecDepth 20000 in
theorem gX6_setShare_X6_fails : GoodIn wsX6_setShare (wsV RX6 101 RX6 yX6_fails wsX6_fails) := goodIn_app (goodIn_of _ (by decide +kernel)) ggX6_setShare_X6_fails
set_option maxRecDepth 20000 in
theorem ggX6_setShare_X6_hold : GoodIn wsX6_setShare wsX6_hold := goodIn_r _ [14, 15, 1, 26, 27, 28, 29, 30, 31, 32, 33, 34, 35, 36, 37, 38, 39, 40, 41] (by decide +kernel) (by decide +kernel)
set_option maxRecDepth 20000 in
theorem gX6_setShare_X6_hold : GoodIn wsX6_setShare (wsV RX6 108 RX6 yX6_hold wsX6_hold) := goodIn_app (goodIn_of _ (by decide +kernel)) ggX6_setShare_X6_hold
set_option maxRecDepth 20000 in
theorem ggX6_setShare_X6_ends : GoodIn wsX6_setShare wsX6_ends := goodIn_r _ [19, 20, 21, 15, 22, 23, 24, 4, 25, 10, 26, 27, 28, 29, 30, 31, 32, 33, 34, 35, 36, 37, 38, 39, 40, 41] (by decide +kernel) (by decide +kernel)
set_option maxRecDepth 20000 in
theorem gX6_setShare_X6_ends : GoodIn wsX6_setShare (wsV RX6 115 RX6 yX6_ends wsX6_ends) := goodIn_app (goodIn_of _ (by decide +kernel)) ggX6_setShare_X6_ends
theorem dX6_setShare_0 : decode cX6_setShare 0 = .ok (.iload_n 1, 1) := by decide +kernel
theorem dX6_setShare_1 : decode cX6_setShare 1 = .ok (.iconst 0, 1) := by decide +kernel
theorem dX6_setShare_2 : decode cX6_setShare 2 = .ok (.bipush 7, 2) := by decide +kernel
theorem dX6_setShare_4 : decode cX6_setShare 4 = .ok (.invokestatic 28, 3) := by decide +kernel
theorem dX6_setShare_7 : decode cX6_setShare 7 = .ok (.ifCond .ne 9, 3) := by decide +kernel
theorem dX6_setShare_10 : decode cX6_setShare 10 = .ok (.aload_n 0, 1) := by decide +kernel
theorem dX6_setShare_11 : decode cX6_setShare 11 = .ok (.iconst 1, 1) := by decide +kernel
theorem dX6_setShare_12 : decode cX6_setShare 12 = .ok (.invokevirtual 101, 3) := by decide +kernel
theorem dX6_setShare_15 : decode cX6_setShare 15 = .ok (.ireturn, 1) := by decide +kernel
theorem dX6_setShare_16 : decode cX6_setShare 16 = .ok (.iload_n 2, 1) := by decide +kernel
theorem dX6_setShare_17 : decode cX6_setShare 17 = .ok (.iconst 0, 1) := by decide +kernel
theorem dX6_setShare_18 : decode cX6_setShare 18 = .ok (.bipush 100, 2) := by decide +kernel
theorem dX6_setShare_20 : decode cX6_setShare 20 = .ok (.invokestatic 28, 3) := by decide +kernel
theorem dX6_setShare_23 : decode cX6_setShare 23 = .ok (.ifCond .ne 9, 3) := by decide +kernel
theorem dX6_setShare_26 : decode cX6_setShare 26 = .ok (.aload_n 0, 1) := by decide +kernel
theorem dX6_setShare_27 : decode cX6_setShare 27 = .ok (.iconst 2, 1) := by decide +kernel
theorem dX6_setShare_28 : decode cX6_setShare 28 = .ok (.invokevirtual 101, 3) := by decide +kernel
theorem dX6_setShare_31 : decode cX6_setShare 31 = .ok (.ireturn, 1) := by decide +kernel
theorem dX6_setShare_32 : decode cX6_setShare 32 = .ok (.aload_n 0, 1) := by decide +kernel
theorem dX6_setShare_33 : decode cX6_setShare 33 = .ok (.invokevirtual 108, 3) := by decide +kernel
theorem dX6_setShare_36 : decode cX6_setShare 36 = .ok (.aload_n 0, 1) := by decide +kernel
theorem dX6_setShare_37 : decode cX6_setShare 37 = .ok (.getfield 7, 3) := by decide +kernel
theorem dX6_setShare_40 : decode cX6_setShare 40 = .ok (.bipush 6, 2) := by decide +kernel
theorem dX6_setShare_42 : decode cX6_setShare 42 = .ok (.iload_n 1, 1) := by decide +kernel
theorem dX6_setShare_43 : decode cX6_setShare 43 = .ok (.iadd, 1) := by decide +kernel
theorem dX6_setShare_44 : decode cX6_setShare 44 = .ok (.iaload, 1) := by decide +kernel
theorem dX6_setShare_45 : decode cX6_setShare 45 = .ok (.istore_n 3, 1) := by decide +kernel
theorem dX6_setShare_46 : decode cX6_setShare 46 = .ok (.aload_n 0, 1) := by decide +kernel
theorem dX6_setShare_47 : decode cX6_setShare 47 = .ok (.getfield 7, 3) := by decide +kernel
theorem dX6_setShare_50 : decode cX6_setShare 50 = .ok (.bipush 6, 2) := by decide +kernel
theorem dX6_setShare_52 : decode cX6_setShare 52 = .ok (.iload_n 1, 1) := by decide +kernel
theorem dX6_setShare_53 : decode cX6_setShare 53 = .ok (.iadd, 1) := by decide +kernel
theorem dX6_setShare_54 : decode cX6_setShare 54 = .ok (.iload_n 2, 1) := by decide +kernel
theorem dX6_setShare_55 : decode cX6_setShare 55 = .ok (.iastore, 1) := by decide +kernel
theorem dX6_setShare_56 : decode cX6_setShare 56 = .ok (.aload_n 0, 1) := by decide +kernel
theorem dX6_setShare_57 : decode cX6_setShare 57 = .ok (.iload_n 3, 1) := by decide +kernel
theorem dX6_setShare_58 : decode cX6_setShare 58 = .ok (.invokevirtual 115, 3) := by decide +kernel
theorem dX6_setShare_61 : decode cX6_setShare 61 = .ok (.ireturn, 1) := by decide +kernel
theorem dX6_lineOf_0 : decode cX6_lineOf 0 = .ok (.iconst 0, 1) := by decide +kernel
theorem dX6_lineOf_1 : decode cX6_lineOf 1 = .ok (.istore_n 2, 1) := by decide +kernel
theorem dX6_lineOf_2 : decode cX6_lineOf 2 = .ok (.aload_n 0, 1) := by decide +kernel
theorem dX6_lineOf_3 : decode cX6_lineOf 3 = .ok (.getfield 22, 3) := by decide +kernel
theorem dX6_lineOf_6 : decode cX6_lineOf 6 = .ok (.bipush 10, 2) := by decide +kernel
theorem dX6_lineOf_8 : decode cX6_lineOf 8 = .ok (.iload_n 2, 1) := by decide +kernel
theorem dX6_lineOf_9 : decode cX6_lineOf 9 = .ok (.imul, 1) := by decide +kernel
theorem dX6_lineOf_10 : decode cX6_lineOf 10 = .ok (.iconst 1, 1) := by decide +kernel
theorem dX6_lineOf_11 : decode cX6_lineOf 11 = .ok (.iadd, 1) := by decide +kernel
theorem dX6_lineOf_12 : decode cX6_lineOf 12 = .ok (.iaload, 1) := by decide +kernel
theorem dX6_lineOf_13 : decode cX6_lineOf 13 = .ok (.aload_n 0, 1) := by decide +kernel
theorem dX6_lineOf_14 : decode cX6_lineOf 14 = .ok (.getfield 22, 3) := by decide +kernel
theorem dX6_lineOf_17 : decode cX6_lineOf 17 = .ok (.bipush 10, 2) := by decide +kernel
theorem dX6_lineOf_19 : decode cX6_lineOf 19 = .ok (.iload_n 2, 1) := by decide +kernel
theorem dX6_lineOf_20 : decode cX6_lineOf 20 = .ok (.imul, 1) := by decide +kernel
theorem dX6_lineOf_21 : decode cX6_lineOf 21 = .ok (.iconst 2, 1) := by decide +kernel
theorem dX6_lineOf_22 : decode cX6_lineOf 22 = .ok (.iadd, 1) := by decide +kernel
theorem dX6_lineOf_23 : decode cX6_lineOf 23 = .ok (.iaload, 1) := by decide +kernel
theorem dX6_lineOf_24 : decode cX6_lineOf 24 = .ok (.iadd, 1) := by decide +kernel
theorem dX6_lineOf_25 : decode cX6_lineOf 25 = .ok (.iload_n 1, 1) := by decide +kernel
theorem dX6_lineOf_26 : decode cX6_lineOf 26 = .ok (.if_icmp .gt 9, 3) := by decide +kernel
theorem dX6_lineOf_29 : decode cX6_lineOf 29 = .ok (.iinc 2 1, 3) := by decide +kernel
theorem dX6_lineOf_32 : decode cX6_lineOf 32 = .ok (.goto (-30), 3) := by decide +kernel
theorem dX6_lineOf_35 : decode cX6_lineOf 35 = .ok (.iload_n 2, 1) := by decide +kernel
theorem dX6_lineOf_36 : decode cX6_lineOf 36 = .ok (.ireturn, 1) := by decide +kernel
set_option maxRecDepth 20000 in
theorem ggX6_edgeOf_X6_lineOf : GoodIn wsX6_edgeOf wsX6_lineOf := goodIn_r _ [6, 1, 22, 23, 24, 25, 26, 27, 28, 29, 30, 31, 32, 33, 34, 35, 36, 37] (by decide +kernel) (by decide +kernel)
set_option maxRecDepth 20000 in
theorem gX6_edgeOf_X6_lineOf : GoodIn wsX6_edgeOf (wsV RX6 124 RX6 yX6_lineOf wsX6_lineOf) := goodIn_app (goodIn_of _ (by decide +kernel)) ggX6_edgeOf_X6_lineOf
set_option maxRecDepth 20000 in
theorem ggX6_edgeOf_X6_widthOf : GoodIn wsX6_edgeOf wsX6_widthOf := goodIn_r _ [10, 11, 12, 13, 5, 14, 15, 16, 17, 18, 19, 20, 21, 22, 23, 24, 25, 26, 27, 28, 29, 30, 31, 32, 33, 34, 35, 36, 37] (by decide +kernel) (by decide +kernel)
set_option maxRecDepth 20000 in
theorem gX6_edgeOf_X6_widthOf : GoodIn wsX6_edgeOf (wsV RX6 65 RX6 yX6_widthOf wsX6_widthOf) := goodIn_app (goodIn_of _ (by decide +kernel)) ggX6_edgeOf_X6_widthOf
theorem dX6_edgeOf_0 : decode cX6_edgeOf 0 = .ok (.aload_n 0, 1) := by decide +kernel
theorem dX6_edgeOf_1 : decode cX6_edgeOf 1 = .ok (.iload_n 1, 1) := by decide +kernel
theorem dX6_edgeOf_2 : decode cX6_edgeOf 2 = .ok (.invokevirtual 124, 3) := by decide +kernel
theorem dX6_edgeOf_5 : decode cX6_edgeOf 5 = .ok (.istore_n 2, 1) := by decide +kernel
theorem dX6_edgeOf_6 : decode cX6_edgeOf 6 = .ok (.aload_n 0, 1) := by decide +kernel
theorem dX6_edgeOf_7 : decode cX6_edgeOf 7 = .ok (.getfield 22, 3) := by decide +kernel
theorem dX6_edgeOf_10 : decode cX6_edgeOf 10 = .ok (.bipush 10, 2) := by decide +kernel
theorem dX6_edgeOf_12 : decode cX6_edgeOf 12 = .ok (.iload_n 2, 1) := by decide +kernel
theorem dX6_edgeOf_13 : decode cX6_edgeOf 13 = .ok (.imul, 1) := by decide +kernel
theorem dX6_edgeOf_14 : decode cX6_edgeOf 14 = .ok (.iconst 5, 1) := by decide +kernel
theorem dX6_edgeOf_15 : decode cX6_edgeOf 15 = .ok (.iadd, 1) := by decide +kernel
theorem dX6_edgeOf_16 : decode cX6_edgeOf 16 = .ok (.iaload, 1) := by decide +kernel
theorem dX6_edgeOf_17 : decode cX6_edgeOf 17 = .ok (.ineg, 1) := by decide +kernel
theorem dX6_edgeOf_18 : decode cX6_edgeOf 18 = .ok (.istore_n 3, 1) := by decide +kernel
theorem dX6_edgeOf_19 : decode cX6_edgeOf 19 = .ok (.aload_n 0, 1) := by decide +kernel
theorem dX6_edgeOf_20 : decode cX6_edgeOf 20 = .ok (.getfield 22, 3) := by decide +kernel
theorem dX6_edgeOf_23 : decode cX6_edgeOf 23 = .ok (.bipush 10, 2) := by decide +kernel
theorem dX6_edgeOf_25 : decode cX6_edgeOf 25 = .ok (.iload_n 2, 1) := by decide +kernel
theorem dX6_edgeOf_26 : decode cX6_edgeOf 26 = .ok (.imul, 1) := by decide +kernel
theorem dX6_edgeOf_27 : decode cX6_edgeOf 27 = .ok (.iconst 1, 1) := by decide +kernel
theorem dX6_edgeOf_28 : decode cX6_edgeOf 28 = .ok (.iadd, 1) := by decide +kernel
theorem dX6_edgeOf_29 : decode cX6_edgeOf 29 = .ok (.iaload, 1) := by decide +kernel
theorem dX6_edgeOf_30 : decode cX6_edgeOf 30 = .ok (.istore 4, 2) := by decide +kernel
theorem dX6_edgeOf_32 : decode cX6_edgeOf 32 = .ok (.iload 4, 2) := by decide +kernel
theorem dX6_edgeOf_34 : decode cX6_edgeOf 34 = .ok (.iload_n 1, 1) := by decide +kernel
theorem dX6_edgeOf_35 : decode cX6_edgeOf 35 = .ok (.if_icmp .ge 20, 3) := by decide +kernel
theorem dX6_edgeOf_38 : decode cX6_edgeOf 38 = .ok (.iload_n 3, 1) := by decide +kernel
theorem dX6_edgeOf_39 : decode cX6_edgeOf 39 = .ok (.aload_n 0, 1) := by decide +kernel
theorem dX6_edgeOf_40 : decode cX6_edgeOf 40 = .ok (.iload 4, 2) := by decide +kernel
theorem dX6_edgeOf_42 : decode cX6_edgeOf 42 = .ok (.invokevirtual 65, 3) := by decide +kernel
theorem dX6_edgeOf_45 : decode cX6_edgeOf 45 = .ok (.iconst 2, 1) := by decide +kernel
theorem dX6_edgeOf_46 : decode cX6_edgeOf 46 = .ok (.iadd, 1) := by decide +kernel
theorem dX6_edgeOf_47 : decode cX6_edgeOf 47 = .ok (.iadd, 1) := by decide +kernel
theorem dX6_edgeOf_48 : decode cX6_edgeOf 48 = .ok (.istore_n 3, 1) := by decide +kernel
theorem dX6_edgeOf_49 : decode cX6_edgeOf 49 = .ok (.iinc 4 1, 3) := by decide +kernel
theorem dX6_edgeOf_52 : decode cX6_edgeOf 52 = .ok (.goto (-20), 3) := by decide +kernel
theorem dX6_edgeOf_55 : decode cX6_edgeOf 55 = .ok (.iload_n 3, 1) := by decide +kernel
theorem dX6_edgeOf_56 : decode cX6_edgeOf 56 = .ok (.ireturn, 1) := by decide +kernel
set_option maxRecDepth 20000 in
theorem ggX6_wordOf_X6_lineOf : GoodIn wsX6_wordOf wsX6_lineOf := goodIn_r _ [6, 1, 26, 27, 28, 29, 30, 31, 32, 33, 34, 35, 36, 37, 38, 39, 40, 41] (by decide +kernel) (by decide +kernel)
set_option maxRecDepth 20000 in
theorem gX6_wordOf_X6_lineOf : GoodIn wsX6_wordOf (wsV RX6 124 RX6 yX6_lineOf wsX6_lineOf) := goodIn_app (goodIn_of _ (by decide +kernel)) ggX6_wordOf_X6_lineOf
set_option maxRecDepth 20000 in
theorem ggX6_wordOf_X6_of : GoodIn wsX6_wordOf wsX6_of := goodIn_r _ [10, 11, 26, 27, 28, 29, 30, 31, 32, 33, 34, 35, 36, 37, 38, 39, 40, 41] (by decide +kernel) (by decide +kernel)
set_option maxRecDepth 20000 in
theorem gX6_wordOf_X6_of : GoodIn wsX6_wordOf (wsV RX6 43 RX6 yX6_of wsX6_of) := goodIn_app (goodIn_of _ (by decide +kernel)) ggX6_wordOf_X6_of
set_option maxRecDepth 20000 in
theorem ggX6_wordOf_X6_widthOf : GoodIn wsX6_wordOf wsX6_widthOf := goodIn_r _ [15, 7, 8, 9, 5, 10, 11, 16, 17, 18, 19, 20, 21, 26, 27, 28, 29, 30, 31, 32, 33, 34, 35, 36, 37, 38, 39, 40, 41] (by decide +kernel) (by decide +kernel)
set_option maxRecDepth 20000 in
theorem gX6_wordOf_X6_widthOf : GoodIn wsX6_wordOf (wsV RX6 65 RX6 yX6_widthOf wsX6_widthOf) := goodIn_app (goodIn_of _ (by decide +kernel)) ggX6_wordOf_X6_widthOf
set_option maxRecDepth 20000 in
theorem ggX6_wordOf_X6_edgeOf : GoodIn wsX6_wordOf wsX6_edgeOf := goodIn_r _ [25, 1, 2, 3, 4, 5, 6, 12, 13, 14, 15, 7, 8, 9, 10, 11, 16, 17, 18, 19, 20, 21, 26, 27, 28, 29, 30, 31, 32, 33, 34, 35, 36, 37, 38, 39, 40, 41] (by decide +kernel) (by decide +kernel)
set_option maxRecDepth 20000 in
theorem gX6_wordOf_X6_edgeOf : GoodIn wsX6_wordOf (wsV RX6 127 RX6 yX6_edgeOf wsX6_edgeOf) := goodIn_app (goodIn_of _ (by decide +kernel)) ggX6_wordOf_X6_edgeOf
theorem dX6_wordOf_0 : decode cX6_wordOf 0 = .ok (.aload_n 0, 1) := by decide +kernel
theorem dX6_wordOf_1 : decode cX6_wordOf 1 = .ok (.iload_n 1, 1) := by decide +kernel
theorem dX6_wordOf_2 : decode cX6_wordOf 2 = .ok (.invokevirtual 124, 3) := by decide +kernel
theorem dX6_wordOf_5 : decode cX6_wordOf 5 = .ok (.istore_n 3, 1) := by decide +kernel
theorem dX6_wordOf_6 : decode cX6_wordOf 6 = .ok (.iload_n 2, 1) := by decide +kernel
theorem dX6_wordOf_7 : decode cX6_wordOf 7 = .ok (.tableswitch 95 0 7 #[45, 53, 59, 59, 59, 69, 71, 85], 45) := by decide +kernel
theorem dX6_wordOf_52 : decode cX6_wordOf 52 = .ok (.aload_n 0, 1) := by decide +kernel
theorem dX6_wordOf_53 : decode cX6_wordOf 53 = .ok (.iload_n 1, 1) := by decide +kernel
theorem dX6_wordOf_54 : decode cX6_wordOf 54 = .ok (.bipush 12, 2) := by decide +kernel
theorem dX6_wordOf_56 : decode cX6_wordOf 56 = .ok (.invokevirtual 43, 3) := by decide +kernel
theorem dX6_wordOf_59 : decode cX6_wordOf 59 = .ok (.ireturn, 1) := by decide +kernel
theorem dX6_wordOf_60 : decode cX6_wordOf 60 = .ok (.aload_n 0, 1) := by decide +kernel
theorem dX6_wordOf_61 : decode cX6_wordOf 61 = .ok (.iload_n 1, 1) := by decide +kernel
theorem dX6_wordOf_62 : decode cX6_wordOf 62 = .ok (.invokevirtual 65, 3) := by decide +kernel
theorem dX6_wordOf_65 : decode cX6_wordOf 65 = .ok (.ireturn, 1) := by decide +kernel
theorem dX6_wordOf_66 : decode cX6_wordOf 66 = .ok (.aload_n 0, 1) := by decide +kernel
theorem dX6_wordOf_67 : decode cX6_wordOf 67 = .ok (.iload_n 1, 1) := by decide +kernel
theorem dX6_wordOf_68 : decode cX6_wordOf 68 = .ok (.iload_n 2, 1) := by decide +kernel
theorem dX6_wordOf_69 : decode cX6_wordOf 69 = .ok (.bipush 11, 2) := by decide +kernel
theorem dX6_wordOf_71 : decode cX6_wordOf 71 = .ok (.iadd, 1) := by decide +kernel
theorem dX6_wordOf_72 : decode cX6_wordOf 72 = .ok (.invokevirtual 43, 3) := by decide +kernel
theorem dX6_wordOf_75 : decode cX6_wordOf 75 = .ok (.ireturn, 1) := by decide +kernel
theorem dX6_wordOf_76 : decode cX6_wordOf 76 = .ok (.iload_n 3, 1) := by decide +kernel
theorem dX6_wordOf_77 : decode cX6_wordOf 77 = .ok (.ireturn, 1) := by decide +kernel
theorem dX6_wordOf_78 : decode cX6_wordOf 78 = .ok (.iload_n 1, 1) := by decide +kernel
theorem dX6_wordOf_79 : decode cX6_wordOf 79 = .ok (.aload_n 0, 1) := by decide +kernel
theorem dX6_wordOf_80 : decode cX6_wordOf 80 = .ok (.getfield 22, 3) := by decide +kernel
theorem dX6_wordOf_83 : decode cX6_wordOf 83 = .ok (.bipush 10, 2) := by decide +kernel
theorem dX6_wordOf_85 : decode cX6_wordOf 85 = .ok (.iload_n 3, 1) := by decide +kernel
theorem dX6_wordOf_86 : decode cX6_wordOf 86 = .ok (.imul, 1) := by decide +kernel
theorem dX6_wordOf_87 : decode cX6_wordOf 87 = .ok (.iconst 1, 1) := by decide +kernel
theorem dX6_wordOf_88 : decode cX6_wordOf 88 = .ok (.iadd, 1) := by decide +kernel
theorem dX6_wordOf_89 : decode cX6_wordOf 89 = .ok (.iaload, 1) := by decide +kernel
theorem dX6_wordOf_90 : decode cX6_wordOf 90 = .ok (.isub, 1) := by decide +kernel
theorem dX6_wordOf_91 : decode cX6_wordOf 91 = .ok (.ireturn, 1) := by decide +kernel
theorem dX6_wordOf_92 : decode cX6_wordOf 92 = .ok (.aload_n 0, 1) := by decide +kernel
theorem dX6_wordOf_93 : decode cX6_wordOf 93 = .ok (.getfield 22, 3) := by decide +kernel
theorem dX6_wordOf_96 : decode cX6_wordOf 96 = .ok (.bipush 10, 2) := by decide +kernel
theorem dX6_wordOf_98 : decode cX6_wordOf 98 = .ok (.iload_n 3, 1) := by decide +kernel
theorem dX6_wordOf_99 : decode cX6_wordOf 99 = .ok (.imul, 1) := by decide +kernel
theorem dX6_wordOf_100 : decode cX6_wordOf 100 = .ok (.iaload, 1) := by decide +kernel
theorem dX6_wordOf_101 : decode cX6_wordOf 101 = .ok (.ireturn, 1) := by decide +kernel
theorem dX6_wordOf_102 : decode cX6_wordOf 102 = .ok (.aload_n 0, 1) := by decide +kernel
theorem dX6_wordOf_103 : decode cX6_wordOf 103 = .ok (.iload_n 1, 1) := by decide +kernel
theorem dX6_wordOf_104 : decode cX6_wordOf 104 = .ok (.invokevirtual 127, 3) := by decide +kernel
theorem dX6_wordOf_107 : decode cX6_wordOf 107 = .ok (.ireturn, 1) := by decide +kernel
set_option maxRecDepth 20000 in
theorem ggX6_word_X6_isWord : GoodIn wsX6_word wsX6_isWord := goodIn_r _ [5, 6, 76, 77, 78, 79, 80, 81, 82, 83, 84, 85, 86, 87, 88, 89, 90, 91] (by decide +kernel) (by decide +kernel)
set_option maxRecDepth 20000 in
theorem gX6_word_X6_isWord : GoodIn wsX6_word (wsV RX6 118 RX6 yX6_isWord wsX6_isWord) := goodIn_app (goodIn_of _ (by decide +kernel)) ggX6_word_X6_isWord
set_option maxRecDepth 20000 in
theorem ggX6_word_X6_fails : GoodIn wsX6_word wsX6_fails := goodIn_r _ [10, 11, 76, 77, 78, 79, 80, 81, 82, 83, 84, 85, 86, 87, 88, 89, 90, 91] (by decide +kernel) (by decide +kernel)
set_option maxRecDepth 20000 in
theorem gX6_word_X6_fails : GoodIn wsX6_word (wsV RX6 101 RX6 yX6_fails wsX6_fails) := goodIn_app (goodIn_of _ (by decide +kernel)) ggX6_word_X6_fails
set_option maxRecDepth 20000 in
theorem ggX6_word_X6_in : GoodIn wsX6_word wsX6_in := goodIn_r _ [14] (by decide +kernel) (by decide +kernel)
set_option maxRecDepth 20000 in
theorem gX6_word_X6_in : GoodIn wsX6_word (va_wsS RX6 28 yX6_in wsX6_in) := goodIn_app (goodIn_of _ (by decide +kernel)) ggX6_word_X6_in
set_option maxRecDepth 20000 in
theorem ggX6_word_X6_makes : GoodIn wsX6_word wsX6_makes := goodIn_r _ [18, 6, 19, 20, 21, 4, 22, 23, 24, 25, 26, 27, 28, 29, 30, 31, 32, 33, 34, 35, 36, 37, 38, 39, 40, 41, 42, 43, 44, 45, 46, 47, 48, 49, 50, 51, 52, 53, 54, 55, 56, 57, 58, 59, 76, 77, 78, 79, 80, 81, 82, 83, 84, 85, 86, 87, 88, 89, 90, 91] (by decide +kernel) (by decide +kernel)
