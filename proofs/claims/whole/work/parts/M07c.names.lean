theorem dX6_undo_0 : decode cX6_undo 0 = .ok (.aload_n 0, 1) := by decide +kernel
theorem dX6_undo_1 : decode cX6_undo 1 = .ok (.getfield 36, 3) := by decide +kernel
theorem dX6_undo_4 : decode cX6_undo 4 = .ok (.ifCond .ne 9, 3) := by decide +kernel
theorem dX6_undo_7 : decode cX6_undo 7 = .ok (.aload_n 0, 1) := by decide +kernel
theorem dX6_undo_8 : decode cX6_undo 8 = .ok (.iconst 1, 1) := by decide +kernel
theorem dX6_undo_9 : decode cX6_undo 9 = .ok (.invokevirtual 101, 3) := by decide +kernel
theorem dX6_undo_12 : decode cX6_undo 12 = .ok (.ireturn, 1) := by decide +kernel
theorem dX6_undo_13 : decode cX6_undo 13 = .ok (.aload_n 0, 1) := by decide +kernel
theorem dX6_undo_14 : decode cX6_undo 14 = .ok (.dup, 1) := by decide +kernel
theorem dX6_undo_15 : decode cX6_undo 15 = .ok (.getfield 36, 3) := by decide +kernel
theorem dX6_undo_18 : decode cX6_undo 18 = .ok (.iconst 1, 1) := by decide +kernel
theorem dX6_undo_19 : decode cX6_undo 19 = .ok (.isub, 1) := by decide +kernel
theorem dX6_undo_20 : decode cX6_undo 20 = .ok (.putfield 36, 3) := by decide +kernel
theorem dX6_undo_23 : decode cX6_undo 23 = .ok (.iconst 0, 1) := by decide +kernel
theorem dX6_undo_24 : decode cX6_undo 24 = .ok (.istore_n 1, 1) := by decide +kernel
theorem dX6_undo_25 : decode cX6_undo 25 = .ok (.iload_n 1, 1) := by decide +kernel
theorem dX6_undo_26 : decode cX6_undo 26 = .ok (.sipush 975, 3) := by decide +kernel
theorem dX6_undo_29 : decode cX6_undo 29 = .ok (.if_icmp .ge 30, 3) := by decide +kernel
theorem dX6_undo_32 : decode cX6_undo 32 = .ok (.aload_n 0, 1) := by decide +kernel
theorem dX6_undo_33 : decode cX6_undo 33 = .ok (.getfield 7, 3) := by decide +kernel
theorem dX6_undo_36 : decode cX6_undo 36 = .ok (.iload_n 1, 1) := by decide +kernel
theorem dX6_undo_37 : decode cX6_undo 37 = .ok (.aload_n 0, 1) := by decide +kernel
theorem dX6_undo_38 : decode cX6_undo 38 = .ok (.getfield 13, 3) := by decide +kernel
theorem dX6_undo_41 : decode cX6_undo 41 = .ok (.sipush 975, 3) := by decide +kernel
theorem dX6_undo_44 : decode cX6_undo 44 = .ok (.aload_n 0, 1) := by decide +kernel
theorem dX6_undo_45 : decode cX6_undo 45 = .ok (.getfield 36, 3) := by decide +kernel
theorem dX6_undo_48 : decode cX6_undo 48 = .ok (.imul, 1) := by decide +kernel
theorem dX6_undo_49 : decode cX6_undo 49 = .ok (.iload_n 1, 1) := by decide +kernel
theorem dX6_undo_50 : decode cX6_undo 50 = .ok (.iadd, 1) := by decide +kernel
theorem dX6_undo_51 : decode cX6_undo 51 = .ok (.iaload, 1) := by decide +kernel
theorem dX6_undo_52 : decode cX6_undo 52 = .ok (.iastore, 1) := by decide +kernel
theorem dX6_undo_53 : decode cX6_undo 53 = .ok (.iinc 1 1, 3) := by decide +kernel
theorem dX6_undo_56 : decode cX6_undo 56 = .ok (.goto (-31), 3) := by decide +kernel
theorem dX6_undo_59 : decode cX6_undo 59 = .ok (.aload_n 0, 1) := by decide +kernel
theorem dX6_undo_60 : decode cX6_undo 60 = .ok (.aload_n 0, 1) := by decide +kernel
theorem dX6_undo_61 : decode cX6_undo 61 = .ok (.getfield 36, 3) := by decide +kernel
theorem dX6_undo_64 : decode cX6_undo 64 = .ok (.invokevirtual 39, 3) := by decide +kernel
theorem dX6_undo_67 : decode cX6_undo 67 = .ok (.ireturn, 1) := by decide +kernel
theorem dX6_mix_0 : decode cX6_mix 0 = .ok (.aload_n 0, 1) := by decide +kernel
theorem dX6_mix_1 : decode cX6_mix 1 = .ok (.ldc2_w 178, 3) := by decide +kernel
theorem dX6_mix_4 : decode cX6_mix 4 = .ok (.aload_n 0, 1) := by decide +kernel
theorem dX6_mix_5 : decode cX6_mix 5 = .ok (.getfield 180, 3) := by decide +kernel
theorem dX6_mix_8 : decode cX6_mix 8 = .ok (.lmul, 1) := by decide +kernel
theorem dX6_mix_9 : decode cX6_mix 9 = .ok (.iload_n 1, 1) := by decide +kernel
theorem dX6_mix_10 : decode cX6_mix 10 = .ok (.i2l, 1) := by decide +kernel
theorem dX6_mix_11 : decode cX6_mix 11 = .ok (.ladd, 1) := by decide +kernel
theorem dX6_mix_12 : decode cX6_mix 12 = .ok (.putfield 180, 3) := by decide +kernel
theorem dX6_mix_15 : decode cX6_mix 15 = .ok (.return_, 1) := by decide +kernel
set_option maxRecDepth 20000 in
theorem ggX6_mixLine_X6_lineTold : GoodIn wsX6_mixLine wsX6_lineTold := goodIn_r _ [5, 6, 7, 8, 9, 4, 10, 11, 12, 13, 14, 15, 16, 17, 18, 19, 20, 21, 22, 23, 24, 25, 26, 27, 41, 42, 43, 44, 45, 46, 47, 48, 49, 50, 51, 52, 53, 54, 55, 56] (by decide +kernel) (by decide +kernel)
set_option maxRecDepth 20000 in
theorem gX6_mixLine_X6_lineTold : GoodIn wsX6_mixLine (wsV RX6 136 RX6 yX6_lineTold wsX6_lineTold) := goodIn_app (goodIn_of _ (by decide +kernel)) ggX6_mixLine_X6_lineTold
set_option maxRecDepth 20000 in
theorem ggX6_mixLine_X6_mix : GoodIn wsX6_mixLine wsX6_mix := goodIn_r _ [31, 32, 33, 41, 42, 43, 44, 45, 46, 47, 48, 49, 50, 51, 52, 53, 54, 55, 56] (by decide +kernel) (by decide +kernel)
set_option maxRecDepth 20000 in
theorem gX6_mixLine_X6_mix : GoodIn wsX6_mixLine (wsV RX6 184 RX6 yX6_mix wsX6_mix) := goodIn_app (goodIn_of _ (by decide +kernel)) ggX6_mixLine_X6_mix
set_option maxRecDepth 20000 in
theorem ggX6_mixLine_X6_byteAt : GoodIn wsX6_mixLine wsX6_byteAt := goodIn_r _ [37, 6, 16, 17, 18, 4, 19, 15, 38, 39, 40, 41, 42, 43, 44, 45, 46, 47, 48, 49, 50, 51, 52, 53, 54, 55, 56] (by decide +kernel) (by decide +kernel)
set_option maxRecDepth 20000 in
theorem gX6_mixLine_X6_byteAt : GoodIn wsX6_mixLine (wsV RX6 175 RX6 yX6_byteAt wsX6_byteAt) := goodIn_app (goodIn_of _ (by decide +kernel)) ggX6_mixLine_X6_byteAt
theorem dX6_mixLine_0 : decode cX6_mixLine 0 = .ok (.iconst 0, 1) := by decide +kernel
theorem dX6_mixLine_1 : decode cX6_mixLine 1 = .ok (.istore_n 2, 1) := by decide +kernel
theorem dX6_mixLine_2 : decode cX6_mixLine 2 = .ok (.iload_n 2, 1) := by decide +kernel
theorem dX6_mixLine_3 : decode cX6_mixLine 3 = .ok (.bipush 12, 2) := by decide +kernel
theorem dX6_mixLine_5 : decode cX6_mixLine 5 = .ok (.if_icmp .ge 19, 3) := by decide +kernel
theorem dX6_mixLine_8 : decode cX6_mixLine 8 = .ok (.aload_n 0, 1) := by decide +kernel
theorem dX6_mixLine_9 : decode cX6_mixLine 9 = .ok (.aload_n 0, 1) := by decide +kernel
theorem dX6_mixLine_10 : decode cX6_mixLine 10 = .ok (.iload_n 1, 1) := by decide +kernel
theorem dX6_mixLine_11 : decode cX6_mixLine 11 = .ok (.iload_n 2, 1) := by decide +kernel
theorem dX6_mixLine_12 : decode cX6_mixLine 12 = .ok (.invokevirtual 136, 3) := by decide +kernel
theorem dX6_mixLine_15 : decode cX6_mixLine 15 = .ok (.invokevirtual 184, 3) := by decide +kernel
theorem dX6_mixLine_18 : decode cX6_mixLine 18 = .ok (.iinc 2 1, 3) := by decide +kernel
theorem dX6_mixLine_21 : decode cX6_mixLine 21 = .ok (.goto (-19), 3) := by decide +kernel
theorem dX6_mixLine_24 : decode cX6_mixLine 24 = .ok (.iconst 0, 1) := by decide +kernel
theorem dX6_mixLine_25 : decode cX6_mixLine 25 = .ok (.istore_n 2, 1) := by decide +kernel
theorem dX6_mixLine_26 : decode cX6_mixLine 26 = .ok (.aload_n 0, 1) := by decide +kernel
theorem dX6_mixLine_27 : decode cX6_mixLine 27 = .ok (.iload_n 1, 1) := by decide +kernel
theorem dX6_mixLine_28 : decode cX6_mixLine 28 = .ok (.iload_n 2, 1) := by decide +kernel
theorem dX6_mixLine_29 : decode cX6_mixLine 29 = .ok (.invokevirtual 175, 3) := by decide +kernel
theorem dX6_mixLine_32 : decode cX6_mixLine 32 = .ok (.iconst (-1), 1) := by decide +kernel
theorem dX6_mixLine_33 : decode cX6_mixLine 33 = .ok (.if_icmp .eq 19, 3) := by decide +kernel
theorem dX6_mixLine_36 : decode cX6_mixLine 36 = .ok (.aload_n 0, 1) := by decide +kernel
theorem dX6_mixLine_37 : decode cX6_mixLine 37 = .ok (.aload_n 0, 1) := by decide +kernel
theorem dX6_mixLine_38 : decode cX6_mixLine 38 = .ok (.iload_n 1, 1) := by decide +kernel
theorem dX6_mixLine_39 : decode cX6_mixLine 39 = .ok (.iload_n 2, 1) := by decide +kernel
theorem dX6_mixLine_40 : decode cX6_mixLine 40 = .ok (.invokevirtual 175, 3) := by decide +kernel
theorem dX6_mixLine_43 : decode cX6_mixLine 43 = .ok (.invokevirtual 184, 3) := by decide +kernel
theorem dX6_mixLine_46 : decode cX6_mixLine 46 = .ok (.iinc 2 1, 3) := by decide +kernel
theorem dX6_mixLine_49 : decode cX6_mixLine 49 = .ok (.goto (-23), 3) := by decide +kernel
theorem dX6_mixLine_52 : decode cX6_mixLine 52 = .ok (.return_, 1) := by decide +kernel
set_option maxRecDepth 20000 in
theorem ggX6_digest_X6_makes : GoodIn wsX6_digest wsX6_makes := goodIn_r _ [12, 5, 13, 14, 15, 11, 16, 17, 18, 19, 6, 7, 20, 21, 22, 23, 24, 25, 26, 27, 28, 29, 30, 31, 32, 33, 34, 35, 36, 37, 38, 39, 40, 41, 42, 43, 44, 45, 46, 47, 48, 49, 50, 51, 113, 114, 115, 116, 117, 118, 119, 120, 121, 122, 123, 124, 125, 126, 127, 128] (by decide +kernel) (by decide +kernel)
set_option maxRecDepth 20000 in
theorem gX6_digest_X6_makes : GoodIn wsX6_digest (wsV RX6 130 RX6 yX6_makes wsX6_makes) := goodIn_app (goodIn_of _ (by decide +kernel)) ggX6_digest_X6_makes
set_option maxRecDepth 20000 in
theorem ggX6_digest_X6_mix : GoodIn wsX6_digest wsX6_mix := goodIn_r _ [55, 56, 3, 113, 114, 115, 116, 117, 118, 119, 120, 121, 122, 123, 124, 125, 126, 127, 128] (by decide +kernel) (by decide +kernel)
set_option maxRecDepth 20000 in
theorem gX6_digest_X6_mix : GoodIn wsX6_digest (wsV RX6 184 RX6 yX6_mix wsX6_mix) := goodIn_app (goodIn_of _ (by decide +kernel)) ggX6_digest_X6_mix
set_option maxRecDepth 20000 in
theorem ggX6_digest_X6_wholeOf : GoodIn wsX6_digest wsX6_wholeOf := goodIn_r _ [60, 5, 6, 7, 61, 62, 63, 64, 11, 65, 48, 49, 50, 51, 30, 31, 32, 33, 66, 67, 68, 69, 24, 70, 71, 72, 73, 113, 114, 115, 116, 117, 118, 119, 120, 121, 122, 123, 124, 125, 126, 127, 128] (by decide +kernel) (by decide +kernel)
set_option maxRecDepth 20000 in
theorem gX6_digest_X6_wholeOf : GoodIn wsX6_digest (wsV RX6 152 RX6 yX6_wholeOf wsX6_wholeOf) := goodIn_app (goodIn_of _ (by decide +kernel)) ggX6_digest_X6_wholeOf
set_option maxRecDepth 20000 in
theorem ggX6_digest_X6_wordOf : GoodIn wsX6_digest wsX6_wordOf := goodIn_r _ [77, 24, 78, 79, 80, 11, 81, 30, 31, 32, 33, 5, 41, 42, 43, 44, 38, 39, 40, 45, 46, 47, 82, 83, 84, 85, 113, 114, 115, 116, 117, 118, 119, 120, 121, 122, 123, 124, 125, 126, 127, 128] (by decide +kernel) (by decide +kernel)
set_option maxRecDepth 20000 in
theorem gX6_digest_X6_wordOf : GoodIn wsX6_digest (wsV RX6 133 RX6 yX6_wordOf wsX6_wordOf) := goodIn_app (goodIn_of _ (by decide +kernel)) ggX6_digest_X6_wordOf
set_option maxRecDepth 20000 in
theorem ggX6_digest_X6_mixLine : GoodIn wsX6_digest wsX6_mixLine := goodIn_r _ [89, 90, 91, 92, 11, 93, 24, 94, 95, 96, 97, 48, 49, 50, 51, 5, 30, 31, 32, 33, 98, 99, 100, 101, 70, 71, 72, 73, 52, 53, 54, 55, 56, 3, 102, 103, 104, 105, 106, 107, 108, 113, 114, 115, 116, 117, 118, 119, 120, 121, 122, 123, 124, 125, 126, 127, 128] (by decide +kernel) (by decide +kernel)
set_option maxRecDepth 20000 in
theorem gX6_digest_X6_mixLine : GoodIn wsX6_digest (wsV RX6 189 RX6 yX6_mixLine wsX6_mixLine) := goodIn_app (goodIn_of _ (by decide +kernel)) ggX6_digest_X6_mixLine
set_option maxRecDepth 20000 in
theorem ggX6_digest_X6_pageTold : GoodIn wsX6_digest wsX6_pageTold := goodIn_r _ [112, 25, 24, 70, 71, 72, 11, 73, 113, 114, 115, 116, 117, 118, 119, 120, 121, 122, 123, 124, 125, 126, 127, 128] (by decide +kernel) (by decide +kernel)
set_option maxRecDepth 20000 in
theorem gX6_digest_X6_pageTold : GoodIn wsX6_digest (wsV RX6 139 RX6 yX6_pageTold wsX6_pageTold) := goodIn_app (goodIn_of _ (by decide +kernel)) ggX6_digest_X6_pageTold
theorem dX6_digest_0 : decode cX6_digest 0 = .ok (.aload_n 0, 1) := by decide +kernel
theorem dX6_digest_1 : decode cX6_digest 1 = .ok (.iconst 0, 1) := by decide +kernel
theorem dX6_digest_2 : decode cX6_digest 2 = .ok (.putfield 32, 3) := by decide +kernel
theorem dX6_digest_5 : decode cX6_digest 5 = .ok (.aload_n 0, 1) := by decide +kernel
theorem dX6_digest_6 : decode cX6_digest 6 = .ok (.invokevirtual 130, 3) := by decide +kernel
theorem dX6_digest_9 : decode cX6_digest 9 = .ok (.aload_n 0, 1) := by decide +kernel
theorem dX6_digest_10 : decode cX6_digest 10 = .ok (.ldc2_w 187, 3) := by decide +kernel
theorem dX6_digest_13 : decode cX6_digest 13 = .ok (.putfield 180, 3) := by decide +kernel
theorem dX6_digest_16 : decode cX6_digest 16 = .ok (.aload_n 0, 1) := by decide +kernel
theorem dX6_digest_17 : decode cX6_digest 17 = .ok (.aload_n 0, 1) := by decide +kernel
theorem dX6_digest_18 : decode cX6_digest 18 = .ok (.getfield 36, 3) := by decide +kernel
theorem dX6_digest_21 : decode cX6_digest 21 = .ok (.invokevirtual 184, 3) := by decide +kernel
theorem dX6_digest_24 : decode cX6_digest 24 = .ok (.iconst 0, 1) := by decide +kernel
theorem dX6_digest_25 : decode cX6_digest 25 = .ok (.istore_n 1, 1) := by decide +kernel
theorem dX6_digest_26 : decode cX6_digest 26 = .ok (.iload_n 1, 1) := by decide +kernel
theorem dX6_digest_27 : decode cX6_digest 27 = .ok (.bipush 14, 2) := by decide +kernel
theorem dX6_digest_29 : decode cX6_digest 29 = .ok (.if_icmp .ge 18, 3) := by decide +kernel
theorem dX6_digest_32 : decode cX6_digest 32 = .ok (.aload_n 0, 1) := by decide +kernel
theorem dX6_digest_33 : decode cX6_digest 33 = .ok (.aload_n 0, 1) := by decide +kernel
theorem dX6_digest_34 : decode cX6_digest 34 = .ok (.iload_n 1, 1) := by decide +kernel
theorem dX6_digest_35 : decode cX6_digest 35 = .ok (.invokevirtual 152, 3) := by decide +kernel
theorem dX6_digest_38 : decode cX6_digest 38 = .ok (.invokevirtual 184, 3) := by decide +kernel
theorem dX6_digest_41 : decode cX6_digest 41 = .ok (.iinc 1 1, 3) := by decide +kernel
theorem dX6_digest_44 : decode cX6_digest 44 = .ok (.goto (-18), 3) := by decide +kernel
theorem dX6_digest_47 : decode cX6_digest 47 = .ok (.iconst 0, 1) := by decide +kernel
theorem dX6_digest_48 : decode cX6_digest 48 = .ok (.istore_n 1, 1) := by decide +kernel
theorem dX6_digest_49 : decode cX6_digest 49 = .ok (.iload_n 1, 1) := by decide +kernel
theorem dX6_digest_50 : decode cX6_digest 50 = .ok (.bipush 8, 2) := by decide +kernel
theorem dX6_digest_52 : decode cX6_digest 52 = .ok (.if_icmp .ge 22, 3) := by decide +kernel
theorem dX6_digest_55 : decode cX6_digest 55 = .ok (.aload_n 0, 1) := by decide +kernel
theorem dX6_digest_56 : decode cX6_digest 56 = .ok (.aload_n 0, 1) := by decide +kernel
theorem dX6_digest_57 : decode cX6_digest 57 = .ok (.getfield 7, 3) := by decide +kernel
theorem dX6_digest_60 : decode cX6_digest 60 = .ok (.bipush 6, 2) := by decide +kernel
theorem dX6_digest_62 : decode cX6_digest 62 = .ok (.iload_n 1, 1) := by decide +kernel
theorem dX6_digest_63 : decode cX6_digest 63 = .ok (.iadd, 1) := by decide +kernel
theorem dX6_digest_64 : decode cX6_digest 64 = .ok (.iaload, 1) := by decide +kernel
theorem dX6_digest_65 : decode cX6_digest 65 = .ok (.invokevirtual 184, 3) := by decide +kernel
theorem dX6_digest_68 : decode cX6_digest 68 = .ok (.iinc 1 1, 3) := by decide +kernel
theorem dX6_digest_71 : decode cX6_digest 71 = .ok (.goto (-22), 3) := by decide +kernel
theorem dX6_digest_74 : decode cX6_digest 74 = .ok (.iconst 0, 1) := by decide +kernel
theorem dX6_digest_75 : decode cX6_digest 75 = .ok (.istore_n 1, 1) := by decide +kernel
theorem dX6_digest_76 : decode cX6_digest 76 = .ok (.iload_n 1, 1) := by decide +kernel
theorem dX6_digest_77 : decode cX6_digest 77 = .ok (.bipush 9, 2) := by decide +kernel
theorem dX6_digest_79 : decode cX6_digest 79 = .ok (.aload_n 0, 1) := by decide +kernel
theorem dX6_digest_80 : decode cX6_digest 80 = .ok (.getfield 7, 3) := by decide +kernel
theorem dX6_digest_83 : decode cX6_digest 83 = .ok (.bipush 14, 2) := by decide +kernel
theorem dX6_digest_85 : decode cX6_digest 85 = .ok (.iaload, 1) := by decide +kernel
theorem dX6_digest_86 : decode cX6_digest 86 = .ok (.imul, 1) := by decide +kernel
theorem dX6_digest_87 : decode cX6_digest 87 = .ok (.if_icmp .ge 25, 3) := by decide +kernel
theorem dX6_digest_90 : decode cX6_digest 90 = .ok (.aload_n 0, 1) := by decide +kernel
theorem dX6_digest_91 : decode cX6_digest 91 = .ok (.aload_n 0, 1) := by decide +kernel
theorem dX6_digest_92 : decode cX6_digest 92 = .ok (.iload_n 1, 1) := by decide +kernel
theorem dX6_digest_93 : decode cX6_digest 93 = .ok (.bipush 9, 2) := by decide +kernel
theorem dX6_digest_95 : decode cX6_digest 95 = .ok (.idiv, 1) := by decide +kernel
theorem dX6_digest_96 : decode cX6_digest 96 = .ok (.iload_n 1, 1) := by decide +kernel
theorem dX6_digest_97 : decode cX6_digest 97 = .ok (.bipush 9, 2) := by decide +kernel
theorem dX6_digest_99 : decode cX6_digest 99 = .ok (.irem, 1) := by decide +kernel
theorem dX6_digest_100 : decode cX6_digest 100 = .ok (.invokevirtual 133, 3) := by decide +kernel
theorem dX6_digest_103 : decode cX6_digest 103 = .ok (.invokevirtual 184, 3) := by decide +kernel
theorem dX6_digest_106 : decode cX6_digest 106 = .ok (.iinc 1 1, 3) := by decide +kernel
theorem dX6_digest_109 : decode cX6_digest 109 = .ok (.goto (-33), 3) := by decide +kernel
theorem dX6_digest_112 : decode cX6_digest 112 = .ok (.iconst 0, 1) := by decide +kernel
theorem dX6_digest_113 : decode cX6_digest 113 = .ok (.istore_n 1, 1) := by decide +kernel
theorem dX6_digest_114 : decode cX6_digest 114 = .ok (.iload_n 1, 1) := by decide +kernel
theorem dX6_digest_115 : decode cX6_digest 115 = .ok (.aload_n 0, 1) := by decide +kernel
theorem dX6_digest_116 : decode cX6_digest 116 = .ok (.getfield 53, 3) := by decide +kernel
theorem dX6_digest_119 : decode cX6_digest 119 = .ok (.if_icmp .ge 14, 3) := by decide +kernel
theorem dX6_digest_122 : decode cX6_digest 122 = .ok (.aload_n 0, 1) := by decide +kernel
theorem dX6_digest_123 : decode cX6_digest 123 = .ok (.iload_n 1, 1) := by decide +kernel
theorem dX6_digest_124 : decode cX6_digest 124 = .ok (.invokevirtual 189, 3) := by decide +kernel
theorem dX6_digest_127 : decode cX6_digest 127 = .ok (.iinc 1 1, 3) := by decide +kernel
theorem dX6_digest_130 : decode cX6_digest 130 = .ok (.goto (-16), 3) := by decide +kernel
theorem dX6_digest_133 : decode cX6_digest 133 = .ok (.iconst 0, 1) := by decide +kernel
theorem dX6_digest_134 : decode cX6_digest 134 = .ok (.istore_n 1, 1) := by decide +kernel
theorem dX6_digest_135 : decode cX6_digest 135 = .ok (.iload_n 1, 1) := by decide +kernel
theorem dX6_digest_136 : decode cX6_digest 136 = .ok (.bipush 6, 2) := by decide +kernel
theorem dX6_digest_138 : decode cX6_digest 138 = .ok (.aload_n 0, 1) := by decide +kernel
theorem dX6_digest_139 : decode cX6_digest 139 = .ok (.getfield 71, 3) := by decide +kernel
theorem dX6_digest_142 : decode cX6_digest 142 = .ok (.imul, 1) := by decide +kernel
theorem dX6_digest_143 : decode cX6_digest 143 = .ok (.if_icmp .ge 25, 3) := by decide +kernel
theorem dX6_digest_146 : decode cX6_digest 146 = .ok (.aload_n 0, 1) := by decide +kernel
theorem dX6_digest_147 : decode cX6_digest 147 = .ok (.aload_n 0, 1) := by decide +kernel
theorem dX6_digest_148 : decode cX6_digest 148 = .ok (.iload_n 1, 1) := by decide +kernel
theorem dX6_digest_149 : decode cX6_digest 149 = .ok (.bipush 6, 2) := by decide +kernel
theorem dX6_digest_151 : decode cX6_digest 151 = .ok (.idiv, 1) := by decide +kernel
theorem dX6_digest_152 : decode cX6_digest 152 = .ok (.iload_n 1, 1) := by decide +kernel
theorem dX6_digest_153 : decode cX6_digest 153 = .ok (.bipush 6, 2) := by decide +kernel
theorem dX6_digest_155 : decode cX6_digest 155 = .ok (.irem, 1) := by decide +kernel
theorem dX6_digest_156 : decode cX6_digest 156 = .ok (.invokevirtual 139, 3) := by decide +kernel
theorem dX6_digest_159 : decode cX6_digest 159 = .ok (.invokevirtual 184, 3) := by decide +kernel
theorem dX6_digest_162 : decode cX6_digest 162 = .ok (.iinc 1 1, 3) := by decide +kernel
theorem dX6_digest_165 : decode cX6_digest 165 = .ok (.goto (-30), 3) := by decide +kernel
theorem dX6_digest_168 : decode cX6_digest 168 = .ok (.aload_n 0, 1) := by decide +kernel
theorem dX6_digest_169 : decode cX6_digest 169 = .ok (.getfield 180, 3) := by decide +kernel
theorem dX6_digest_172 : decode cX6_digest 172 = .ok (.lreturn, 1) := by decide +kernel
theorem dJ9_max_7cf53_0 : decode cJ9_max_7cf53 0 = .ok (.iload_n 0, 1) := by decide +kernel
theorem dJ9_max_7cf53_1 : decode cJ9_max_7cf53 1 = .ok (.iload_n 1, 1) := by decide +kernel
theorem dJ9_max_7cf53_2 : decode cJ9_max_7cf53 2 = .ok (.if_icmp .lt 7, 3) := by decide +kernel
theorem dJ9_max_7cf53_5 : decode cJ9_max_7cf53 5 = .ok (.iload_n 0, 1) := by decide +kernel
theorem dJ9_max_7cf53_6 : decode cJ9_max_7cf53 6 = .ok (.goto 4, 3) := by decide +kernel
theorem dJ9_max_7cf53_9 : decode cJ9_max_7cf53 9 = .ok (.iload_n 1, 1) := by decide +kernel
theorem dJ9_max_7cf53_10 : decode cJ9_max_7cf53 10 = .ok (.ireturn, 1) := by decide +kernel
theorem dJ9_min_7cf53_0 : decode cJ9_min_7cf53 0 = .ok (.iload_n 0, 1) := by decide +kernel
theorem dJ9_min_7cf53_1 : decode cJ9_min_7cf53 1 = .ok (.iload_n 1, 1) := by decide +kernel
theorem dJ9_min_7cf53_2 : decode cJ9_min_7cf53 2 = .ok (.if_icmp .gt 7, 3) := by decide +kernel
theorem dJ9_min_7cf53_5 : decode cJ9_min_7cf53 5 = .ok (.iload_n 0, 1) := by decide +kernel
theorem dJ9_min_7cf53_6 : decode cJ9_min_7cf53 6 = .ok (.goto 4, 3) := by decide +kernel
theorem dJ9_min_7cf53_9 : decode cJ9_min_7cf53 9 = .ok (.iload_n 1, 1) := by decide +kernel
theorem dJ9_min_7cf53_10 : decode cJ9_min_7cf53 10 = .ok (.ireturn, 1) := by decide +kernel
