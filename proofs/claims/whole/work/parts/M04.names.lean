theorem dX3_init_0 : decode cX3_init 0 = .ok (.aload_n 0, 1) := by decide +kernel
theorem dX3_init_1 : decode cX3_init 1 = .ok (.invokespecial 3, 3) := by decide +kernel
theorem dX3_init_4 : decode cX3_init 4 = .ok (.aload_n 0, 1) := by decide +kernel
theorem dX3_init_5 : decode cX3_init 5 = .ok (.sipush 720, 3) := by decide +kernel
theorem dX3_init_8 : decode cX3_init 8 = .ok (.newarray .int, 2) := by decide +kernel
theorem dX3_init_10 : decode cX3_init 10 = .ok (.putfield 9, 3) := by decide +kernel
theorem dX3_init_13 : decode cX3_init 13 = .ok (.aload_n 0, 1) := by decide +kernel
theorem dX3_init_14 : decode cX3_init 14 = .ok (.bipush 60, 2) := by decide +kernel
theorem dX3_init_16 : decode cX3_init 16 = .ok (.newarray .int, 2) := by decide +kernel
theorem dX3_init_18 : decode cX3_init 18 = .ok (.putfield 15, 3) := by decide +kernel
theorem dX3_init_21 : decode cX3_init 21 = .ok (.aload_n 0, 1) := by decide +kernel
theorem dX3_init_22 : decode cX3_init 22 = .ok (.bipush 60, 2) := by decide +kernel
theorem dX3_init_24 : decode cX3_init 24 = .ok (.newarray .int, 2) := by decide +kernel
theorem dX3_init_26 : decode cX3_init 26 = .ok (.putfield 18, 3) := by decide +kernel
theorem dX3_init_29 : decode cX3_init 29 = .ok (.aload_n 0, 1) := by decide +kernel
theorem dX3_init_30 : decode cX3_init 30 = .ok (.bipush 60, 2) := by decide +kernel
theorem dX3_init_32 : decode cX3_init 32 = .ok (.newarray .int, 2) := by decide +kernel
theorem dX3_init_34 : decode cX3_init 34 = .ok (.putfield 21, 3) := by decide +kernel
theorem dX3_init_37 : decode cX3_init 37 = .ok (.aload_n 0, 1) := by decide +kernel
theorem dX3_init_38 : decode cX3_init 38 = .ok (.bipush 60, 2) := by decide +kernel
theorem dX3_init_40 : decode cX3_init 40 = .ok (.newarray .int, 2) := by decide +kernel
theorem dX3_init_42 : decode cX3_init 42 = .ok (.putfield 24, 3) := by decide +kernel
theorem dX3_init_45 : decode cX3_init 45 = .ok (.aload_n 0, 1) := by decide +kernel
theorem dX3_init_46 : decode cX3_init 46 = .ok (.bipush 60, 2) := by decide +kernel
theorem dX3_init_48 : decode cX3_init 48 = .ok (.newarray .boolean, 2) := by decide +kernel
theorem dX3_init_50 : decode cX3_init 50 = .ok (.putfield 27, 3) := by decide +kernel
theorem dX3_init_53 : decode cX3_init 53 = .ok (.aload_n 0, 1) := by decide +kernel
theorem dX3_init_54 : decode cX3_init 54 = .ok (.getstatic 31, 3) := by decide +kernel
theorem dX3_init_57 : decode cX3_init 57 = .ok (.invokevirtual 34, 3) := by decide +kernel
theorem dX3_init_60 : decode cX3_init 60 = .ok (.checkcast 35, 3) := by decide +kernel
theorem dX3_init_63 : decode cX3_init 63 = .ok (.putfield 39, 3) := by decide +kernel
theorem dX3_init_66 : decode cX3_init 66 = .ok (.aload_n 0, 1) := by decide +kernel
theorem dX3_init_67 : decode cX3_init 67 = .ok (.getstatic 42, 3) := by decide +kernel
theorem dX3_init_70 : decode cX3_init 70 = .ok (.invokevirtual 34, 3) := by decide +kernel
theorem dX3_init_73 : decode cX3_init 73 = .ok (.checkcast 35, 3) := by decide +kernel
theorem dX3_init_76 : decode cX3_init 76 = .ok (.putfield 45, 3) := by decide +kernel
theorem dX3_init_79 : decode cX3_init 79 = .ok (.return_, 1) := by decide +kernel
theorem dX3_has_0 : decode cX3_has 0 = .ok (.iload_n 1, 1) := by decide +kernel
theorem dX3_has_1 : decode cX3_has 1 = .ok (.ifCond .lt 21, 3) := by decide +kernel
theorem dX3_has_4 : decode cX3_has 4 = .ok (.iload_n 1, 1) := by decide +kernel
theorem dX3_has_5 : decode cX3_has 5 = .ok (.aload_n 0, 1) := by decide +kernel
theorem dX3_has_6 : decode cX3_has 6 = .ok (.getfield 48, 3) := by decide +kernel
theorem dX3_has_9 : decode cX3_has 9 = .ok (.if_icmp .ge 13, 3) := by decide +kernel
theorem dX3_has_12 : decode cX3_has 12 = .ok (.iload_n 1, 1) := by decide +kernel
theorem dX3_has_13 : decode cX3_has 13 = .ok (.bipush 60, 2) := by decide +kernel
theorem dX3_has_15 : decode cX3_has 15 = .ok (.if_icmp .ge 7, 3) := by decide +kernel
theorem dX3_has_18 : decode cX3_has 18 = .ok (.iconst 1, 1) := by decide +kernel
theorem dX3_has_19 : decode cX3_has 19 = .ok (.goto 4, 3) := by decide +kernel
theorem dX3_has_22 : decode cX3_has 22 = .ok (.iconst 0, 1) := by decide +kernel
theorem dX3_has_23 : decode cX3_has 23 = .ok (.ireturn, 1) := by decide +kernel
set_option maxRecDepth 20000 in
theorem ggX3_takeAll_X3_takeWords : GoodIn wsX3_takeAll wsX3_takeWords := goodIn_r _ [11, 12, 13, 2, 3, 4, 5, 14, 15, 16, 17, 18, 19, 20, 21, 22, 23, 24, 25, 26, 27] (by decide +kernel) (by decide +kernel)
set_option maxRecDepth 20000 in
theorem gX3_takeAll_X3_takeWords : GoodIn wsX3_takeAll (wsV RX3 52 RX3 yX3_takeWords wsX3_takeWords) := goodIn_app (goodIn_of _ (by decide +kernel)) ggX3_takeAll_X3_takeWords
theorem dX3_takeAll_0 : decode cX3_takeAll 0 = .ok (.aload_n 0, 1) := by decide +kernel
theorem dX3_takeAll_1 : decode cX3_takeAll 1 = .ok (.aload_n 1, 1) := by decide +kernel
theorem dX3_takeAll_2 : decode cX3_takeAll 2 = .ok (.invokevirtual 52, 3) := by decide +kernel
theorem dX3_takeAll_5 : decode cX3_takeAll 5 = .ok (.aload_n 1, 1) := by decide +kernel
theorem dX3_takeAll_6 : decode cX3_takeAll 6 = .ok (.getfield 39, 3) := by decide +kernel
theorem dX3_takeAll_9 : decode cX3_takeAll 9 = .ok (.iconst 0, 1) := by decide +kernel
theorem dX3_takeAll_10 : decode cX3_takeAll 10 = .ok (.aload_n 0, 1) := by decide +kernel
theorem dX3_takeAll_11 : decode cX3_takeAll 11 = .ok (.getfield 39, 3) := by decide +kernel
theorem dX3_takeAll_14 : decode cX3_takeAll 14 = .ok (.iconst 0, 1) := by decide +kernel
theorem dX3_takeAll_15 : decode cX3_takeAll 15 = .ok (.bipush 6, 2) := by decide +kernel
theorem dX3_takeAll_17 : decode cX3_takeAll 17 = .ok (.invokestatic 56, 3) := by decide +kernel
theorem dX3_takeAll_20 : decode cX3_takeAll 20 = .ok (.aload_n 1, 1) := by decide +kernel
theorem dX3_takeAll_21 : decode cX3_takeAll 21 = .ok (.getfield 45, 3) := by decide +kernel
theorem dX3_takeAll_24 : decode cX3_takeAll 24 = .ok (.iconst 0, 1) := by decide +kernel
theorem dX3_takeAll_25 : decode cX3_takeAll 25 = .ok (.aload_n 0, 1) := by decide +kernel
theorem dX3_takeAll_26 : decode cX3_takeAll 26 = .ok (.getfield 45, 3) := by decide +kernel
theorem dX3_takeAll_29 : decode cX3_takeAll 29 = .ok (.iconst 0, 1) := by decide +kernel
theorem dX3_takeAll_30 : decode cX3_takeAll 30 = .ok (.bipush 8, 2) := by decide +kernel
theorem dX3_takeAll_32 : decode cX3_takeAll 32 = .ok (.invokestatic 56, 3) := by decide +kernel
theorem dX3_takeAll_35 : decode cX3_takeAll 35 = .ok (.return_, 1) := by decide +kernel
theorem dX3_takeWords_0 : decode cX3_takeWords 0 = .ok (.aload_n 0, 1) := by decide +kernel
theorem dX3_takeWords_1 : decode cX3_takeWords 1 = .ok (.aload_n 1, 1) := by decide +kernel
theorem dX3_takeWords_2 : decode cX3_takeWords 2 = .ok (.getfield 48, 3) := by decide +kernel
theorem dX3_takeWords_5 : decode cX3_takeWords 5 = .ok (.putfield 48, 3) := by decide +kernel
theorem dX3_takeWords_8 : decode cX3_takeWords 8 = .ok (.aload_n 1, 1) := by decide +kernel
theorem dX3_takeWords_9 : decode cX3_takeWords 9 = .ok (.getfield 9, 3) := by decide +kernel
theorem dX3_takeWords_12 : decode cX3_takeWords 12 = .ok (.iconst 0, 1) := by decide +kernel
theorem dX3_takeWords_13 : decode cX3_takeWords 13 = .ok (.aload_n 0, 1) := by decide +kernel
theorem dX3_takeWords_14 : decode cX3_takeWords 14 = .ok (.getfield 9, 3) := by decide +kernel
theorem dX3_takeWords_17 : decode cX3_takeWords 17 = .ok (.iconst 0, 1) := by decide +kernel
theorem dX3_takeWords_18 : decode cX3_takeWords 18 = .ok (.sipush 720, 3) := by decide +kernel
theorem dX3_takeWords_21 : decode cX3_takeWords 21 = .ok (.invokestatic 56, 3) := by decide +kernel
theorem dX3_takeWords_24 : decode cX3_takeWords 24 = .ok (.aload_n 1, 1) := by decide +kernel
theorem dX3_takeWords_25 : decode cX3_takeWords 25 = .ok (.getfield 15, 3) := by decide +kernel
theorem dX3_takeWords_28 : decode cX3_takeWords 28 = .ok (.iconst 0, 1) := by decide +kernel
theorem dX3_takeWords_29 : decode cX3_takeWords 29 = .ok (.aload_n 0, 1) := by decide +kernel
theorem dX3_takeWords_30 : decode cX3_takeWords 30 = .ok (.getfield 15, 3) := by decide +kernel
theorem dX3_takeWords_33 : decode cX3_takeWords 33 = .ok (.iconst 0, 1) := by decide +kernel
theorem dX3_takeWords_34 : decode cX3_takeWords 34 = .ok (.bipush 60, 2) := by decide +kernel
theorem dX3_takeWords_36 : decode cX3_takeWords 36 = .ok (.invokestatic 56, 3) := by decide +kernel
theorem dX3_takeWords_39 : decode cX3_takeWords 39 = .ok (.aload_n 1, 1) := by decide +kernel
theorem dX3_takeWords_40 : decode cX3_takeWords 40 = .ok (.getfield 18, 3) := by decide +kernel
theorem dX3_takeWords_43 : decode cX3_takeWords 43 = .ok (.iconst 0, 1) := by decide +kernel
theorem dX3_takeWords_44 : decode cX3_takeWords 44 = .ok (.aload_n 0, 1) := by decide +kernel
theorem dX3_takeWords_45 : decode cX3_takeWords 45 = .ok (.getfield 18, 3) := by decide +kernel
theorem dX3_takeWords_48 : decode cX3_takeWords 48 = .ok (.iconst 0, 1) := by decide +kernel
theorem dX3_takeWords_49 : decode cX3_takeWords 49 = .ok (.bipush 60, 2) := by decide +kernel
theorem dX3_takeWords_51 : decode cX3_takeWords 51 = .ok (.invokestatic 56, 3) := by decide +kernel
theorem dX3_takeWords_54 : decode cX3_takeWords 54 = .ok (.aload_n 1, 1) := by decide +kernel
theorem dX3_takeWords_55 : decode cX3_takeWords 55 = .ok (.getfield 21, 3) := by decide +kernel
theorem dX3_takeWords_58 : decode cX3_takeWords 58 = .ok (.iconst 0, 1) := by decide +kernel
theorem dX3_takeWords_59 : decode cX3_takeWords 59 = .ok (.aload_n 0, 1) := by decide +kernel
theorem dX3_takeWords_60 : decode cX3_takeWords 60 = .ok (.getfield 21, 3) := by decide +kernel
theorem dX3_takeWords_63 : decode cX3_takeWords 63 = .ok (.iconst 0, 1) := by decide +kernel
theorem dX3_takeWords_64 : decode cX3_takeWords 64 = .ok (.bipush 60, 2) := by decide +kernel
theorem dX3_takeWords_66 : decode cX3_takeWords 66 = .ok (.invokestatic 56, 3) := by decide +kernel
theorem dX3_takeWords_69 : decode cX3_takeWords 69 = .ok (.aload_n 1, 1) := by decide +kernel
theorem dX3_takeWords_70 : decode cX3_takeWords 70 = .ok (.getfield 24, 3) := by decide +kernel
theorem dX3_takeWords_73 : decode cX3_takeWords 73 = .ok (.iconst 0, 1) := by decide +kernel
theorem dX3_takeWords_74 : decode cX3_takeWords 74 = .ok (.aload_n 0, 1) := by decide +kernel
theorem dX3_takeWords_75 : decode cX3_takeWords 75 = .ok (.getfield 24, 3) := by decide +kernel
theorem dX3_takeWords_78 : decode cX3_takeWords 78 = .ok (.iconst 0, 1) := by decide +kernel
theorem dX3_takeWords_79 : decode cX3_takeWords 79 = .ok (.bipush 60, 2) := by decide +kernel
theorem dX3_takeWords_81 : decode cX3_takeWords 81 = .ok (.invokestatic 56, 3) := by decide +kernel
theorem dX3_takeWords_84 : decode cX3_takeWords 84 = .ok (.aload_n 1, 1) := by decide +kernel
theorem dX3_takeWords_85 : decode cX3_takeWords 85 = .ok (.getfield 27, 3) := by decide +kernel
theorem dX3_takeWords_88 : decode cX3_takeWords 88 = .ok (.iconst 0, 1) := by decide +kernel
theorem dX3_takeWords_89 : decode cX3_takeWords 89 = .ok (.aload_n 0, 1) := by decide +kernel
theorem dX3_takeWords_90 : decode cX3_takeWords 90 = .ok (.getfield 27, 3) := by decide +kernel
theorem dX3_takeWords_93 : decode cX3_takeWords 93 = .ok (.iconst 0, 1) := by decide +kernel
theorem dX3_takeWords_94 : decode cX3_takeWords 94 = .ok (.bipush 60, 2) := by decide +kernel
theorem dX3_takeWords_96 : decode cX3_takeWords 96 = .ok (.invokestatic 56, 3) := by decide +kernel
theorem dX3_takeWords_99 : decode cX3_takeWords 99 = .ok (.return_, 1) := by decide +kernel
set_option maxRecDepth 20000 in
theorem ggX3_open_X3_move : GoodIn wsX3_open wsX3_move := goodIn_r _ [11, 12, 13, 14, 15, 16, 17, 18, 19, 20, 2, 3, 4, 5, 6, 21, 22, 23, 24, 25, 26, 27, 28, 29] (by decide +kernel) (by decide +kernel)
set_option maxRecDepth 20000 in
theorem gX3_open_X3_move : GoodIn wsX3_open (wsV RX3 62 RX3 yX3_move wsX3_move) := goodIn_app (goodIn_of _ (by decide +kernel)) ggX3_open_X3_move
theorem dX3_open_0 : decode cX3_open 0 = .ok (.iload_n 1, 1) := by decide +kernel
theorem dX3_open_1 : decode cX3_open 1 = .ok (.ifCond .lt 20, 3) := by decide +kernel
theorem dX3_open_4 : decode cX3_open 4 = .ok (.iload_n 1, 1) := by decide +kernel
theorem dX3_open_5 : decode cX3_open 5 = .ok (.aload_n 0, 1) := by decide +kernel
theorem dX3_open_6 : decode cX3_open 6 = .ok (.getfield 48, 3) := by decide +kernel
theorem dX3_open_9 : decode cX3_open 9 = .ok (.if_icmp .gt 12, 3) := by decide +kernel
theorem dX3_open_12 : decode cX3_open 12 = .ok (.aload_n 0, 1) := by decide +kernel
theorem dX3_open_13 : decode cX3_open 13 = .ok (.getfield 48, 3) := by decide +kernel
theorem dX3_open_16 : decode cX3_open 16 = .ok (.bipush 60, 2) := by decide +kernel
theorem dX3_open_18 : decode cX3_open 18 = .ok (.if_icmp .lt 4, 3) := by decide +kernel
theorem dX3_open_21 : decode cX3_open 21 = .ok (.return_, 1) := by decide +kernel
theorem dX3_open_22 : decode cX3_open 22 = .ok (.aload_n 0, 1) := by decide +kernel
theorem dX3_open_23 : decode cX3_open 23 = .ok (.iload_n 1, 1) := by decide +kernel
theorem dX3_open_24 : decode cX3_open 24 = .ok (.iload_n 1, 1) := by decide +kernel
theorem dX3_open_25 : decode cX3_open 25 = .ok (.iconst 1, 1) := by decide +kernel
theorem dX3_open_26 : decode cX3_open 26 = .ok (.iadd, 1) := by decide +kernel
theorem dX3_open_27 : decode cX3_open 27 = .ok (.aload_n 0, 1) := by decide +kernel
theorem dX3_open_28 : decode cX3_open 28 = .ok (.getfield 48, 3) := by decide +kernel
theorem dX3_open_31 : decode cX3_open 31 = .ok (.iload_n 1, 1) := by decide +kernel
theorem dX3_open_32 : decode cX3_open 32 = .ok (.isub, 1) := by decide +kernel
theorem dX3_open_33 : decode cX3_open 33 = .ok (.invokevirtual 62, 3) := by decide +kernel
theorem dX3_open_36 : decode cX3_open 36 = .ok (.aload_n 0, 1) := by decide +kernel
theorem dX3_open_37 : decode cX3_open 37 = .ok (.dup, 1) := by decide +kernel
theorem dX3_open_38 : decode cX3_open 38 = .ok (.getfield 48, 3) := by decide +kernel
theorem dX3_open_41 : decode cX3_open 41 = .ok (.iconst 1, 1) := by decide +kernel
theorem dX3_open_42 : decode cX3_open 42 = .ok (.iadd, 1) := by decide +kernel
theorem dX3_open_43 : decode cX3_open 43 = .ok (.putfield 48, 3) := by decide +kernel
theorem dX3_open_46 : decode cX3_open 46 = .ok (.aload_n 0, 1) := by decide +kernel
theorem dX3_open_47 : decode cX3_open 47 = .ok (.getfield 15, 3) := by decide +kernel
theorem dX3_open_50 : decode cX3_open 50 = .ok (.iload_n 1, 1) := by decide +kernel
theorem dX3_open_51 : decode cX3_open 51 = .ok (.iconst 0, 1) := by decide +kernel
theorem dX3_open_52 : decode cX3_open 52 = .ok (.iastore, 1) := by decide +kernel
theorem dX3_open_53 : decode cX3_open 53 = .ok (.aload_n 0, 1) := by decide +kernel
theorem dX3_open_54 : decode cX3_open 54 = .ok (.getfield 18, 3) := by decide +kernel
theorem dX3_open_57 : decode cX3_open 57 = .ok (.iload_n 1, 1) := by decide +kernel
theorem dX3_open_58 : decode cX3_open 58 = .ok (.iconst 0, 1) := by decide +kernel
theorem dX3_open_59 : decode cX3_open 59 = .ok (.iastore, 1) := by decide +kernel
theorem dX3_open_60 : decode cX3_open 60 = .ok (.aload_n 0, 1) := by decide +kernel
theorem dX3_open_61 : decode cX3_open 61 = .ok (.getfield 21, 3) := by decide +kernel
theorem dX3_open_64 : decode cX3_open 64 = .ok (.iload_n 1, 1) := by decide +kernel
theorem dX3_open_65 : decode cX3_open 65 = .ok (.iconst (-1), 1) := by decide +kernel
theorem dX3_open_66 : decode cX3_open 66 = .ok (.iastore, 1) := by decide +kernel
theorem dX3_open_67 : decode cX3_open 67 = .ok (.aload_n 0, 1) := by decide +kernel
theorem dX3_open_68 : decode cX3_open 68 = .ok (.getfield 24, 3) := by decide +kernel
theorem dX3_open_71 : decode cX3_open 71 = .ok (.iload_n 1, 1) := by decide +kernel
theorem dX3_open_72 : decode cX3_open 72 = .ok (.iconst (-1), 1) := by decide +kernel
theorem dX3_open_73 : decode cX3_open 73 = .ok (.iastore, 1) := by decide +kernel
theorem dX3_open_74 : decode cX3_open 74 = .ok (.aload_n 0, 1) := by decide +kernel
theorem dX3_open_75 : decode cX3_open 75 = .ok (.getfield 27, 3) := by decide +kernel
theorem dX3_open_78 : decode cX3_open 78 = .ok (.iload_n 1, 1) := by decide +kernel
theorem dX3_open_79 : decode cX3_open 79 = .ok (.iconst 0, 1) := by decide +kernel
theorem dX3_open_80 : decode cX3_open 80 = .ok (.bastore, 1) := by decide +kernel
theorem dX3_open_81 : decode cX3_open 81 = .ok (.return_, 1) := by decide +kernel
set_option maxRecDepth 20000 in
theorem ggX3_close_X3_has : GoodIn wsX3_close wsX3_has := goodIn_r _ [6, 1, 25, 26, 27, 28, 29, 30, 31, 32, 33] (by decide +kernel) (by decide +kernel)
set_option maxRecDepth 20000 in
theorem gX3_close_X3_has : GoodIn wsX3_close (wsV RX3 66 RX3 yX3_has wsX3_has) := goodIn_app (goodIn_of _ (by decide +kernel)) ggX3_close_X3_has
set_option maxRecDepth 20000 in
theorem ggX3_close_X3_move : GoodIn wsX3_close wsX3_move := goodIn_r _ [10, 11, 12, 13, 14, 15, 16, 17, 18, 19, 20, 21, 22, 23, 24, 25, 26, 27, 28, 29, 30, 31, 32, 33] (by decide +kernel) (by decide +kernel)
set_option maxRecDepth 20000 in
theorem gX3_close_X3_move : GoodIn wsX3_close (wsV RX3 62 RX3 yX3_move wsX3_move) := goodIn_app (goodIn_of _ (by decide +kernel)) ggX3_close_X3_move
theorem dX3_close_0 : decode cX3_close 0 = .ok (.aload_n 0, 1) := by decide +kernel
theorem dX3_close_1 : decode cX3_close 1 = .ok (.iload_n 1, 1) := by decide +kernel
theorem dX3_close_2 : decode cX3_close 2 = .ok (.invokevirtual 66, 3) := by decide +kernel
theorem dX3_close_5 : decode cX3_close 5 = .ok (.ifCond .ne 4, 3) := by decide +kernel
theorem dX3_close_8 : decode cX3_close 8 = .ok (.return_, 1) := by decide +kernel
theorem dX3_close_9 : decode cX3_close 9 = .ok (.aload_n 0, 1) := by decide +kernel
theorem dX3_close_10 : decode cX3_close 10 = .ok (.iload_n 1, 1) := by decide +kernel
theorem dX3_close_11 : decode cX3_close 11 = .ok (.iconst 1, 1) := by decide +kernel
theorem dX3_close_12 : decode cX3_close 12 = .ok (.iadd, 1) := by decide +kernel
theorem dX3_close_13 : decode cX3_close 13 = .ok (.iload_n 1, 1) := by decide +kernel
theorem dX3_close_14 : decode cX3_close 14 = .ok (.aload_n 0, 1) := by decide +kernel
theorem dX3_close_15 : decode cX3_close 15 = .ok (.getfield 48, 3) := by decide +kernel
theorem dX3_close_18 : decode cX3_close 18 = .ok (.iload_n 1, 1) := by decide +kernel
theorem dX3_close_19 : decode cX3_close 19 = .ok (.isub, 1) := by decide +kernel
theorem dX3_close_20 : decode cX3_close 20 = .ok (.iconst 1, 1) := by decide +kernel
theorem dX3_close_21 : decode cX3_close 21 = .ok (.isub, 1) := by decide +kernel
theorem dX3_close_22 : decode cX3_close 22 = .ok (.invokevirtual 62, 3) := by decide +kernel
theorem dX3_close_25 : decode cX3_close 25 = .ok (.aload_n 0, 1) := by decide +kernel
theorem dX3_close_26 : decode cX3_close 26 = .ok (.dup, 1) := by decide +kernel
theorem dX3_close_27 : decode cX3_close 27 = .ok (.getfield 48, 3) := by decide +kernel
theorem dX3_close_30 : decode cX3_close 30 = .ok (.iconst 1, 1) := by decide +kernel
theorem dX3_close_31 : decode cX3_close 31 = .ok (.isub, 1) := by decide +kernel
theorem dX3_close_32 : decode cX3_close 32 = .ok (.putfield 48, 3) := by decide +kernel
theorem dX3_close_35 : decode cX3_close 35 = .ok (.return_, 1) := by decide +kernel
theorem dX3_move_0 : decode cX3_move 0 = .ok (.iload_n 1, 1) := by decide +kernel
theorem dX3_move_1 : decode cX3_move 1 = .ok (.ifCond .lt 23, 3) := by decide +kernel
theorem dX3_move_4 : decode cX3_move 4 = .ok (.iload_n 2, 1) := by decide +kernel
theorem dX3_move_5 : decode cX3_move 5 = .ok (.ifCond .lt 19, 3) := by decide +kernel
theorem dX3_move_8 : decode cX3_move 8 = .ok (.iload_n 3, 1) := by decide +kernel
theorem dX3_move_9 : decode cX3_move 9 = .ok (.ifCond .lt 15, 3) := by decide +kernel
theorem dX3_move_12 : decode cX3_move 12 = .ok (.iload_n 1, 1) := by decide +kernel
theorem dX3_move_13 : decode cX3_move 13 = .ok (.iload_n 2, 1) := by decide +kernel
theorem dX3_move_14 : decode cX3_move 14 = .ok (.invokestatic 70, 3) := by decide +kernel
theorem dX3_move_17 : decode cX3_move 17 = .ok (.iload_n 3, 1) := by decide +kernel
theorem dX3_move_18 : decode cX3_move 18 = .ok (.iadd, 1) := by decide +kernel
theorem dX3_move_19 : decode cX3_move 19 = .ok (.bipush 60, 2) := by decide +kernel
theorem dX3_move_21 : decode cX3_move 21 = .ok (.if_icmp .le 4, 3) := by decide +kernel
theorem dX3_move_24 : decode cX3_move 24 = .ok (.return_, 1) := by decide +kernel
theorem dX3_move_25 : decode cX3_move 25 = .ok (.aload_n 0, 1) := by decide +kernel
theorem dX3_move_26 : decode cX3_move 26 = .ok (.getfield 9, 3) := by decide +kernel
theorem dX3_move_29 : decode cX3_move 29 = .ok (.iload_n 1, 1) := by decide +kernel
theorem dX3_move_30 : decode cX3_move 30 = .ok (.bipush 12, 2) := by decide +kernel
theorem dX3_move_32 : decode cX3_move 32 = .ok (.imul, 1) := by decide +kernel
theorem dX3_move_33 : decode cX3_move 33 = .ok (.aload_n 0, 1) := by decide +kernel
theorem dX3_move_34 : decode cX3_move 34 = .ok (.getfield 9, 3) := by decide +kernel
theorem dX3_move_37 : decode cX3_move 37 = .ok (.iload_n 2, 1) := by decide +kernel
theorem dX3_move_38 : decode cX3_move 38 = .ok (.bipush 12, 2) := by decide +kernel
theorem dX3_move_40 : decode cX3_move 40 = .ok (.imul, 1) := by decide +kernel
theorem dX3_move_41 : decode cX3_move 41 = .ok (.iload_n 3, 1) := by decide +kernel
theorem dX3_move_42 : decode cX3_move 42 = .ok (.bipush 12, 2) := by decide +kernel
theorem dX3_move_44 : decode cX3_move 44 = .ok (.imul, 1) := by decide +kernel
theorem dX3_move_45 : decode cX3_move 45 = .ok (.invokestatic 56, 3) := by decide +kernel
theorem dX3_move_48 : decode cX3_move 48 = .ok (.aload_n 0, 1) := by decide +kernel
theorem dX3_move_49 : decode cX3_move 49 = .ok (.getfield 15, 3) := by decide +kernel
theorem dX3_move_52 : decode cX3_move 52 = .ok (.iload_n 1, 1) := by decide +kernel
theorem dX3_move_53 : decode cX3_move 53 = .ok (.aload_n 0, 1) := by decide +kernel
theorem dX3_move_54 : decode cX3_move 54 = .ok (.getfield 15, 3) := by decide +kernel
theorem dX3_move_57 : decode cX3_move 57 = .ok (.iload_n 2, 1) := by decide +kernel
theorem dX3_move_58 : decode cX3_move 58 = .ok (.iload_n 3, 1) := by decide +kernel
theorem dX3_move_59 : decode cX3_move 59 = .ok (.invokestatic 56, 3) := by decide +kernel
theorem dX3_move_62 : decode cX3_move 62 = .ok (.aload_n 0, 1) := by decide +kernel
theorem dX3_move_63 : decode cX3_move 63 = .ok (.getfield 18, 3) := by decide +kernel
theorem dX3_move_66 : decode cX3_move 66 = .ok (.iload_n 1, 1) := by decide +kernel
theorem dX3_move_67 : decode cX3_move 67 = .ok (.aload_n 0, 1) := by decide +kernel
theorem dX3_move_68 : decode cX3_move 68 = .ok (.getfield 18, 3) := by decide +kernel
theorem dX3_move_71 : decode cX3_move 71 = .ok (.iload_n 2, 1) := by decide +kernel
theorem dX3_move_72 : decode cX3_move 72 = .ok (.iload_n 3, 1) := by decide +kernel
theorem dX3_move_73 : decode cX3_move 73 = .ok (.invokestatic 56, 3) := by decide +kernel
theorem dX3_move_76 : decode cX3_move 76 = .ok (.aload_n 0, 1) := by decide +kernel
theorem dX3_move_77 : decode cX3_move 77 = .ok (.getfield 21, 3) := by decide +kernel
theorem dX3_move_80 : decode cX3_move 80 = .ok (.iload_n 1, 1) := by decide +kernel
theorem dX3_move_81 : decode cX3_move 81 = .ok (.aload_n 0, 1) := by decide +kernel
theorem dX3_move_82 : decode cX3_move 82 = .ok (.getfield 21, 3) := by decide +kernel
theorem dX3_move_85 : decode cX3_move 85 = .ok (.iload_n 2, 1) := by decide +kernel
theorem dX3_move_86 : decode cX3_move 86 = .ok (.iload_n 3, 1) := by decide +kernel
theorem dX3_move_87 : decode cX3_move 87 = .ok (.invokestatic 56, 3) := by decide +kernel
theorem dX3_move_90 : decode cX3_move 90 = .ok (.aload_n 0, 1) := by decide +kernel
theorem dX3_move_91 : decode cX3_move 91 = .ok (.getfield 24, 3) := by decide +kernel
theorem dX3_move_94 : decode cX3_move 94 = .ok (.iload_n 1, 1) := by decide +kernel
theorem dX3_move_95 : decode cX3_move 95 = .ok (.aload_n 0, 1) := by decide +kernel
theorem dX3_move_96 : decode cX3_move 96 = .ok (.getfield 24, 3) := by decide +kernel
theorem dX3_move_99 : decode cX3_move 99 = .ok (.iload_n 2, 1) := by decide +kernel
theorem dX3_move_100 : decode cX3_move 100 = .ok (.iload_n 3, 1) := by decide +kernel
theorem dX3_move_101 : decode cX3_move 101 = .ok (.invokestatic 56, 3) := by decide +kernel
theorem dX3_move_104 : decode cX3_move 104 = .ok (.aload_n 0, 1) := by decide +kernel
theorem dX3_move_105 : decode cX3_move 105 = .ok (.getfield 27, 3) := by decide +kernel
theorem dX3_move_108 : decode cX3_move 108 = .ok (.iload_n 1, 1) := by decide +kernel
theorem dX3_move_109 : decode cX3_move 109 = .ok (.aload_n 0, 1) := by decide +kernel
theorem dX3_move_110 : decode cX3_move 110 = .ok (.getfield 27, 3) := by decide +kernel
theorem dX3_move_113 : decode cX3_move 113 = .ok (.iload_n 2, 1) := by decide +kernel
theorem dX3_move_114 : decode cX3_move 114 = .ok (.iload_n 3, 1) := by decide +kernel
theorem dX3_move_115 : decode cX3_move 115 = .ok (.invokestatic 56, 3) := by decide +kernel
theorem dX3_move_118 : decode cX3_move 118 = .ok (.return_, 1) := by decide +kernel
set_option maxRecDepth 20000 in
theorem ggX3_addLetter_X3_has : GoodIn wsX3_addLetter wsX3_has := goodIn_r _ [8, 9, 10, 11, 12, 13, 14, 15, 16, 17, 18] (by decide +kernel) (by decide +kernel)
set_option maxRecDepth 20000 in
theorem gX3_addLetter_X3_has : GoodIn wsX3_addLetter (wsV RX3 66 RX3 yX3_has wsX3_has) := goodIn_app (goodIn_of _ (by decide +kernel)) ggX3_addLetter_X3_has
theorem dX3_addLetter_0 : decode cX3_addLetter 0 = .ok (.aload_n 0, 1) := by decide +kernel
theorem dX3_addLetter_1 : decode cX3_addLetter 1 = .ok (.iload_n 1, 1) := by decide +kernel
theorem dX3_addLetter_2 : decode cX3_addLetter 2 = .ok (.invokevirtual 66, 3) := by decide +kernel
theorem dX3_addLetter_5 : decode cX3_addLetter 5 = .ok (.ifCond .eq 13, 3) := by decide +kernel
theorem dX3_addLetter_8 : decode cX3_addLetter 8 = .ok (.iload_n 2, 1) := by decide +kernel
theorem dX3_addLetter_9 : decode cX3_addLetter 9 = .ok (.ifCond .lt 9, 3) := by decide +kernel
theorem dX3_addLetter_12 : decode cX3_addLetter 12 = .ok (.iload_n 2, 1) := by decide +kernel
theorem dX3_addLetter_13 : decode cX3_addLetter 13 = .ok (.bipush 26, 2) := by decide +kernel
theorem dX3_addLetter_15 : decode cX3_addLetter 15 = .ok (.if_icmp .lt 5, 3) := by decide +kernel
theorem dX3_addLetter_18 : decode cX3_addLetter 18 = .ok (.iconst 0, 1) := by decide +kernel
theorem dX3_addLetter_19 : decode cX3_addLetter 19 = .ok (.ireturn, 1) := by decide +kernel
theorem dX3_addLetter_20 : decode cX3_addLetter 20 = .ok (.aload_n 0, 1) := by decide +kernel
theorem dX3_addLetter_21 : decode cX3_addLetter 21 = .ok (.getfield 15, 3) := by decide +kernel
theorem dX3_addLetter_24 : decode cX3_addLetter 24 = .ok (.iload_n 1, 1) := by decide +kernel
theorem dX3_addLetter_25 : decode cX3_addLetter 25 = .ok (.iaload, 1) := by decide +kernel
theorem dX3_addLetter_26 : decode cX3_addLetter 26 = .ok (.istore_n 3, 1) := by decide +kernel
theorem dX3_addLetter_27 : decode cX3_addLetter 27 = .ok (.iload_n 3, 1) := by decide +kernel
theorem dX3_addLetter_28 : decode cX3_addLetter 28 = .ok (.ifCond .lt 9, 3) := by decide +kernel
theorem dX3_addLetter_31 : decode cX3_addLetter 31 = .ok (.iload_n 3, 1) := by decide +kernel
theorem dX3_addLetter_32 : decode cX3_addLetter 32 = .ok (.bipush 12, 2) := by decide +kernel
theorem dX3_addLetter_34 : decode cX3_addLetter 34 = .ok (.if_icmp .lt 5, 3) := by decide +kernel
theorem dX3_addLetter_37 : decode cX3_addLetter 37 = .ok (.iconst 0, 1) := by decide +kernel
theorem dX3_addLetter_38 : decode cX3_addLetter 38 = .ok (.ireturn, 1) := by decide +kernel
theorem dX3_addLetter_39 : decode cX3_addLetter 39 = .ok (.aload_n 0, 1) := by decide +kernel
theorem dX3_addLetter_40 : decode cX3_addLetter 40 = .ok (.getfield 9, 3) := by decide +kernel
theorem dX3_addLetter_43 : decode cX3_addLetter 43 = .ok (.iload_n 1, 1) := by decide +kernel
theorem dX3_addLetter_44 : decode cX3_addLetter 44 = .ok (.bipush 12, 2) := by decide +kernel
theorem dX3_addLetter_46 : decode cX3_addLetter 46 = .ok (.imul, 1) := by decide +kernel
theorem dX3_addLetter_47 : decode cX3_addLetter 47 = .ok (.iload_n 3, 1) := by decide +kernel
theorem dX3_addLetter_48 : decode cX3_addLetter 48 = .ok (.iadd, 1) := by decide +kernel
theorem dX3_addLetter_49 : decode cX3_addLetter 49 = .ok (.iload_n 2, 1) := by decide +kernel
theorem dX3_addLetter_50 : decode cX3_addLetter 50 = .ok (.iastore, 1) := by decide +kernel
theorem dX3_addLetter_51 : decode cX3_addLetter 51 = .ok (.aload_n 0, 1) := by decide +kernel
theorem dX3_addLetter_52 : decode cX3_addLetter 52 = .ok (.getfield 15, 3) := by decide +kernel
theorem dX3_addLetter_55 : decode cX3_addLetter 55 = .ok (.iload_n 1, 1) := by decide +kernel
theorem dX3_addLetter_56 : decode cX3_addLetter 56 = .ok (.iload_n 3, 1) := by decide +kernel
theorem dX3_addLetter_57 : decode cX3_addLetter 57 = .ok (.iconst 1, 1) := by decide +kernel
theorem dX3_addLetter_58 : decode cX3_addLetter 58 = .ok (.iadd, 1) := by decide +kernel
theorem dX3_addLetter_59 : decode cX3_addLetter 59 = .ok (.iastore, 1) := by decide +kernel
theorem dX3_addLetter_60 : decode cX3_addLetter 60 = .ok (.aload_n 0, 1) := by decide +kernel
theorem dX3_addLetter_61 : decode cX3_addLetter 61 = .ok (.getfield 18, 3) := by decide +kernel
theorem dX3_addLetter_64 : decode cX3_addLetter 64 = .ok (.iload_n 1, 1) := by decide +kernel
theorem dX3_addLetter_65 : decode cX3_addLetter 65 = .ok (.dup2, 1) := by decide +kernel
theorem dX3_addLetter_66 : decode cX3_addLetter 66 = .ok (.iaload, 1) := by decide +kernel
theorem dX3_addLetter_67 : decode cX3_addLetter 67 = .ok (.getstatic 76, 3) := by decide +kernel
theorem dX3_addLetter_70 : decode cX3_addLetter 70 = .ok (.iload_n 2, 1) := by decide +kernel
theorem dX3_addLetter_71 : decode cX3_addLetter 71 = .ok (.iaload, 1) := by decide +kernel
theorem dX3_addLetter_72 : decode cX3_addLetter 72 = .ok (.iadd, 1) := by decide +kernel
theorem dX3_addLetter_73 : decode cX3_addLetter 73 = .ok (.iastore, 1) := by decide +kernel
theorem dX3_addLetter_74 : decode cX3_addLetter 74 = .ok (.iconst 1, 1) := by decide +kernel
theorem dX3_addLetter_75 : decode cX3_addLetter 75 = .ok (.ireturn, 1) := by decide +kernel
set_option maxRecDepth 20000 in
theorem ggX3_putSigns_X3_has : GoodIn wsX3_putSigns wsX3_has := goodIn_r _ [7, 8, 9, 10, 11, 12, 13, 14, 15, 16, 17] (by decide +kernel) (by decide +kernel)
set_option maxRecDepth 20000 in
theorem gX3_putSigns_X3_has : GoodIn wsX3_putSigns (wsV RX3 66 RX3 yX3_has wsX3_has) := goodIn_app (goodIn_of _ (by decide +kernel)) ggX3_putSigns_X3_has
theorem dX3_putSigns_0 : decode cX3_putSigns 0 = .ok (.aload_n 0, 1) := by decide +kernel
theorem dX3_putSigns_1 : decode cX3_putSigns 1 = .ok (.iload_n 1, 1) := by decide +kernel
theorem dX3_putSigns_2 : decode cX3_putSigns 2 = .ok (.invokevirtual 66, 3) := by decide +kernel
theorem dX3_putSigns_5 : decode cX3_putSigns 5 = .ok (.ifCond .eq 17, 3) := by decide +kernel
theorem dX3_putSigns_8 : decode cX3_putSigns 8 = .ok (.aload_n 0, 1) := by decide +kernel
theorem dX3_putSigns_9 : decode cX3_putSigns 9 = .ok (.getfield 21, 3) := by decide +kernel
theorem dX3_putSigns_12 : decode cX3_putSigns 12 = .ok (.iload_n 1, 1) := by decide +kernel
theorem dX3_putSigns_13 : decode cX3_putSigns 13 = .ok (.iload_n 2, 1) := by decide +kernel
theorem dX3_putSigns_14 : decode cX3_putSigns 14 = .ok (.iastore, 1) := by decide +kernel
theorem dX3_putSigns_15 : decode cX3_putSigns 15 = .ok (.aload_n 0, 1) := by decide +kernel
theorem dX3_putSigns_16 : decode cX3_putSigns 16 = .ok (.getfield 24, 3) := by decide +kernel
theorem dX3_putSigns_19 : decode cX3_putSigns 19 = .ok (.iload_n 1, 1) := by decide +kernel
theorem dX3_putSigns_20 : decode cX3_putSigns 20 = .ok (.iload_n 3, 1) := by decide +kernel
theorem dX3_putSigns_21 : decode cX3_putSigns 21 = .ok (.iastore, 1) := by decide +kernel
theorem dX3_putSigns_22 : decode cX3_putSigns 22 = .ok (.return_, 1) := by decide +kernel
set_option maxRecDepth 20000 in
theorem ggX3_putEnd_X3_has : GoodIn wsX3_putEnd wsX3_has := goodIn_r _ [6, 7, 8, 9, 10, 11, 12, 13, 14, 15, 16] (by decide +kernel) (by decide +kernel)
set_option maxRecDepth 20000 in
theorem gX3_putEnd_X3_has : GoodIn wsX3_putEnd (wsV RX3 66 RX3 yX3_has wsX3_has) := goodIn_app (goodIn_of _ (by decide +kernel)) ggX3_putEnd_X3_has
theorem dX3_putEnd_0 : decode cX3_putEnd 0 = .ok (.aload_n 0, 1) := by decide +kernel
theorem dX3_putEnd_1 : decode cX3_putEnd 1 = .ok (.iload_n 1, 1) := by decide +kernel
theorem dX3_putEnd_2 : decode cX3_putEnd 2 = .ok (.invokevirtual 66, 3) := by decide +kernel
theorem dX3_putEnd_5 : decode cX3_putEnd 5 = .ok (.ifCond .eq 10, 3) := by decide +kernel
theorem dX3_putEnd_8 : decode cX3_putEnd 8 = .ok (.aload_n 0, 1) := by decide +kernel
theorem dX3_putEnd_9 : decode cX3_putEnd 9 = .ok (.getfield 27, 3) := by decide +kernel
theorem dX3_putEnd_12 : decode cX3_putEnd 12 = .ok (.iload_n 1, 1) := by decide +kernel
theorem dX3_putEnd_13 : decode cX3_putEnd 13 = .ok (.iload_n 2, 1) := by decide +kernel
theorem dX3_putEnd_14 : decode cX3_putEnd 14 = .ok (.bastore, 1) := by decide +kernel
theorem dX3_putEnd_15 : decode cX3_putEnd 15 = .ok (.return_, 1) := by decide +kernel
theorem dX3_setting_0 : decode cX3_setting 0 = .ok (.iload_n 1, 1) := by decide +kernel
theorem dX3_setting_1 : decode cX3_setting 1 = .ok (.ifCond .lt 18, 3) := by decide +kernel
theorem dX3_setting_4 : decode cX3_setting 4 = .ok (.iload_n 1, 1) := by decide +kernel
theorem dX3_setting_5 : decode cX3_setting 5 = .ok (.bipush 6, 2) := by decide +kernel
theorem dX3_setting_7 : decode cX3_setting 7 = .ok (.if_icmp .ge 12, 3) := by decide +kernel
theorem dX3_setting_10 : decode cX3_setting 10 = .ok (.aload_n 0, 1) := by decide +kernel
theorem dX3_setting_11 : decode cX3_setting 11 = .ok (.getfield 39, 3) := by decide +kernel
theorem dX3_setting_14 : decode cX3_setting 14 = .ok (.iload_n 1, 1) := by decide +kernel
theorem dX3_setting_15 : decode cX3_setting 15 = .ok (.iaload, 1) := by decide +kernel
theorem dX3_setting_16 : decode cX3_setting 16 = .ok (.goto 4, 3) := by decide +kernel
theorem dX3_setting_19 : decode cX3_setting 19 = .ok (.iconst 0, 1) := by decide +kernel
theorem dX3_setting_20 : decode cX3_setting 20 = .ok (.ireturn, 1) := by decide +kernel
theorem dX3_shareOf_0 : decode cX3_shareOf 0 = .ok (.iload_n 1, 1) := by decide +kernel
theorem dX3_shareOf_1 : decode cX3_shareOf 1 = .ok (.ifCond .lt 18, 3) := by decide +kernel
theorem dX3_shareOf_4 : decode cX3_shareOf 4 = .ok (.iload_n 1, 1) := by decide +kernel
theorem dX3_shareOf_5 : decode cX3_shareOf 5 = .ok (.bipush 8, 2) := by decide +kernel
theorem dX3_shareOf_7 : decode cX3_shareOf 7 = .ok (.if_icmp .ge 12, 3) := by decide +kernel
theorem dX3_shareOf_10 : decode cX3_shareOf 10 = .ok (.aload_n 0, 1) := by decide +kernel
theorem dX3_shareOf_11 : decode cX3_shareOf 11 = .ok (.getfield 45, 3) := by decide +kernel
theorem dX3_shareOf_14 : decode cX3_shareOf 14 = .ok (.iload_n 1, 1) := by decide +kernel
theorem dX3_shareOf_15 : decode cX3_shareOf 15 = .ok (.iaload, 1) := by decide +kernel
theorem dX3_shareOf_16 : decode cX3_shareOf 16 = .ok (.goto 4, 3) := by decide +kernel
theorem dX3_shareOf_19 : decode cX3_shareOf 19 = .ok (.iconst 0, 1) := by decide +kernel
theorem dX3_shareOf_20 : decode cX3_shareOf 20 = .ok (.ireturn, 1) := by decide +kernel
set_option maxRecDepth 20000 in
theorem ggX3_overhang_X5_signWidth : GoodIn wsX3_overhang wsX5_signWidth := goodIn_r _ [3, 4] (by decide +kernel) (by decide +kernel)
set_option maxRecDepth 20000 in
theorem gX3_overhang_X5_signWidth_n79 : GoodIn wsX3_overhang (wsX5_signWidth) := ggX3_overhang_X5_signWidth
set_option maxRecDepth 20000 in
theorem ggX3_overhang_X3_shareOf : GoodIn wsX3_overhang wsX3_shareOf := goodIn_r _ [9, 10, 11, 12, 13, 14, 15, 16, 17, 18, 19] (by decide +kernel) (by decide +kernel)
set_option maxRecDepth 20000 in
theorem gX3_overhang_X3_shareOf : GoodIn wsX3_overhang (wsV RX3 83 RX3 yX3_shareOf wsX3_shareOf) := goodIn_app (goodIn_of _ (by decide +kernel)) ggX3_overhang_X3_shareOf
theorem dX3_overhang_0 : decode cX3_overhang 0 = .ok (.iload_n 1, 1) := by decide +kernel
theorem dX3_overhang_1 : decode cX3_overhang 1 = .ok (.invokestatic 79, 3) := by decide +kernel
theorem dX3_overhang_4 : decode cX3_overhang 4 = .ok (.aload_n 0, 1) := by decide +kernel
theorem dX3_overhang_5 : decode cX3_overhang 5 = .ok (.iload_n 1, 1) := by decide +kernel
theorem dX3_overhang_6 : decode cX3_overhang 6 = .ok (.invokevirtual 83, 3) := by decide +kernel
theorem dX3_overhang_9 : decode cX3_overhang 9 = .ok (.imul, 1) := by decide +kernel
theorem dX3_overhang_10 : decode cX3_overhang 10 = .ok (.bipush 100, 2) := by decide +kernel
theorem dX3_overhang_12 : decode cX3_overhang 12 = .ok (.idiv, 1) := by decide +kernel
theorem dX3_overhang_13 : decode cX3_overhang 13 = .ok (.ireturn, 1) := by decide +kernel
set_option maxRecDepth 20000 in
theorem ggX3_lengthOf_X3_has : GoodIn wsX3_lengthOf wsX3_has := goodIn_r _ [6, 7, 8, 9, 10, 11, 12, 13, 14, 15, 16] (by decide +kernel) (by decide +kernel)
set_option maxRecDepth 20000 in
theorem gX3_lengthOf_X3_has : GoodIn wsX3_lengthOf (wsV RX3 66 RX3 yX3_has wsX3_has) := goodIn_app (goodIn_of _ (by decide +kernel)) ggX3_lengthOf_X3_has
theorem dX3_lengthOf_0 : decode cX3_lengthOf 0 = .ok (.aload_n 0, 1) := by decide +kernel
theorem dX3_lengthOf_1 : decode cX3_lengthOf 1 = .ok (.iload_n 1, 1) := by decide +kernel
theorem dX3_lengthOf_2 : decode cX3_lengthOf 2 = .ok (.invokevirtual 66, 3) := by decide +kernel
theorem dX3_lengthOf_5 : decode cX3_lengthOf 5 = .ok (.ifCond .eq 12, 3) := by decide +kernel
theorem dX3_lengthOf_8 : decode cX3_lengthOf 8 = .ok (.aload_n 0, 1) := by decide +kernel
theorem dX3_lengthOf_9 : decode cX3_lengthOf 9 = .ok (.getfield 15, 3) := by decide +kernel
theorem dX3_lengthOf_12 : decode cX3_lengthOf 12 = .ok (.iload_n 1, 1) := by decide +kernel
theorem dX3_lengthOf_13 : decode cX3_lengthOf 13 = .ok (.iaload, 1) := by decide +kernel
theorem dX3_lengthOf_14 : decode cX3_lengthOf 14 = .ok (.goto 4, 3) := by decide +kernel
theorem dX3_lengthOf_17 : decode cX3_lengthOf 17 = .ok (.iconst 0, 1) := by decide +kernel
theorem dX3_lengthOf_18 : decode cX3_lengthOf 18 = .ok (.ireturn, 1) := by decide +kernel
set_option maxRecDepth 20000 in
theorem ggX3_widthOf_X3_has : GoodIn wsX3_widthOf wsX3_has := goodIn_r _ [8, 9, 14, 15, 16, 17, 18, 19, 20, 21, 22] (by decide +kernel) (by decide +kernel)
set_option maxRecDepth 20000 in
theorem gX3_widthOf_X3_has : GoodIn wsX3_widthOf (wsV RX3 66 RX3 yX3_has wsX3_has) := goodIn_app (goodIn_of _ (by decide +kernel)) ggX3_widthOf_X3_has
set_option maxRecDepth 20000 in
theorem ggX3_widthOf_X5_signWidth : GoodIn wsX3_widthOf wsX5_signWidth := goodIn_r _ [12, 13] (by decide +kernel) (by decide +kernel)
set_option maxRecDepth 20000 in
theorem gX3_widthOf_X5_signWidth_n79 : GoodIn wsX3_widthOf (wsX5_signWidth) := ggX3_widthOf_X5_signWidth
theorem dX3_widthOf_0 : decode cX3_widthOf 0 = .ok (.aload_n 0, 1) := by decide +kernel
theorem dX3_widthOf_1 : decode cX3_widthOf 1 = .ok (.iload_n 1, 1) := by decide +kernel
theorem dX3_widthOf_2 : decode cX3_widthOf 2 = .ok (.invokevirtual 66, 3) := by decide +kernel
theorem dX3_widthOf_5 : decode cX3_widthOf 5 = .ok (.ifCond .eq 32, 3) := by decide +kernel
theorem dX3_widthOf_8 : decode cX3_widthOf 8 = .ok (.aload_n 0, 1) := by decide +kernel
theorem dX3_widthOf_9 : decode cX3_widthOf 9 = .ok (.getfield 18, 3) := by decide +kernel
theorem dX3_widthOf_12 : decode cX3_widthOf 12 = .ok (.iload_n 1, 1) := by decide +kernel
theorem dX3_widthOf_13 : decode cX3_widthOf 13 = .ok (.iaload, 1) := by decide +kernel
theorem dX3_widthOf_14 : decode cX3_widthOf 14 = .ok (.aload_n 0, 1) := by decide +kernel
theorem dX3_widthOf_15 : decode cX3_widthOf 15 = .ok (.getfield 21, 3) := by decide +kernel
theorem dX3_widthOf_18 : decode cX3_widthOf 18 = .ok (.iload_n 1, 1) := by decide +kernel
theorem dX3_widthOf_19 : decode cX3_widthOf 19 = .ok (.iaload, 1) := by decide +kernel
theorem dX3_widthOf_20 : decode cX3_widthOf 20 = .ok (.invokestatic 79, 3) := by decide +kernel
theorem dX3_widthOf_23 : decode cX3_widthOf 23 = .ok (.iadd, 1) := by decide +kernel
theorem dX3_widthOf_24 : decode cX3_widthOf 24 = .ok (.aload_n 0, 1) := by decide +kernel
theorem dX3_widthOf_25 : decode cX3_widthOf 25 = .ok (.getfield 24, 3) := by decide +kernel
theorem dX3_widthOf_28 : decode cX3_widthOf 28 = .ok (.iload_n 1, 1) := by decide +kernel
theorem dX3_widthOf_29 : decode cX3_widthOf 29 = .ok (.iaload, 1) := by decide +kernel
theorem dX3_widthOf_30 : decode cX3_widthOf 30 = .ok (.invokestatic 79, 3) := by decide +kernel
theorem dX3_widthOf_33 : decode cX3_widthOf 33 = .ok (.iadd, 1) := by decide +kernel
theorem dX3_widthOf_34 : decode cX3_widthOf 34 = .ok (.goto 4, 3) := by decide +kernel
theorem dX3_widthOf_37 : decode cX3_widthOf 37 = .ok (.iconst 0, 1) := by decide +kernel
theorem dX3_widthOf_38 : decode cX3_widthOf 38 = .ok (.ireturn, 1) := by decide +kernel
set_option maxRecDepth 20000 in
theorem ggX3_aheadOf_X3_has : GoodIn wsX3_aheadOf wsX3_has := goodIn_r _ [6, 7, 8, 9, 10, 11, 12, 13, 14, 15, 16] (by decide +kernel) (by decide +kernel)
set_option maxRecDepth 20000 in
theorem gX3_aheadOf_X3_has : GoodIn wsX3_aheadOf (wsV RX3 66 RX3 yX3_has wsX3_has) := goodIn_app (goodIn_of _ (by decide +kernel)) ggX3_aheadOf_X3_has
theorem dX3_aheadOf_0 : decode cX3_aheadOf 0 = .ok (.aload_n 0, 1) := by decide +kernel
theorem dX3_aheadOf_1 : decode cX3_aheadOf 1 = .ok (.iload_n 1, 1) := by decide +kernel
theorem dX3_aheadOf_2 : decode cX3_aheadOf 2 = .ok (.invokevirtual 66, 3) := by decide +kernel
theorem dX3_aheadOf_5 : decode cX3_aheadOf 5 = .ok (.ifCond .eq 12, 3) := by decide +kernel
theorem dX3_aheadOf_8 : decode cX3_aheadOf 8 = .ok (.aload_n 0, 1) := by decide +kernel
theorem dX3_aheadOf_9 : decode cX3_aheadOf 9 = .ok (.getfield 21, 3) := by decide +kernel
theorem dX3_aheadOf_12 : decode cX3_aheadOf 12 = .ok (.iload_n 1, 1) := by decide +kernel
theorem dX3_aheadOf_13 : decode cX3_aheadOf 13 = .ok (.iaload, 1) := by decide +kernel
theorem dX3_aheadOf_14 : decode cX3_aheadOf 14 = .ok (.goto 4, 3) := by decide +kernel
theorem dX3_aheadOf_17 : decode cX3_aheadOf 17 = .ok (.iconst (-1), 1) := by decide +kernel
theorem dX3_aheadOf_18 : decode cX3_aheadOf 18 = .ok (.ireturn, 1) := by decide +kernel
set_option maxRecDepth 20000 in
theorem ggX3_behindOf_X3_has : GoodIn wsX3_behindOf wsX3_has := goodIn_r _ [6, 7, 8, 9, 10, 11, 12, 13, 14, 15, 16] (by decide +kernel) (by decide +kernel)
set_option maxRecDepth 20000 in
theorem gX3_behindOf_X3_has : GoodIn wsX3_behindOf (wsV RX3 66 RX3 yX3_has wsX3_has) := goodIn_app (goodIn_of _ (by decide +kernel)) ggX3_behindOf_X3_has
theorem dX3_behindOf_0 : decode cX3_behindOf 0 = .ok (.aload_n 0, 1) := by decide +kernel
theorem dX3_behindOf_1 : decode cX3_behindOf 1 = .ok (.iload_n 1, 1) := by decide +kernel
theorem dX3_behindOf_2 : decode cX3_behindOf 2 = .ok (.invokevirtual 66, 3) := by decide +kernel
theorem dX3_behindOf_5 : decode cX3_behindOf 5 = .ok (.ifCond .eq 12, 3) := by decide +kernel
theorem dX3_behindOf_8 : decode cX3_behindOf 8 = .ok (.aload_n 0, 1) := by decide +kernel
theorem dX3_behindOf_9 : decode cX3_behindOf 9 = .ok (.getfield 24, 3) := by decide +kernel
theorem dX3_behindOf_12 : decode cX3_behindOf 12 = .ok (.iload_n 1, 1) := by decide +kernel
theorem dX3_behindOf_13 : decode cX3_behindOf 13 = .ok (.iaload, 1) := by decide +kernel
theorem dX3_behindOf_14 : decode cX3_behindOf 14 = .ok (.goto 4, 3) := by decide +kernel
theorem dX3_behindOf_17 : decode cX3_behindOf 17 = .ok (.iconst (-1), 1) := by decide +kernel
theorem dX3_behindOf_18 : decode cX3_behindOf 18 = .ok (.ireturn, 1) := by decide +kernel
set_option maxRecDepth 20000 in
theorem ggX3_wasSetToEnd_X3_has : GoodIn wsX3_wasSetToEnd wsX3_has := goodIn_r _ [6, 7, 8, 9, 10, 11, 12, 13, 14, 15, 16] (by decide +kernel) (by decide +kernel)
set_option maxRecDepth 20000 in
theorem gX3_wasSetToEnd_X3_has : GoodIn wsX3_wasSetToEnd (wsV RX3 66 RX3 yX3_has wsX3_has) := goodIn_app (goodIn_of _ (by decide +kernel)) ggX3_wasSetToEnd_X3_has
theorem dX3_wasSetToEnd_0 : decode cX3_wasSetToEnd 0 = .ok (.aload_n 0, 1) := by decide +kernel
theorem dX3_wasSetToEnd_1 : decode cX3_wasSetToEnd 1 = .ok (.iload_n 1, 1) := by decide +kernel
theorem dX3_wasSetToEnd_2 : decode cX3_wasSetToEnd 2 = .ok (.invokevirtual 66, 3) := by decide +kernel
theorem dX3_wasSetToEnd_5 : decode cX3_wasSetToEnd 5 = .ok (.ifCond .eq 16, 3) := by decide +kernel
theorem dX3_wasSetToEnd_8 : decode cX3_wasSetToEnd 8 = .ok (.aload_n 0, 1) := by decide +kernel
theorem dX3_wasSetToEnd_9 : decode cX3_wasSetToEnd 9 = .ok (.getfield 27, 3) := by decide +kernel
theorem dX3_wasSetToEnd_12 : decode cX3_wasSetToEnd 12 = .ok (.iload_n 1, 1) := by decide +kernel
theorem dX3_wasSetToEnd_13 : decode cX3_wasSetToEnd 13 = .ok (.baload, 1) := by decide +kernel
theorem dX3_wasSetToEnd_14 : decode cX3_wasSetToEnd 14 = .ok (.ifCond .eq 7, 3) := by decide +kernel
theorem dX3_wasSetToEnd_17 : decode cX3_wasSetToEnd 17 = .ok (.iconst 1, 1) := by decide +kernel
theorem dX3_wasSetToEnd_18 : decode cX3_wasSetToEnd 18 = .ok (.goto 4, 3) := by decide +kernel
theorem dX3_wasSetToEnd_21 : decode cX3_wasSetToEnd 21 = .ok (.iconst 0, 1) := by decide +kernel
theorem dX3_wasSetToEnd_22 : decode cX3_wasSetToEnd 22 = .ok (.ireturn, 1) := by decide +kernel
set_option maxRecDepth 20000 in
theorem ggX3_endsParagraph_X3_has : GoodIn wsX3_endsParagraph wsX3_has := goodIn_r _ [7, 2, 8, 9, 10, 11, 12, 13, 14, 15, 16] (by decide +kernel) (by decide +kernel)
set_option maxRecDepth 20000 in
theorem gX3_endsParagraph_X3_has : GoodIn wsX3_endsParagraph (wsV RX3 66 RX3 yX3_has wsX3_has) := goodIn_app (goodIn_of _ (by decide +kernel)) ggX3_endsParagraph_X3_has
theorem dX3_endsParagraph_0 : decode cX3_endsParagraph 0 = .ok (.aload_n 0, 1) := by decide +kernel
theorem dX3_endsParagraph_1 : decode cX3_endsParagraph 1 = .ok (.iload_n 1, 1) := by decide +kernel
theorem dX3_endsParagraph_2 : decode cX3_endsParagraph 2 = .ok (.invokevirtual 66, 3) := by decide +kernel
theorem dX3_endsParagraph_5 : decode cX3_endsParagraph 5 = .ok (.ifCond .eq 26, 3) := by decide +kernel
theorem dX3_endsParagraph_8 : decode cX3_endsParagraph 8 = .ok (.aload_n 0, 1) := by decide +kernel
theorem dX3_endsParagraph_9 : decode cX3_endsParagraph 9 = .ok (.getfield 27, 3) := by decide +kernel
theorem dX3_endsParagraph_12 : decode cX3_endsParagraph 12 = .ok (.iload_n 1, 1) := by decide +kernel
theorem dX3_endsParagraph_13 : decode cX3_endsParagraph 13 = .ok (.baload, 1) := by decide +kernel
theorem dX3_endsParagraph_14 : decode cX3_endsParagraph 14 = .ok (.ifCond .ne 13, 3) := by decide +kernel
theorem dX3_endsParagraph_17 : decode cX3_endsParagraph 17 = .ok (.iload_n 1, 1) := by decide +kernel
theorem dX3_endsParagraph_18 : decode cX3_endsParagraph 18 = .ok (.aload_n 0, 1) := by decide +kernel
theorem dX3_endsParagraph_19 : decode cX3_endsParagraph 19 = .ok (.getfield 48, 3) := by decide +kernel
theorem dX3_endsParagraph_22 : decode cX3_endsParagraph 22 = .ok (.iconst 1, 1) := by decide +kernel
theorem dX3_endsParagraph_23 : decode cX3_endsParagraph 23 = .ok (.isub, 1) := by decide +kernel
theorem dX3_endsParagraph_24 : decode cX3_endsParagraph 24 = .ok (.if_icmp .ne 7, 3) := by decide +kernel
theorem dX3_endsParagraph_27 : decode cX3_endsParagraph 27 = .ok (.iconst 1, 1) := by decide +kernel
theorem dX3_endsParagraph_28 : decode cX3_endsParagraph 28 = .ok (.goto 4, 3) := by decide +kernel
theorem dX3_endsParagraph_31 : decode cX3_endsParagraph 31 = .ok (.iconst 0, 1) := by decide +kernel
theorem dX3_endsParagraph_32 : decode cX3_endsParagraph 32 = .ok (.ireturn, 1) := by decide +kernel
set_option maxRecDepth 20000 in
theorem ggX3_paragraphs_X3_endsParagraph : GoodIn wsX3_paragraphs wsX3_endsParagraph := goodIn_r _ [6, 7, 1, 8, 9, 10, 5, 11, 12, 13, 14, 15, 16, 17, 18, 19, 20] (by decide +kernel) (by decide +kernel)
set_option maxRecDepth 20000 in
theorem gX3_paragraphs_X3_endsParagraph : GoodIn wsX3_paragraphs (wsV RX3 86 RX3 yX3_endsParagraph wsX3_endsParagraph) := goodIn_app (goodIn_of _ (by decide +kernel)) ggX3_paragraphs_X3_endsParagraph
theorem dX3_paragraphs_0 : decode cX3_paragraphs 0 = .ok (.iconst 0, 1) := by decide +kernel
theorem dX3_paragraphs_1 : decode cX3_paragraphs 1 = .ok (.istore_n 1, 1) := by decide +kernel
theorem dX3_paragraphs_2 : decode cX3_paragraphs 2 = .ok (.iconst 0, 1) := by decide +kernel
theorem dX3_paragraphs_3 : decode cX3_paragraphs 3 = .ok (.istore_n 2, 1) := by decide +kernel
theorem dX3_paragraphs_4 : decode cX3_paragraphs 4 = .ok (.iload_n 2, 1) := by decide +kernel
theorem dX3_paragraphs_5 : decode cX3_paragraphs 5 = .ok (.aload_n 0, 1) := by decide +kernel
theorem dX3_paragraphs_6 : decode cX3_paragraphs 6 = .ok (.getfield 48, 3) := by decide +kernel
theorem dX3_paragraphs_9 : decode cX3_paragraphs 9 = .ok (.if_icmp .ge 20, 3) := by decide +kernel
theorem dX3_paragraphs_12 : decode cX3_paragraphs 12 = .ok (.aload_n 0, 1) := by decide +kernel
theorem dX3_paragraphs_13 : decode cX3_paragraphs 13 = .ok (.iload_n 2, 1) := by decide +kernel
theorem dX3_paragraphs_14 : decode cX3_paragraphs 14 = .ok (.invokevirtual 86, 3) := by decide +kernel
theorem dX3_paragraphs_17 : decode cX3_paragraphs 17 = .ok (.ifCond .eq 6, 3) := by decide +kernel
theorem dX3_paragraphs_20 : decode cX3_paragraphs 20 = .ok (.iinc 1 1, 3) := by decide +kernel
theorem dX3_paragraphs_23 : decode cX3_paragraphs 23 = .ok (.iinc 2 1, 3) := by decide +kernel
theorem dX3_paragraphs_26 : decode cX3_paragraphs 26 = .ok (.goto (-22), 3) := by decide +kernel
theorem dX3_paragraphs_29 : decode cX3_paragraphs 29 = .ok (.iload_n 1, 1) := by decide +kernel
theorem dX3_paragraphs_30 : decode cX3_paragraphs 30 = .ok (.ireturn, 1) := by decide +kernel
set_option maxRecDepth 20000 in
theorem ggX3_writtenLength_X3_aheadOf : GoodIn wsX3_writtenLength wsX3_aheadOf := goodIn_r _ [5, 6, 7, 8, 9, 4, 10, 11, 22, 23, 24, 25, 26, 27, 28, 29, 30] (by decide +kernel) (by decide +kernel)
set_option maxRecDepth 20000 in
theorem gX3_writtenLength_X3_aheadOf : GoodIn wsX3_writtenLength (wsV RX3 89 RX3 yX3_aheadOf wsX3_aheadOf) := goodIn_app (goodIn_of _ (by decide +kernel)) ggX3_writtenLength_X3_aheadOf
set_option maxRecDepth 20000 in
theorem ggX3_writtenLength_X3_behindOf : GoodIn wsX3_writtenLength wsX3_behindOf := goodIn_r _ [15, 16, 7, 8, 9, 4, 10, 11, 22, 23, 24, 25, 26, 27, 28, 29, 30] (by decide +kernel) (by decide +kernel)
set_option maxRecDepth 20000 in
theorem gX3_writtenLength_X3_behindOf : GoodIn wsX3_writtenLength (wsV RX3 92 RX3 yX3_behindOf wsX3_behindOf) := goodIn_app (goodIn_of _ (by decide +kernel)) ggX3_writtenLength_X3_behindOf
set_option maxRecDepth 20000 in
theorem ggX3_writtenLength_X3_lengthOf : GoodIn wsX3_writtenLength wsX3_lengthOf := goodIn_r _ [20, 21, 7, 8, 9, 4, 10, 11, 22, 23, 24, 25, 26, 27, 28, 29, 30] (by decide +kernel) (by decide +kernel)
set_option maxRecDepth 20000 in
theorem gX3_writtenLength_X3_lengthOf : GoodIn wsX3_writtenLength (wsV RX3 95 RX3 yX3_lengthOf wsX3_lengthOf) := goodIn_app (goodIn_of _ (by decide +kernel)) ggX3_writtenLength_X3_lengthOf
theorem dX3_writtenLength_0 : decode cX3_writtenLength 0 = .ok (.aload_n 0, 1) := by decide +kernel
theorem dX3_writtenLength_1 : decode cX3_writtenLength 1 = .ok (.iload_n 1, 1) := by decide +kernel
theorem dX3_writtenLength_2 : decode cX3_writtenLength 2 = .ok (.invokevirtual 89, 3) := by decide +kernel
theorem dX3_writtenLength_5 : decode cX3_writtenLength 5 = .ok (.iconst (-1), 1) := by decide +kernel
theorem dX3_writtenLength_6 : decode cX3_writtenLength 6 = .ok (.if_icmp .ne 7, 3) := by decide +kernel
theorem dX3_writtenLength_9 : decode cX3_writtenLength 9 = .ok (.iconst 0, 1) := by decide +kernel
theorem dX3_writtenLength_10 : decode cX3_writtenLength 10 = .ok (.goto 4, 3) := by decide +kernel
theorem dX3_writtenLength_13 : decode cX3_writtenLength 13 = .ok (.iconst 1, 1) := by decide +kernel
theorem dX3_writtenLength_14 : decode cX3_writtenLength 14 = .ok (.aload_n 0, 1) := by decide +kernel
theorem dX3_writtenLength_15 : decode cX3_writtenLength 15 = .ok (.iload_n 1, 1) := by decide +kernel
theorem dX3_writtenLength_16 : decode cX3_writtenLength 16 = .ok (.invokevirtual 92, 3) := by decide +kernel
theorem dX3_writtenLength_19 : decode cX3_writtenLength 19 = .ok (.iconst (-1), 1) := by decide +kernel
theorem dX3_writtenLength_20 : decode cX3_writtenLength 20 = .ok (.if_icmp .ne 7, 3) := by decide +kernel
theorem dX3_writtenLength_23 : decode cX3_writtenLength 23 = .ok (.iconst 0, 1) := by decide +kernel
theorem dX3_writtenLength_24 : decode cX3_writtenLength 24 = .ok (.goto 4, 3) := by decide +kernel
theorem dX3_writtenLength_27 : decode cX3_writtenLength 27 = .ok (.iconst 1, 1) := by decide +kernel
theorem dX3_writtenLength_28 : decode cX3_writtenLength 28 = .ok (.iadd, 1) := by decide +kernel
theorem dX3_writtenLength_29 : decode cX3_writtenLength 29 = .ok (.istore_n 2, 1) := by decide +kernel
theorem dX3_writtenLength_30 : decode cX3_writtenLength 30 = .ok (.aload_n 0, 1) := by decide +kernel
theorem dX3_writtenLength_31 : decode cX3_writtenLength 31 = .ok (.iload_n 1, 1) := by decide +kernel
theorem dX3_writtenLength_32 : decode cX3_writtenLength 32 = .ok (.invokevirtual 95, 3) := by decide +kernel
theorem dX3_writtenLength_35 : decode cX3_writtenLength 35 = .ok (.iload_n 2, 1) := by decide +kernel
theorem dX3_writtenLength_36 : decode cX3_writtenLength 36 = .ok (.iadd, 1) := by decide +kernel
theorem dX3_writtenLength_37 : decode cX3_writtenLength 37 = .ok (.ireturn, 1) := by decide +kernel
set_option maxRecDepth 20000 in
theorem ggX3_writtenByteOf_X3_aheadOf : GoodIn wsX3_writtenByteOf wsX3_aheadOf := goodIn_r _ [8, 9, 10, 11, 12, 7, 13, 14, 19, 20, 21, 22, 23, 24, 25, 26, 27] (by decide +kernel) (by decide +kernel)
set_option maxRecDepth 20000 in
theorem gX3_writtenByteOf_X3_aheadOf : GoodIn wsX3_writtenByteOf (wsV RX3 89 RX3 yX3_aheadOf wsX3_aheadOf) := goodIn_app (goodIn_of _ (by decide +kernel)) ggX3_writtenByteOf_X3_aheadOf
set_option maxRecDepth 20000 in
theorem ggX3_writtenByteOf_X5_signByte : GoodIn wsX3_writtenByteOf wsX5_signByte := goodIn_r _ [17, 18] (by decide +kernel) (by decide +kernel)
set_option maxRecDepth 20000 in
theorem gX3_writtenByteOf_X5_signByte_n98 : GoodIn wsX3_writtenByteOf (wsX5_signByte) := ggX3_writtenByteOf_X5_signByte
set_option maxRecDepth 20000 in
theorem ggX3_writtenByteOf_X3_has : GoodIn wsX3_writtenByteOf wsX3_has := goodIn_r _ [13, 14, 19, 20, 21, 22, 23, 24, 25, 26, 27] (by decide +kernel) (by decide +kernel)
set_option maxRecDepth 20000 in
theorem gX3_writtenByteOf_X3_has : GoodIn wsX3_writtenByteOf (wsV RX3 66 RX3 yX3_has wsX3_has) := goodIn_app (goodIn_of _ (by decide +kernel)) ggX3_writtenByteOf_X3_has
theorem dX3_writtenByteOf_0 : decode cX3_writtenByteOf 0 = .ok (.aload_n 0, 1) := by decide +kernel
theorem dX3_writtenByteOf_1 : decode cX3_writtenByteOf 1 = .ok (.iload_n 1, 1) := by decide +kernel
theorem dX3_writtenByteOf_2 : decode cX3_writtenByteOf 2 = .ok (.invokevirtual 89, 3) := by decide +kernel
theorem dX3_writtenByteOf_5 : decode cX3_writtenByteOf 5 = .ok (.istore_n 3, 1) := by decide +kernel
theorem dX3_writtenByteOf_6 : decode cX3_writtenByteOf 6 = .ok (.iload_n 3, 1) := by decide +kernel
theorem dX3_writtenByteOf_7 : decode cX3_writtenByteOf 7 = .ok (.iconst (-1), 1) := by decide +kernel
theorem dX3_writtenByteOf_8 : decode cX3_writtenByteOf 8 = .ok (.if_icmp .eq 12, 3) := by decide +kernel
theorem dX3_writtenByteOf_11 : decode cX3_writtenByteOf 11 = .ok (.iload_n 2, 1) := by decide +kernel
theorem dX3_writtenByteOf_12 : decode cX3_writtenByteOf 12 = .ok (.ifCond .ne 8, 3) := by decide +kernel
theorem dX3_writtenByteOf_15 : decode cX3_writtenByteOf 15 = .ok (.iload_n 3, 1) := by decide +kernel
theorem dX3_writtenByteOf_16 : decode cX3_writtenByteOf 16 = .ok (.invokestatic 98, 3) := by decide +kernel
theorem dX3_writtenByteOf_19 : decode cX3_writtenByteOf 19 = .ok (.ireturn, 1) := by decide +kernel
theorem dX3_writtenByteOf_20 : decode cX3_writtenByteOf 20 = .ok (.iload_n 3, 1) := by decide +kernel
theorem dX3_writtenByteOf_21 : decode cX3_writtenByteOf 21 = .ok (.iconst (-1), 1) := by decide +kernel
theorem dX3_writtenByteOf_22 : decode cX3_writtenByteOf 22 = .ok (.if_icmp .ne 7, 3) := by decide +kernel
theorem dX3_writtenByteOf_25 : decode cX3_writtenByteOf 25 = .ok (.iload_n 2, 1) := by decide +kernel
theorem dX3_writtenByteOf_26 : decode cX3_writtenByteOf 26 = .ok (.goto 6, 3) := by decide +kernel
theorem dX3_writtenByteOf_29 : decode cX3_writtenByteOf 29 = .ok (.iload_n 2, 1) := by decide +kernel
theorem dX3_writtenByteOf_30 : decode cX3_writtenByteOf 30 = .ok (.iconst 1, 1) := by decide +kernel
theorem dX3_writtenByteOf_31 : decode cX3_writtenByteOf 31 = .ok (.isub, 1) := by decide +kernel
theorem dX3_writtenByteOf_32 : decode cX3_writtenByteOf 32 = .ok (.istore 4, 2) := by decide +kernel
theorem dX3_writtenByteOf_34 : decode cX3_writtenByteOf 34 = .ok (.aload_n 0, 1) := by decide +kernel
theorem dX3_writtenByteOf_35 : decode cX3_writtenByteOf 35 = .ok (.iload_n 1, 1) := by decide +kernel
theorem dX3_writtenByteOf_36 : decode cX3_writtenByteOf 36 = .ok (.invokevirtual 66, 3) := by decide +kernel
theorem dX3_writtenByteOf_39 : decode cX3_writtenByteOf 39 = .ok (.ifCond .eq 19, 3) := by decide +kernel
theorem dX3_writtenByteOf_42 : decode cX3_writtenByteOf 42 = .ok (.iload 4, 2) := by decide +kernel
theorem dX3_writtenByteOf_44 : decode cX3_writtenByteOf 44 = .ok (.ifCond .lt 14, 3) := by decide +kernel
theorem dX3_writtenByteOf_47 : decode cX3_writtenByteOf 47 = .ok (.iload 4, 2) := by decide +kernel
theorem dX3_writtenByteOf_49 : decode cX3_writtenByteOf 49 = .ok (.aload_n 0, 1) := by decide +kernel
theorem dX3_writtenByteOf_50 : decode cX3_writtenByteOf 50 = .ok (.getfield 15, 3) := by decide +kernel
theorem dX3_writtenByteOf_53 : decode cX3_writtenByteOf 53 = .ok (.iload_n 1, 1) := by decide +kernel
theorem dX3_writtenByteOf_54 : decode cX3_writtenByteOf 54 = .ok (.iaload, 1) := by decide +kernel
theorem dX3_writtenByteOf_55 : decode cX3_writtenByteOf 55 = .ok (.if_icmp .le 5, 3) := by decide +kernel
theorem dX3_writtenByteOf_58 : decode cX3_writtenByteOf 58 = .ok (.iconst (-1), 1) := by decide +kernel
theorem dX3_writtenByteOf_59 : decode cX3_writtenByteOf 59 = .ok (.ireturn, 1) := by decide +kernel
theorem dX3_writtenByteOf_60 : decode cX3_writtenByteOf 60 = .ok (.iload 4, 2) := by decide +kernel
theorem dX3_writtenByteOf_62 : decode cX3_writtenByteOf 62 = .ok (.aload_n 0, 1) := by decide +kernel
theorem dX3_writtenByteOf_63 : decode cX3_writtenByteOf 63 = .ok (.getfield 15, 3) := by decide +kernel
theorem dX3_writtenByteOf_66 : decode cX3_writtenByteOf 66 = .ok (.iload_n 1, 1) := by decide +kernel
theorem dX3_writtenByteOf_67 : decode cX3_writtenByteOf 67 = .ok (.iaload, 1) := by decide +kernel
theorem dX3_writtenByteOf_68 : decode cX3_writtenByteOf 68 = .ok (.if_icmp .ge 26, 3) := by decide +kernel
theorem dX3_writtenByteOf_71 : decode cX3_writtenByteOf 71 = .ok (.iload 4, 2) := by decide +kernel
theorem dX3_writtenByteOf_73 : decode cX3_writtenByteOf 73 = .ok (.bipush 12, 2) := by decide +kernel
theorem dX3_writtenByteOf_75 : decode cX3_writtenByteOf 75 = .ok (.if_icmp .ge 19, 3) := by decide +kernel
theorem dX3_writtenByteOf_78 : decode cX3_writtenByteOf 78 = .ok (.bipush 97, 2) := by decide +kernel
theorem dX3_writtenByteOf_80 : decode cX3_writtenByteOf 80 = .ok (.aload_n 0, 1) := by decide +kernel
theorem dX3_writtenByteOf_81 : decode cX3_writtenByteOf 81 = .ok (.getfield 9, 3) := by decide +kernel
theorem dX3_writtenByteOf_84 : decode cX3_writtenByteOf 84 = .ok (.iload_n 1, 1) := by decide +kernel
theorem dX3_writtenByteOf_85 : decode cX3_writtenByteOf 85 = .ok (.bipush 12, 2) := by decide +kernel
theorem dX3_writtenByteOf_87 : decode cX3_writtenByteOf 87 = .ok (.imul, 1) := by decide +kernel
theorem dX3_writtenByteOf_88 : decode cX3_writtenByteOf 88 = .ok (.iload 4, 2) := by decide +kernel
theorem dX3_writtenByteOf_90 : decode cX3_writtenByteOf 90 = .ok (.iadd, 1) := by decide +kernel
theorem dX3_writtenByteOf_91 : decode cX3_writtenByteOf 91 = .ok (.iaload, 1) := by decide +kernel
theorem dX3_writtenByteOf_92 : decode cX3_writtenByteOf 92 = .ok (.iadd, 1) := by decide +kernel
theorem dX3_writtenByteOf_93 : decode cX3_writtenByteOf 93 = .ok (.ireturn, 1) := by decide +kernel
theorem dX3_writtenByteOf_94 : decode cX3_writtenByteOf 94 = .ok (.aload_n 0, 1) := by decide +kernel
theorem dX3_writtenByteOf_95 : decode cX3_writtenByteOf 95 = .ok (.getfield 24, 3) := by decide +kernel
theorem dX3_writtenByteOf_98 : decode cX3_writtenByteOf 98 = .ok (.iload_n 1, 1) := by decide +kernel
theorem dX3_writtenByteOf_99 : decode cX3_writtenByteOf 99 = .ok (.iaload, 1) := by decide +kernel
theorem dX3_writtenByteOf_100 : decode cX3_writtenByteOf 100 = .ok (.invokestatic 98, 3) := by decide +kernel
theorem dX3_writtenByteOf_103 : decode cX3_writtenByteOf 103 = .ok (.ireturn, 1) := by decide +kernel
theorem dX4_init_0 : decode cX4_init 0 = .ok (.aload_n 0, 1) := by decide +kernel
theorem dX4_init_1 : decode cX4_init 1 = .ok (.invokespecial 3, 3) := by decide +kernel
theorem dX4_init_4 : decode cX4_init 4 = .ok (.aload_n 0, 1) := by decide +kernel
theorem dX4_init_5 : decode cX4_init 5 = .ok (.sipush 200, 3) := by decide +kernel
theorem dX4_init_8 : decode cX4_init 8 = .ok (.newarray .int, 2) := by decide +kernel
theorem dX4_init_10 : decode cX4_init 10 = .ok (.putfield 9, 3) := by decide +kernel
theorem dX4_init_13 : decode cX4_init 13 = .ok (.return_, 1) := by decide +kernel
theorem dX4_append_0 : decode cX4_append 0 = .ok (.aload_n 0, 1) := by decide +kernel
theorem dX4_append_1 : decode cX4_append 1 = .ok (.getfield 15, 3) := by decide +kernel
theorem dX4_append_4 : decode cX4_append 4 = .ok (.ifCond .lt 33, 3) := by decide +kernel
theorem dX4_append_7 : decode cX4_append 7 = .ok (.aload_n 0, 1) := by decide +kernel
theorem dX4_append_8 : decode cX4_append 8 = .ok (.getfield 15, 3) := by decide +kernel
theorem dX4_append_11 : decode cX4_append 11 = .ok (.sipush 200, 3) := by decide +kernel
theorem dX4_append_14 : decode cX4_append 14 = .ok (.if_icmp .ge 23, 3) := by decide +kernel
theorem dX4_append_17 : decode cX4_append 17 = .ok (.aload_n 0, 1) := by decide +kernel
theorem dX4_append_18 : decode cX4_append 18 = .ok (.getfield 9, 3) := by decide +kernel
theorem dX4_append_21 : decode cX4_append 21 = .ok (.aload_n 0, 1) := by decide +kernel
theorem dX4_append_22 : decode cX4_append 22 = .ok (.getfield 15, 3) := by decide +kernel
theorem dX4_append_25 : decode cX4_append 25 = .ok (.iload_n 1, 1) := by decide +kernel
theorem dX4_append_26 : decode cX4_append 26 = .ok (.iastore, 1) := by decide +kernel
theorem dX4_append_27 : decode cX4_append 27 = .ok (.aload_n 0, 1) := by decide +kernel
theorem dX4_append_28 : decode cX4_append 28 = .ok (.dup, 1) := by decide +kernel
theorem dX4_append_29 : decode cX4_append 29 = .ok (.getfield 15, 3) := by decide +kernel
theorem dX4_append_32 : decode cX4_append 32 = .ok (.iconst 1, 1) := by decide +kernel
theorem dX4_append_33 : decode cX4_append 33 = .ok (.iadd, 1) := by decide +kernel
theorem dX4_append_34 : decode cX4_append 34 = .ok (.putfield 15, 3) := by decide +kernel
theorem dX4_append_37 : decode cX4_append 37 = .ok (.return_, 1) := by decide +kernel
set_option maxRecDepth 20000 in
theorem ggX4_readInto_X4_accepts : GoodIn wsX4_readInto wsX4_accepts := goodIn_r _ [9, 2, 1, 10, 11, 12, 8, 13, 14, 15, 16, 17, 18, 19, 20, 21, 22, 23, 24, 25, 26, 27, 28, 29, 30, 31, 32, 33, 34, 35, 36, 37, 38, 39, 40, 41, 42, 43, 44, 45, 46, 47, 48, 49, 50, 51, 52, 53, 54, 55, 56, 57, 58, 59, 60, 61, 62, 63, 64, 65, 66, 67, 68, 69, 70, 80, 81, 82, 71, 72, 73, 74, 75, 76, 77, 78, 79] (by decide +kernel) (by decide +kernel)
set_option maxRecDepth 20000 in
theorem gX4_readInto_X4_accepts : GoodIn wsX4_readInto (wsV RX4 27 RX4 yX4_accepts wsX4_accepts) := goodIn_app (goodIn_of _ (by decide +kernel)) ggX4_readInto_X4_accepts
theorem dX4_readInto_0 : decode cX4_readInto 0 = .ok (.aload_n 1, 1) := by decide +kernel
theorem dX4_readInto_1 : decode cX4_readInto 1 = .ok (.iconst 0, 1) := by decide +kernel
theorem dX4_readInto_2 : decode cX4_readInto 2 = .ok (.putfield 19, 3) := by decide +kernel
theorem dX4_readInto_5 : decode cX4_readInto 5 = .ok (.aload_n 0, 1) := by decide +kernel
theorem dX4_readInto_6 : decode cX4_readInto 6 = .ok (.iconst 0, 1) := by decide +kernel
theorem dX4_readInto_7 : decode cX4_readInto 7 = .ok (.putfield 24, 3) := by decide +kernel
theorem dX4_readInto_10 : decode cX4_readInto 10 = .ok (.iconst 0, 1) := by decide +kernel
theorem dX4_readInto_11 : decode cX4_readInto 11 = .ok (.istore_n 2, 1) := by decide +kernel
theorem dX4_readInto_12 : decode cX4_readInto 12 = .ok (.iload_n 2, 1) := by decide +kernel
theorem dX4_readInto_13 : decode cX4_readInto 13 = .ok (.aload_n 0, 1) := by decide +kernel
theorem dX4_readInto_14 : decode cX4_readInto 14 = .ok (.getfield 15, 3) := by decide +kernel
theorem dX4_readInto_17 : decode cX4_readInto 17 = .ok (.if_icmp .ge 32, 3) := by decide +kernel
theorem dX4_readInto_20 : decode cX4_readInto 20 = .ok (.iload_n 2, 1) := by decide +kernel
theorem dX4_readInto_21 : decode cX4_readInto 21 = .ok (.sipush 200, 3) := by decide +kernel
theorem dX4_readInto_24 : decode cX4_readInto 24 = .ok (.if_icmp .ge 25, 3) := by decide +kernel
theorem dX4_readInto_27 : decode cX4_readInto 27 = .ok (.aload_n 0, 1) := by decide +kernel
theorem dX4_readInto_28 : decode cX4_readInto 28 = .ok (.aload_n 0, 1) := by decide +kernel
theorem dX4_readInto_29 : decode cX4_readInto 29 = .ok (.getfield 9, 3) := by decide +kernel
theorem dX4_readInto_32 : decode cX4_readInto 32 = .ok (.iload_n 2, 1) := by decide +kernel
theorem dX4_readInto_33 : decode cX4_readInto 33 = .ok (.iaload, 1) := by decide +kernel
theorem dX4_readInto_34 : decode cX4_readInto 34 = .ok (.aload_n 1, 1) := by decide +kernel
theorem dX4_readInto_35 : decode cX4_readInto 35 = .ok (.invokevirtual 27, 3) := by decide +kernel
theorem dX4_readInto_38 : decode cX4_readInto 38 = .ok (.ifCond .ne 5, 3) := by decide +kernel
theorem dX4_readInto_41 : decode cX4_readInto 41 = .ok (.iload_n 2, 1) := by decide +kernel
theorem dX4_readInto_42 : decode cX4_readInto 42 = .ok (.ireturn, 1) := by decide +kernel
theorem dX4_readInto_43 : decode cX4_readInto 43 = .ok (.iinc 2 1, 3) := by decide +kernel
theorem dX4_readInto_46 : decode cX4_readInto 46 = .ok (.goto (-34), 3) := by decide +kernel
theorem dX4_readInto_49 : decode cX4_readInto 49 = .ok (.aload_n 0, 1) := by decide +kernel
theorem dX4_readInto_50 : decode cX4_readInto 50 = .ok (.getfield 24, 3) := by decide +kernel
theorem dX4_readInto_53 : decode cX4_readInto 53 = .ok (.iconst 1, 1) := by decide +kernel
theorem dX4_readInto_54 : decode cX4_readInto 54 = .ok (.if_icmp .ne 10, 3) := by decide +kernel
theorem dX4_readInto_57 : decode cX4_readInto 57 = .ok (.aload_n 0, 1) := by decide +kernel
theorem dX4_readInto_58 : decode cX4_readInto 58 = .ok (.getfield 15, 3) := by decide +kernel
theorem dX4_readInto_61 : decode cX4_readInto 61 = .ok (.goto 4, 3) := by decide +kernel
theorem dX4_readInto_64 : decode cX4_readInto 64 = .ok (.iconst (-1), 1) := by decide +kernel
theorem dX4_readInto_65 : decode cX4_readInto 65 = .ok (.ireturn, 1) := by decide +kernel
set_option maxRecDepth 20000 in
theorem ggX4_accepts_X4_beginsWord : GoodIn wsX4_accepts wsX4_beginsWord := goodIn_r _ [7, 2, 1, 8, 9, 10, 11, 12, 13, 14, 15, 16, 17, 18, 19, 20, 21, 22, 23, 24, 25, 26, 27, 28, 29, 30, 31, 32, 33, 34, 35, 36, 37, 38, 39, 40, 41, 42, 43, 44, 45, 46, 68, 69, 70, 71, 72, 73, 74, 75, 76, 65, 66, 67] (by decide +kernel) (by decide +kernel)
set_option maxRecDepth 20000 in
theorem gX4_accepts_X4_beginsWord : GoodIn wsX4_accepts (wsV RX4 31 RX4 yX4_beginsWord wsX4_beginsWord) := goodIn_app (goodIn_of _ (by decide +kernel)) ggX4_accepts_X4_beginsWord
set_option maxRecDepth 20000 in
theorem ggX4_accepts_X3_addLetter : GoodIn wsX4_accepts wsX3_addLetter := goodIn_r _ [46, 14, 27, 15, 39, 40, 41, 11, 42, 13, 68, 69, 70, 71, 72, 73, 74, 75, 76] (by decide +kernel) (by decide +kernel)
set_option maxRecDepth 20000 in
theorem gX4_accepts_X3_addLetter : GoodIn wsX4_accepts (wsV RX4 34 RX3 yX3_addLetter wsX3_addLetter) := goodIn_app (goodIn_of _ (by decide +kernel)) ggX4_accepts_X3_addLetter
set_option maxRecDepth 20000 in
theorem ggX4_accepts_X4_hasSignBehind : GoodIn wsX4_accepts wsX4_hasSignBehind := goodIn_r _ [50, 2, 1, 51, 33, 52, 53, 54, 55, 11, 56, 16, 39, 40, 41, 42, 13, 35, 36, 37, 38, 17, 68, 69, 70, 71, 72, 73, 74, 75, 76, 65, 66, 67] (by decide +kernel) (by decide +kernel)
set_option maxRecDepth 20000 in
theorem gX4_accepts_X4_hasSignBehind : GoodIn wsX4_accepts (wsV RX4 38 RX4 yX4_hasSignBehind wsX4_hasSignBehind) := goodIn_app (goodIn_of _ (by decide +kernel)) ggX4_accepts_X4_hasSignBehind
set_option maxRecDepth 20000 in
theorem ggX4_accepts_X4_endsHere : GoodIn wsX4_accepts wsX4_endsHere := goodIn_r _ [60, 2, 1, 61, 62, 63, 11, 64, 18, 39, 40, 41, 42, 13, 68, 69, 70, 71, 72, 73, 74, 75, 76, 65, 66, 67] (by decide +kernel) (by decide +kernel)
set_option maxRecDepth 20000 in
theorem gX4_accepts_X4_endsHere : GoodIn wsX4_accepts (wsV RX4 41 RX4 yX4_endsHere wsX4_endsHere) := goodIn_app (goodIn_of _ (by decide +kernel)) ggX4_accepts_X4_endsHere
theorem dX4_accepts_0 : decode cX4_accepts 0 = .ok (.iload_n 1, 1) := by decide +kernel
theorem dX4_accepts_1 : decode cX4_accepts 1 = .ok (.bipush 32, 2) := by decide +kernel
theorem dX4_accepts_3 : decode cX4_accepts 3 = .ok (.if_icmp .ne 24, 3) := by decide +kernel
theorem dX4_accepts_6 : decode cX4_accepts 6 = .ok (.aload_n 0, 1) := by decide +kernel
theorem dX4_accepts_7 : decode cX4_accepts 7 = .ok (.getfield 24, 3) := by decide +kernel
theorem dX4_accepts_10 : decode cX4_accepts 10 = .ok (.iconst 1, 1) := by decide +kernel
theorem dX4_accepts_11 : decode cX4_accepts 11 = .ok (.if_icmp .eq 7, 3) := by decide +kernel
theorem dX4_accepts_14 : decode cX4_accepts 14 = .ok (.iconst 1, 1) := by decide +kernel
theorem dX4_accepts_15 : decode cX4_accepts 15 = .ok (.goto 4, 3) := by decide +kernel
theorem dX4_accepts_18 : decode cX4_accepts 18 = .ok (.iconst 0, 1) := by decide +kernel
theorem dX4_accepts_19 : decode cX4_accepts 19 = .ok (.istore_n 3, 1) := by decide +kernel
theorem dX4_accepts_20 : decode cX4_accepts 20 = .ok (.aload_n 0, 1) := by decide +kernel
theorem dX4_accepts_21 : decode cX4_accepts 21 = .ok (.iconst 0, 1) := by decide +kernel
theorem dX4_accepts_22 : decode cX4_accepts 22 = .ok (.putfield 24, 3) := by decide +kernel
theorem dX4_accepts_25 : decode cX4_accepts 25 = .ok (.iload_n 3, 1) := by decide +kernel
theorem dX4_accepts_26 : decode cX4_accepts 26 = .ok (.ireturn, 1) := by decide +kernel
theorem dX4_accepts_27 : decode cX4_accepts 27 = .ok (.aload_n 0, 1) := by decide +kernel
theorem dX4_accepts_28 : decode cX4_accepts 28 = .ok (.getfield 24, 3) := by decide +kernel
theorem dX4_accepts_31 : decode cX4_accepts 31 = .ok (.tableswitch 104 0 3 #[29, 36, 56, 97], 29) := by decide +kernel
theorem dX4_accepts_60 : decode cX4_accepts 60 = .ok (.aload_n 0, 1) := by decide +kernel
theorem dX4_accepts_61 : decode cX4_accepts 61 = .ok (.iload_n 1, 1) := by decide +kernel
theorem dX4_accepts_62 : decode cX4_accepts 62 = .ok (.aload_n 2, 1) := by decide +kernel
theorem dX4_accepts_63 : decode cX4_accepts 63 = .ok (.invokevirtual 31, 3) := by decide +kernel
theorem dX4_accepts_66 : decode cX4_accepts 66 = .ok (.ireturn, 1) := by decide +kernel
theorem dX4_accepts_67 : decode cX4_accepts 67 = .ok (.aload_n 0, 1) := by decide +kernel
theorem dX4_accepts_68 : decode cX4_accepts 68 = .ok (.iconst 2, 1) := by decide +kernel
theorem dX4_accepts_69 : decode cX4_accepts 69 = .ok (.putfield 24, 3) := by decide +kernel
theorem dX4_accepts_72 : decode cX4_accepts 72 = .ok (.aload_n 2, 1) := by decide +kernel
theorem dX4_accepts_73 : decode cX4_accepts 73 = .ok (.aload_n 2, 1) := by decide +kernel
theorem dX4_accepts_74 : decode cX4_accepts 74 = .ok (.getfield 19, 3) := by decide +kernel
theorem dX4_accepts_77 : decode cX4_accepts 77 = .ok (.iconst 1, 1) := by decide +kernel
theorem dX4_accepts_78 : decode cX4_accepts 78 = .ok (.isub, 1) := by decide +kernel
theorem dX4_accepts_79 : decode cX4_accepts 79 = .ok (.iload_n 1, 1) := by decide +kernel
theorem dX4_accepts_80 : decode cX4_accepts 80 = .ok (.bipush 97, 2) := by decide +kernel
theorem dX4_accepts_82 : decode cX4_accepts 82 = .ok (.isub, 1) := by decide +kernel
theorem dX4_accepts_83 : decode cX4_accepts 83 = .ok (.invokevirtual 34, 3) := by decide +kernel
theorem dX4_accepts_86 : decode cX4_accepts 86 = .ok (.ireturn, 1) := by decide +kernel
theorem dX4_accepts_87 : decode cX4_accepts 87 = .ok (.aload_n 2, 1) := by decide +kernel
theorem dX4_accepts_88 : decode cX4_accepts 88 = .ok (.aload_n 2, 1) := by decide +kernel
theorem dX4_accepts_89 : decode cX4_accepts 89 = .ok (.getfield 19, 3) := by decide +kernel
theorem dX4_accepts_92 : decode cX4_accepts 92 = .ok (.iconst 1, 1) := by decide +kernel
theorem dX4_accepts_93 : decode cX4_accepts 93 = .ok (.isub, 1) := by decide +kernel
theorem dX4_accepts_94 : decode cX4_accepts 94 = .ok (.iload_n 1, 1) := by decide +kernel
theorem dX4_accepts_95 : decode cX4_accepts 95 = .ok (.bipush 97, 2) := by decide +kernel
theorem dX4_accepts_97 : decode cX4_accepts 97 = .ok (.isub, 1) := by decide +kernel
theorem dX4_accepts_98 : decode cX4_accepts 98 = .ok (.invokevirtual 34, 3) := by decide +kernel
theorem dX4_accepts_101 : decode cX4_accepts 101 = .ok (.ifCond .ne 21, 3) := by decide +kernel
theorem dX4_accepts_104 : decode cX4_accepts 104 = .ok (.aload_n 0, 1) := by decide +kernel
theorem dX4_accepts_105 : decode cX4_accepts 105 = .ok (.iload_n 1, 1) := by decide +kernel
theorem dX4_accepts_106 : decode cX4_accepts 106 = .ok (.aload_n 2, 1) := by decide +kernel
theorem dX4_accepts_107 : decode cX4_accepts 107 = .ok (.invokevirtual 38, 3) := by decide +kernel
theorem dX4_accepts_110 : decode cX4_accepts 110 = .ok (.ifCond .ne 12, 3) := by decide +kernel
theorem dX4_accepts_113 : decode cX4_accepts 113 = .ok (.aload_n 0, 1) := by decide +kernel
theorem dX4_accepts_114 : decode cX4_accepts 114 = .ok (.iload_n 1, 1) := by decide +kernel
theorem dX4_accepts_115 : decode cX4_accepts 115 = .ok (.aload_n 2, 1) := by decide +kernel
theorem dX4_accepts_116 : decode cX4_accepts 116 = .ok (.invokevirtual 41, 3) := by decide +kernel
theorem dX4_accepts_119 : decode cX4_accepts 119 = .ok (.ifCond .eq 7, 3) := by decide +kernel
theorem dX4_accepts_122 : decode cX4_accepts 122 = .ok (.iconst 1, 1) := by decide +kernel
theorem dX4_accepts_123 : decode cX4_accepts 123 = .ok (.goto 4, 3) := by decide +kernel
theorem dX4_accepts_126 : decode cX4_accepts 126 = .ok (.iconst 0, 1) := by decide +kernel
theorem dX4_accepts_127 : decode cX4_accepts 127 = .ok (.ireturn, 1) := by decide +kernel
theorem dX4_accepts_128 : decode cX4_accepts 128 = .ok (.aload_n 0, 1) := by decide +kernel
theorem dX4_accepts_129 : decode cX4_accepts 129 = .ok (.iload_n 1, 1) := by decide +kernel
theorem dX4_accepts_130 : decode cX4_accepts 130 = .ok (.aload_n 2, 1) := by decide +kernel
theorem dX4_accepts_131 : decode cX4_accepts 131 = .ok (.invokevirtual 41, 3) := by decide +kernel
theorem dX4_accepts_134 : decode cX4_accepts 134 = .ok (.ireturn, 1) := by decide +kernel
theorem dX4_accepts_135 : decode cX4_accepts 135 = .ok (.iconst 0, 1) := by decide +kernel
theorem dX4_accepts_136 : decode cX4_accepts 136 = .ok (.ireturn, 1) := by decide +kernel
set_option maxRecDepth 20000 in
theorem ggX4_beginsWord_X3_open : GoodIn wsX4_beginsWord wsX3_open := goodIn_r _ [7, 8, 9, 10, 11, 12, 13, 14, 15, 16, 6, 17, 18, 19, 20, 21, 22, 23, 24, 25, 26, 42, 43, 44, 45, 46, 47, 48, 49, 50] (by decide +kernel) (by decide +kernel)
set_option maxRecDepth 20000 in
theorem gX4_beginsWord_X3_open : GoodIn wsX4_beginsWord (wsV RX4 44 RX3 yX3_open wsX3_open) := goodIn_app (goodIn_of _ (by decide +kernel)) ggX4_beginsWord_X3_open
set_option maxRecDepth 20000 in
theorem ggX4_beginsWord_X5_mayStandAhead : GoodIn wsX4_beginsWord wsX5_mayStandAhead := goodIn_r _ [29] (by decide +kernel) (by decide +kernel)
set_option maxRecDepth 20000 in
theorem gX4_beginsWord_X5_mayStandAhead_n48 : GoodIn wsX4_beginsWord (wsX5_mayStandAhead) := ggX4_beginsWord_X5_mayStandAhead
set_option maxRecDepth 20000 in
theorem ggX4_beginsWord_X3_putSigns : GoodIn wsX4_beginsWord wsX3_putSigns := goodIn_r _ [33, 11, 12, 34, 35, 36, 6, 37, 8, 42, 43, 44, 45, 46, 47, 48, 49, 50] (by decide +kernel) (by decide +kernel)
set_option maxRecDepth 20000 in
theorem gX4_beginsWord_X3_putSigns : GoodIn wsX4_beginsWord (wsV RX4 55 RX3 yX3_putSigns wsX3_putSigns) := goodIn_app (goodIn_of _ (by decide +kernel)) ggX4_beginsWord_X3_putSigns
set_option maxRecDepth 20000 in
theorem ggX4_beginsWord_X3_addLetter : GoodIn wsX4_beginsWord wsX3_addLetter := goodIn_r _ [41, 9, 22, 10, 34, 35, 36, 6, 37, 8, 42, 43, 44, 45, 46, 47, 48, 49, 50] (by decide +kernel) (by decide +kernel)
set_option maxRecDepth 20000 in
theorem gX4_beginsWord_X3_addLetter : GoodIn wsX4_beginsWord (wsV RX4 34 RX3 yX3_addLetter wsX3_addLetter) := goodIn_app (goodIn_of _ (by decide +kernel)) ggX4_beginsWord_X3_addLetter
theorem dX4_beginsWord_0 : decode cX4_beginsWord 0 = .ok (.aload_n 2, 1) := by decide +kernel
theorem dX4_beginsWord_1 : decode cX4_beginsWord 1 = .ok (.getfield 19, 3) := by decide +kernel
theorem dX4_beginsWord_4 : decode cX4_beginsWord 4 = .ok (.bipush 60, 2) := by decide +kernel
theorem dX4_beginsWord_6 : decode cX4_beginsWord 6 = .ok (.if_icmp .lt 5, 3) := by decide +kernel
theorem dX4_beginsWord_9 : decode cX4_beginsWord 9 = .ok (.iconst 0, 1) := by decide +kernel
theorem dX4_beginsWord_10 : decode cX4_beginsWord 10 = .ok (.ireturn, 1) := by decide +kernel
theorem dX4_beginsWord_11 : decode cX4_beginsWord 11 = .ok (.aload_n 2, 1) := by decide +kernel
theorem dX4_beginsWord_12 : decode cX4_beginsWord 12 = .ok (.getfield 19, 3) := by decide +kernel
theorem dX4_beginsWord_15 : decode cX4_beginsWord 15 = .ok (.istore_n 3, 1) := by decide +kernel
theorem dX4_beginsWord_16 : decode cX4_beginsWord 16 = .ok (.aload_n 2, 1) := by decide +kernel
theorem dX4_beginsWord_17 : decode cX4_beginsWord 17 = .ok (.iload_n 3, 1) := by decide +kernel
theorem dX4_beginsWord_18 : decode cX4_beginsWord 18 = .ok (.invokevirtual 44, 3) := by decide +kernel
theorem dX4_beginsWord_21 : decode cX4_beginsWord 21 = .ok (.iconst 0, 1) := by decide +kernel
theorem dX4_beginsWord_22 : decode cX4_beginsWord 22 = .ok (.istore 4, 2) := by decide +kernel
theorem dX4_beginsWord_24 : decode cX4_beginsWord 24 = .ok (.iload 4, 2) := by decide +kernel
theorem dX4_beginsWord_26 : decode cX4_beginsWord 26 = .ok (.bipush 8, 2) := by decide +kernel
theorem dX4_beginsWord_28 : decode cX4_beginsWord 28 = .ok (.if_icmp .ge 42, 3) := by decide +kernel
theorem dX4_beginsWord_31 : decode cX4_beginsWord 31 = .ok (.iload 4, 2) := by decide +kernel
theorem dX4_beginsWord_33 : decode cX4_beginsWord 33 = .ok (.invokestatic 48, 3) := by decide +kernel
theorem dX4_beginsWord_36 : decode cX4_beginsWord 36 = .ok (.ifCond .eq 28, 3) := by decide +kernel
theorem dX4_beginsWord_39 : decode cX4_beginsWord 39 = .ok (.iload_n 1, 1) := by decide +kernel
theorem dX4_beginsWord_40 : decode cX4_beginsWord 40 = .ok (.getstatic 52, 3) := by decide +kernel
theorem dX4_beginsWord_43 : decode cX4_beginsWord 43 = .ok (.iload 4, 2) := by decide +kernel
theorem dX4_beginsWord_45 : decode cX4_beginsWord 45 = .ok (.iaload, 1) := by decide +kernel
theorem dX4_beginsWord_46 : decode cX4_beginsWord 46 = .ok (.if_icmp .ne 18, 3) := by decide +kernel
theorem dX4_beginsWord_49 : decode cX4_beginsWord 49 = .ok (.aload_n 2, 1) := by decide +kernel
theorem dX4_beginsWord_50 : decode cX4_beginsWord 50 = .ok (.iload_n 3, 1) := by decide +kernel
theorem dX4_beginsWord_51 : decode cX4_beginsWord 51 = .ok (.iload 4, 2) := by decide +kernel
theorem dX4_beginsWord_53 : decode cX4_beginsWord 53 = .ok (.iconst (-1), 1) := by decide +kernel
theorem dX4_beginsWord_54 : decode cX4_beginsWord 54 = .ok (.invokevirtual 55, 3) := by decide +kernel
theorem dX4_beginsWord_57 : decode cX4_beginsWord 57 = .ok (.aload_n 0, 1) := by decide +kernel
theorem dX4_beginsWord_58 : decode cX4_beginsWord 58 = .ok (.iconst 1, 1) := by decide +kernel
theorem dX4_beginsWord_59 : decode cX4_beginsWord 59 = .ok (.putfield 24, 3) := by decide +kernel
theorem dX4_beginsWord_62 : decode cX4_beginsWord 62 = .ok (.iconst 1, 1) := by decide +kernel
theorem dX4_beginsWord_63 : decode cX4_beginsWord 63 = .ok (.ireturn, 1) := by decide +kernel
theorem dX4_beginsWord_64 : decode cX4_beginsWord 64 = .ok (.iinc 4 1, 3) := by decide +kernel
theorem dX4_beginsWord_67 : decode cX4_beginsWord 67 = .ok (.goto (-43), 3) := by decide +kernel
theorem dX4_beginsWord_70 : decode cX4_beginsWord 70 = .ok (.aload_n 0, 1) := by decide +kernel
theorem dX4_beginsWord_71 : decode cX4_beginsWord 71 = .ok (.iconst 2, 1) := by decide +kernel
theorem dX4_beginsWord_72 : decode cX4_beginsWord 72 = .ok (.putfield 24, 3) := by decide +kernel
theorem dX4_beginsWord_75 : decode cX4_beginsWord 75 = .ok (.aload_n 2, 1) := by decide +kernel
theorem dX4_beginsWord_76 : decode cX4_beginsWord 76 = .ok (.iload_n 3, 1) := by decide +kernel
theorem dX4_beginsWord_77 : decode cX4_beginsWord 77 = .ok (.iload_n 1, 1) := by decide +kernel
theorem dX4_beginsWord_78 : decode cX4_beginsWord 78 = .ok (.bipush 97, 2) := by decide +kernel
theorem dX4_beginsWord_80 : decode cX4_beginsWord 80 = .ok (.isub, 1) := by decide +kernel
theorem dX4_beginsWord_81 : decode cX4_beginsWord 81 = .ok (.invokevirtual 34, 3) := by decide +kernel
theorem dX4_beginsWord_84 : decode cX4_beginsWord 84 = .ok (.ireturn, 1) := by decide +kernel
set_option maxRecDepth 20000 in
theorem ggX4_hasSignBehind_X5_mayStandBehind : GoodIn wsX4_hasSignBehind wsX5_mayStandBehind := goodIn_r _ [5] (by decide +kernel) (by decide +kernel)
set_option maxRecDepth 20000 in
theorem gX4_hasSignBehind_X5_mayStandBehind_n59 : GoodIn wsX4_hasSignBehind (wsX5_mayStandBehind) := ggX4_hasSignBehind_X5_mayStandBehind
set_option maxRecDepth 20000 in
theorem ggX4_hasSignBehind_X3_aheadOf : GoodIn wsX4_hasSignBehind wsX3_aheadOf := goodIn_r _ [10, 11, 12, 13, 14, 9, 15, 16, 22, 23, 24, 25, 26, 27, 28, 29, 30] (by decide +kernel) (by decide +kernel)
set_option maxRecDepth 20000 in
theorem gX4_hasSignBehind_X3_aheadOf : GoodIn wsX4_hasSignBehind (wsV RX4 62 RX3 yX3_aheadOf wsX3_aheadOf) := goodIn_app (goodIn_of _ (by decide +kernel)) ggX4_hasSignBehind_X3_aheadOf
set_option maxRecDepth 20000 in
theorem ggX4_hasSignBehind_X3_putSigns : GoodIn wsX4_hasSignBehind wsX3_putSigns := goodIn_r _ [20, 11, 21, 12, 13, 14, 9, 15, 16, 22, 23, 24, 25, 26, 27, 28, 29, 30] (by decide +kernel) (by decide +kernel)
set_option maxRecDepth 20000 in
theorem gX4_hasSignBehind_X3_putSigns : GoodIn wsX4_hasSignBehind (wsV RX4 55 RX3 yX3_putSigns wsX3_putSigns) := goodIn_app (goodIn_of _ (by decide +kernel)) ggX4_hasSignBehind_X3_putSigns
theorem dX4_hasSignBehind_0 : decode cX4_hasSignBehind 0 = .ok (.aload_n 2, 1) := by decide +kernel
theorem dX4_hasSignBehind_1 : decode cX4_hasSignBehind 1 = .ok (.getfield 19, 3) := by decide +kernel
theorem dX4_hasSignBehind_4 : decode cX4_hasSignBehind 4 = .ok (.iconst 1, 1) := by decide +kernel
theorem dX4_hasSignBehind_5 : decode cX4_hasSignBehind 5 = .ok (.isub, 1) := by decide +kernel
theorem dX4_hasSignBehind_6 : decode cX4_hasSignBehind 6 = .ok (.istore_n 3, 1) := by decide +kernel
theorem dX4_hasSignBehind_7 : decode cX4_hasSignBehind 7 = .ok (.iconst 0, 1) := by decide +kernel
theorem dX4_hasSignBehind_8 : decode cX4_hasSignBehind 8 = .ok (.istore 4, 2) := by decide +kernel
theorem dX4_hasSignBehind_10 : decode cX4_hasSignBehind 10 = .ok (.iload 4, 2) := by decide +kernel
theorem dX4_hasSignBehind_12 : decode cX4_hasSignBehind 12 = .ok (.bipush 8, 2) := by decide +kernel
theorem dX4_hasSignBehind_14 : decode cX4_hasSignBehind 14 = .ok (.if_icmp .ge 46, 3) := by decide +kernel
theorem dX4_hasSignBehind_17 : decode cX4_hasSignBehind 17 = .ok (.iload 4, 2) := by decide +kernel
theorem dX4_hasSignBehind_19 : decode cX4_hasSignBehind 19 = .ok (.invokestatic 59, 3) := by decide +kernel
theorem dX4_hasSignBehind_22 : decode cX4_hasSignBehind 22 = .ok (.ifCond .eq 32, 3) := by decide +kernel
theorem dX4_hasSignBehind_25 : decode cX4_hasSignBehind 25 = .ok (.iload_n 1, 1) := by decide +kernel
theorem dX4_hasSignBehind_26 : decode cX4_hasSignBehind 26 = .ok (.getstatic 52, 3) := by decide +kernel
theorem dX4_hasSignBehind_29 : decode cX4_hasSignBehind 29 = .ok (.iload 4, 2) := by decide +kernel
theorem dX4_hasSignBehind_31 : decode cX4_hasSignBehind 31 = .ok (.iaload, 1) := by decide +kernel
theorem dX4_hasSignBehind_32 : decode cX4_hasSignBehind 32 = .ok (.if_icmp .ne 22, 3) := by decide +kernel
theorem dX4_hasSignBehind_35 : decode cX4_hasSignBehind 35 = .ok (.aload_n 2, 1) := by decide +kernel
theorem dX4_hasSignBehind_36 : decode cX4_hasSignBehind 36 = .ok (.iload_n 3, 1) := by decide +kernel
theorem dX4_hasSignBehind_37 : decode cX4_hasSignBehind 37 = .ok (.aload_n 2, 1) := by decide +kernel
theorem dX4_hasSignBehind_38 : decode cX4_hasSignBehind 38 = .ok (.iload_n 3, 1) := by decide +kernel
theorem dX4_hasSignBehind_39 : decode cX4_hasSignBehind 39 = .ok (.invokevirtual 62, 3) := by decide +kernel
theorem dX4_hasSignBehind_42 : decode cX4_hasSignBehind 42 = .ok (.iload 4, 2) := by decide +kernel
theorem dX4_hasSignBehind_44 : decode cX4_hasSignBehind 44 = .ok (.invokevirtual 55, 3) := by decide +kernel
theorem dX4_hasSignBehind_47 : decode cX4_hasSignBehind 47 = .ok (.aload_n 0, 1) := by decide +kernel
theorem dX4_hasSignBehind_48 : decode cX4_hasSignBehind 48 = .ok (.iconst 3, 1) := by decide +kernel
theorem dX4_hasSignBehind_49 : decode cX4_hasSignBehind 49 = .ok (.putfield 24, 3) := by decide +kernel
theorem dX4_hasSignBehind_52 : decode cX4_hasSignBehind 52 = .ok (.iconst 1, 1) := by decide +kernel
theorem dX4_hasSignBehind_53 : decode cX4_hasSignBehind 53 = .ok (.ireturn, 1) := by decide +kernel
theorem dX4_hasSignBehind_54 : decode cX4_hasSignBehind 54 = .ok (.iinc 4 1, 3) := by decide +kernel
theorem dX4_hasSignBehind_57 : decode cX4_hasSignBehind 57 = .ok (.goto (-47), 3) := by decide +kernel
theorem dX4_hasSignBehind_60 : decode cX4_hasSignBehind 60 = .ok (.iconst 0, 1) := by decide +kernel
theorem dX4_hasSignBehind_61 : decode cX4_hasSignBehind 61 = .ok (.ireturn, 1) := by decide +kernel
set_option maxRecDepth 20000 in
theorem ggX4_endsHere_X3_putEnd : GoodIn wsX4_endsHere wsX3_putEnd := goodIn_r _ [7, 8, 9, 10, 11, 6, 12, 13, 14, 15, 16, 17, 18, 19, 20, 21, 22] (by decide +kernel) (by decide +kernel)
set_option maxRecDepth 20000 in
theorem gX4_endsHere_X3_putEnd : GoodIn wsX4_endsHere (wsV RX4 66 RX3 yX3_putEnd wsX3_putEnd) := goodIn_app (goodIn_of _ (by decide +kernel)) ggX4_endsHere_X3_putEnd
theorem dX4_endsHere_0 : decode cX4_endsHere 0 = .ok (.iload_n 1, 1) := by decide +kernel
theorem dX4_endsHere_1 : decode cX4_endsHere 1 = .ok (.bipush 47, 2) := by decide +kernel
theorem dX4_endsHere_3 : decode cX4_endsHere 3 = .ok (.if_icmp .eq 5, 3) := by decide +kernel
theorem dX4_endsHere_6 : decode cX4_endsHere 6 = .ok (.iconst 0, 1) := by decide +kernel
theorem dX4_endsHere_7 : decode cX4_endsHere 7 = .ok (.ireturn, 1) := by decide +kernel
theorem dX4_endsHere_8 : decode cX4_endsHere 8 = .ok (.aload_n 2, 1) := by decide +kernel
theorem dX4_endsHere_9 : decode cX4_endsHere 9 = .ok (.aload_n 2, 1) := by decide +kernel
theorem dX4_endsHere_10 : decode cX4_endsHere 10 = .ok (.getfield 19, 3) := by decide +kernel
theorem dX4_endsHere_13 : decode cX4_endsHere 13 = .ok (.iconst 1, 1) := by decide +kernel
theorem dX4_endsHere_14 : decode cX4_endsHere 14 = .ok (.isub, 1) := by decide +kernel
theorem dX4_endsHere_15 : decode cX4_endsHere 15 = .ok (.iconst 1, 1) := by decide +kernel
theorem dX4_endsHere_16 : decode cX4_endsHere 16 = .ok (.invokevirtual 66, 3) := by decide +kernel
theorem dX4_endsHere_19 : decode cX4_endsHere 19 = .ok (.aload_n 0, 1) := by decide +kernel
theorem dX4_endsHere_20 : decode cX4_endsHere 20 = .ok (.iconst 4, 1) := by decide +kernel
theorem dX4_endsHere_21 : decode cX4_endsHere 21 = .ok (.putfield 24, 3) := by decide +kernel
theorem dX4_endsHere_24 : decode cX4_endsHere 24 = .ok (.iconst 1, 1) := by decide +kernel
theorem dX4_endsHere_25 : decode cX4_endsHere 25 = .ok (.ireturn, 1) := by decide +kernel
