set_option maxRecDepth 20000 in
theorem gX6_type_X6_fails : GoodIn wsX6_type (wsV RX6 101 RX6 yX6_fails wsX6_fails) := goodIn_app (goodIn_of _ (by decide +kernel)) ggX6_type_X6_fails
set_option maxRecDepth 20000 in
theorem ggX6_type_X6_tells : GoodIn wsX6_type wsX6_tells := goodIn_r _ [15, 11, 16, 17, 18, 19, 20, 21, 22, 23, 24, 25, 26, 27, 28, 29, 30, 31] (by decide +kernel) (by decide +kernel)
set_option maxRecDepth 20000 in
theorem gX6_type_X6_tells : GoodIn wsX6_type (wsV RX6 39 RX6 yX6_tells wsX6_tells) := goodIn_app (goodIn_of _ (by decide +kernel)) ggX6_type_X6_tells
theorem dX6_type_0 : decode cX6_type 0 = .ok (.iload_n 1, 1) := by decide +kernel
theorem dX6_type_1 : decode cX6_type 1 = .ok (.iconst 0, 1) := by decide +kernel
theorem dX6_type_2 : decode cX6_type 2 = .ok (.bipush 127, 2) := by decide +kernel
theorem dX6_type_4 : decode cX6_type 4 = .ok (.invokestatic 28, 3) := by decide +kernel
theorem dX6_type_7 : decode cX6_type 7 = .ok (.ifCond .ne 9, 3) := by decide +kernel
theorem dX6_type_10 : decode cX6_type 10 = .ok (.aload_n 0, 1) := by decide +kernel
theorem dX6_type_11 : decode cX6_type 11 = .ok (.iconst 1, 1) := by decide +kernel
theorem dX6_type_12 : decode cX6_type 12 = .ok (.invokevirtual 101, 3) := by decide +kernel
theorem dX6_type_15 : decode cX6_type 15 = .ok (.ireturn, 1) := by decide +kernel
theorem dX6_type_16 : decode cX6_type 16 = .ok (.aload_n 0, 1) := by decide +kernel
theorem dX6_type_17 : decode cX6_type 17 = .ok (.getfield 149, 3) := by decide +kernel
theorem dX6_type_20 : decode cX6_type 20 = .ok (.sipush 200, 3) := by decide +kernel
theorem dX6_type_23 : decode cX6_type 23 = .ok (.if_icmp .ne 9, 3) := by decide +kernel
theorem dX6_type_26 : decode cX6_type 26 = .ok (.aload_n 0, 1) := by decide +kernel
theorem dX6_type_27 : decode cX6_type 27 = .ok (.iconst 2, 1) := by decide +kernel
theorem dX6_type_28 : decode cX6_type 28 = .ok (.invokevirtual 101, 3) := by decide +kernel
theorem dX6_type_31 : decode cX6_type 31 = .ok (.ireturn, 1) := by decide +kernel
theorem dX6_type_32 : decode cX6_type 32 = .ok (.aload_n 0, 1) := by decide +kernel
theorem dX6_type_33 : decode cX6_type 33 = .ok (.getfield 19, 3) := by decide +kernel
theorem dX6_type_36 : decode cX6_type 36 = .ok (.aload_n 0, 1) := by decide +kernel
theorem dX6_type_37 : decode cX6_type 37 = .ok (.getfield 149, 3) := by decide +kernel
theorem dX6_type_40 : decode cX6_type 40 = .ok (.iload_n 1, 1) := by decide +kernel
theorem dX6_type_41 : decode cX6_type 41 = .ok (.iastore, 1) := by decide +kernel
theorem dX6_type_42 : decode cX6_type 42 = .ok (.aload_n 0, 1) := by decide +kernel
theorem dX6_type_43 : decode cX6_type 43 = .ok (.dup, 1) := by decide +kernel
theorem dX6_type_44 : decode cX6_type 44 = .ok (.getfield 149, 3) := by decide +kernel
theorem dX6_type_47 : decode cX6_type 47 = .ok (.iconst 1, 1) := by decide +kernel
theorem dX6_type_48 : decode cX6_type 48 = .ok (.iadd, 1) := by decide +kernel
theorem dX6_type_49 : decode cX6_type 49 = .ok (.putfield 149, 3) := by decide +kernel
theorem dX6_type_52 : decode cX6_type 52 = .ok (.aload_n 0, 1) := by decide +kernel
theorem dX6_type_53 : decode cX6_type 53 = .ok (.aload_n 0, 1) := by decide +kernel
theorem dX6_type_54 : decode cX6_type 54 = .ok (.getfield 149, 3) := by decide +kernel
theorem dX6_type_57 : decode cX6_type 57 = .ok (.invokevirtual 39, 3) := by decide +kernel
theorem dX6_type_60 : decode cX6_type 60 = .ok (.ireturn, 1) := by decide +kernel
set_option maxRecDepth 20000 in
theorem ggX6_clearText_X6_tells : GoodIn wsX6_clearText wsX6_tells := goodIn_r _ [6, 7, 8, 9, 10, 11, 12, 13, 14, 15, 16, 17, 18, 19, 20, 21, 22, 23] (by decide +kernel) (by decide +kernel)
set_option maxRecDepth 20000 in
theorem gX6_clearText_X6_tells : GoodIn wsX6_clearText (wsV RX6 39 RX6 yX6_tells wsX6_tells) := goodIn_app (goodIn_of _ (by decide +kernel)) ggX6_clearText_X6_tells
theorem dX6_clearText_0 : decode cX6_clearText 0 = .ok (.aload_n 0, 1) := by decide +kernel
theorem dX6_clearText_1 : decode cX6_clearText 1 = .ok (.getfield 149, 3) := by decide +kernel
theorem dX6_clearText_4 : decode cX6_clearText 4 = .ok (.istore_n 1, 1) := by decide +kernel
theorem dX6_clearText_5 : decode cX6_clearText 5 = .ok (.aload_n 0, 1) := by decide +kernel
theorem dX6_clearText_6 : decode cX6_clearText 6 = .ok (.iconst 0, 1) := by decide +kernel
theorem dX6_clearText_7 : decode cX6_clearText 7 = .ok (.putfield 149, 3) := by decide +kernel
theorem dX6_clearText_10 : decode cX6_clearText 10 = .ok (.aload_n 0, 1) := by decide +kernel
theorem dX6_clearText_11 : decode cX6_clearText 11 = .ok (.iload_n 1, 1) := by decide +kernel
theorem dX6_clearText_12 : decode cX6_clearText 12 = .ok (.invokevirtual 39, 3) := by decide +kernel
theorem dX6_clearText_15 : decode cX6_clearText 15 = .ok (.ireturn, 1) := by decide +kernel
theorem dX6_byteOf_0 : decode cX6_byteOf 0 = .ok (.iload_n 0, 1) := by decide +kernel
theorem dX6_byteOf_1 : decode cX6_byteOf 1 = .ok (.tableswitch 64 0 6 #[43, 46, 49, 52, 55, 58, 61], 43) := by decide +kernel
theorem dX6_byteOf_44 : decode cX6_byteOf 44 = .ok (.bipush 34, 2) := by decide +kernel
theorem dX6_byteOf_46 : decode cX6_byteOf 46 = .ok (.ireturn, 1) := by decide +kernel
theorem dX6_byteOf_47 : decode cX6_byteOf 47 = .ok (.bipush 40, 2) := by decide +kernel
theorem dX6_byteOf_49 : decode cX6_byteOf 49 = .ok (.ireturn, 1) := by decide +kernel
theorem dX6_byteOf_50 : decode cX6_byteOf 50 = .ok (.bipush 41, 2) := by decide +kernel
theorem dX6_byteOf_52 : decode cX6_byteOf 52 = .ok (.ireturn, 1) := by decide +kernel
theorem dX6_byteOf_53 : decode cX6_byteOf 53 = .ok (.bipush 46, 2) := by decide +kernel
theorem dX6_byteOf_55 : decode cX6_byteOf 55 = .ok (.ireturn, 1) := by decide +kernel
theorem dX6_byteOf_56 : decode cX6_byteOf 56 = .ok (.bipush 44, 2) := by decide +kernel
theorem dX6_byteOf_58 : decode cX6_byteOf 58 = .ok (.ireturn, 1) := by decide +kernel
theorem dX6_byteOf_59 : decode cX6_byteOf 59 = .ok (.bipush 45, 2) := by decide +kernel
theorem dX6_byteOf_61 : decode cX6_byteOf 61 = .ok (.ireturn, 1) := by decide +kernel
theorem dX6_byteOf_62 : decode cX6_byteOf 62 = .ok (.bipush 59, 2) := by decide +kernel
theorem dX6_byteOf_64 : decode cX6_byteOf 64 = .ok (.ireturn, 1) := by decide +kernel
theorem dX6_byteOf_65 : decode cX6_byteOf 65 = .ok (.bipush 33, 2) := by decide +kernel
theorem dX6_byteOf_67 : decode cX6_byteOf 67 = .ok (.ireturn, 1) := by decide +kernel
set_option maxRecDepth 20000 in
theorem ggX6_passSign_X6_byteOf : GoodIn wsX6_passSign wsX6_byteOf := goodIn_r _ [7] (by decide +kernel) (by decide +kernel)
set_option maxRecDepth 20000 in
theorem gX6_passSign_X6_byteOf : GoodIn wsX6_passSign (va_wsS RX6 161 yX6_byteOf wsX6_byteOf) := goodIn_app (goodIn_of _ (by decide +kernel)) ggX6_passSign_X6_byteOf
theorem dX6_passSign_0 : decode cX6_passSign 0 = .ok (.iconst 0, 1) := by decide +kernel
theorem dX6_passSign_1 : decode cX6_passSign 1 = .ok (.istore_n 2, 1) := by decide +kernel
theorem dX6_passSign_2 : decode cX6_passSign 2 = .ok (.iload_n 2, 1) := by decide +kernel
theorem dX6_passSign_3 : decode cX6_passSign 3 = .ok (.bipush 8, 2) := by decide +kernel
theorem dX6_passSign_5 : decode cX6_passSign 5 = .ok (.if_icmp .ge 80, 3) := by decide +kernel
theorem dX6_passSign_8 : decode cX6_passSign 8 = .ok (.aload_n 0, 1) := by decide +kernel
theorem dX6_passSign_9 : decode cX6_passSign 9 = .ok (.getfield 158, 3) := by decide +kernel
theorem dX6_passSign_12 : decode cX6_passSign 12 = .ok (.aload_n 0, 1) := by decide +kernel
theorem dX6_passSign_13 : decode cX6_passSign 13 = .ok (.getfield 149, 3) := by decide +kernel
theorem dX6_passSign_16 : decode cX6_passSign 16 = .ok (.if_icmp .ge 69, 3) := by decide +kernel
theorem dX6_passSign_19 : decode cX6_passSign 19 = .ok (.iload_n 1, 1) := by decide +kernel
theorem dX6_passSign_20 : decode cX6_passSign 20 = .ok (.ifCond .eq 16, 3) := by decide +kernel
theorem dX6_passSign_23 : decode cX6_passSign 23 = .ok (.iload_n 2, 1) := by decide +kernel
theorem dX6_passSign_24 : decode cX6_passSign 24 = .ok (.iconst 2, 1) := by decide +kernel
theorem dX6_passSign_25 : decode cX6_passSign 25 = .ok (.if_icmp .ge 7, 3) := by decide +kernel
theorem dX6_passSign_28 : decode cX6_passSign 28 = .ok (.iconst 1, 1) := by decide +kernel
theorem dX6_passSign_29 : decode cX6_passSign 29 = .ok (.goto 17, 3) := by decide +kernel
theorem dX6_passSign_32 : decode cX6_passSign 32 = .ok (.iconst 0, 1) := by decide +kernel
theorem dX6_passSign_33 : decode cX6_passSign 33 = .ok (.goto 13, 3) := by decide +kernel
theorem dX6_passSign_36 : decode cX6_passSign 36 = .ok (.iload_n 2, 1) := by decide +kernel
theorem dX6_passSign_37 : decode cX6_passSign 37 = .ok (.iconst 1, 1) := by decide +kernel
theorem dX6_passSign_38 : decode cX6_passSign 38 = .ok (.if_icmp .eq 7, 3) := by decide +kernel
theorem dX6_passSign_41 : decode cX6_passSign 41 = .ok (.iconst 1, 1) := by decide +kernel
theorem dX6_passSign_42 : decode cX6_passSign 42 = .ok (.goto 4, 3) := by decide +kernel
theorem dX6_passSign_45 : decode cX6_passSign 45 = .ok (.iconst 0, 1) := by decide +kernel
theorem dX6_passSign_46 : decode cX6_passSign 46 = .ok (.istore_n 3, 1) := by decide +kernel
theorem dX6_passSign_47 : decode cX6_passSign 47 = .ok (.iload_n 3, 1) := by decide +kernel
theorem dX6_passSign_48 : decode cX6_passSign 48 = .ok (.ifCond .eq 31, 3) := by decide +kernel
theorem dX6_passSign_51 : decode cX6_passSign 51 = .ok (.aload_n 0, 1) := by decide +kernel
theorem dX6_passSign_52 : decode cX6_passSign 52 = .ok (.getfield 19, 3) := by decide +kernel
theorem dX6_passSign_55 : decode cX6_passSign 55 = .ok (.aload_n 0, 1) := by decide +kernel
theorem dX6_passSign_56 : decode cX6_passSign 56 = .ok (.getfield 158, 3) := by decide +kernel
theorem dX6_passSign_59 : decode cX6_passSign 59 = .ok (.iaload, 1) := by decide +kernel
theorem dX6_passSign_60 : decode cX6_passSign 60 = .ok (.iload_n 2, 1) := by decide +kernel
theorem dX6_passSign_61 : decode cX6_passSign 61 = .ok (.invokestatic 161, 3) := by decide +kernel
theorem dX6_passSign_64 : decode cX6_passSign 64 = .ok (.if_icmp .ne 15, 3) := by decide +kernel
theorem dX6_passSign_67 : decode cX6_passSign 67 = .ok (.aload_n 0, 1) := by decide +kernel
theorem dX6_passSign_68 : decode cX6_passSign 68 = .ok (.dup, 1) := by decide +kernel
theorem dX6_passSign_69 : decode cX6_passSign 69 = .ok (.getfield 158, 3) := by decide +kernel
theorem dX6_passSign_72 : decode cX6_passSign 72 = .ok (.iconst 1, 1) := by decide +kernel
theorem dX6_passSign_73 : decode cX6_passSign 73 = .ok (.iadd, 1) := by decide +kernel
theorem dX6_passSign_74 : decode cX6_passSign 74 = .ok (.putfield 158, 3) := by decide +kernel
theorem dX6_passSign_77 : decode cX6_passSign 77 = .ok (.iload_n 2, 1) := by decide +kernel
theorem dX6_passSign_78 : decode cX6_passSign 78 = .ok (.ireturn, 1) := by decide +kernel
theorem dX6_passSign_79 : decode cX6_passSign 79 = .ok (.iinc 2 1, 3) := by decide +kernel
theorem dX6_passSign_82 : decode cX6_passSign 82 = .ok (.goto (-80), 3) := by decide +kernel
theorem dX6_passSign_85 : decode cX6_passSign 85 = .ok (.iconst (-1), 1) := by decide +kernel
theorem dX6_passSign_86 : decode cX6_passSign 86 = .ok (.ireturn, 1) := by decide +kernel
set_option maxRecDepth 20000 in
theorem ggX6_readsWord_X6_opens : GoodIn wsX6_readsWord wsX6_opens := goodIn_r _ [9, 1, 10, 11, 12, 8, 13, 24, 25, 26, 27, 28, 29, 30, 31, 32, 33, 34, 35, 36, 37, 38, 39] (by decide +kernel) (by decide +kernel)
set_option maxRecDepth 20000 in
theorem gX6_readsWord_X6_opens : GoodIn wsX6_readsWord (wsV RX6 111 RX6 yX6_opens wsX6_opens) := goodIn_app (goodIn_of _ (by decide +kernel)) ggX6_readsWord_X6_opens
set_option maxRecDepth 20000 in
theorem ggX6_readsWord_X6_passSign : GoodIn wsX6_readsWord wsX6_passSign := goodIn_r _ [17, 2, 3, 4, 18, 19, 8, 20, 24, 25, 26, 27, 28, 29, 30, 31, 32, 33, 34, 35, 36, 37, 38, 39] (by decide +kernel) (by decide +kernel)
set_option maxRecDepth 20000 in
theorem gX6_readsWord_X6_passSign : GoodIn wsX6_readsWord (wsV RX6 164 RX6 yX6_passSign wsX6_passSign) := goodIn_app (goodIn_of _ (by decide +kernel)) ggX6_readsWord_X6_passSign
set_option maxRecDepth 20000 in
theorem ggX6_readsWord_X6_puts : GoodIn wsX6_readsWord wsX6_puts := goodIn_r _ [13, 1, 24, 25, 26, 27, 28, 29, 30, 31, 32, 33, 34, 35, 36, 37, 38, 39] (by decide +kernel) (by decide +kernel)
set_option maxRecDepth 20000 in
theorem gX6_readsWord_X6_puts : GoodIn wsX6_readsWord (wsV RX6 98 RX6 yX6_puts wsX6_puts) := goodIn_app (goodIn_of _ (by decide +kernel)) ggX6_readsWord_X6_puts
set_option maxRecDepth 20000 in
theorem ggX6_readsWord_X6_in : GoodIn wsX6_readsWord wsX6_in := goodIn_r _ [23] (by decide +kernel) (by decide +kernel)
set_option maxRecDepth 20000 in
theorem gX6_readsWord_X6_in : GoodIn wsX6_readsWord (va_wsS RX6 28 yX6_in wsX6_in) := goodIn_app (goodIn_of _ (by decide +kernel)) ggX6_readsWord_X6_in
theorem dX6_readsWord_0 : decode cX6_readsWord 0 = .ok (.aload_n 0, 1) := by decide +kernel
theorem dX6_readsWord_1 : decode cX6_readsWord 1 = .ok (.getfield 7, 3) := by decide +kernel
theorem dX6_readsWord_4 : decode cX6_readsWord 4 = .ok (.bipush 14, 2) := by decide +kernel
theorem dX6_readsWord_6 : decode cX6_readsWord 6 = .ok (.iaload, 1) := by decide +kernel
theorem dX6_readsWord_7 : decode cX6_readsWord 7 = .ok (.bipush 60, 2) := by decide +kernel
theorem dX6_readsWord_9 : decode cX6_readsWord 9 = .ok (.if_icmp .ne 5, 3) := by decide +kernel
theorem dX6_readsWord_12 : decode cX6_readsWord 12 = .ok (.iconst 0, 1) := by decide +kernel
theorem dX6_readsWord_13 : decode cX6_readsWord 13 = .ok (.ireturn, 1) := by decide +kernel
theorem dX6_readsWord_14 : decode cX6_readsWord 14 = .ok (.aload_n 0, 1) := by decide +kernel
theorem dX6_readsWord_15 : decode cX6_readsWord 15 = .ok (.getfield 7, 3) := by decide +kernel
theorem dX6_readsWord_18 : decode cX6_readsWord 18 = .ok (.bipush 14, 2) := by decide +kernel
theorem dX6_readsWord_20 : decode cX6_readsWord 20 = .ok (.iaload, 1) := by decide +kernel
theorem dX6_readsWord_21 : decode cX6_readsWord 21 = .ok (.istore_n 1, 1) := by decide +kernel
theorem dX6_readsWord_22 : decode cX6_readsWord 22 = .ok (.aload_n 0, 1) := by decide +kernel
theorem dX6_readsWord_23 : decode cX6_readsWord 23 = .ok (.iload_n 1, 1) := by decide +kernel
theorem dX6_readsWord_24 : decode cX6_readsWord 24 = .ok (.invokevirtual 111, 3) := by decide +kernel
theorem dX6_readsWord_27 : decode cX6_readsWord 27 = .ok (.aload_n 0, 1) := by decide +kernel
theorem dX6_readsWord_28 : decode cX6_readsWord 28 = .ok (.iload_n 1, 1) := by decide +kernel
theorem dX6_readsWord_29 : decode cX6_readsWord 29 = .ok (.bipush 13, 2) := by decide +kernel
theorem dX6_readsWord_31 : decode cX6_readsWord 31 = .ok (.aload_n 0, 1) := by decide +kernel
theorem dX6_readsWord_32 : decode cX6_readsWord 32 = .ok (.iconst 1, 1) := by decide +kernel
theorem dX6_readsWord_33 : decode cX6_readsWord 33 = .ok (.invokevirtual 164, 3) := by decide +kernel
theorem dX6_readsWord_36 : decode cX6_readsWord 36 = .ok (.invokevirtual 98, 3) := by decide +kernel
theorem dX6_readsWord_39 : decode cX6_readsWord 39 = .ok (.iconst 0, 1) := by decide +kernel
theorem dX6_readsWord_40 : decode cX6_readsWord 40 = .ok (.istore_n 2, 1) := by decide +kernel
theorem dX6_readsWord_41 : decode cX6_readsWord 41 = .ok (.aload_n 0, 1) := by decide +kernel
theorem dX6_readsWord_42 : decode cX6_readsWord 42 = .ok (.getfield 158, 3) := by decide +kernel
theorem dX6_readsWord_45 : decode cX6_readsWord 45 = .ok (.aload_n 0, 1) := by decide +kernel
theorem dX6_readsWord_46 : decode cX6_readsWord 46 = .ok (.getfield 149, 3) := by decide +kernel
theorem dX6_readsWord_49 : decode cX6_readsWord 49 = .ok (.if_icmp .ge 64, 3) := by decide +kernel
theorem dX6_readsWord_52 : decode cX6_readsWord 52 = .ok (.aload_n 0, 1) := by decide +kernel
theorem dX6_readsWord_53 : decode cX6_readsWord 53 = .ok (.getfield 19, 3) := by decide +kernel
theorem dX6_readsWord_56 : decode cX6_readsWord 56 = .ok (.aload_n 0, 1) := by decide +kernel
theorem dX6_readsWord_57 : decode cX6_readsWord 57 = .ok (.getfield 158, 3) := by decide +kernel
theorem dX6_readsWord_60 : decode cX6_readsWord 60 = .ok (.iaload, 1) := by decide +kernel
theorem dX6_readsWord_61 : decode cX6_readsWord 61 = .ok (.bipush 97, 2) := by decide +kernel
theorem dX6_readsWord_63 : decode cX6_readsWord 63 = .ok (.bipush 122, 2) := by decide +kernel
theorem dX6_readsWord_65 : decode cX6_readsWord 65 = .ok (.invokestatic 28, 3) := by decide +kernel
theorem dX6_readsWord_68 : decode cX6_readsWord 68 = .ok (.ifCond .eq 45, 3) := by decide +kernel
theorem dX6_readsWord_71 : decode cX6_readsWord 71 = .ok (.iload_n 2, 1) := by decide +kernel
theorem dX6_readsWord_72 : decode cX6_readsWord 72 = .ok (.bipush 12, 2) := by decide +kernel
theorem dX6_readsWord_74 : decode cX6_readsWord 74 = .ok (.if_icmp .ne 5, 3) := by decide +kernel
theorem dX6_readsWord_77 : decode cX6_readsWord 77 = .ok (.iconst 0, 1) := by decide +kernel
theorem dX6_readsWord_78 : decode cX6_readsWord 78 = .ok (.ireturn, 1) := by decide +kernel
theorem dX6_readsWord_79 : decode cX6_readsWord 79 = .ok (.aload_n 0, 1) := by decide +kernel
theorem dX6_readsWord_80 : decode cX6_readsWord 80 = .ok (.iload_n 1, 1) := by decide +kernel
theorem dX6_readsWord_81 : decode cX6_readsWord 81 = .ok (.iload_n 2, 1) := by decide +kernel
theorem dX6_readsWord_82 : decode cX6_readsWord 82 = .ok (.aload_n 0, 1) := by decide +kernel
theorem dX6_readsWord_83 : decode cX6_readsWord 83 = .ok (.getfield 19, 3) := by decide +kernel
theorem dX6_readsWord_86 : decode cX6_readsWord 86 = .ok (.aload_n 0, 1) := by decide +kernel
theorem dX6_readsWord_87 : decode cX6_readsWord 87 = .ok (.getfield 158, 3) := by decide +kernel
theorem dX6_readsWord_90 : decode cX6_readsWord 90 = .ok (.iaload, 1) := by decide +kernel
theorem dX6_readsWord_91 : decode cX6_readsWord 91 = .ok (.bipush 97, 2) := by decide +kernel
theorem dX6_readsWord_93 : decode cX6_readsWord 93 = .ok (.isub, 1) := by decide +kernel
theorem dX6_readsWord_94 : decode cX6_readsWord 94 = .ok (.invokevirtual 98, 3) := by decide +kernel
theorem dX6_readsWord_97 : decode cX6_readsWord 97 = .ok (.iinc 2 1, 3) := by decide +kernel
theorem dX6_readsWord_100 : decode cX6_readsWord 100 = .ok (.aload_n 0, 1) := by decide +kernel
theorem dX6_readsWord_101 : decode cX6_readsWord 101 = .ok (.dup, 1) := by decide +kernel
theorem dX6_readsWord_102 : decode cX6_readsWord 102 = .ok (.getfield 158, 3) := by decide +kernel
theorem dX6_readsWord_105 : decode cX6_readsWord 105 = .ok (.iconst 1, 1) := by decide +kernel
theorem dX6_readsWord_106 : decode cX6_readsWord 106 = .ok (.iadd, 1) := by decide +kernel
theorem dX6_readsWord_107 : decode cX6_readsWord 107 = .ok (.putfield 158, 3) := by decide +kernel
theorem dX6_readsWord_110 : decode cX6_readsWord 110 = .ok (.goto (-69), 3) := by decide +kernel
theorem dX6_readsWord_113 : decode cX6_readsWord 113 = .ok (.iload_n 2, 1) := by decide +kernel
theorem dX6_readsWord_114 : decode cX6_readsWord 114 = .ok (.ifCond .ne 5, 3) := by decide +kernel
theorem dX6_readsWord_117 : decode cX6_readsWord 117 = .ok (.iconst 0, 1) := by decide +kernel
theorem dX6_readsWord_118 : decode cX6_readsWord 118 = .ok (.ireturn, 1) := by decide +kernel
theorem dX6_readsWord_119 : decode cX6_readsWord 119 = .ok (.aload_n 0, 1) := by decide +kernel
theorem dX6_readsWord_120 : decode cX6_readsWord 120 = .ok (.iload_n 1, 1) := by decide +kernel
theorem dX6_readsWord_121 : decode cX6_readsWord 121 = .ok (.bipush 12, 2) := by decide +kernel
theorem dX6_readsWord_123 : decode cX6_readsWord 123 = .ok (.iload_n 2, 1) := by decide +kernel
theorem dX6_readsWord_124 : decode cX6_readsWord 124 = .ok (.invokevirtual 98, 3) := by decide +kernel
theorem dX6_readsWord_127 : decode cX6_readsWord 127 = .ok (.aload_n 0, 1) := by decide +kernel
theorem dX6_readsWord_128 : decode cX6_readsWord 128 = .ok (.iload_n 1, 1) := by decide +kernel
theorem dX6_readsWord_129 : decode cX6_readsWord 129 = .ok (.bipush 14, 2) := by decide +kernel
theorem dX6_readsWord_131 : decode cX6_readsWord 131 = .ok (.aload_n 0, 1) := by decide +kernel
theorem dX6_readsWord_132 : decode cX6_readsWord 132 = .ok (.iconst 0, 1) := by decide +kernel
theorem dX6_readsWord_133 : decode cX6_readsWord 133 = .ok (.invokevirtual 164, 3) := by decide +kernel
theorem dX6_readsWord_136 : decode cX6_readsWord 136 = .ok (.invokevirtual 98, 3) := by decide +kernel
theorem dX6_readsWord_139 : decode cX6_readsWord 139 = .ok (.aload_n 0, 1) := by decide +kernel
theorem dX6_readsWord_140 : decode cX6_readsWord 140 = .ok (.getfield 158, 3) := by decide +kernel
theorem dX6_readsWord_143 : decode cX6_readsWord 143 = .ok (.aload_n 0, 1) := by decide +kernel
theorem dX6_readsWord_144 : decode cX6_readsWord 144 = .ok (.getfield 149, 3) := by decide +kernel
theorem dX6_readsWord_147 : decode cX6_readsWord 147 = .ok (.if_icmp .ge 35, 3) := by decide +kernel
theorem dX6_readsWord_150 : decode cX6_readsWord 150 = .ok (.aload_n 0, 1) := by decide +kernel
theorem dX6_readsWord_151 : decode cX6_readsWord 151 = .ok (.getfield 19, 3) := by decide +kernel
theorem dX6_readsWord_154 : decode cX6_readsWord 154 = .ok (.aload_n 0, 1) := by decide +kernel
theorem dX6_readsWord_155 : decode cX6_readsWord 155 = .ok (.getfield 158, 3) := by decide +kernel
theorem dX6_readsWord_158 : decode cX6_readsWord 158 = .ok (.iaload, 1) := by decide +kernel
theorem dX6_readsWord_159 : decode cX6_readsWord 159 = .ok (.bipush 47, 2) := by decide +kernel
theorem dX6_readsWord_161 : decode cX6_readsWord 161 = .ok (.if_icmp .ne 21, 3) := by decide +kernel
theorem dX6_readsWord_164 : decode cX6_readsWord 164 = .ok (.aload_n 0, 1) := by decide +kernel
theorem dX6_readsWord_165 : decode cX6_readsWord 165 = .ok (.iload_n 1, 1) := by decide +kernel
theorem dX6_readsWord_166 : decode cX6_readsWord 166 = .ok (.bipush 15, 2) := by decide +kernel
theorem dX6_readsWord_168 : decode cX6_readsWord 168 = .ok (.iconst 1, 1) := by decide +kernel
theorem dX6_readsWord_169 : decode cX6_readsWord 169 = .ok (.invokevirtual 98, 3) := by decide +kernel
theorem dX6_readsWord_172 : decode cX6_readsWord 172 = .ok (.aload_n 0, 1) := by decide +kernel
theorem dX6_readsWord_173 : decode cX6_readsWord 173 = .ok (.dup, 1) := by decide +kernel
theorem dX6_readsWord_174 : decode cX6_readsWord 174 = .ok (.getfield 158, 3) := by decide +kernel
theorem dX6_readsWord_177 : decode cX6_readsWord 177 = .ok (.iconst 1, 1) := by decide +kernel
theorem dX6_readsWord_178 : decode cX6_readsWord 178 = .ok (.iadd, 1) := by decide +kernel
theorem dX6_readsWord_179 : decode cX6_readsWord 179 = .ok (.putfield 158, 3) := by decide +kernel
theorem dX6_readsWord_182 : decode cX6_readsWord 182 = .ok (.aload_n 0, 1) := by decide +kernel
theorem dX6_readsWord_183 : decode cX6_readsWord 183 = .ok (.getfield 158, 3) := by decide +kernel
theorem dX6_readsWord_186 : decode cX6_readsWord 186 = .ok (.aload_n 0, 1) := by decide +kernel
theorem dX6_readsWord_187 : decode cX6_readsWord 187 = .ok (.getfield 149, 3) := by decide +kernel
theorem dX6_readsWord_190 : decode cX6_readsWord 190 = .ok (.if_icmp .eq 17, 3) := by decide +kernel
theorem dX6_readsWord_193 : decode cX6_readsWord 193 = .ok (.aload_n 0, 1) := by decide +kernel
theorem dX6_readsWord_194 : decode cX6_readsWord 194 = .ok (.getfield 19, 3) := by decide +kernel
theorem dX6_readsWord_197 : decode cX6_readsWord 197 = .ok (.aload_n 0, 1) := by decide +kernel
theorem dX6_readsWord_198 : decode cX6_readsWord 198 = .ok (.getfield 158, 3) := by decide +kernel
theorem dX6_readsWord_201 : decode cX6_readsWord 201 = .ok (.iaload, 1) := by decide +kernel
theorem dX6_readsWord_202 : decode cX6_readsWord 202 = .ok (.bipush 32, 2) := by decide +kernel
theorem dX6_readsWord_204 : decode cX6_readsWord 204 = .ok (.if_icmp .ne 7, 3) := by decide +kernel
theorem dX6_readsWord_207 : decode cX6_readsWord 207 = .ok (.iconst 1, 1) := by decide +kernel
theorem dX6_readsWord_208 : decode cX6_readsWord 208 = .ok (.goto 4, 3) := by decide +kernel
theorem dX6_readsWord_211 : decode cX6_readsWord 211 = .ok (.iconst 0, 1) := by decide +kernel
theorem dX6_readsWord_212 : decode cX6_readsWord 212 = .ok (.ireturn, 1) := by decide +kernel
theorem dX6_skips_0 : decode cX6_skips 0 = .ok (.aload_n 0, 1) := by decide +kernel
theorem dX6_skips_1 : decode cX6_skips 1 = .ok (.getfield 158, 3) := by decide +kernel
theorem dX6_skips_4 : decode cX6_skips 4 = .ok (.aload_n 0, 1) := by decide +kernel
theorem dX6_skips_5 : decode cX6_skips 5 = .ok (.getfield 149, 3) := by decide +kernel
theorem dX6_skips_8 : decode cX6_skips 8 = .ok (.if_icmp .ge 30, 3) := by decide +kernel
theorem dX6_skips_11 : decode cX6_skips 11 = .ok (.aload_n 0, 1) := by decide +kernel
theorem dX6_skips_12 : decode cX6_skips 12 = .ok (.getfield 19, 3) := by decide +kernel
theorem dX6_skips_15 : decode cX6_skips 15 = .ok (.aload_n 0, 1) := by decide +kernel
theorem dX6_skips_16 : decode cX6_skips 16 = .ok (.getfield 158, 3) := by decide +kernel
theorem dX6_skips_19 : decode cX6_skips 19 = .ok (.iaload, 1) := by decide +kernel
theorem dX6_skips_20 : decode cX6_skips 20 = .ok (.bipush 32, 2) := by decide +kernel
theorem dX6_skips_22 : decode cX6_skips 22 = .ok (.if_icmp .ne 16, 3) := by decide +kernel
theorem dX6_skips_25 : decode cX6_skips 25 = .ok (.aload_n 0, 1) := by decide +kernel
theorem dX6_skips_26 : decode cX6_skips 26 = .ok (.dup, 1) := by decide +kernel
theorem dX6_skips_27 : decode cX6_skips 27 = .ok (.getfield 158, 3) := by decide +kernel
theorem dX6_skips_30 : decode cX6_skips 30 = .ok (.iconst 1, 1) := by decide +kernel
theorem dX6_skips_31 : decode cX6_skips 31 = .ok (.iadd, 1) := by decide +kernel
theorem dX6_skips_32 : decode cX6_skips 32 = .ok (.putfield 158, 3) := by decide +kernel
theorem dX6_skips_35 : decode cX6_skips 35 = .ok (.goto (-35), 3) := by decide +kernel
theorem dX6_skips_38 : decode cX6_skips 38 = .ok (.return_, 1) := by decide +kernel
set_option maxRecDepth 20000 in
theorem ggX6_readWords_X6_hold : GoodIn wsX6_readWords wsX6_hold := goodIn_r _ [9, 4, 1, 48, 49, 50, 51, 52, 53, 54, 55, 56, 57, 58, 59, 60, 61, 62, 63] (by decide +kernel) (by decide +kernel)
set_option maxRecDepth 20000 in
theorem gX6_readWords_X6_hold : GoodIn wsX6_readWords (wsV RX6 108 RX6 yX6_hold wsX6_hold) := goodIn_app (goodIn_of _ (by decide +kernel)) ggX6_readWords_X6_hold
set_option maxRecDepth 20000 in
theorem ggX6_readWords_X6_skips : GoodIn wsX6_readWords wsX6_skips := goodIn_r _ [13, 2, 3, 14, 48, 49, 50, 51, 52, 53, 54, 55, 56, 57, 58, 59, 60, 61, 62, 63] (by decide +kernel) (by decide +kernel)
set_option maxRecDepth 20000 in
theorem gX6_readWords_X6_skips : GoodIn wsX6_readWords (wsV RX6 168 RX6 yX6_skips wsX6_skips) := goodIn_app (goodIn_of _ (by decide +kernel)) ggX6_readWords_X6_skips
set_option maxRecDepth 20000 in
theorem ggX6_readWords_X6_readsWord : GoodIn wsX6_readWords wsX6_readsWord := goodIn_r _ [18, 1, 2, 3, 14, 19, 20, 21, 8, 22, 23, 24, 25, 26, 27, 28, 29, 30, 31, 32, 33, 34, 35, 36, 48, 49, 50, 51, 52, 53, 54, 55, 56, 57, 58, 59, 60, 61, 62, 63] (by decide +kernel) (by decide +kernel)
set_option maxRecDepth 20000 in
theorem gX6_readWords_X6_readsWord : GoodIn wsX6_readWords (wsV RX6 171 RX6 yX6_readsWord wsX6_readsWord) := goodIn_app (goodIn_of _ (by decide +kernel)) ggX6_readWords_X6_readsWord
set_option maxRecDepth 20000 in
theorem ggX6_readWords_X6_tells : GoodIn wsX6_readWords wsX6_tells := goodIn_r _ [40, 41, 48, 49, 50, 51, 52, 53, 54, 55, 56, 57, 58, 59, 60, 61, 62, 63] (by decide +kernel) (by decide +kernel)
set_option maxRecDepth 20000 in
theorem gX6_readWords_X6_tells : GoodIn wsX6_readWords (wsV RX6 39 RX6 yX6_tells wsX6_tells) := goodIn_app (goodIn_of _ (by decide +kernel)) ggX6_readWords_X6_tells
set_option maxRecDepth 20000 in
theorem ggX6_readWords_X6_ends : GoodIn wsX6_readWords wsX6_ends := goodIn_r _ [45, 46, 47, 4, 37, 38, 39, 8, 40, 41, 48, 49, 50, 51, 52, 53, 54, 55, 56, 57, 58, 59, 60, 61, 62, 63] (by decide +kernel) (by decide +kernel)
set_option maxRecDepth 20000 in
theorem gX6_readWords_X6_ends : GoodIn wsX6_readWords (wsV RX6 115 RX6 yX6_ends wsX6_ends) := goodIn_app (goodIn_of _ (by decide +kernel)) ggX6_readWords_X6_ends
theorem dX6_readWords_0 : decode cX6_readWords 0 = .ok (.aload_n 0, 1) := by decide +kernel
theorem dX6_readWords_1 : decode cX6_readWords 1 = .ok (.invokevirtual 108, 3) := by decide +kernel
theorem dX6_readWords_4 : decode cX6_readWords 4 = .ok (.aload_n 0, 1) := by decide +kernel
theorem dX6_readWords_5 : decode cX6_readWords 5 = .ok (.getfield 7, 3) := by decide +kernel
theorem dX6_readWords_8 : decode cX6_readWords 8 = .ok (.bipush 14, 2) := by decide +kernel
theorem dX6_readWords_10 : decode cX6_readWords 10 = .ok (.iconst 0, 1) := by decide +kernel
theorem dX6_readWords_11 : decode cX6_readWords 11 = .ok (.iastore, 1) := by decide +kernel
theorem dX6_readWords_12 : decode cX6_readWords 12 = .ok (.aload_n 0, 1) := by decide +kernel
theorem dX6_readWords_13 : decode cX6_readWords 13 = .ok (.iconst 0, 1) := by decide +kernel
theorem dX6_readWords_14 : decode cX6_readWords 14 = .ok (.putfield 158, 3) := by decide +kernel
theorem dX6_readWords_17 : decode cX6_readWords 17 = .ok (.aload_n 0, 1) := by decide +kernel
theorem dX6_readWords_18 : decode cX6_readWords 18 = .ok (.invokevirtual 168, 3) := by decide +kernel
theorem dX6_readWords_21 : decode cX6_readWords 21 = .ok (.aload_n 0, 1) := by decide +kernel
theorem dX6_readWords_22 : decode cX6_readWords 22 = .ok (.getfield 158, 3) := by decide +kernel
theorem dX6_readWords_25 : decode cX6_readWords 25 = .ok (.aload_n 0, 1) := by decide +kernel
theorem dX6_readWords_26 : decode cX6_readWords 26 = .ok (.getfield 149, 3) := by decide +kernel
theorem dX6_readWords_29 : decode cX6_readWords 29 = .ok (.if_icmp .ge 56, 3) := by decide +kernel
theorem dX6_readWords_32 : decode cX6_readWords 32 = .ok (.aload_n 0, 1) := by decide +kernel
theorem dX6_readWords_33 : decode cX6_readWords 33 = .ok (.invokevirtual 171, 3) := by decide +kernel
theorem dX6_readWords_36 : decode cX6_readWords 36 = .ok (.ifCond .ne 42, 3) := by decide +kernel
theorem dX6_readWords_39 : decode cX6_readWords 39 = .ok (.iconst 0, 1) := by decide +kernel
theorem dX6_readWords_40 : decode cX6_readWords 40 = .ok (.istore_n 1, 1) := by decide +kernel
theorem dX6_readWords_41 : decode cX6_readWords 41 = .ok (.iload_n 1, 1) := by decide +kernel
theorem dX6_readWords_42 : decode cX6_readWords 42 = .ok (.sipush 975, 3) := by decide +kernel
theorem dX6_readWords_45 : decode cX6_readWords 45 = .ok (.if_icmp .ge 21, 3) := by decide +kernel
theorem dX6_readWords_48 : decode cX6_readWords 48 = .ok (.aload_n 0, 1) := by decide +kernel
theorem dX6_readWords_49 : decode cX6_readWords 49 = .ok (.getfield 7, 3) := by decide +kernel
theorem dX6_readWords_52 : decode cX6_readWords 52 = .ok (.iload_n 1, 1) := by decide +kernel
theorem dX6_readWords_53 : decode cX6_readWords 53 = .ok (.aload_n 0, 1) := by decide +kernel
theorem dX6_readWords_54 : decode cX6_readWords 54 = .ok (.getfield 16, 3) := by decide +kernel
theorem dX6_readWords_57 : decode cX6_readWords 57 = .ok (.iload_n 1, 1) := by decide +kernel
theorem dX6_readWords_58 : decode cX6_readWords 58 = .ok (.iaload, 1) := by decide +kernel
theorem dX6_readWords_59 : decode cX6_readWords 59 = .ok (.iastore, 1) := by decide +kernel
theorem dX6_readWords_60 : decode cX6_readWords 60 = .ok (.iinc 1 1, 3) := by decide +kernel
theorem dX6_readWords_63 : decode cX6_readWords 63 = .ok (.goto (-22), 3) := by decide +kernel
theorem dX6_readWords_66 : decode cX6_readWords 66 = .ok (.aload_n 0, 1) := by decide +kernel
theorem dX6_readWords_67 : decode cX6_readWords 67 = .ok (.bipush (-10), 2) := by decide +kernel
theorem dX6_readWords_69 : decode cX6_readWords 69 = .ok (.aload_n 0, 1) := by decide +kernel
theorem dX6_readWords_70 : decode cX6_readWords 70 = .ok (.getfield 158, 3) := by decide +kernel
theorem dX6_readWords_73 : decode cX6_readWords 73 = .ok (.isub, 1) := by decide +kernel
theorem dX6_readWords_74 : decode cX6_readWords 74 = .ok (.invokevirtual 39, 3) := by decide +kernel
theorem dX6_readWords_77 : decode cX6_readWords 77 = .ok (.ireturn, 1) := by decide +kernel
theorem dX6_readWords_78 : decode cX6_readWords 78 = .ok (.aload_n 0, 1) := by decide +kernel
theorem dX6_readWords_79 : decode cX6_readWords 79 = .ok (.invokevirtual 168, 3) := by decide +kernel
theorem dX6_readWords_82 : decode cX6_readWords 82 = .ok (.goto (-61), 3) := by decide +kernel
theorem dX6_readWords_85 : decode cX6_readWords 85 = .ok (.aload_n 0, 1) := by decide +kernel
theorem dX6_readWords_86 : decode cX6_readWords 86 = .ok (.aload_n 0, 1) := by decide +kernel
theorem dX6_readWords_87 : decode cX6_readWords 87 = .ok (.getfield 7, 3) := by decide +kernel
theorem dX6_readWords_90 : decode cX6_readWords 90 = .ok (.bipush 14, 2) := by decide +kernel
theorem dX6_readWords_92 : decode cX6_readWords 92 = .ok (.iaload, 1) := by decide +kernel
theorem dX6_readWords_93 : decode cX6_readWords 93 = .ok (.invokevirtual 115, 3) := by decide +kernel
theorem dX6_readWords_96 : decode cX6_readWords 96 = .ok (.ireturn, 1) := by decide +kernel
set_option maxRecDepth 20000 in
theorem ggX6_byteAt_X6_of : GoodIn wsX6_byteAt wsX6_of := goodIn_r _ [6, 7, 11, 12, 13, 14, 15, 16, 17, 18, 19, 20, 21, 22, 23, 24, 25, 26] (by decide +kernel) (by decide +kernel)
set_option maxRecDepth 20000 in
theorem gX6_byteAt_X6_of : GoodIn wsX6_byteAt (wsV RX6 43 RX6 yX6_of wsX6_of) := goodIn_app (goodIn_of _ (by decide +kernel)) ggX6_byteAt_X6_of
set_option maxRecDepth 20000 in
theorem ggX6_byteAt_X6_byteOf : GoodIn wsX6_byteAt wsX6_byteOf := goodIn_r _ [10] (by decide +kernel) (by decide +kernel)
set_option maxRecDepth 20000 in
theorem gX6_byteAt_X6_byteOf : GoodIn wsX6_byteAt (va_wsS RX6 161 yX6_byteOf wsX6_byteOf) := goodIn_app (goodIn_of _ (by decide +kernel)) ggX6_byteAt_X6_byteOf
theorem dX6_byteAt_0 : decode cX6_byteAt 0 = .ok (.iload_n 2, 1) := by decide +kernel
theorem dX6_byteAt_1 : decode cX6_byteAt 1 = .ok (.istore_n 3, 1) := by decide +kernel
theorem dX6_byteAt_2 : decode cX6_byteAt 2 = .ok (.aload_n 0, 1) := by decide +kernel
theorem dX6_byteAt_3 : decode cX6_byteAt 3 = .ok (.getfield 22, 3) := by decide +kernel
theorem dX6_byteAt_6 : decode cX6_byteAt 6 = .ok (.bipush 10, 2) := by decide +kernel
theorem dX6_byteAt_8 : decode cX6_byteAt 8 = .ok (.iload_n 1, 1) := by decide +kernel
theorem dX6_byteAt_9 : decode cX6_byteAt 9 = .ok (.imul, 1) := by decide +kernel
theorem dX6_byteAt_10 : decode cX6_byteAt 10 = .ok (.iconst 1, 1) := by decide +kernel
theorem dX6_byteAt_11 : decode cX6_byteAt 11 = .ok (.iadd, 1) := by decide +kernel
theorem dX6_byteAt_12 : decode cX6_byteAt 12 = .ok (.iaload, 1) := by decide +kernel
theorem dX6_byteAt_13 : decode cX6_byteAt 13 = .ok (.istore 4, 2) := by decide +kernel
theorem dX6_byteAt_15 : decode cX6_byteAt 15 = .ok (.iload 4, 2) := by decide +kernel
theorem dX6_byteAt_17 : decode cX6_byteAt 17 = .ok (.istore 5, 2) := by decide +kernel
theorem dX6_byteAt_19 : decode cX6_byteAt 19 = .ok (.iload 5, 2) := by decide +kernel
theorem dX6_byteAt_21 : decode cX6_byteAt 21 = .ok (.iload 4, 2) := by decide +kernel
theorem dX6_byteAt_23 : decode cX6_byteAt 23 = .ok (.aload_n 0, 1) := by decide +kernel
theorem dX6_byteAt_24 : decode cX6_byteAt 24 = .ok (.getfield 22, 3) := by decide +kernel
theorem dX6_byteAt_27 : decode cX6_byteAt 27 = .ok (.bipush 10, 2) := by decide +kernel
theorem dX6_byteAt_29 : decode cX6_byteAt 29 = .ok (.iload_n 1, 1) := by decide +kernel
theorem dX6_byteAt_30 : decode cX6_byteAt 30 = .ok (.imul, 1) := by decide +kernel
theorem dX6_byteAt_31 : decode cX6_byteAt 31 = .ok (.iconst 2, 1) := by decide +kernel
theorem dX6_byteAt_32 : decode cX6_byteAt 32 = .ok (.iadd, 1) := by decide +kernel
theorem dX6_byteAt_33 : decode cX6_byteAt 33 = .ok (.iaload, 1) := by decide +kernel
theorem dX6_byteAt_34 : decode cX6_byteAt 34 = .ok (.iadd, 1) := by decide +kernel
theorem dX6_byteAt_35 : decode cX6_byteAt 35 = .ok (.if_icmp .ge 175, 3) := by decide +kernel
theorem dX6_byteAt_38 : decode cX6_byteAt 38 = .ok (.aload_n 0, 1) := by decide +kernel
theorem dX6_byteAt_39 : decode cX6_byteAt 39 = .ok (.iload 5, 2) := by decide +kernel
theorem dX6_byteAt_41 : decode cX6_byteAt 41 = .ok (.bipush 13, 2) := by decide +kernel
theorem dX6_byteAt_43 : decode cX6_byteAt 43 = .ok (.invokevirtual 43, 3) := by decide +kernel
theorem dX6_byteAt_46 : decode cX6_byteAt 46 = .ok (.iconst (-1), 1) := by decide +kernel
theorem dX6_byteAt_47 : decode cX6_byteAt 47 = .ok (.if_icmp .ne 7, 3) := by decide +kernel
theorem dX6_byteAt_50 : decode cX6_byteAt 50 = .ok (.iconst 0, 1) := by decide +kernel
theorem dX6_byteAt_51 : decode cX6_byteAt 51 = .ok (.goto 4, 3) := by decide +kernel
theorem dX6_byteAt_54 : decode cX6_byteAt 54 = .ok (.iconst 1, 1) := by decide +kernel
theorem dX6_byteAt_55 : decode cX6_byteAt 55 = .ok (.istore 6, 2) := by decide +kernel
theorem dX6_byteAt_57 : decode cX6_byteAt 57 = .ok (.aload_n 0, 1) := by decide +kernel
theorem dX6_byteAt_58 : decode cX6_byteAt 58 = .ok (.iload 5, 2) := by decide +kernel
theorem dX6_byteAt_60 : decode cX6_byteAt 60 = .ok (.bipush 14, 2) := by decide +kernel
theorem dX6_byteAt_62 : decode cX6_byteAt 62 = .ok (.invokevirtual 43, 3) := by decide +kernel
theorem dX6_byteAt_65 : decode cX6_byteAt 65 = .ok (.iconst (-1), 1) := by decide +kernel
theorem dX6_byteAt_66 : decode cX6_byteAt 66 = .ok (.if_icmp .ne 7, 3) := by decide +kernel
theorem dX6_byteAt_69 : decode cX6_byteAt 69 = .ok (.iconst 0, 1) := by decide +kernel
theorem dX6_byteAt_70 : decode cX6_byteAt 70 = .ok (.goto 4, 3) := by decide +kernel
theorem dX6_byteAt_73 : decode cX6_byteAt 73 = .ok (.iconst 1, 1) := by decide +kernel
theorem dX6_byteAt_74 : decode cX6_byteAt 74 = .ok (.istore 7, 2) := by decide +kernel
theorem dX6_byteAt_76 : decode cX6_byteAt 76 = .ok (.iload 6, 2) := by decide +kernel
theorem dX6_byteAt_78 : decode cX6_byteAt 78 = .ok (.aload_n 0, 1) := by decide +kernel
theorem dX6_byteAt_79 : decode cX6_byteAt 79 = .ok (.iload 5, 2) := by decide +kernel
theorem dX6_byteAt_81 : decode cX6_byteAt 81 = .ok (.bipush 12, 2) := by decide +kernel
theorem dX6_byteAt_83 : decode cX6_byteAt 83 = .ok (.invokevirtual 43, 3) := by decide +kernel
theorem dX6_byteAt_86 : decode cX6_byteAt 86 = .ok (.iadd, 1) := by decide +kernel
theorem dX6_byteAt_87 : decode cX6_byteAt 87 = .ok (.iload 7, 2) := by decide +kernel
theorem dX6_byteAt_89 : decode cX6_byteAt 89 = .ok (.iadd, 1) := by decide +kernel
theorem dX6_byteAt_90 : decode cX6_byteAt 90 = .ok (.istore 8, 2) := by decide +kernel
theorem dX6_byteAt_92 : decode cX6_byteAt 92 = .ok (.iload_n 3, 1) := by decide +kernel
theorem dX6_byteAt_93 : decode cX6_byteAt 93 = .ok (.iload 8, 2) := by decide +kernel
theorem dX6_byteAt_95 : decode cX6_byteAt 95 = .ok (.if_icmp .ge 66, 3) := by decide +kernel
theorem dX6_byteAt_98 : decode cX6_byteAt 98 = .ok (.iload_n 3, 1) := by decide +kernel
theorem dX6_byteAt_99 : decode cX6_byteAt 99 = .ok (.iload 6, 2) := by decide +kernel
theorem dX6_byteAt_101 : decode cX6_byteAt 101 = .ok (.if_icmp .ge 17, 3) := by decide +kernel
theorem dX6_byteAt_104 : decode cX6_byteAt 104 = .ok (.aload_n 0, 1) := by decide +kernel
theorem dX6_byteAt_105 : decode cX6_byteAt 105 = .ok (.iload 5, 2) := by decide +kernel
theorem dX6_byteAt_107 : decode cX6_byteAt 107 = .ok (.bipush 13, 2) := by decide +kernel
theorem dX6_byteAt_109 : decode cX6_byteAt 109 = .ok (.invokevirtual 43, 3) := by decide +kernel
theorem dX6_byteAt_112 : decode cX6_byteAt 112 = .ok (.invokestatic 161, 3) := by decide +kernel
theorem dX6_byteAt_115 : decode cX6_byteAt 115 = .ok (.goto 45, 3) := by decide +kernel
theorem dX6_byteAt_118 : decode cX6_byteAt 118 = .ok (.iload_n 3, 1) := by decide +kernel
theorem dX6_byteAt_119 : decode cX6_byteAt 119 = .ok (.iload 6, 2) := by decide +kernel
theorem dX6_byteAt_121 : decode cX6_byteAt 121 = .ok (.isub, 1) := by decide +kernel
theorem dX6_byteAt_122 : decode cX6_byteAt 122 = .ok (.aload_n 0, 1) := by decide +kernel
theorem dX6_byteAt_123 : decode cX6_byteAt 123 = .ok (.iload 5, 2) := by decide +kernel
theorem dX6_byteAt_125 : decode cX6_byteAt 125 = .ok (.bipush 12, 2) := by decide +kernel
theorem dX6_byteAt_127 : decode cX6_byteAt 127 = .ok (.invokevirtual 43, 3) := by decide +kernel
theorem dX6_byteAt_130 : decode cX6_byteAt 130 = .ok (.if_icmp .ge 19, 3) := by decide +kernel
theorem dX6_byteAt_133 : decode cX6_byteAt 133 = .ok (.bipush 97, 2) := by decide +kernel
theorem dX6_byteAt_135 : decode cX6_byteAt 135 = .ok (.aload_n 0, 1) := by decide +kernel
theorem dX6_byteAt_136 : decode cX6_byteAt 136 = .ok (.iload 5, 2) := by decide +kernel
theorem dX6_byteAt_138 : decode cX6_byteAt 138 = .ok (.iload_n 3, 1) := by decide +kernel
theorem dX6_byteAt_139 : decode cX6_byteAt 139 = .ok (.iload 6, 2) := by decide +kernel
theorem dX6_byteAt_141 : decode cX6_byteAt 141 = .ok (.isub, 1) := by decide +kernel
theorem dX6_byteAt_142 : decode cX6_byteAt 142 = .ok (.invokevirtual 43, 3) := by decide +kernel
theorem dX6_byteAt_145 : decode cX6_byteAt 145 = .ok (.iadd, 1) := by decide +kernel
theorem dX6_byteAt_146 : decode cX6_byteAt 146 = .ok (.goto 14, 3) := by decide +kernel
theorem dX6_byteAt_149 : decode cX6_byteAt 149 = .ok (.aload_n 0, 1) := by decide +kernel
theorem dX6_byteAt_150 : decode cX6_byteAt 150 = .ok (.iload 5, 2) := by decide +kernel
theorem dX6_byteAt_152 : decode cX6_byteAt 152 = .ok (.bipush 14, 2) := by decide +kernel
theorem dX6_byteAt_154 : decode cX6_byteAt 154 = .ok (.invokevirtual 43, 3) := by decide +kernel
theorem dX6_byteAt_157 : decode cX6_byteAt 157 = .ok (.invokestatic 161, 3) := by decide +kernel
theorem dX6_byteAt_160 : decode cX6_byteAt 160 = .ok (.ireturn, 1) := by decide +kernel
theorem dX6_byteAt_161 : decode cX6_byteAt 161 = .ok (.iload_n 3, 1) := by decide +kernel
theorem dX6_byteAt_162 : decode cX6_byteAt 162 = .ok (.iload 8, 2) := by decide +kernel
theorem dX6_byteAt_164 : decode cX6_byteAt 164 = .ok (.if_icmp .ne 27, 3) := by decide +kernel
theorem dX6_byteAt_167 : decode cX6_byteAt 167 = .ok (.iload 5, 2) := by decide +kernel
theorem dX6_byteAt_169 : decode cX6_byteAt 169 = .ok (.iconst 1, 1) := by decide +kernel
theorem dX6_byteAt_170 : decode cX6_byteAt 170 = .ok (.iadd, 1) := by decide +kernel
theorem dX6_byteAt_171 : decode cX6_byteAt 171 = .ok (.iload 4, 2) := by decide +kernel
theorem dX6_byteAt_173 : decode cX6_byteAt 173 = .ok (.aload_n 0, 1) := by decide +kernel
theorem dX6_byteAt_174 : decode cX6_byteAt 174 = .ok (.getfield 22, 3) := by decide +kernel
theorem dX6_byteAt_177 : decode cX6_byteAt 177 = .ok (.bipush 10, 2) := by decide +kernel
theorem dX6_byteAt_179 : decode cX6_byteAt 179 = .ok (.iload_n 1, 1) := by decide +kernel
theorem dX6_byteAt_180 : decode cX6_byteAt 180 = .ok (.imul, 1) := by decide +kernel
theorem dX6_byteAt_181 : decode cX6_byteAt 181 = .ok (.iconst 2, 1) := by decide +kernel
theorem dX6_byteAt_182 : decode cX6_byteAt 182 = .ok (.iadd, 1) := by decide +kernel
theorem dX6_byteAt_183 : decode cX6_byteAt 183 = .ok (.iaload, 1) := by decide +kernel
theorem dX6_byteAt_184 : decode cX6_byteAt 184 = .ok (.iadd, 1) := by decide +kernel
theorem dX6_byteAt_185 : decode cX6_byteAt 185 = .ok (.if_icmp .ge 6, 3) := by decide +kernel
theorem dX6_byteAt_188 : decode cX6_byteAt 188 = .ok (.bipush 32, 2) := by decide +kernel
theorem dX6_byteAt_190 : decode cX6_byteAt 190 = .ok (.ireturn, 1) := by decide +kernel
theorem dX6_byteAt_191 : decode cX6_byteAt 191 = .ok (.iload_n 3, 1) := by decide +kernel
theorem dX6_byteAt_192 : decode cX6_byteAt 192 = .ok (.iload 8, 2) := by decide +kernel
theorem dX6_byteAt_194 : decode cX6_byteAt 194 = .ok (.iconst 1, 1) := by decide +kernel
theorem dX6_byteAt_195 : decode cX6_byteAt 195 = .ok (.iadd, 1) := by decide +kernel
theorem dX6_byteAt_196 : decode cX6_byteAt 196 = .ok (.isub, 1) := by decide +kernel
theorem dX6_byteAt_197 : decode cX6_byteAt 197 = .ok (.istore_n 3, 1) := by decide +kernel
theorem dX6_byteAt_198 : decode cX6_byteAt 198 = .ok (.iload_n 3, 1) := by decide +kernel
theorem dX6_byteAt_199 : decode cX6_byteAt 199 = .ok (.ifCond .ge 5, 3) := by decide +kernel
theorem dX6_byteAt_202 : decode cX6_byteAt 202 = .ok (.iconst (-1), 1) := by decide +kernel
theorem dX6_byteAt_203 : decode cX6_byteAt 203 = .ok (.ireturn, 1) := by decide +kernel
theorem dX6_byteAt_204 : decode cX6_byteAt 204 = .ok (.iinc 5 1, 3) := by decide +kernel
theorem dX6_byteAt_207 : decode cX6_byteAt 207 = .ok (.goto (-188), 3) := by decide +kernel
theorem dX6_byteAt_210 : decode cX6_byteAt 210 = .ok (.iconst (-1), 1) := by decide +kernel
theorem dX6_byteAt_211 : decode cX6_byteAt 211 = .ok (.ireturn, 1) := by decide +kernel
set_option maxRecDepth 20000 in
theorem ggX6_lineByte_X6_makes : GoodIn wsX6_lineByte wsX6_makes := goodIn_r _ [6, 7, 8, 9, 10, 5, 11, 12, 13, 14, 1, 15, 16, 17, 18, 19, 20, 21, 22, 23, 24, 25, 26, 27, 28, 29, 30, 31, 32, 33, 34, 35, 36, 37, 38, 39, 40, 41, 42, 43, 44, 45, 46, 47, 64, 65, 66, 67, 68, 69, 70, 71, 72, 73, 74, 75, 76, 77, 78, 79] (by decide +kernel) (by decide +kernel)
set_option maxRecDepth 20000 in
theorem gX6_lineByte_X6_makes : GoodIn wsX6_lineByte (wsV RX6 130 RX6 yX6_makes wsX6_makes) := goodIn_app (goodIn_of _ (by decide +kernel)) ggX6_lineByte_X6_makes
set_option maxRecDepth 20000 in
theorem ggX6_lineByte_X6_fails : GoodIn wsX6_lineByte wsX6_fails := goodIn_r _ [51, 52, 64, 65, 66, 67, 68, 69, 70, 71, 72, 73, 74, 75, 76, 77, 78, 79] (by decide +kernel) (by decide +kernel)
set_option maxRecDepth 20000 in
theorem gX6_lineByte_X6_fails : GoodIn wsX6_lineByte (wsV RX6 101 RX6 yX6_fails wsX6_fails) := goodIn_app (goodIn_of _ (by decide +kernel)) ggX6_lineByte_X6_fails
set_option maxRecDepth 20000 in
theorem ggX6_lineByte_X6_byteAt : GoodIn wsX6_lineByte wsX6_byteAt := goodIn_r _ [56, 20, 26, 27, 28, 5, 29, 7, 57, 58, 59, 64, 65, 66, 67, 68, 69, 70, 71, 72, 73, 74, 75, 76, 77, 78, 79] (by decide +kernel) (by decide +kernel)
set_option maxRecDepth 20000 in
theorem gX6_lineByte_X6_byteAt : GoodIn wsX6_lineByte (wsV RX6 175 RX6 yX6_byteAt wsX6_byteAt) := goodIn_app (goodIn_of _ (by decide +kernel)) ggX6_lineByte_X6_byteAt
set_option maxRecDepth 20000 in
theorem ggX6_lineByte_X6_tells : GoodIn wsX6_lineByte wsX6_tells := goodIn_r _ [63, 52, 64, 65, 66, 67, 68, 69, 70, 71, 72, 73, 74, 75, 76, 77, 78, 79] (by decide +kernel) (by decide +kernel)
set_option maxRecDepth 20000 in
theorem gX6_lineByte_X6_tells : GoodIn wsX6_lineByte (wsV RX6 39 RX6 yX6_tells wsX6_tells) := goodIn_app (goodIn_of _ (by decide +kernel)) ggX6_lineByte_X6_tells
theorem dX6_lineByte_0 : decode cX6_lineByte 0 = .ok (.aload_n 0, 1) := by decide +kernel
theorem dX6_lineByte_1 : decode cX6_lineByte 1 = .ok (.invokevirtual 130, 3) := by decide +kernel
theorem dX6_lineByte_4 : decode cX6_lineByte 4 = .ok (.iload_n 1, 1) := by decide +kernel
theorem dX6_lineByte_5 : decode cX6_lineByte 5 = .ok (.ifCond .lt 11, 3) := by decide +kernel
theorem dX6_lineByte_8 : decode cX6_lineByte 8 = .ok (.iload_n 1, 1) := by decide +kernel
theorem dX6_lineByte_9 : decode cX6_lineByte 9 = .ok (.aload_n 0, 1) := by decide +kernel
theorem dX6_lineByte_10 : decode cX6_lineByte 10 = .ok (.getfield 53, 3) := by decide +kernel
theorem dX6_lineByte_13 : decode cX6_lineByte 13 = .ok (.if_icmp .lt 9, 3) := by decide +kernel
theorem dX6_lineByte_16 : decode cX6_lineByte 16 = .ok (.aload_n 0, 1) := by decide +kernel
theorem dX6_lineByte_17 : decode cX6_lineByte 17 = .ok (.iconst 1, 1) := by decide +kernel
theorem dX6_lineByte_18 : decode cX6_lineByte 18 = .ok (.invokevirtual 101, 3) := by decide +kernel
theorem dX6_lineByte_21 : decode cX6_lineByte 21 = .ok (.ireturn, 1) := by decide +kernel
theorem dX6_lineByte_22 : decode cX6_lineByte 22 = .ok (.iload_n 2, 1) := by decide +kernel
theorem dX6_lineByte_23 : decode cX6_lineByte 23 = .ok (.ifCond .ge 11, 3) := by decide +kernel
theorem dX6_lineByte_26 : decode cX6_lineByte 26 = .ok (.aload_n 0, 1) := by decide +kernel
theorem dX6_lineByte_27 : decode cX6_lineByte 27 = .ok (.iconst 2, 1) := by decide +kernel
theorem dX6_lineByte_28 : decode cX6_lineByte 28 = .ok (.invokevirtual 101, 3) := by decide +kernel
theorem dX6_lineByte_31 : decode cX6_lineByte 31 = .ok (.goto 13, 3) := by decide +kernel
theorem dX6_lineByte_34 : decode cX6_lineByte 34 = .ok (.aload_n 0, 1) := by decide +kernel
theorem dX6_lineByte_35 : decode cX6_lineByte 35 = .ok (.aload_n 0, 1) := by decide +kernel
theorem dX6_lineByte_36 : decode cX6_lineByte 36 = .ok (.iload_n 1, 1) := by decide +kernel
theorem dX6_lineByte_37 : decode cX6_lineByte 37 = .ok (.iload_n 2, 1) := by decide +kernel
theorem dX6_lineByte_38 : decode cX6_lineByte 38 = .ok (.invokevirtual 175, 3) := by decide +kernel
theorem dX6_lineByte_41 : decode cX6_lineByte 41 = .ok (.invokevirtual 39, 3) := by decide +kernel
theorem dX6_lineByte_44 : decode cX6_lineByte 44 = .ok (.ireturn, 1) := by decide +kernel
set_option maxRecDepth 20000 in
theorem ggX6_undo_X6_fails : GoodIn wsX6_undo wsX6_fails := goodIn_r _ [8, 9, 14, 15, 16, 17, 18, 19, 20, 21, 22, 23, 24, 25, 26, 27, 28, 29] (by decide +kernel) (by decide +kernel)
set_option maxRecDepth 20000 in
theorem gX6_undo_X6_fails : GoodIn wsX6_undo (wsV RX6 101 RX6 yX6_fails wsX6_fails) := goodIn_app (goodIn_of _ (by decide +kernel)) ggX6_undo_X6_fails
set_option maxRecDepth 20000 in
theorem ggX6_undo_X6_tells : GoodIn wsX6_undo wsX6_tells := goodIn_r _ [13, 9, 14, 15, 16, 17, 18, 19, 20, 21, 22, 23, 24, 25, 26, 27, 28, 29] (by decide +kernel) (by decide +kernel)
set_option maxRecDepth 20000 in
theorem gX6_undo_X6_tells : GoodIn wsX6_undo (wsV RX6 39 RX6 yX6_tells wsX6_tells) := goodIn_app (goodIn_of _ (by decide +kernel)) ggX6_undo_X6_tells
