set_option maxRecDepth 20000 in
theorem ggX0_init_X3_init : GoodIn wsX0_init wsX3_init := goodIn_r _ [9, 10, 2, 3, 11, 12, 13, 14, 15, 16, 17, 18, 19, 20, 21, 22, 23, 24, 25, 26, 27, 28, 29, 30, 31, 32, 33, 34, 35] (by decide +kernel) (by decide +kernel)
set_option maxRecDepth 20000 in
theorem gX0_init_X3_init_n11 : GoodIn wsX0_init (wsX3_init) := ggX0_init_X3_init
theorem dX0_init_0 : decode cX0_init 0 = .ok (.aload_n 0, 1) := by decide +kernel
theorem dX0_init_1 : decode cX0_init 1 = .ok (.invokespecial 3, 3) := by decide +kernel
theorem dX0_init_4 : decode cX0_init 4 = .ok (.aload_n 0, 1) := by decide +kernel
theorem dX0_init_5 : decode cX0_init 5 = .ok (.iconst 4, 1) := by decide +kernel
theorem dX0_init_6 : decode cX0_init 6 = .ok (.anewarray 9, 3) := by decide +kernel
theorem dX0_init_9 : decode cX0_init 9 = .ok (.dup, 1) := by decide +kernel
theorem dX0_init_10 : decode cX0_init 10 = .ok (.iconst 0, 1) := by decide +kernel
theorem dX0_init_11 : decode cX0_init 11 = .ok (.new 9, 3) := by decide +kernel
theorem dX0_init_14 : decode cX0_init 14 = .ok (.dup, 1) := by decide +kernel
theorem dX0_init_15 : decode cX0_init 15 = .ok (.invokespecial 11, 3) := by decide +kernel
theorem dX0_init_18 : decode cX0_init 18 = .ok (.aastore, 1) := by decide +kernel
theorem dX0_init_19 : decode cX0_init 19 = .ok (.dup, 1) := by decide +kernel
theorem dX0_init_20 : decode cX0_init 20 = .ok (.iconst 1, 1) := by decide +kernel
theorem dX0_init_21 : decode cX0_init 21 = .ok (.new 9, 3) := by decide +kernel
theorem dX0_init_24 : decode cX0_init 24 = .ok (.dup, 1) := by decide +kernel
theorem dX0_init_25 : decode cX0_init 25 = .ok (.invokespecial 11, 3) := by decide +kernel
theorem dX0_init_28 : decode cX0_init 28 = .ok (.aastore, 1) := by decide +kernel
theorem dX0_init_29 : decode cX0_init 29 = .ok (.dup, 1) := by decide +kernel
theorem dX0_init_30 : decode cX0_init 30 = .ok (.iconst 2, 1) := by decide +kernel
theorem dX0_init_31 : decode cX0_init 31 = .ok (.new 9, 3) := by decide +kernel
theorem dX0_init_34 : decode cX0_init 34 = .ok (.dup, 1) := by decide +kernel
theorem dX0_init_35 : decode cX0_init 35 = .ok (.invokespecial 11, 3) := by decide +kernel
theorem dX0_init_38 : decode cX0_init 38 = .ok (.aastore, 1) := by decide +kernel
theorem dX0_init_39 : decode cX0_init 39 = .ok (.dup, 1) := by decide +kernel
theorem dX0_init_40 : decode cX0_init 40 = .ok (.iconst 3, 1) := by decide +kernel
theorem dX0_init_41 : decode cX0_init 41 = .ok (.new 9, 3) := by decide +kernel
theorem dX0_init_44 : decode cX0_init 44 = .ok (.dup, 1) := by decide +kernel
theorem dX0_init_45 : decode cX0_init 45 = .ok (.invokespecial 11, 3) := by decide +kernel
theorem dX0_init_48 : decode cX0_init 48 = .ok (.aastore, 1) := by decide +kernel
theorem dX0_init_49 : decode cX0_init 49 = .ok (.putfield 12, 3) := by decide +kernel
theorem dX0_init_52 : decode cX0_init 52 = .ok (.return_, 1) := by decide +kernel
set_option maxRecDepth 20000 in
theorem ggX0_save_X0_dropOldest : GoodIn wsX0_save wsX0_dropOldest := goodIn_r _ [6, 7, 1, 8, 9, 10, 5, 11, 34, 35] (by decide +kernel) (by decide +kernel)
set_option maxRecDepth 20000 in
theorem gX0_save_X0_dropOldest : GoodIn wsX0_save (wsV RX0 22 RX0 yX0_dropOldest wsX0_dropOldest) := goodIn_app (goodIn_of _ (by decide +kernel)) ggX0_save_X0_dropOldest
set_option maxRecDepth 20000 in
theorem ggX0_save_X0_slot : GoodIn wsX0_save wsX0_slot := goodIn_r _ [11, 7, 34, 35] (by decide +kernel) (by decide +kernel)
set_option maxRecDepth 20000 in
theorem gX0_save_X0_slot : GoodIn wsX0_save (wsV RX0 25 RX0 yX0_slot wsX0_slot) := goodIn_app (goodIn_of _ (by decide +kernel)) ggX0_save_X0_slot
set_option maxRecDepth 20000 in
theorem ggX0_save_X3_takeAll : GoodIn wsX0_save wsX3_takeAll := goodIn_r _ [16, 17, 18, 19, 20, 21, 22, 23, 24, 25, 15, 26, 27, 28, 29, 30, 31, 32, 33, 36, 37, 38, 39, 40, 41, 42, 43, 44] (by decide +kernel) (by decide +kernel)
set_option maxRecDepth 20000 in
theorem gX0_save_X3_takeAll : GoodIn wsX0_save (wsV RX0 29 RX3 yX3_takeAll wsX3_takeAll) := goodIn_app (goodIn_of _ (by decide +kernel)) ggX0_save_X3_takeAll
theorem dX0_save_0 : decode cX0_save 0 = .ok (.aload_n 0, 1) := by decide +kernel
theorem dX0_save_1 : decode cX0_save 1 = .ok (.getfield 18, 3) := by decide +kernel
theorem dX0_save_4 : decode cX0_save 4 = .ok (.iconst 4, 1) := by decide +kernel
theorem dX0_save_5 : decode cX0_save 5 = .ok (.if_icmp .lt 7, 3) := by decide +kernel
theorem dX0_save_8 : decode cX0_save 8 = .ok (.aload_n 0, 1) := by decide +kernel
theorem dX0_save_9 : decode cX0_save 9 = .ok (.invokevirtual 22, 3) := by decide +kernel
theorem dX0_save_12 : decode cX0_save 12 = .ok (.aload_n 0, 1) := by decide +kernel
theorem dX0_save_13 : decode cX0_save 13 = .ok (.aload_n 0, 1) := by decide +kernel
theorem dX0_save_14 : decode cX0_save 14 = .ok (.getfield 18, 3) := by decide +kernel
theorem dX0_save_17 : decode cX0_save 17 = .ok (.invokevirtual 25, 3) := by decide +kernel
theorem dX0_save_20 : decode cX0_save 20 = .ok (.astore_n 2, 1) := by decide +kernel
theorem dX0_save_21 : decode cX0_save 21 = .ok (.aload_n 2, 1) := by decide +kernel
theorem dX0_save_22 : decode cX0_save 22 = .ok (.ifnull 18, 3) := by decide +kernel
theorem dX0_save_25 : decode cX0_save 25 = .ok (.aload_n 2, 1) := by decide +kernel
theorem dX0_save_26 : decode cX0_save 26 = .ok (.aload_n 1, 1) := by decide +kernel
theorem dX0_save_27 : decode cX0_save 27 = .ok (.invokevirtual 29, 3) := by decide +kernel
theorem dX0_save_30 : decode cX0_save 30 = .ok (.aload_n 0, 1) := by decide +kernel
theorem dX0_save_31 : decode cX0_save 31 = .ok (.dup, 1) := by decide +kernel
theorem dX0_save_32 : decode cX0_save 32 = .ok (.getfield 18, 3) := by decide +kernel
theorem dX0_save_35 : decode cX0_save 35 = .ok (.iconst 1, 1) := by decide +kernel
theorem dX0_save_36 : decode cX0_save 36 = .ok (.iadd, 1) := by decide +kernel
theorem dX0_save_37 : decode cX0_save 37 = .ok (.putfield 18, 3) := by decide +kernel
theorem dX0_save_40 : decode cX0_save 40 = .ok (.return_, 1) := by decide +kernel
theorem dX0_slot_0 : decode cX0_slot 0 = .ok (.iload_n 1, 1) := by decide +kernel
theorem dX0_slot_1 : decode cX0_slot 1 = .ok (.ifCond .lt 21, 3) := by decide +kernel
theorem dX0_slot_4 : decode cX0_slot 4 = .ok (.iload_n 1, 1) := by decide +kernel
theorem dX0_slot_5 : decode cX0_slot 5 = .ok (.aload_n 0, 1) := by decide +kernel
theorem dX0_slot_6 : decode cX0_slot 6 = .ok (.getfield 12, 3) := by decide +kernel
theorem dX0_slot_9 : decode cX0_slot 9 = .ok (.arraylength, 1) := by decide +kernel
theorem dX0_slot_10 : decode cX0_slot 10 = .ok (.if_icmp .ge 12, 3) := by decide +kernel
theorem dX0_slot_13 : decode cX0_slot 13 = .ok (.aload_n 0, 1) := by decide +kernel
theorem dX0_slot_14 : decode cX0_slot 14 = .ok (.getfield 12, 3) := by decide +kernel
theorem dX0_slot_17 : decode cX0_slot 17 = .ok (.iload_n 1, 1) := by decide +kernel
theorem dX0_slot_18 : decode cX0_slot 18 = .ok (.aaload, 1) := by decide +kernel
theorem dX0_slot_19 : decode cX0_slot 19 = .ok (.goto 4, 3) := by decide +kernel
theorem dX0_slot_22 : decode cX0_slot 22 = .ok (.aconst_null, 1) := by decide +kernel
theorem dX0_slot_23 : decode cX0_slot 23 = .ok (.areturn, 1) := by decide +kernel
set_option maxRecDepth 20000 in
theorem ggX0_dropOldest_X0_slot : GoodIn wsX0_dropOldest wsX0_slot := goodIn_r _ [7, 1, 8, 9] (by decide +kernel) (by decide +kernel)
set_option maxRecDepth 20000 in
theorem gX0_dropOldest_X0_slot : GoodIn wsX0_dropOldest (wsV RX0 25 RX0 yX0_slot wsX0_slot) := goodIn_app (goodIn_of _ (by decide +kernel)) ggX0_dropOldest_X0_slot
theorem dX0_dropOldest_0 : decode cX0_dropOldest 0 = .ok (.aload_n 0, 1) := by decide +kernel
theorem dX0_dropOldest_1 : decode cX0_dropOldest 1 = .ok (.iconst 0, 1) := by decide +kernel
theorem dX0_dropOldest_2 : decode cX0_dropOldest 2 = .ok (.invokevirtual 25, 3) := by decide +kernel
theorem dX0_dropOldest_5 : decode cX0_dropOldest 5 = .ok (.astore_n 1, 1) := by decide +kernel
theorem dX0_dropOldest_6 : decode cX0_dropOldest 6 = .ok (.iconst 1, 1) := by decide +kernel
theorem dX0_dropOldest_7 : decode cX0_dropOldest 7 = .ok (.istore_n 2, 1) := by decide +kernel
theorem dX0_dropOldest_8 : decode cX0_dropOldest 8 = .ok (.iload_n 2, 1) := by decide +kernel
theorem dX0_dropOldest_9 : decode cX0_dropOldest 9 = .ok (.aload_n 0, 1) := by decide +kernel
theorem dX0_dropOldest_10 : decode cX0_dropOldest 10 = .ok (.getfield 12, 3) := by decide +kernel
theorem dX0_dropOldest_13 : decode cX0_dropOldest 13 = .ok (.arraylength, 1) := by decide +kernel
theorem dX0_dropOldest_14 : decode cX0_dropOldest 14 = .ok (.if_icmp .ge 23, 3) := by decide +kernel
theorem dX0_dropOldest_17 : decode cX0_dropOldest 17 = .ok (.aload_n 0, 1) := by decide +kernel
theorem dX0_dropOldest_18 : decode cX0_dropOldest 18 = .ok (.getfield 12, 3) := by decide +kernel
theorem dX0_dropOldest_21 : decode cX0_dropOldest 21 = .ok (.iload_n 2, 1) := by decide +kernel
theorem dX0_dropOldest_22 : decode cX0_dropOldest 22 = .ok (.iconst 1, 1) := by decide +kernel
theorem dX0_dropOldest_23 : decode cX0_dropOldest 23 = .ok (.isub, 1) := by decide +kernel
theorem dX0_dropOldest_24 : decode cX0_dropOldest 24 = .ok (.aload_n 0, 1) := by decide +kernel
theorem dX0_dropOldest_25 : decode cX0_dropOldest 25 = .ok (.getfield 12, 3) := by decide +kernel
theorem dX0_dropOldest_28 : decode cX0_dropOldest 28 = .ok (.iload_n 2, 1) := by decide +kernel
theorem dX0_dropOldest_29 : decode cX0_dropOldest 29 = .ok (.aaload, 1) := by decide +kernel
theorem dX0_dropOldest_30 : decode cX0_dropOldest 30 = .ok (.aastore, 1) := by decide +kernel
theorem dX0_dropOldest_31 : decode cX0_dropOldest 31 = .ok (.iinc 2 1, 3) := by decide +kernel
theorem dX0_dropOldest_34 : decode cX0_dropOldest 34 = .ok (.goto (-26), 3) := by decide +kernel
theorem dX0_dropOldest_37 : decode cX0_dropOldest 37 = .ok (.aload_n 0, 1) := by decide +kernel
theorem dX0_dropOldest_38 : decode cX0_dropOldest 38 = .ok (.getfield 12, 3) := by decide +kernel
theorem dX0_dropOldest_41 : decode cX0_dropOldest 41 = .ok (.arraylength, 1) := by decide +kernel
theorem dX0_dropOldest_42 : decode cX0_dropOldest 42 = .ok (.ifCond .le 16, 3) := by decide +kernel
theorem dX0_dropOldest_45 : decode cX0_dropOldest 45 = .ok (.aload_n 0, 1) := by decide +kernel
theorem dX0_dropOldest_46 : decode cX0_dropOldest 46 = .ok (.getfield 12, 3) := by decide +kernel
theorem dX0_dropOldest_49 : decode cX0_dropOldest 49 = .ok (.aload_n 0, 1) := by decide +kernel
theorem dX0_dropOldest_50 : decode cX0_dropOldest 50 = .ok (.getfield 12, 3) := by decide +kernel
theorem dX0_dropOldest_53 : decode cX0_dropOldest 53 = .ok (.arraylength, 1) := by decide +kernel
theorem dX0_dropOldest_54 : decode cX0_dropOldest 54 = .ok (.iconst 1, 1) := by decide +kernel
theorem dX0_dropOldest_55 : decode cX0_dropOldest 55 = .ok (.isub, 1) := by decide +kernel
theorem dX0_dropOldest_56 : decode cX0_dropOldest 56 = .ok (.aload_n 1, 1) := by decide +kernel
theorem dX0_dropOldest_57 : decode cX0_dropOldest 57 = .ok (.aastore, 1) := by decide +kernel
theorem dX0_dropOldest_58 : decode cX0_dropOldest 58 = .ok (.aload_n 0, 1) := by decide +kernel
theorem dX0_dropOldest_59 : decode cX0_dropOldest 59 = .ok (.dup, 1) := by decide +kernel
theorem dX0_dropOldest_60 : decode cX0_dropOldest 60 = .ok (.getfield 18, 3) := by decide +kernel
theorem dX0_dropOldest_63 : decode cX0_dropOldest 63 = .ok (.iconst 1, 1) := by decide +kernel
theorem dX0_dropOldest_64 : decode cX0_dropOldest 64 = .ok (.isub, 1) := by decide +kernel
theorem dX0_dropOldest_65 : decode cX0_dropOldest 65 = .ok (.putfield 18, 3) := by decide +kernel
theorem dX0_dropOldest_68 : decode cX0_dropOldest 68 = .ok (.return_, 1) := by decide +kernel
set_option maxRecDepth 20000 in
theorem ggX1_init_X2_init : GoodIn wsX1_init wsX2_init := goodIn_r _ [14, 15, 2, 3] (by decide +kernel) (by decide +kernel)
set_option maxRecDepth 20000 in
theorem gX1_init_X2_init_n26 : GoodIn wsX1_init (wsX2_init) := ggX1_init_X2_init
theorem dX1_init_0 : decode cX1_init 0 = .ok (.aload_n 0, 1) := by decide +kernel
theorem dX1_init_1 : decode cX1_init 1 = .ok (.invokespecial 3, 3) := by decide +kernel
theorem dX1_init_4 : decode cX1_init 4 = .ok (.aload_n 0, 1) := by decide +kernel
theorem dX1_init_5 : decode cX1_init 5 = .ok (.sipush 720, 3) := by decide +kernel
theorem dX1_init_8 : decode cX1_init 8 = .ok (.newarray .int, 2) := by decide +kernel
theorem dX1_init_10 : decode cX1_init 10 = .ok (.putfield 9, 3) := by decide +kernel
theorem dX1_init_13 : decode cX1_init 13 = .ok (.aload_n 0, 1) := by decide +kernel
theorem dX1_init_14 : decode cX1_init 14 = .ok (.sipush 360, 3) := by decide +kernel
theorem dX1_init_17 : decode cX1_init 17 = .ok (.newarray .int, 2) := by decide +kernel
theorem dX1_init_19 : decode cX1_init 19 = .ok (.putfield 15, 3) := by decide +kernel
theorem dX1_init_22 : decode cX1_init 22 = .ok (.aload_n 0, 1) := by decide +kernel
theorem dX1_init_23 : decode cX1_init 23 = .ok (.bipush 60, 2) := by decide +kernel
theorem dX1_init_25 : decode cX1_init 25 = .ok (.newarray .int, 2) := by decide +kernel
theorem dX1_init_27 : decode cX1_init 27 = .ok (.putfield 18, 3) := by decide +kernel
theorem dX1_init_30 : decode cX1_init 30 = .ok (.aload_n 0, 1) := by decide +kernel
theorem dX1_init_31 : decode cX1_init 31 = .ok (.bipush 6, 2) := by decide +kernel
theorem dX1_init_33 : decode cX1_init 33 = .ok (.newarray .int, 2) := by decide +kernel
theorem dX1_init_35 : decode cX1_init 35 = .ok (.putfield 21, 3) := by decide +kernel
theorem dX1_init_38 : decode cX1_init 38 = .ok (.aload_n 0, 1) := by decide +kernel
theorem dX1_init_39 : decode cX1_init 39 = .ok (.new 24, 3) := by decide +kernel
theorem dX1_init_42 : decode cX1_init 42 = .ok (.dup, 1) := by decide +kernel
theorem dX1_init_43 : decode cX1_init 43 = .ok (.invokespecial 26, 3) := by decide +kernel
theorem dX1_init_46 : decode cX1_init 46 = .ok (.putfield 27, 3) := by decide +kernel
theorem dX1_init_49 : decode cX1_init 49 = .ok (.return_, 1) := by decide +kernel
set_option maxRecDepth 20000 in
theorem ggX1_arrange_X1_fillPage : GoodIn wsX1_arrange wsX1_fillPage := goodIn_r _ [14, 7, 2, 9, 15, 16, 17, 18, 19, 20, 21, 22, 23, 24, 25, 26, 27, 28, 29, 30, 31, 32, 33, 34, 35, 36, 37, 38, 39, 40, 41, 42, 43, 44, 45, 46, 47, 48, 49, 50, 51, 52, 53, 54, 55, 56, 57, 58, 59, 60, 61, 62, 63, 64, 65, 66, 67, 68, 69, 70, 71, 72, 73, 74, 75, 76, 77, 78, 79, 80, 81, 82, 83, 84, 85, 86, 87, 88, 89, 90, 91, 92, 93, 13, 94, 95, 8, 96, 97, 98, 99, 100, 101, 102, 103, 104, 105, 106, 107, 108, 109, 110, 111, 112, 113, 114, 115, 116, 117, 118, 119, 120, 121, 122, 123, 124, 134, 135, 136, 137, 138, 139, 140, 125, 126, 127, 128, 129, 130, 131, 132, 133, 141, 142, 143, 144, 145, 146, 147, 148] (by decide +kernel) (by decide +kernel)
set_option maxRecDepth 20000 in
theorem gX1_arrange_X1_fillPage : GoodIn wsX1_arrange (wsV RX1 50 RX1 yX1_fillPage wsX1_fillPage) := goodIn_app (goodIn_of _ (by decide +kernel)) ggX1_arrange_X1_fillPage
theorem dX1_arrange_0 : decode cX1_arrange 0 = .ok (.aload_n 1, 1) := by decide +kernel
theorem dX1_arrange_1 : decode cX1_arrange 1 = .ok (.getfield 31, 3) := by decide +kernel
theorem dX1_arrange_4 : decode cX1_arrange 4 = .ok (.iconst 0, 1) := by decide +kernel
theorem dX1_arrange_5 : decode cX1_arrange 5 = .ok (.aload_n 0, 1) := by decide +kernel
theorem dX1_arrange_6 : decode cX1_arrange 6 = .ok (.getfield 21, 3) := by decide +kernel
theorem dX1_arrange_9 : decode cX1_arrange 9 = .ok (.iconst 0, 1) := by decide +kernel
theorem dX1_arrange_10 : decode cX1_arrange 10 = .ok (.bipush 6, 2) := by decide +kernel
theorem dX1_arrange_12 : decode cX1_arrange 12 = .ok (.invokestatic 34, 3) := by decide +kernel
theorem dX1_arrange_15 : decode cX1_arrange 15 = .ok (.aload_n 0, 1) := by decide +kernel
theorem dX1_arrange_16 : decode cX1_arrange 16 = .ok (.getfield 21, 3) := by decide +kernel
theorem dX1_arrange_19 : decode cX1_arrange 19 = .ok (.iconst 0, 1) := by decide +kernel
theorem dX1_arrange_20 : decode cX1_arrange 20 = .ok (.iload_n 2, 1) := by decide +kernel
theorem dX1_arrange_21 : decode cX1_arrange 21 = .ok (.iastore, 1) := by decide +kernel
theorem dX1_arrange_22 : decode cX1_arrange 22 = .ok (.aload_n 0, 1) := by decide +kernel
theorem dX1_arrange_23 : decode cX1_arrange 23 = .ok (.getfield 21, 3) := by decide +kernel
theorem dX1_arrange_26 : decode cX1_arrange 26 = .ok (.iconst 2, 1) := by decide +kernel
theorem dX1_arrange_27 : decode cX1_arrange 27 = .ok (.iload_n 3, 1) := by decide +kernel
theorem dX1_arrange_28 : decode cX1_arrange 28 = .ok (.iastore, 1) := by decide +kernel
theorem dX1_arrange_29 : decode cX1_arrange 29 = .ok (.aload_n 0, 1) := by decide +kernel
theorem dX1_arrange_30 : decode cX1_arrange 30 = .ok (.getfield 21, 3) := by decide +kernel
theorem dX1_arrange_33 : decode cX1_arrange 33 = .ok (.iconst 3, 1) := by decide +kernel
theorem dX1_arrange_34 : decode cX1_arrange 34 = .ok (.iload 4, 2) := by decide +kernel
theorem dX1_arrange_36 : decode cX1_arrange 36 = .ok (.iastore, 1) := by decide +kernel
theorem dX1_arrange_37 : decode cX1_arrange 37 = .ok (.aload_n 0, 1) := by decide +kernel
theorem dX1_arrange_38 : decode cX1_arrange 38 = .ok (.iconst 0, 1) := by decide +kernel
theorem dX1_arrange_39 : decode cX1_arrange 39 = .ok (.putfield 40, 3) := by decide +kernel
theorem dX1_arrange_42 : decode cX1_arrange 42 = .ok (.aload_n 0, 1) := by decide +kernel
theorem dX1_arrange_43 : decode cX1_arrange 43 = .ok (.iconst 0, 1) := by decide +kernel
theorem dX1_arrange_44 : decode cX1_arrange 44 = .ok (.putfield 44, 3) := by decide +kernel
theorem dX1_arrange_47 : decode cX1_arrange 47 = .ok (.iconst 0, 1) := by decide +kernel
theorem dX1_arrange_48 : decode cX1_arrange 48 = .ok (.istore 5, 2) := by decide +kernel
theorem dX1_arrange_50 : decode cX1_arrange 50 = .ok (.iconst 0, 1) := by decide +kernel
theorem dX1_arrange_51 : decode cX1_arrange 51 = .ok (.istore 6, 2) := by decide +kernel
theorem dX1_arrange_53 : decode cX1_arrange 53 = .ok (.iload 6, 2) := by decide +kernel
theorem dX1_arrange_55 : decode cX1_arrange 55 = .ok (.bipush 60, 2) := by decide +kernel
theorem dX1_arrange_57 : decode cX1_arrange 57 = .ok (.if_icmp .ge 27, 3) := by decide +kernel
theorem dX1_arrange_60 : decode cX1_arrange 60 = .ok (.iload 5, 2) := by decide +kernel
theorem dX1_arrange_62 : decode cX1_arrange 62 = .ok (.aload_n 1, 1) := by decide +kernel
theorem dX1_arrange_63 : decode cX1_arrange 63 = .ok (.getfield 47, 3) := by decide +kernel
theorem dX1_arrange_66 : decode cX1_arrange 66 = .ok (.if_icmp .ge 18, 3) := by decide +kernel
theorem dX1_arrange_69 : decode cX1_arrange 69 = .ok (.aload_n 0, 1) := by decide +kernel
theorem dX1_arrange_70 : decode cX1_arrange 70 = .ok (.aload_n 1, 1) := by decide +kernel
theorem dX1_arrange_71 : decode cX1_arrange 71 = .ok (.iload 5, 2) := by decide +kernel
theorem dX1_arrange_73 : decode cX1_arrange 73 = .ok (.invokevirtual 50, 3) := by decide +kernel
theorem dX1_arrange_76 : decode cX1_arrange 76 = .ok (.istore 5, 2) := by decide +kernel
theorem dX1_arrange_78 : decode cX1_arrange 78 = .ok (.iinc 6 1, 3) := by decide +kernel
theorem dX1_arrange_81 : decode cX1_arrange 81 = .ok (.goto (-28), 3) := by decide +kernel
theorem dX1_arrange_84 : decode cX1_arrange 84 = .ok (.return_, 1) := by decide +kernel
set_option maxRecDepth 20000 in
theorem ggX1_fillPage_X2_choose : GoodIn wsX1_fillPage wsX2_choose := goodIn_r _ [11, 12, 13, 14, 15, 16, 17, 18, 19, 20, 21, 22, 23, 24, 25, 26, 27, 28, 29, 30, 31, 32, 33, 34, 35, 36, 37, 38, 39, 40, 41, 42, 10, 43, 44, 45, 46, 47, 48, 49, 50, 51, 52, 53, 54, 55, 56, 57, 58, 59, 60, 61, 62, 63, 64, 65, 66, 67, 68, 69, 70, 71, 72, 73, 74, 75, 76, 77, 78, 132, 133, 134, 135, 136, 137, 138, 139, 123, 124, 125, 126, 127, 128, 129, 130, 131] (by decide +kernel) (by decide +kernel)
set_option maxRecDepth 20000 in
theorem gX1_fillPage_X2_choose : GoodIn wsX1_fillPage (wsV RX1 54 RX2 yX2_choose wsX2_choose) := goodIn_app (goodIn_of _ (by decide +kernel)) ggX1_fillPage_X2_choose
set_option maxRecDepth 20000 in
theorem ggX1_fillPage_X3_endsParagraph : GoodIn wsX1_fillPage wsX3_endsParagraph := goodIn_r _ [73, 74, 35, 31, 32, 33, 26, 34, 123, 124, 125, 126, 127, 128, 129, 130, 131] (by decide +kernel) (by decide +kernel)
set_option maxRecDepth 20000 in
theorem gX1_fillPage_X3_endsParagraph : GoodIn wsX1_fillPage (wsV RX1 61 RX3 yX3_endsParagraph wsX3_endsParagraph) := goodIn_app (goodIn_of _ (by decide +kernel)) ggX1_fillPage_X3_endsParagraph
set_option maxRecDepth 20000 in
theorem ggX1_fillPage_X1_addLine : GoodIn wsX1_fillPage wsX1_addLine := goodIn_r _ [84, 1, 85, 86, 4, 5, 87, 88, 89, 90, 91, 6, 92, 93, 20, 14, 21, 94, 95, 96, 97, 10, 98, 48, 17, 45, 75, 76, 77, 78, 46, 47, 116, 117, 118, 119, 120, 121, 122, 132, 133, 134, 135, 136, 137, 138, 139] (by decide +kernel) (by decide +kernel)
set_option maxRecDepth 20000 in
theorem gX1_fillPage_X1_addLine : GoodIn wsX1_fillPage (wsV RX1 65 RX1 yX1_addLine wsX1_addLine) := goodIn_app (goodIn_of _ (by decide +kernel)) ggX1_fillPage_X1_addLine
set_option maxRecDepth 20000 in
theorem ggX1_fillPage_X1_mayGiveBack : GoodIn wsX1_fillPage wsX1_mayGiveBack := goodIn_r _ [102, 1, 2, 103, 104, 105, 83, 106, 85, 116, 117, 118, 119, 120, 121, 122] (by decide +kernel) (by decide +kernel)
set_option maxRecDepth 20000 in
theorem gX1_fillPage_X1_mayGiveBack : GoodIn wsX1_fillPage (wsV RX1 72 RX1 yX1_mayGiveBack wsX1_mayGiveBack) := goodIn_app (goodIn_of _ (by decide +kernel)) ggX1_fillPage_X1_mayGiveBack
set_option maxRecDepth 20000 in
theorem ggX1_fillPage_X1_lineValue : GoodIn wsX1_fillPage wsX1_lineValue := goodIn_r _ [106, 85, 116, 117, 118, 119, 120, 121, 122] (by decide +kernel) (by decide +kernel)
set_option maxRecDepth 20000 in
theorem gX1_fillPage_X1_lineValue : GoodIn wsX1_fillPage (wsV RX1 75 RX1 yX1_lineValue wsX1_lineValue) := goodIn_app (goodIn_of _ (by decide +kernel)) ggX1_fillPage_X1_lineValue
set_option maxRecDepth 20000 in
theorem ggX1_fillPage_X1_addPage : GoodIn wsX1_fillPage wsX1_addPage := goodIn_r _ [110, 86, 1, 111, 112, 113, 114, 83, 115, 103, 104, 105, 106, 85, 116, 117, 118, 119, 120, 121, 122] (by decide +kernel) (by decide +kernel)
set_option maxRecDepth 20000 in
theorem gX1_fillPage_X1_addPage : GoodIn wsX1_fillPage (wsV RX1 79 RX1 yX1_addPage wsX1_addPage) := goodIn_app (goodIn_of _ (by decide +kernel)) ggX1_fillPage_X1_addPage
theorem dX1_fillPage_0 : decode cX1_fillPage 0 = .ok (.aload_n 0, 1) := by decide +kernel
theorem dX1_fillPage_1 : decode cX1_fillPage 1 = .ok (.getfield 40, 3) := by decide +kernel
theorem dX1_fillPage_4 : decode cX1_fillPage 4 = .ok (.istore_n 3, 1) := by decide +kernel
theorem dX1_fillPage_5 : decode cX1_fillPage 5 = .ok (.aload_n 0, 1) := by decide +kernel
theorem dX1_fillPage_6 : decode cX1_fillPage 6 = .ok (.getfield 21, 3) := by decide +kernel
theorem dX1_fillPage_9 : decode cX1_fillPage 9 = .ok (.iconst 1, 1) := by decide +kernel
theorem dX1_fillPage_10 : decode cX1_fillPage 10 = .ok (.iaload, 1) := by decide +kernel
theorem dX1_fillPage_11 : decode cX1_fillPage 11 = .ok (.istore 4, 2) := by decide +kernel
theorem dX1_fillPage_13 : decode cX1_fillPage 13 = .ok (.iload_n 2, 1) := by decide +kernel
theorem dX1_fillPage_14 : decode cX1_fillPage 14 = .ok (.istore 5, 2) := by decide +kernel
theorem dX1_fillPage_16 : decode cX1_fillPage 16 = .ok (.iconst 0, 1) := by decide +kernel
theorem dX1_fillPage_17 : decode cX1_fillPage 17 = .ok (.istore 6, 2) := by decide +kernel
theorem dX1_fillPage_19 : decode cX1_fillPage 19 = .ok (.iconst 0, 1) := by decide +kernel
theorem dX1_fillPage_20 : decode cX1_fillPage 20 = .ok (.istore 7, 2) := by decide +kernel
theorem dX1_fillPage_22 : decode cX1_fillPage 22 = .ok (.iload 7, 2) := by decide +kernel
theorem dX1_fillPage_24 : decode cX1_fillPage 24 = .ok (.iload 4, 2) := by decide +kernel
theorem dX1_fillPage_26 : decode cX1_fillPage 26 = .ok (.if_icmp .ge 84, 3) := by decide +kernel
theorem dX1_fillPage_29 : decode cX1_fillPage 29 = .ok (.iload 5, 2) := by decide +kernel
theorem dX1_fillPage_31 : decode cX1_fillPage 31 = .ok (.aload_n 1, 1) := by decide +kernel
theorem dX1_fillPage_32 : decode cX1_fillPage 32 = .ok (.getfield 47, 3) := by decide +kernel
theorem dX1_fillPage_35 : decode cX1_fillPage 35 = .ok (.if_icmp .ge 75, 3) := by decide +kernel
theorem dX1_fillPage_38 : decode cX1_fillPage 38 = .ok (.aload_n 0, 1) := by decide +kernel
theorem dX1_fillPage_39 : decode cX1_fillPage 39 = .ok (.getfield 27, 3) := by decide +kernel
theorem dX1_fillPage_42 : decode cX1_fillPage 42 = .ok (.aload_n 1, 1) := by decide +kernel
theorem dX1_fillPage_43 : decode cX1_fillPage 43 = .ok (.aload_n 0, 1) := by decide +kernel
theorem dX1_fillPage_44 : decode cX1_fillPage 44 = .ok (.getfield 21, 3) := by decide +kernel
theorem dX1_fillPage_47 : decode cX1_fillPage 47 = .ok (.iload 5, 2) := by decide +kernel
theorem dX1_fillPage_49 : decode cX1_fillPage 49 = .ok (.iload 6, 2) := by decide +kernel
theorem dX1_fillPage_51 : decode cX1_fillPage 51 = .ok (.iload 4, 2) := by decide +kernel
theorem dX1_fillPage_53 : decode cX1_fillPage 53 = .ok (.iconst 1, 1) := by decide +kernel
theorem dX1_fillPage_54 : decode cX1_fillPage 54 = .ok (.isub, 1) := by decide +kernel
theorem dX1_fillPage_55 : decode cX1_fillPage 55 = .ok (.iload 7, 2) := by decide +kernel
theorem dX1_fillPage_57 : decode cX1_fillPage 57 = .ok (.isub, 1) := by decide +kernel
theorem dX1_fillPage_58 : decode cX1_fillPage 58 = .ok (.invokevirtual 54, 3) := by decide +kernel
theorem dX1_fillPage_61 : decode cX1_fillPage 61 = .ok (.aload_n 0, 1) := by decide +kernel
theorem dX1_fillPage_62 : decode cX1_fillPage 62 = .ok (.iload 5, 2) := by decide +kernel
theorem dX1_fillPage_64 : decode cX1_fillPage 64 = .ok (.aload_n 1, 1) := by decide +kernel
theorem dX1_fillPage_65 : decode cX1_fillPage 65 = .ok (.iload 5, 2) := by decide +kernel
theorem dX1_fillPage_67 : decode cX1_fillPage 67 = .ok (.aload_n 0, 1) := by decide +kernel
theorem dX1_fillPage_68 : decode cX1_fillPage 68 = .ok (.getfield 27, 3) := by decide +kernel
theorem dX1_fillPage_71 : decode cX1_fillPage 71 = .ok (.getfield 58, 3) := by decide +kernel
theorem dX1_fillPage_74 : decode cX1_fillPage 74 = .ok (.iadd, 1) := by decide +kernel
theorem dX1_fillPage_75 : decode cX1_fillPage 75 = .ok (.iconst 1, 1) := by decide +kernel
theorem dX1_fillPage_76 : decode cX1_fillPage 76 = .ok (.isub, 1) := by decide +kernel
theorem dX1_fillPage_77 : decode cX1_fillPage 77 = .ok (.invokevirtual 61, 3) := by decide +kernel
theorem dX1_fillPage_80 : decode cX1_fillPage 80 = .ok (.invokevirtual 65, 3) := by decide +kernel
theorem dX1_fillPage_83 : decode cX1_fillPage 83 = .ok (.iload 5, 2) := by decide +kernel
theorem dX1_fillPage_85 : decode cX1_fillPage 85 = .ok (.aload_n 0, 1) := by decide +kernel
theorem dX1_fillPage_86 : decode cX1_fillPage 86 = .ok (.getfield 27, 3) := by decide +kernel
theorem dX1_fillPage_89 : decode cX1_fillPage 89 = .ok (.getfield 58, 3) := by decide +kernel
theorem dX1_fillPage_92 : decode cX1_fillPage 92 = .ok (.iadd, 1) := by decide +kernel
theorem dX1_fillPage_93 : decode cX1_fillPage 93 = .ok (.istore 5, 2) := by decide +kernel
theorem dX1_fillPage_95 : decode cX1_fillPage 95 = .ok (.aload_n 0, 1) := by decide +kernel
theorem dX1_fillPage_96 : decode cX1_fillPage 96 = .ok (.getfield 27, 3) := by decide +kernel
theorem dX1_fillPage_99 : decode cX1_fillPage 99 = .ok (.getfield 69, 3) := by decide +kernel
theorem dX1_fillPage_102 : decode cX1_fillPage 102 = .ok (.istore 6, 2) := by decide +kernel
theorem dX1_fillPage_104 : decode cX1_fillPage 104 = .ok (.iinc 7 1, 3) := by decide +kernel
theorem dX1_fillPage_107 : decode cX1_fillPage 107 = .ok (.goto (-85), 3) := by decide +kernel
theorem dX1_fillPage_110 : decode cX1_fillPage 110 = .ok (.iconst 0, 1) := by decide +kernel
theorem dX1_fillPage_111 : decode cX1_fillPage 111 = .ok (.istore 7, 2) := by decide +kernel
theorem dX1_fillPage_113 : decode cX1_fillPage 113 = .ok (.iload 5, 2) := by decide +kernel
theorem dX1_fillPage_115 : decode cX1_fillPage 115 = .ok (.aload_n 1, 1) := by decide +kernel
theorem dX1_fillPage_116 : decode cX1_fillPage 116 = .ok (.getfield 47, 3) := by decide +kernel
theorem dX1_fillPage_119 : decode cX1_fillPage 119 = .ok (.if_icmp .ge 48, 3) := by decide +kernel
theorem dX1_fillPage_122 : decode cX1_fillPage 122 = .ok (.aload_n 0, 1) := by decide +kernel
theorem dX1_fillPage_123 : decode cX1_fillPage 123 = .ok (.iload_n 3, 1) := by decide +kernel
theorem dX1_fillPage_124 : decode cX1_fillPage 124 = .ok (.invokevirtual 72, 3) := by decide +kernel
theorem dX1_fillPage_127 : decode cX1_fillPage 127 = .ok (.ifCond .eq 40, 3) := by decide +kernel
theorem dX1_fillPage_130 : decode cX1_fillPage 130 = .ok (.aload_n 0, 1) := by decide +kernel
theorem dX1_fillPage_131 : decode cX1_fillPage 131 = .ok (.getfield 27, 3) := by decide +kernel
theorem dX1_fillPage_134 : decode cX1_fillPage 134 = .ok (.aload_n 1, 1) := by decide +kernel
theorem dX1_fillPage_135 : decode cX1_fillPage 135 = .ok (.aload_n 0, 1) := by decide +kernel
theorem dX1_fillPage_136 : decode cX1_fillPage 136 = .ok (.getfield 21, 3) := by decide +kernel
theorem dX1_fillPage_139 : decode cX1_fillPage 139 = .ok (.iload 5, 2) := by decide +kernel
theorem dX1_fillPage_141 : decode cX1_fillPage 141 = .ok (.iconst 0, 1) := by decide +kernel
theorem dX1_fillPage_142 : decode cX1_fillPage 142 = .ok (.iload 4, 2) := by decide +kernel
theorem dX1_fillPage_144 : decode cX1_fillPage 144 = .ok (.iconst 1, 1) := by decide +kernel
theorem dX1_fillPage_145 : decode cX1_fillPage 145 = .ok (.isub, 1) := by decide +kernel
theorem dX1_fillPage_146 : decode cX1_fillPage 146 = .ok (.invokevirtual 54, 3) := by decide +kernel
theorem dX1_fillPage_149 : decode cX1_fillPage 149 = .ok (.aload_n 1, 1) := by decide +kernel
theorem dX1_fillPage_150 : decode cX1_fillPage 150 = .ok (.iload 5, 2) := by decide +kernel
theorem dX1_fillPage_152 : decode cX1_fillPage 152 = .ok (.aload_n 0, 1) := by decide +kernel
theorem dX1_fillPage_153 : decode cX1_fillPage 153 = .ok (.getfield 27, 3) := by decide +kernel
theorem dX1_fillPage_156 : decode cX1_fillPage 156 = .ok (.getfield 58, 3) := by decide +kernel
theorem dX1_fillPage_159 : decode cX1_fillPage 159 = .ok (.iadd, 1) := by decide +kernel
theorem dX1_fillPage_160 : decode cX1_fillPage 160 = .ok (.iconst 1, 1) := by decide +kernel
theorem dX1_fillPage_161 : decode cX1_fillPage 161 = .ok (.isub, 1) := by decide +kernel
theorem dX1_fillPage_162 : decode cX1_fillPage 162 = .ok (.invokevirtual 61, 3) := by decide +kernel
theorem dX1_fillPage_165 : decode cX1_fillPage 165 = .ok (.istore 7, 2) := by decide +kernel
theorem dX1_fillPage_167 : decode cX1_fillPage 167 = .ok (.iload 7, 2) := by decide +kernel
theorem dX1_fillPage_169 : decode cX1_fillPage 169 = .ok (.ifCond .eq 24, 3) := by decide +kernel
theorem dX1_fillPage_172 : decode cX1_fillPage 172 = .ok (.aload_n 0, 1) := by decide +kernel
theorem dX1_fillPage_173 : decode cX1_fillPage 173 = .ok (.dup, 1) := by decide +kernel
theorem dX1_fillPage_174 : decode cX1_fillPage 174 = .ok (.getfield 40, 3) := by decide +kernel
theorem dX1_fillPage_177 : decode cX1_fillPage 177 = .ok (.iconst 1, 1) := by decide +kernel
theorem dX1_fillPage_178 : decode cX1_fillPage 178 = .ok (.isub, 1) := by decide +kernel
theorem dX1_fillPage_179 : decode cX1_fillPage 179 = .ok (.putfield 40, 3) := by decide +kernel
theorem dX1_fillPage_182 : decode cX1_fillPage 182 = .ok (.aload_n 0, 1) := by decide +kernel
theorem dX1_fillPage_183 : decode cX1_fillPage 183 = .ok (.aload_n 0, 1) := by decide +kernel
theorem dX1_fillPage_184 : decode cX1_fillPage 184 = .ok (.getfield 40, 3) := by decide +kernel
theorem dX1_fillPage_187 : decode cX1_fillPage 187 = .ok (.iconst 1, 1) := by decide +kernel
theorem dX1_fillPage_188 : decode cX1_fillPage 188 = .ok (.invokevirtual 75, 3) := by decide +kernel
theorem dX1_fillPage_191 : decode cX1_fillPage 191 = .ok (.istore 5, 2) := by decide +kernel
theorem dX1_fillPage_193 : decode cX1_fillPage 193 = .ok (.aload_n 0, 1) := by decide +kernel
theorem dX1_fillPage_194 : decode cX1_fillPage 194 = .ok (.iload_n 3, 1) := by decide +kernel
theorem dX1_fillPage_195 : decode cX1_fillPage 195 = .ok (.iload 7, 2) := by decide +kernel
theorem dX1_fillPage_197 : decode cX1_fillPage 197 = .ok (.invokevirtual 79, 3) := by decide +kernel
theorem dX1_fillPage_200 : decode cX1_fillPage 200 = .ok (.iload 5, 2) := by decide +kernel
theorem dX1_fillPage_202 : decode cX1_fillPage 202 = .ok (.ireturn, 1) := by decide +kernel
set_option maxRecDepth 20000 in
theorem ggX1_mayGiveBack_X1_lineValue : GoodIn wsX1_mayGiveBack wsX1_lineValue := goodIn_r _ [7, 8, 9, 10, 11, 12, 13, 14, 15] (by decide +kernel) (by decide +kernel)
set_option maxRecDepth 20000 in
theorem gX1_mayGiveBack_X1_lineValue : GoodIn wsX1_mayGiveBack (wsV RX1 75 RX1 yX1_lineValue wsX1_lineValue) := goodIn_app (goodIn_of _ (by decide +kernel)) ggX1_mayGiveBack_X1_lineValue
theorem dX1_mayGiveBack_0 : decode cX1_mayGiveBack 0 = .ok (.aload_n 0, 1) := by decide +kernel
theorem dX1_mayGiveBack_1 : decode cX1_mayGiveBack 1 = .ok (.getfield 40, 3) := by decide +kernel
theorem dX1_mayGiveBack_4 : decode cX1_mayGiveBack 4 = .ok (.iload_n 1, 1) := by decide +kernel
theorem dX1_mayGiveBack_5 : decode cX1_mayGiveBack 5 = .ok (.isub, 1) := by decide +kernel
theorem dX1_mayGiveBack_6 : decode cX1_mayGiveBack 6 = .ok (.istore_n 2, 1) := by decide +kernel
theorem dX1_mayGiveBack_7 : decode cX1_mayGiveBack 7 = .ok (.iload_n 2, 1) := by decide +kernel
theorem dX1_mayGiveBack_8 : decode cX1_mayGiveBack 8 = .ok (.aload_n 0, 1) := by decide +kernel
theorem dX1_mayGiveBack_9 : decode cX1_mayGiveBack 9 = .ok (.getfield 21, 3) := by decide +kernel
theorem dX1_mayGiveBack_12 : decode cX1_mayGiveBack 12 = .ok (.iconst 1, 1) := by decide +kernel
theorem dX1_mayGiveBack_13 : decode cX1_mayGiveBack 13 = .ok (.iaload, 1) := by decide +kernel
theorem dX1_mayGiveBack_14 : decode cX1_mayGiveBack 14 = .ok (.if_icmp .ne 7, 3) := by decide +kernel
theorem dX1_mayGiveBack_17 : decode cX1_mayGiveBack 17 = .ok (.iconst 1, 1) := by decide +kernel
theorem dX1_mayGiveBack_18 : decode cX1_mayGiveBack 18 = .ok (.goto 4, 3) := by decide +kernel
theorem dX1_mayGiveBack_21 : decode cX1_mayGiveBack 21 = .ok (.iconst 0, 1) := by decide +kernel
theorem dX1_mayGiveBack_22 : decode cX1_mayGiveBack 22 = .ok (.istore_n 3, 1) := by decide +kernel
theorem dX1_mayGiveBack_23 : decode cX1_mayGiveBack 23 = .ok (.aload_n 0, 1) := by decide +kernel
theorem dX1_mayGiveBack_24 : decode cX1_mayGiveBack 24 = .ok (.getfield 21, 3) := by decide +kernel
theorem dX1_mayGiveBack_27 : decode cX1_mayGiveBack 27 = .ok (.iconst 5, 1) := by decide +kernel
theorem dX1_mayGiveBack_28 : decode cX1_mayGiveBack 28 = .ok (.iaload, 1) := by decide +kernel
theorem dX1_mayGiveBack_29 : decode cX1_mayGiveBack 29 = .ok (.iconst 1, 1) := by decide +kernel
theorem dX1_mayGiveBack_30 : decode cX1_mayGiveBack 30 = .ok (.if_icmp .ne 31, 3) := by decide +kernel
theorem dX1_mayGiveBack_33 : decode cX1_mayGiveBack 33 = .ok (.iload_n 3, 1) := by decide +kernel
theorem dX1_mayGiveBack_34 : decode cX1_mayGiveBack 34 = .ok (.ifCond .eq 27, 3) := by decide +kernel
theorem dX1_mayGiveBack_37 : decode cX1_mayGiveBack 37 = .ok (.iload_n 2, 1) := by decide +kernel
theorem dX1_mayGiveBack_38 : decode cX1_mayGiveBack 38 = .ok (.iconst 1, 1) := by decide +kernel
theorem dX1_mayGiveBack_39 : decode cX1_mayGiveBack 39 = .ok (.if_icmp .le 22, 3) := by decide +kernel
theorem dX1_mayGiveBack_42 : decode cX1_mayGiveBack 42 = .ok (.aload_n 0, 1) := by decide +kernel
theorem dX1_mayGiveBack_43 : decode cX1_mayGiveBack 43 = .ok (.aload_n 0, 1) := by decide +kernel
theorem dX1_mayGiveBack_44 : decode cX1_mayGiveBack 44 = .ok (.getfield 40, 3) := by decide +kernel
theorem dX1_mayGiveBack_47 : decode cX1_mayGiveBack 47 = .ok (.iconst 1, 1) := by decide +kernel
theorem dX1_mayGiveBack_48 : decode cX1_mayGiveBack 48 = .ok (.isub, 1) := by decide +kernel
theorem dX1_mayGiveBack_49 : decode cX1_mayGiveBack 49 = .ok (.bipush 10, 2) := by decide +kernel
theorem dX1_mayGiveBack_51 : decode cX1_mayGiveBack 51 = .ok (.invokevirtual 75, 3) := by decide +kernel
theorem dX1_mayGiveBack_54 : decode cX1_mayGiveBack 54 = .ok (.ifCond .ne 7, 3) := by decide +kernel
theorem dX1_mayGiveBack_57 : decode cX1_mayGiveBack 57 = .ok (.iconst 1, 1) := by decide +kernel
theorem dX1_mayGiveBack_58 : decode cX1_mayGiveBack 58 = .ok (.goto 4, 3) := by decide +kernel
theorem dX1_mayGiveBack_61 : decode cX1_mayGiveBack 61 = .ok (.iconst 0, 1) := by decide +kernel
theorem dX1_mayGiveBack_62 : decode cX1_mayGiveBack 62 = .ok (.ireturn, 1) := by decide +kernel
set_option maxRecDepth 20000 in
theorem ggX1_addLine_X2_empty : GoodIn wsX1_addLine wsX2_empty := goodIn_r _ [22, 23, 24, 25, 26, 27, 28, 21, 29, 30, 31, 39, 40, 41, 42, 43, 44, 45, 46] (by decide +kernel) (by decide +kernel)
set_option maxRecDepth 20000 in
theorem gX1_addLine_X2_empty : GoodIn wsX1_addLine (wsV RX1 101 RX2 yX2_empty wsX2_empty) := goodIn_app (goodIn_of _ (by decide +kernel)) ggX1_addLine_X2_empty
theorem dX1_addLine_0 : decode cX1_addLine 0 = .ok (.aload_n 0, 1) := by decide +kernel
theorem dX1_addLine_1 : decode cX1_addLine 1 = .ok (.getfield 40, 3) := by decide +kernel
theorem dX1_addLine_4 : decode cX1_addLine 4 = .ok (.bipush 60, 2) := by decide +kernel
theorem dX1_addLine_6 : decode cX1_addLine 6 = .ok (.if_icmp .lt 4, 3) := by decide +kernel
theorem dX1_addLine_9 : decode cX1_addLine 9 = .ok (.return_, 1) := by decide +kernel
theorem dX1_addLine_10 : decode cX1_addLine 10 = .ok (.aload_n 0, 1) := by decide +kernel
theorem dX1_addLine_11 : decode cX1_addLine 11 = .ok (.getfield 40, 3) := by decide +kernel
theorem dX1_addLine_14 : decode cX1_addLine 14 = .ok (.bipush 12, 2) := by decide +kernel
theorem dX1_addLine_16 : decode cX1_addLine 16 = .ok (.imul, 1) := by decide +kernel
theorem dX1_addLine_17 : decode cX1_addLine 17 = .ok (.istore_n 3, 1) := by decide +kernel
theorem dX1_addLine_18 : decode cX1_addLine 18 = .ok (.aload_n 0, 1) := by decide +kernel
theorem dX1_addLine_19 : decode cX1_addLine 19 = .ok (.getfield 9, 3) := by decide +kernel
theorem dX1_addLine_22 : decode cX1_addLine 22 = .ok (.iload_n 3, 1) := by decide +kernel
theorem dX1_addLine_23 : decode cX1_addLine 23 = .ok (.iconst 0, 1) := by decide +kernel
theorem dX1_addLine_24 : decode cX1_addLine 24 = .ok (.iadd, 1) := by decide +kernel
theorem dX1_addLine_25 : decode cX1_addLine 25 = .ok (.aload_n 0, 1) := by decide +kernel
theorem dX1_addLine_26 : decode cX1_addLine 26 = .ok (.getfield 44, 3) := by decide +kernel
theorem dX1_addLine_29 : decode cX1_addLine 29 = .ok (.iastore, 1) := by decide +kernel
theorem dX1_addLine_30 : decode cX1_addLine 30 = .ok (.aload_n 0, 1) := by decide +kernel
theorem dX1_addLine_31 : decode cX1_addLine 31 = .ok (.getfield 9, 3) := by decide +kernel
theorem dX1_addLine_34 : decode cX1_addLine 34 = .ok (.iload_n 3, 1) := by decide +kernel
theorem dX1_addLine_35 : decode cX1_addLine 35 = .ok (.iconst 1, 1) := by decide +kernel
theorem dX1_addLine_36 : decode cX1_addLine 36 = .ok (.iadd, 1) := by decide +kernel
theorem dX1_addLine_37 : decode cX1_addLine 37 = .ok (.iload_n 1, 1) := by decide +kernel
theorem dX1_addLine_38 : decode cX1_addLine 38 = .ok (.iastore, 1) := by decide +kernel
theorem dX1_addLine_39 : decode cX1_addLine 39 = .ok (.aload_n 0, 1) := by decide +kernel
theorem dX1_addLine_40 : decode cX1_addLine 40 = .ok (.getfield 9, 3) := by decide +kernel
theorem dX1_addLine_43 : decode cX1_addLine 43 = .ok (.iload_n 3, 1) := by decide +kernel
theorem dX1_addLine_44 : decode cX1_addLine 44 = .ok (.iconst 2, 1) := by decide +kernel
theorem dX1_addLine_45 : decode cX1_addLine 45 = .ok (.iadd, 1) := by decide +kernel
theorem dX1_addLine_46 : decode cX1_addLine 46 = .ok (.aload_n 0, 1) := by decide +kernel
theorem dX1_addLine_47 : decode cX1_addLine 47 = .ok (.getfield 27, 3) := by decide +kernel
theorem dX1_addLine_50 : decode cX1_addLine 50 = .ok (.getfield 58, 3) := by decide +kernel
theorem dX1_addLine_53 : decode cX1_addLine 53 = .ok (.iastore, 1) := by decide +kernel
theorem dX1_addLine_54 : decode cX1_addLine 54 = .ok (.aload_n 0, 1) := by decide +kernel
theorem dX1_addLine_55 : decode cX1_addLine 55 = .ok (.getfield 9, 3) := by decide +kernel
theorem dX1_addLine_58 : decode cX1_addLine 58 = .ok (.iload_n 3, 1) := by decide +kernel
theorem dX1_addLine_59 : decode cX1_addLine 59 = .ok (.iconst 3, 1) := by decide +kernel
theorem dX1_addLine_60 : decode cX1_addLine 60 = .ok (.iadd, 1) := by decide +kernel
theorem dX1_addLine_61 : decode cX1_addLine 61 = .ok (.aload_n 0, 1) := by decide +kernel
theorem dX1_addLine_62 : decode cX1_addLine 62 = .ok (.getfield 27, 3) := by decide +kernel
theorem dX1_addLine_65 : decode cX1_addLine 65 = .ok (.getfield 82, 3) := by decide +kernel
theorem dX1_addLine_68 : decode cX1_addLine 68 = .ok (.iastore, 1) := by decide +kernel
theorem dX1_addLine_69 : decode cX1_addLine 69 = .ok (.aload_n 0, 1) := by decide +kernel
theorem dX1_addLine_70 : decode cX1_addLine 70 = .ok (.getfield 9, 3) := by decide +kernel
theorem dX1_addLine_73 : decode cX1_addLine 73 = .ok (.iload_n 3, 1) := by decide +kernel
theorem dX1_addLine_74 : decode cX1_addLine 74 = .ok (.iconst 4, 1) := by decide +kernel
theorem dX1_addLine_75 : decode cX1_addLine 75 = .ok (.iadd, 1) := by decide +kernel
theorem dX1_addLine_76 : decode cX1_addLine 76 = .ok (.aload_n 0, 1) := by decide +kernel
theorem dX1_addLine_77 : decode cX1_addLine 77 = .ok (.getfield 27, 3) := by decide +kernel
theorem dX1_addLine_80 : decode cX1_addLine 80 = .ok (.getfield 85, 3) := by decide +kernel
theorem dX1_addLine_83 : decode cX1_addLine 83 = .ok (.iastore, 1) := by decide +kernel
theorem dX1_addLine_84 : decode cX1_addLine 84 = .ok (.aload_n 0, 1) := by decide +kernel
theorem dX1_addLine_85 : decode cX1_addLine 85 = .ok (.getfield 9, 3) := by decide +kernel
theorem dX1_addLine_88 : decode cX1_addLine 88 = .ok (.iload_n 3, 1) := by decide +kernel
theorem dX1_addLine_89 : decode cX1_addLine 89 = .ok (.iconst 5, 1) := by decide +kernel
theorem dX1_addLine_90 : decode cX1_addLine 90 = .ok (.iadd, 1) := by decide +kernel
theorem dX1_addLine_91 : decode cX1_addLine 91 = .ok (.aload_n 0, 1) := by decide +kernel
theorem dX1_addLine_92 : decode cX1_addLine 92 = .ok (.getfield 27, 3) := by decide +kernel
theorem dX1_addLine_95 : decode cX1_addLine 95 = .ok (.getfield 88, 3) := by decide +kernel
