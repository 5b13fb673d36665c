theorem inJ10 : ∀ w ∈ wsJ100, w ∈ lw_tbl := by decide +kernel
set_option maxRecDepth 20000 in
theorem ggX0_init_X3_init : GoodIn wsX0_init wsX3_init := goodIn_r _ [9, 10, 2, 3, 11, 12, 13, 14, 15, 16, 17, 18, 19, 20, 21, 22, 23, 24, 25, 26, 27, 28, 29, 30, 31, 32, 33, 34, 35] (by decide +kernel) (by decide +kernel)
set_option maxRecDepth 20000 in
theorem gX0_init_X3_init_n11 : GoodIn wsX0_init (wsX3_init) := ggX0_init_X3_init
theorem dX0_init_0 : decode cX0_init 0 = .ok (.aload_n 0, 1) := by decide +kernel
theorem dX0_init_1 : decode cX0_init 1 = .ok (.invokespecial 3, 3) := by decide +kernel
theorem dX0_init_4 : decode cX0_init 4 = .ok (.aload_n 0, 1) := by decide +kernel
theorem dX0_init_5 : decode cX0_init 5 = .ok (.iconst 4, 1) := by decide +kernel
theorem dX0_init_6 : decode cX0_init 6 = .ok (.anewarray 9, 3) := by decide +kernel
theorem dX0_init_9 : decode cX0_init 9 = .ok (.dup, 1) := by decide +kernel
theorem dX0_init_10 : decode cX0_init 10 = .ok (.iconst 0, 1) := by decide +kernel
theorem dX0_init_11 : decode cX0_init 11 = .ok (.new 9, 3) := by decide +kernel
theorem dX0_init_14 : decode cX0_init 14 = .ok (.dup, 1) := by decide +kernel
theorem dX0_init_15 : decode cX0_init 15 = .ok (.invokespecial 11, 3) := by decide +kernel
theorem dX0_init_18 : decode cX0_init 18 = .ok (.aastore, 1) := by decide +kernel
theorem dX0_init_19 : decode cX0_init 19 = .ok (.dup, 1) := by decide +kernel
theorem dX0_init_20 : decode cX0_init 20 = .ok (.iconst 1, 1) := by decide +kernel
theorem dX0_init_21 : decode cX0_init 21 = .ok (.new 9, 3) := by decide +kernel
theorem dX0_init_24 : decode cX0_init 24 = .ok (.dup, 1) := by decide +kernel
theorem dX0_init_25 : decode cX0_init 25 = .ok (.invokespecial 11, 3) := by decide +kernel
theorem dX0_init_28 : decode cX0_init 28 = .ok (.aastore, 1) := by decide +kernel
theorem dX0_init_29 : decode cX0_init 29 = .ok (.dup, 1) := by decide +kernel
theorem dX0_init_30 : decode cX0_init 30 = .ok (.iconst 2, 1) := by decide +kernel
theorem dX0_init_31 : decode cX0_init 31 = .ok (.new 9, 3) := by decide +kernel
theorem dX0_init_34 : decode cX0_init 34 = .ok (.dup, 1) := by decide +kernel
theorem dX0_init_35 : decode cX0_init 35 = .ok (.invokespecial 11, 3) := by decide +kernel
theorem dX0_init_38 : decode cX0_init 38 = .ok (.aastore, 1) := by decide +kernel
theorem dX0_init_39 : decode cX0_init 39 = .ok (.dup, 1) := by decide +kernel
theorem dX0_init_40 : decode cX0_init 40 = .ok (.iconst 3, 1) := by decide +kernel
theorem dX0_init_41 : decode cX0_init 41 = .ok (.new 9, 3) := by decide +kernel
theorem dX0_init_44 : decode cX0_init 44 = .ok (.dup, 1) := by decide +kernel
theorem dX0_init_45 : decode cX0_init 45 = .ok (.invokespecial 11, 3) := by decide +kernel
theorem dX0_init_48 : decode cX0_init 48 = .ok (.aastore, 1) := by decide +kernel
theorem dX0_init_49 : decode cX0_init 49 = .ok (.putfield 12, 3) := by decide +kernel
theorem dX0_init_52 : decode cX0_init 52 = .ok (.return_, 1) := by decide +kernel
set_option maxRecDepth 20000 in
theorem ggX0_save_X0_dropOldest : GoodIn wsX0_save wsX0_dropOldest := goodIn_r _ [6, 7, 1, 8, 9, 10, 5, 11, 34, 35] (by decide +kernel) (by decide +kernel)
set_option maxRecDepth 20000 in
theorem gX0_save_X0_dropOldest : GoodIn wsX0_save (wsV RX0 22 RX0 yX0_dropOldest wsX0_dropOldest) := goodIn_app (goodIn_of _ (by decide +kernel)) ggX0_save_X0_dropOldest
set_option maxRecDepth 20000 in
theorem ggX0_save_X0_slot : GoodIn wsX0_save wsX0_slot := goodIn_r _ [11, 7, 34, 35] (by decide +kernel) (by decide +kernel)
set_option maxRecDepth 20000 in
theorem gX0_save_X0_slot : GoodIn wsX0_save (wsV RX0 25 RX0 yX0_slot wsX0_slot) := goodIn_app (goodIn_of _ (by decide +kernel)) ggX0_save_X0_slot
set_option maxRecDepth 20000 in
theorem ggX0_save_X3_takeAll : GoodIn wsX0_save wsX3_takeAll := goodIn_r _ [16, 17, 18, 19, 20, 21, 22, 23, 24, 25, 15, 26, 27, 28, 29, 30, 31, 32, 33, 36, 37, 38, 39, 40, 41, 42, 43, 44] (by decide +kernel) (by decide +kernel)
set_option maxRecDepth 20000 in
theorem gX0_save_X3_takeAll : GoodIn wsX0_save (wsV RX0 29 RX3 yX3_takeAll wsX3_takeAll) := goodIn_app (goodIn_of _ (by decide +kernel)) ggX0_save_X3_takeAll
theorem dX0_save_0 : decode cX0_save 0 = .ok (.aload_n 0, 1) := by decide +kernel
theorem dX0_save_1 : decode cX0_save 1 = .ok (.getfield 18, 3) := by decide +kernel
theorem dX0_save_4 : decode cX0_save 4 = .ok (.iconst 4, 1) := by decide +kernel
theorem dX0_save_5 : decode cX0_save 5 = .ok (.if_icmp .lt 7, 3) := by decide +kernel
theorem dX0_save_8 : decode cX0_save 8 = .ok (.aload_n 0, 1) := by decide +kernel
theorem dX0_save_9 : decode cX0_save 9 = .ok (.invokevirtual 22, 3) := by decide +kernel
theorem dX0_save_12 : decode cX0_save 12 = .ok (.aload_n 0, 1) := by decide +kernel
theorem dX0_save_13 : decode cX0_save 13 = .ok (.aload_n 0, 1) := by decide +kernel
theorem dX0_save_14 : decode cX0_save 14 = .ok (.getfield 18, 3) := by decide +kernel
theorem dX0_save_17 : decode cX0_save 17 = .ok (.invokevirtual 25, 3) := by decide +kernel
theorem dX0_save_20 : decode cX0_save 20 = .ok (.astore_n 2, 1) := by decide +kernel
theorem dX0_save_21 : decode cX0_save 21 = .ok (.aload_n 2, 1) := by decide +kernel
theorem dX0_save_22 : decode cX0_save 22 = .ok (.ifnull 18, 3) := by decide +kernel
theorem dX0_save_25 : decode cX0_save 25 = .ok (.aload_n 2, 1) := by decide +kernel
theorem dX0_save_26 : decode cX0_save 26 = .ok (.aload_n 1, 1) := by decide +kernel
theorem dX0_save_27 : decode cX0_save 27 = .ok (.invokevirtual 29, 3) := by decide +kernel
theorem dX0_save_30 : decode cX0_save 30 = .ok (.aload_n 0, 1) := by decide +kernel
theorem dX0_save_31 : decode cX0_save 31 = .ok (.dup, 1) := by decide +kernel
theorem dX0_save_32 : decode cX0_save 32 = .ok (.getfield 18, 3) := by decide +kernel
theorem dX0_save_35 : decode cX0_save 35 = .ok (.iconst 1, 1) := by decide +kernel
theorem dX0_save_36 : decode cX0_save 36 = .ok (.iadd, 1) := by decide +kernel
theorem dX0_save_37 : decode cX0_save 37 = .ok (.putfield 18, 3) := by decide +kernel
theorem dX0_save_40 : decode cX0_save 40 = .ok (.return_, 1) := by decide +kernel
set_option maxRecDepth 20000 in
theorem ggX0_restore_X0_slot : GoodIn wsX0_restore wsX0_slot := goodIn_r _ [6, 7, 30, 31] (by decide +kernel) (by decide +kernel)
set_option maxRecDepth 20000 in
theorem gX0_restore_X0_slot : GoodIn wsX0_restore (wsV RX0 25 RX0 yX0_slot wsX0_slot) := goodIn_app (goodIn_of _ (by decide +kernel)) ggX0_restore_X0_slot
set_option maxRecDepth 20000 in
theorem ggX0_restore_X3_takeAll : GoodIn wsX0_restore wsX3_takeAll := goodIn_r _ [12, 13, 14, 15, 16, 17, 18, 19, 20, 21, 11, 22, 23, 24, 25, 26, 27, 28, 29, 32, 33, 34, 35, 36, 37, 38, 39, 40] (by decide +kernel) (by decide +kernel)
set_option maxRecDepth 20000 in
theorem gX0_restore_X3_takeAll : GoodIn wsX0_restore (wsV RX0 29 RX3 yX3_takeAll wsX3_takeAll) := goodIn_app (goodIn_of _ (by decide +kernel)) ggX0_restore_X3_takeAll
theorem dX0_restore_0 : decode cX0_restore 0 = .ok (.aload_n 0, 1) := by decide +kernel
theorem dX0_restore_1 : decode cX0_restore 1 = .ok (.aload_n 0, 1) := by decide +kernel
theorem dX0_restore_2 : decode cX0_restore 2 = .ok (.getfield 18, 3) := by decide +kernel
theorem dX0_restore_5 : decode cX0_restore 5 = .ok (.iconst 1, 1) := by decide +kernel
theorem dX0_restore_6 : decode cX0_restore 6 = .ok (.isub, 1) := by decide +kernel
theorem dX0_restore_7 : decode cX0_restore 7 = .ok (.invokevirtual 25, 3) := by decide +kernel
theorem dX0_restore_10 : decode cX0_restore 10 = .ok (.astore_n 2, 1) := by decide +kernel
theorem dX0_restore_11 : decode cX0_restore 11 = .ok (.aload_n 2, 1) := by decide +kernel
theorem dX0_restore_12 : decode cX0_restore 12 = .ok (.ifnull 18, 3) := by decide +kernel
theorem dX0_restore_15 : decode cX0_restore 15 = .ok (.aload_n 1, 1) := by decide +kernel
theorem dX0_restore_16 : decode cX0_restore 16 = .ok (.aload_n 2, 1) := by decide +kernel
theorem dX0_restore_17 : decode cX0_restore 17 = .ok (.invokevirtual 29, 3) := by decide +kernel
theorem dX0_restore_20 : decode cX0_restore 20 = .ok (.aload_n 0, 1) := by decide +kernel
theorem dX0_restore_21 : decode cX0_restore 21 = .ok (.dup, 1) := by decide +kernel
theorem dX0_restore_22 : decode cX0_restore 22 = .ok (.getfield 18, 3) := by decide +kernel
theorem dX0_restore_25 : decode cX0_restore 25 = .ok (.iconst 1, 1) := by decide +kernel
theorem dX0_restore_26 : decode cX0_restore 26 = .ok (.isub, 1) := by decide +kernel
theorem dX0_restore_27 : decode cX0_restore 27 = .ok (.putfield 18, 3) := by decide +kernel
theorem dX0_restore_30 : decode cX0_restore 30 = .ok (.return_, 1) := by decide +kernel
theorem dX0_slot_0 : decode cX0_slot 0 = .ok (.iload_n 1, 1) := by decide +kernel
theorem dX0_slot_1 : decode cX0_slot 1 = .ok (.ifCond .lt 21, 3) := by decide +kernel
theorem dX0_slot_4 : decode cX0_slot 4 = .ok (.iload_n 1, 1) := by decide +kernel
theorem dX0_slot_5 : decode cX0_slot 5 = .ok (.aload_n 0, 1) := by decide +kernel
theorem dX0_slot_6 : decode cX0_slot 6 = .ok (.getfield 12, 3) := by decide +kernel
theorem dX0_slot_9 : decode cX0_slot 9 = .ok (.arraylength, 1) := by decide +kernel
theorem dX0_slot_10 : decode cX0_slot 10 = .ok (.if_icmp .ge 12, 3) := by decide +kernel
theorem dX0_slot_13 : decode cX0_slot 13 = .ok (.aload_n 0, 1) := by decide +kernel
theorem dX0_slot_14 : decode cX0_slot 14 = .ok (.getfield 12, 3) := by decide +kernel
theorem dX0_slot_17 : decode cX0_slot 17 = .ok (.iload_n 1, 1) := by decide +kernel
theorem dX0_slot_18 : decode cX0_slot 18 = .ok (.aaload, 1) := by decide +kernel
theorem dX0_slot_19 : decode cX0_slot 19 = .ok (.goto 4, 3) := by decide +kernel
theorem dX0_slot_22 : decode cX0_slot 22 = .ok (.aconst_null, 1) := by decide +kernel
theorem dX0_slot_23 : decode cX0_slot 23 = .ok (.areturn, 1) := by decide +kernel
set_option maxRecDepth 20000 in
theorem ggX0_dropOldest_X0_slot : GoodIn wsX0_dropOldest wsX0_slot := goodIn_r _ [7, 1, 8, 9] (by decide +kernel) (by decide +kernel)
set_option maxRecDepth 20000 in
theorem gX0_dropOldest_X0_slot : GoodIn wsX0_dropOldest (wsV RX0 25 RX0 yX0_slot wsX0_slot) := goodIn_app (goodIn_of _ (by decide +kernel)) ggX0_dropOldest_X0_slot
theorem dX0_dropOldest_0 : decode cX0_dropOldest 0 = .ok (.aload_n 0, 1) := by decide +kernel
theorem dX0_dropOldest_1 : decode cX0_dropOldest 1 = .ok (.iconst 0, 1) := by decide +kernel
theorem dX0_dropOldest_2 : decode cX0_dropOldest 2 = .ok (.invokevirtual 25, 3) := by decide +kernel
theorem dX0_dropOldest_5 : decode cX0_dropOldest 5 = .ok (.astore_n 1, 1) := by decide +kernel
theorem dX0_dropOldest_6 : decode cX0_dropOldest 6 = .ok (.iconst 1, 1) := by decide +kernel
theorem dX0_dropOldest_7 : decode cX0_dropOldest 7 = .ok (.istore_n 2, 1) := by decide +kernel
theorem dX0_dropOldest_8 : decode cX0_dropOldest 8 = .ok (.iload_n 2, 1) := by decide +kernel
theorem dX0_dropOldest_9 : decode cX0_dropOldest 9 = .ok (.aload_n 0, 1) := by decide +kernel
theorem dX0_dropOldest_10 : decode cX0_dropOldest 10 = .ok (.getfield 12, 3) := by decide +kernel
theorem dX0_dropOldest_13 : decode cX0_dropOldest 13 = .ok (.arraylength, 1) := by decide +kernel
theorem dX0_dropOldest_14 : decode cX0_dropOldest 14 = .ok (.if_icmp .ge 23, 3) := by decide +kernel
theorem dX0_dropOldest_17 : decode cX0_dropOldest 17 = .ok (.aload_n 0, 1) := by decide +kernel
theorem dX0_dropOldest_18 : decode cX0_dropOldest 18 = .ok (.getfield 12, 3) := by decide +kernel
theorem dX0_dropOldest_21 : decode cX0_dropOldest 21 = .ok (.iload_n 2, 1) := by decide +kernel
theorem dX0_dropOldest_22 : decode cX0_dropOldest 22 = .ok (.iconst 1, 1) := by decide +kernel
theorem dX0_dropOldest_23 : decode cX0_dropOldest 23 = .ok (.isub, 1) := by decide +kernel
theorem dX0_dropOldest_24 : decode cX0_dropOldest 24 = .ok (.aload_n 0, 1) := by decide +kernel
theorem dX0_dropOldest_25 : decode cX0_dropOldest 25 = .ok (.getfield 12, 3) := by decide +kernel
theorem dX0_dropOldest_28 : decode cX0_dropOldest 28 = .ok (.iload_n 2, 1) := by decide +kernel
theorem dX0_dropOldest_29 : decode cX0_dropOldest 29 = .ok (.aaload, 1) := by decide +kernel
theorem dX0_dropOldest_30 : decode cX0_dropOldest 30 = .ok (.aastore, 1) := by decide +kernel
theorem dX0_dropOldest_31 : decode cX0_dropOldest 31 = .ok (.iinc 2 1, 3) := by decide +kernel
theorem dX0_dropOldest_34 : decode cX0_dropOldest 34 = .ok (.goto (-26), 3) := by decide +kernel
theorem dX0_dropOldest_37 : decode cX0_dropOldest 37 = .ok (.aload_n 0, 1) := by decide +kernel
theorem dX0_dropOldest_38 : decode cX0_dropOldest 38 = .ok (.getfield 12, 3) := by decide +kernel
theorem dX0_dropOldest_41 : decode cX0_dropOldest 41 = .ok (.arraylength, 1) := by decide +kernel
theorem dX0_dropOldest_42 : decode cX0_dropOldest 42 = .ok (.ifCond .le 16, 3) := by decide +kernel
theorem dX0_dropOldest_45 : decode cX0_dropOldest 45 = .ok (.aload_n 0, 1) := by decide +kernel
theorem dX0_dropOldest_46 : decode cX0_dropOldest 46 = .ok (.getfield 12, 3) := by decide +kernel
theorem dX0_dropOldest_49 : decode cX0_dropOldest 49 = .ok (.aload_n 0, 1) := by decide +kernel
theorem dX0_dropOldest_50 : decode cX0_dropOldest 50 = .ok (.getfield 12, 3) := by decide +kernel
theorem dX0_dropOldest_53 : decode cX0_dropOldest 53 = .ok (.arraylength, 1) := by decide +kernel
theorem dX0_dropOldest_54 : decode cX0_dropOldest 54 = .ok (.iconst 1, 1) := by decide +kernel
theorem dX0_dropOldest_55 : decode cX0_dropOldest 55 = .ok (.isub, 1) := by decide +kernel
theorem dX0_dropOldest_56 : decode cX0_dropOldest 56 = .ok (.aload_n 1, 1) := by decide +kernel
theorem dX0_dropOldest_57 : decode cX0_dropOldest 57 = .ok (.aastore, 1) := by decide +kernel
theorem dX0_dropOldest_58 : decode cX0_dropOldest 58 = .ok (.aload_n 0, 1) := by decide +kernel
theorem dX0_dropOldest_59 : decode cX0_dropOldest 59 = .ok (.dup, 1) := by decide +kernel
theorem dX0_dropOldest_60 : decode cX0_dropOldest 60 = .ok (.getfield 18, 3) := by decide +kernel
theorem dX0_dropOldest_63 : decode cX0_dropOldest 63 = .ok (.iconst 1, 1) := by decide +kernel
theorem dX0_dropOldest_64 : decode cX0_dropOldest 64 = .ok (.isub, 1) := by decide +kernel
theorem dX0_dropOldest_65 : decode cX0_dropOldest 65 = .ok (.putfield 18, 3) := by decide +kernel
theorem dX0_dropOldest_68 : decode cX0_dropOldest 68 = .ok (.return_, 1) := by decide +kernel
set_option maxRecDepth 20000 in
theorem ggX1_init_X2_init : GoodIn wsX1_init wsX2_init := goodIn_r _ [14, 15, 2, 3] (by decide +kernel) (by decide +kernel)
set_option maxRecDepth 20000 in
theorem gX1_init_X2_init_n26 : GoodIn wsX1_init (wsX2_init) := ggX1_init_X2_init
theorem dX1_init_0 : decode cX1_init 0 = .ok (.aload_n 0, 1) := by decide +kernel
theorem dX1_init_1 : decode cX1_init 1 = .ok (.invokespecial 3, 3) := by decide +kernel
theorem dX1_init_4 : decode cX1_init 4 = .ok (.aload_n 0, 1) := by decide +kernel
theorem dX1_init_5 : decode cX1_init 5 = .ok (.sipush 720, 3) := by decide +kernel
theorem dX1_init_8 : decode cX1_init 8 = .ok (.newarray .int, 2) := by decide +kernel
theorem dX1_init_10 : decode cX1_init 10 = .ok (.putfield 9, 3) := by decide +kernel
theorem dX1_init_13 : decode cX1_init 13 = .ok (.aload_n 0, 1) := by decide +kernel
theorem dX1_init_14 : decode cX1_init 14 = .ok (.sipush 360, 3) := by decide +kernel
theorem dX1_init_17 : decode cX1_init 17 = .ok (.newarray .int, 2) := by decide +kernel
theorem dX1_init_19 : decode cX1_init 19 = .ok (.putfield 15, 3) := by decide +kernel
theorem dX1_init_22 : decode cX1_init 22 = .ok (.aload_n 0, 1) := by decide +kernel
theorem dX1_init_23 : decode cX1_init 23 = .ok (.bipush 60, 2) := by decide +kernel
theorem dX1_init_25 : decode cX1_init 25 = .ok (.newarray .int, 2) := by decide +kernel
theorem dX1_init_27 : decode cX1_init 27 = .ok (.putfield 18, 3) := by decide +kernel
theorem dX1_init_30 : decode cX1_init 30 = .ok (.aload_n 0, 1) := by decide +kernel
theorem dX1_init_31 : decode cX1_init 31 = .ok (.bipush 6, 2) := by decide +kernel
theorem dX1_init_33 : decode cX1_init 33 = .ok (.newarray .int, 2) := by decide +kernel
theorem dX1_init_35 : decode cX1_init 35 = .ok (.putfield 21, 3) := by decide +kernel
theorem dX1_init_38 : decode cX1_init 38 = .ok (.aload_n 0, 1) := by decide +kernel
theorem dX1_init_39 : decode cX1_init 39 = .ok (.new 24, 3) := by decide +kernel
theorem dX1_init_42 : decode cX1_init 42 = .ok (.dup, 1) := by decide +kernel
theorem dX1_init_43 : decode cX1_init 43 = .ok (.invokespecial 26, 3) := by decide +kernel
theorem dX1_init_46 : decode cX1_init 46 = .ok (.putfield 27, 3) := by decide +kernel
theorem dX1_init_49 : decode cX1_init 49 = .ok (.return_, 1) := by decide +kernel
set_option maxRecDepth 20000 in
theorem ggX1_arrange_X1_fillPage : GoodIn wsX1_arrange wsX1_fillPage := goodIn_r _ [14, 7, 2, 9, 15, 16, 17, 18, 19, 20, 21, 22, 23, 24, 25, 26, 27, 28, 29, 30, 31, 32, 33, 34, 35, 36, 37, 38, 39, 40, 41, 42, 43, 44, 45, 46, 47, 48, 49, 50, 51, 52, 53, 54, 55, 56, 57, 58, 59, 60, 61, 62, 63, 64, 65, 66, 67, 68, 69, 70, 71, 72, 73, 74, 75, 76, 77, 78, 79, 80, 81, 82, 83, 84, 85, 86, 87, 88, 89, 90, 91, 92, 93, 13, 94, 95, 8, 96, 97, 98, 99, 100, 101, 102, 103, 104, 105, 106, 107, 108, 109, 110, 111, 112, 113, 114, 115, 116, 117, 118, 119, 120, 121, 122, 123, 124, 134, 135, 136, 137, 138, 139, 140, 125, 126, 127, 128, 129, 130, 131, 132, 133, 141, 142, 143, 144, 145, 146, 147, 148] (by decide +kernel) (by decide +kernel)
set_option maxRecDepth 20000 in
theorem gX1_arrange_X1_fillPage : GoodIn wsX1_arrange (wsV RX1 50 RX1 yX1_fillPage wsX1_fillPage) := goodIn_app (goodIn_of _ (by decide +kernel)) ggX1_arrange_X1_fillPage
theorem dX1_arrange_0 : decode cX1_arrange 0 = .ok (.aload_n 1, 1) := by decide +kernel
theorem dX1_arrange_1 : decode cX1_arrange 1 = .ok (.getfield 31, 3) := by decide +kernel
theorem dX1_arrange_4 : decode cX1_arrange 4 = .ok (.iconst 0, 1) := by decide +kernel
theorem dX1_arrange_5 : decode cX1_arrange 5 = .ok (.aload_n 0, 1) := by decide +kernel
theorem dX1_arrange_6 : decode cX1_arrange 6 = .ok (.getfield 21, 3) := by decide +kernel
theorem dX1_arrange_9 : decode cX1_arrange 9 = .ok (.iconst 0, 1) := by decide +kernel
theorem dX1_arrange_10 : decode cX1_arrange 10 = .ok (.bipush 6, 2) := by decide +kernel
theorem dX1_arrange_12 : decode cX1_arrange 12 = .ok (.invokestatic 34, 3) := by decide +kernel
theorem dX1_arrange_15 : decode cX1_arrange 15 = .ok (.aload_n 0, 1) := by decide +kernel
theorem dX1_arrange_16 : decode cX1_arrange 16 = .ok (.getfield 21, 3) := by decide +kernel
theorem dX1_arrange_19 : decode cX1_arrange 19 = .ok (.iconst 0, 1) := by decide +kernel
theorem dX1_arrange_20 : decode cX1_arrange 20 = .ok (.iload_n 2, 1) := by decide +kernel
theorem dX1_arrange_21 : decode cX1_arrange 21 = .ok (.iastore, 1) := by decide +kernel
theorem dX1_arrange_22 : decode cX1_arrange 22 = .ok (.aload_n 0, 1) := by decide +kernel
theorem dX1_arrange_23 : decode cX1_arrange 23 = .ok (.getfield 21, 3) := by decide +kernel
theorem dX1_arrange_26 : decode cX1_arrange 26 = .ok (.iconst 2, 1) := by decide +kernel
theorem dX1_arrange_27 : decode cX1_arrange 27 = .ok (.iload_n 3, 1) := by decide +kernel
theorem dX1_arrange_28 : decode cX1_arrange 28 = .ok (.iastore, 1) := by decide +kernel
theorem dX1_arrange_29 : decode cX1_arrange 29 = .ok (.aload_n 0, 1) := by decide +kernel
theorem dX1_arrange_30 : decode cX1_arrange 30 = .ok (.getfield 21, 3) := by decide +kernel
theorem dX1_arrange_33 : decode cX1_arrange 33 = .ok (.iconst 3, 1) := by decide +kernel
theorem dX1_arrange_34 : decode cX1_arrange 34 = .ok (.iload 4, 2) := by decide +kernel
theorem dX1_arrange_36 : decode cX1_arrange 36 = .ok (.iastore, 1) := by decide +kernel
theorem dX1_arrange_37 : decode cX1_arrange 37 = .ok (.aload_n 0, 1) := by decide +kernel
theorem dX1_arrange_38 : decode cX1_arrange 38 = .ok (.iconst 0, 1) := by decide +kernel
theorem dX1_arrange_39 : decode cX1_arrange 39 = .ok (.putfield 40, 3) := by decide +kernel
theorem dX1_arrange_42 : decode cX1_arrange 42 = .ok (.aload_n 0, 1) := by decide +kernel
theorem dX1_arrange_43 : decode cX1_arrange 43 = .ok (.iconst 0, 1) := by decide +kernel
theorem dX1_arrange_44 : decode cX1_arrange 44 = .ok (.putfield 44, 3) := by decide +kernel
theorem dX1_arrange_47 : decode cX1_arrange 47 = .ok (.iconst 0, 1) := by decide +kernel
theorem dX1_arrange_48 : decode cX1_arrange 48 = .ok (.istore 5, 2) := by decide +kernel
theorem dX1_arrange_50 : decode cX1_arrange 50 = .ok (.iconst 0, 1) := by decide +kernel
theorem dX1_arrange_51 : decode cX1_arrange 51 = .ok (.istore 6, 2) := by decide +kernel
theorem dX1_arrange_53 : decode cX1_arrange 53 = .ok (.iload 6, 2) := by decide +kernel
theorem dX1_arrange_55 : decode cX1_arrange 55 = .ok (.bipush 60, 2) := by decide +kernel
theorem dX1_arrange_57 : decode cX1_arrange 57 = .ok (.if_icmp .ge 27, 3) := by decide +kernel
theorem dX1_arrange_60 : decode cX1_arrange 60 = .ok (.iload 5, 2) := by decide +kernel
theorem dX1_arrange_62 : decode cX1_arrange 62 = .ok (.aload_n 1, 1) := by decide +kernel
theorem dX1_arrange_63 : decode cX1_arrange 63 = .ok (.getfield 47, 3) := by decide +kernel
theorem dX1_arrange_66 : decode cX1_arrange 66 = .ok (.if_icmp .ge 18, 3) := by decide +kernel
theorem dX1_arrange_69 : decode cX1_arrange 69 = .ok (.aload_n 0, 1) := by decide +kernel
theorem dX1_arrange_70 : decode cX1_arrange 70 = .ok (.aload_n 1, 1) := by decide +kernel
theorem dX1_arrange_71 : decode cX1_arrange 71 = .ok (.iload 5, 2) := by decide +kernel
theorem dX1_arrange_73 : decode cX1_arrange 73 = .ok (.invokevirtual 50, 3) := by decide +kernel
theorem dX1_arrange_76 : decode cX1_arrange 76 = .ok (.istore 5, 2) := by decide +kernel
theorem dX1_arrange_78 : decode cX1_arrange 78 = .ok (.iinc 6 1, 3) := by decide +kernel
theorem dX1_arrange_81 : decode cX1_arrange 81 = .ok (.goto (-28), 3) := by decide +kernel
theorem dX1_arrange_84 : decode cX1_arrange 84 = .ok (.return_, 1) := by decide +kernel
set_option maxRecDepth 20000 in
theorem ggX1_fillPage_X2_choose : GoodIn wsX1_fillPage wsX2_choose := goodIn_r _ [11, 12, 13, 14, 15, 16, 17, 18, 19, 20, 21, 22, 23, 24, 25, 26, 27, 28, 29, 30, 31, 32, 33, 34, 35, 36, 37, 38, 39, 40, 41, 42, 10, 43, 44, 45, 46, 47, 48, 49, 50, 51, 52, 53, 54, 55, 56, 57, 58, 59, 60, 61, 62, 63, 64, 65, 66, 67, 68, 69, 70, 71, 72, 73, 74, 75, 76, 77, 78, 132, 133, 134, 135, 136, 137, 138, 139, 123, 124, 125, 126, 127, 128, 129, 130, 131] (by decide +kernel) (by decide +kernel)
set_option maxRecDepth 20000 in
theorem gX1_fillPage_X2_choose : GoodIn wsX1_fillPage (wsV RX1 54 RX2 yX2_choose wsX2_choose) := goodIn_app (goodIn_of _ (by decide +kernel)) ggX1_fillPage_X2_choose
set_option maxRecDepth 20000 in
theorem ggX1_fillPage_X3_endsParagraph : GoodIn wsX1_fillPage wsX3_endsParagraph := goodIn_r _ [73, 74, 35, 31, 32, 33, 26, 34, 123, 124, 125, 126, 127, 128, 129, 130, 131] (by decide +kernel) (by decide +kernel)
set_option maxRecDepth 20000 in
theorem gX1_fillPage_X3_endsParagraph : GoodIn wsX1_fillPage (wsV RX1 61 RX3 yX3_endsParagraph wsX3_endsParagraph) := goodIn_app (goodIn_of _ (by decide +kernel)) ggX1_fillPage_X3_endsParagraph
set_option maxRecDepth 20000 in
theorem ggX1_fillPage_X1_addLine : GoodIn wsX1_fillPage wsX1_addLine := goodIn_r _ [84, 1, 85, 86, 4, 5, 87, 88, 89, 90, 91, 6, 92, 93, 20, 14, 21, 94, 95, 96, 97, 10, 98, 48, 17, 45, 75, 76, 77, 78, 46, 47, 116, 117, 118, 119, 120, 121, 122, 132, 133, 134, 135, 136, 137, 138, 139] (by decide +kernel) (by decide +kernel)
set_option maxRecDepth 20000 in
theorem gX1_fillPage_X1_addLine : GoodIn wsX1_fillPage (wsV RX1 65 RX1 yX1_addLine wsX1_addLine) := goodIn_app (goodIn_of _ (by decide +kernel)) ggX1_fillPage_X1_addLine
set_option maxRecDepth 20000 in
theorem ggX1_fillPage_X1_mayGiveBack : GoodIn wsX1_fillPage wsX1_mayGiveBack := goodIn_r _ [102, 1, 2, 103, 104, 105, 83, 106, 85, 116, 117, 118, 119, 120, 121, 122] (by decide +kernel) (by decide +kernel)
set_option maxRecDepth 20000 in
theorem gX1_fillPage_X1_mayGiveBack : GoodIn wsX1_fillPage (wsV RX1 72 RX1 yX1_mayGiveBack wsX1_mayGiveBack) := goodIn_app (goodIn_of _ (by decide +kernel)) ggX1_fillPage_X1_mayGiveBack
set_option maxRecDepth 20000 in
theorem ggX1_fillPage_X1_lineValue : GoodIn wsX1_fillPage wsX1_lineValue := goodIn_r _ [106, 85, 116, 117, 118, 119, 120, 121, 122] (by decide +kernel) (by decide +kernel)
set_option maxRecDepth 20000 in
theorem gX1_fillPage_X1_lineValue : GoodIn wsX1_fillPage (wsV RX1 75 RX1 yX1_lineValue wsX1_lineValue) := goodIn_app (goodIn_of _ (by decide +kernel)) ggX1_fillPage_X1_lineValue
set_option maxRecDepth 20000 in
theorem ggX1_fillPage_X1_addPage : GoodIn wsX1_fillPage wsX1_addPage := goodIn_r _ [110, 86, 1, 111, 112, 113, 114, 83, 115, 103, 104, 105, 106, 85, 116, 117, 118, 119, 120, 121, 122] (by decide +kernel) (by decide +kernel)
set_option maxRecDepth 20000 in
theorem gX1_fillPage_X1_addPage : GoodIn wsX1_fillPage (wsV RX1 79 RX1 yX1_addPage wsX1_addPage) := goodIn_app (goodIn_of _ (by decide +kernel)) ggX1_fillPage_X1_addPage
theorem dX1_fillPage_0 : decode cX1_fillPage 0 = .ok (.aload_n 0, 1) := by decide +kernel
theorem dX1_fillPage_1 : decode cX1_fillPage 1 = .ok (.getfield 40, 3) := by decide +kernel
theorem dX1_fillPage_4 : decode cX1_fillPage 4 = .ok (.istore_n 3, 1) := by decide +kernel
theorem dX1_fillPage_5 : decode cX1_fillPage 5 = .ok (.aload_n 0, 1) := by decide +kernel
theorem dX1_fillPage_6 : decode cX1_fillPage 6 = .ok (.getfield 21, 3) := by decide +kernel
theorem dX1_fillPage_9 : decode cX1_fillPage 9 = .ok (.iconst 1, 1) := by decide +kernel
theorem dX1_fillPage_10 : decode cX1_fillPage 10 = .ok (.iaload, 1) := by decide +kernel
theorem dX1_fillPage_11 : decode cX1_fillPage 11 = .ok (.istore 4, 2) := by decide +kernel
theorem dX1_fillPage_13 : decode cX1_fillPage 13 = .ok (.iload_n 2, 1) := by decide +kernel
theorem dX1_fillPage_14 : decode cX1_fillPage 14 = .ok (.istore 5, 2) := by decide +kernel
theorem dX1_fillPage_16 : decode cX1_fillPage 16 = .ok (.iconst 0, 1) := by decide +kernel
theorem dX1_fillPage_17 : decode cX1_fillPage 17 = .ok (.istore 6, 2) := by decide +kernel
theorem dX1_fillPage_19 : decode cX1_fillPage 19 = .ok (.iconst 0, 1) := by decide +kernel
theorem dX1_fillPage_20 : decode cX1_fillPage 20 = .ok (.istore 7, 2) := by decide +kernel
theorem dX1_fillPage_22 : decode cX1_fillPage 22 = .ok (.iload 7, 2) := by decide +kernel
theorem dX1_fillPage_24 : decode cX1_fillPage 24 = .ok (.iload 4, 2) := by decide +kernel
theorem dX1_fillPage_26 : decode cX1_fillPage 26 = .ok (.if_icmp .ge 84, 3) := by decide +kernel
theorem dX1_fillPage_29 : decode cX1_fillPage 29 = .ok (.iload 5, 2) := by decide +kernel
theorem dX1_fillPage_31 : decode cX1_fillPage 31 = .ok (.aload_n 1, 1) := by decide +kernel
theorem dX1_fillPage_32 : decode cX1_fillPage 32 = .ok (.getfield 47, 3) := by decide +kernel
theorem dX1_fillPage_35 : decode cX1_fillPage 35 = .ok (.if_icmp .ge 75, 3) := by decide +kernel
theorem dX1_fillPage_38 : decode cX1_fillPage 38 = .ok (.aload_n 0, 1) := by decide +kernel
theorem dX1_fillPage_39 : decode cX1_fillPage 39 = .ok (.getfield 27, 3) := by decide +kernel
theorem dX1_fillPage_42 : decode cX1_fillPage 42 = .ok (.aload_n 1, 1) := by decide +kernel
theorem dX1_fillPage_43 : decode cX1_fillPage 43 = .ok (.aload_n 0, 1) := by decide +kernel
theorem dX1_fillPage_44 : decode cX1_fillPage 44 = .ok (.getfield 21, 3) := by decide +kernel
theorem dX1_fillPage_47 : decode cX1_fillPage 47 = .ok (.iload 5, 2) := by decide +kernel
theorem dX1_fillPage_49 : decode cX1_fillPage 49 = .ok (.iload 6, 2) := by decide +kernel
theorem dX1_fillPage_51 : decode cX1_fillPage 51 = .ok (.iload 4, 2) := by decide +kernel
theorem dX1_fillPage_53 : decode cX1_fillPage 53 = .ok (.iconst 1, 1) := by decide +kernel
theorem dX1_fillPage_54 : decode cX1_fillPage 54 = .ok (.isub, 1) := by decide +kernel
theorem dX1_fillPage_55 : decode cX1_fillPage 55 = .ok (.iload 7, 2) := by decide +kernel
theorem dX1_fillPage_57 : decode cX1_fillPage 57 = .ok (.isub, 1) := by decide +kernel
theorem dX1_fillPage_58 : decode cX1_fillPage 58 = .ok (.invokevirtual 54, 3) := by decide +kernel
theorem dX1_fillPage_61 : decode cX1_fillPage 61 = .ok (.aload_n 0, 1) := by decide +kernel
theorem dX1_fillPage_62 : decode cX1_fillPage 62 = .ok (.iload 5, 2) := by decide +kernel
theorem dX1_fillPage_64 : decode cX1_fillPage 64 = .ok (.aload_n 1, 1) := by decide +kernel
theorem dX1_fillPage_65 : decode cX1_fillPage 65 = .ok (.iload 5, 2) := by decide +kernel
theorem dX1_fillPage_67 : decode cX1_fillPage 67 = .ok (.aload_n 0, 1) := by decide +kernel
theorem dX1_fillPage_68 : decode cX1_fillPage 68 = .ok (.getfield 27, 3) := by decide +kernel
theorem dX1_fillPage_71 : decode cX1_fillPage 71 = .ok (.getfield 58, 3) := by decide +kernel
theorem dX1_fillPage_74 : decode cX1_fillPage 74 = .ok (.iadd, 1) := by decide +kernel
theorem dX1_fillPage_75 : decode cX1_fillPage 75 = .ok (.iconst 1, 1) := by decide +kernel
theorem dX1_fillPage_76 : decode cX1_fillPage 76 = .ok (.isub, 1) := by decide +kernel
theorem dX1_fillPage_77 : decode cX1_fillPage 77 = .ok (.invokevirtual 61, 3) := by decide +kernel
theorem dX1_fillPage_80 : decode cX1_fillPage 80 = .ok (.invokevirtual 65, 3) := by decide +kernel
theorem dX1_fillPage_83 : decode cX1_fillPage 83 = .ok (.iload 5, 2) := by decide +kernel
theorem dX1_fillPage_85 : decode cX1_fillPage 85 = .ok (.aload_n 0, 1) := by decide +kernel
theorem dX1_fillPage_86 : decode cX1_fillPage 86 = .ok (.getfield 27, 3) := by decide +kernel
theorem dX1_fillPage_89 : decode cX1_fillPage 89 = .ok (.getfield 58, 3) := by decide +kernel
theorem dX1_fillPage_92 : decode cX1_fillPage 92 = .ok (.iadd, 1) := by decide +kernel
theorem dX1_fillPage_93 : decode cX1_fillPage 93 = .ok (.istore 5, 2) := by decide +kernel
theorem dX1_fillPage_95 : decode cX1_fillPage 95 = .ok (.aload_n 0, 1) := by decide +kernel
theorem dX1_fillPage_96 : decode cX1_fillPage 96 = .ok (.getfield 27, 3) := by decide +kernel
theorem dX1_fillPage_99 : decode cX1_fillPage 99 = .ok (.getfield 69, 3) := by decide +kernel
theorem dX1_fillPage_102 : decode cX1_fillPage 102 = .ok (.istore 6, 2) := by decide +kernel
theorem dX1_fillPage_104 : decode cX1_fillPage 104 = .ok (.iinc 7 1, 3) := by decide +kernel
theorem dX1_fillPage_107 : decode cX1_fillPage 107 = .ok (.goto (-85), 3) := by decide +kernel
theorem dX1_fillPage_110 : decode cX1_fillPage 110 = .ok (.iconst 0, 1) := by decide +kernel
theorem dX1_fillPage_111 : decode cX1_fillPage 111 = .ok (.istore 7, 2) := by decide +kernel
theorem dX1_fillPage_113 : decode cX1_fillPage 113 = .ok (.iload 5, 2) := by decide +kernel
theorem dX1_fillPage_115 : decode cX1_fillPage 115 = .ok (.aload_n 1, 1) := by decide +kernel
theorem dX1_fillPage_116 : decode cX1_fillPage 116 = .ok (.getfield 47, 3) := by decide +kernel
theorem dX1_fillPage_119 : decode cX1_fillPage 119 = .ok (.if_icmp .ge 48, 3) := by decide +kernel
theorem dX1_fillPage_122 : decode cX1_fillPage 122 = .ok (.aload_n 0, 1) := by decide +kernel
theorem dX1_fillPage_123 : decode cX1_fillPage 123 = .ok (.iload_n 3, 1) := by decide +kernel
theorem dX1_fillPage_124 : decode cX1_fillPage 124 = .ok (.invokevirtual 72, 3) := by decide +kernel
theorem dX1_fillPage_127 : decode cX1_fillPage 127 = .ok (.ifCond .eq 40, 3) := by decide +kernel
theorem dX1_fillPage_130 : decode cX1_fillPage 130 = .ok (.aload_n 0, 1) := by decide +kernel
theorem dX1_fillPage_131 : decode cX1_fillPage 131 = .ok (.getfield 27, 3) := by decide +kernel
theorem dX1_fillPage_134 : decode cX1_fillPage 134 = .ok (.aload_n 1, 1) := by decide +kernel
theorem dX1_fillPage_135 : decode cX1_fillPage 135 = .ok (.aload_n 0, 1) := by decide +kernel
theorem dX1_fillPage_136 : decode cX1_fillPage 136 = .ok (.getfield 21, 3) := by decide +kernel
theorem dX1_fillPage_139 : decode cX1_fillPage 139 = .ok (.iload 5, 2) := by decide +kernel
theorem dX1_fillPage_141 : decode cX1_fillPage 141 = .ok (.iconst 0, 1) := by decide +kernel
theorem dX1_fillPage_142 : decode cX1_fillPage 142 = .ok (.iload 4, 2) := by decide +kernel
theorem dX1_fillPage_144 : decode cX1_fillPage 144 = .ok (.iconst 1, 1) := by decide +kernel
theorem dX1_fillPage_145 : decode cX1_fillPage 145 = .ok (.isub, 1) := by decide +kernel
theorem dX1_fillPage_146 : decode cX1_fillPage 146 = .ok (.invokevirtual 54, 3) := by decide +kernel
theorem dX1_fillPage_149 : decode cX1_fillPage 149 = .ok (.aload_n 1, 1) := by decide +kernel
theorem dX1_fillPage_150 : decode cX1_fillPage 150 = .ok (.iload 5, 2) := by decide +kernel
theorem dX1_fillPage_152 : decode cX1_fillPage 152 = .ok (.aload_n 0, 1) := by decide +kernel
theorem dX1_fillPage_153 : decode cX1_fillPage 153 = .ok (.getfield 27, 3) := by decide +kernel
theorem dX1_fillPage_156 : decode cX1_fillPage 156 = .ok (.getfield 58, 3) := by decide +kernel
theorem dX1_fillPage_159 : decode cX1_fillPage 159 = .ok (.iadd, 1) := by decide +kernel
theorem dX1_fillPage_160 : decode cX1_fillPage 160 = .ok (.iconst 1, 1) := by decide +kernel
theorem dX1_fillPage_161 : decode cX1_fillPage 161 = .ok (.isub, 1) := by decide +kernel
theorem dX1_fillPage_162 : decode cX1_fillPage 162 = .ok (.invokevirtual 61, 3) := by decide +kernel
theorem dX1_fillPage_165 : decode cX1_fillPage 165 = .ok (.istore 7, 2) := by decide +kernel
theorem dX1_fillPage_167 : decode cX1_fillPage 167 = .ok (.iload 7, 2) := by decide +kernel
theorem dX1_fillPage_169 : decode cX1_fillPage 169 = .ok (.ifCond .eq 24, 3) := by decide +kernel
theorem dX1_fillPage_172 : decode cX1_fillPage 172 = .ok (.aload_n 0, 1) := by decide +kernel
theorem dX1_fillPage_173 : decode cX1_fillPage 173 = .ok (.dup, 1) := by decide +kernel
theorem dX1_fillPage_174 : decode cX1_fillPage 174 = .ok (.getfield 40, 3) := by decide +kernel
theorem dX1_fillPage_177 : decode cX1_fillPage 177 = .ok (.iconst 1, 1) := by decide +kernel
theorem dX1_fillPage_178 : decode cX1_fillPage 178 = .ok (.isub, 1) := by decide +kernel
theorem dX1_fillPage_179 : decode cX1_fillPage 179 = .ok (.putfield 40, 3) := by decide +kernel
theorem dX1_fillPage_182 : decode cX1_fillPage 182 = .ok (.aload_n 0, 1) := by decide +kernel
theorem dX1_fillPage_183 : decode cX1_fillPage 183 = .ok (.aload_n 0, 1) := by decide +kernel
theorem dX1_fillPage_184 : decode cX1_fillPage 184 = .ok (.getfield 40, 3) := by decide +kernel
theorem dX1_fillPage_187 : decode cX1_fillPage 187 = .ok (.iconst 1, 1) := by decide +kernel
theorem dX1_fillPage_188 : decode cX1_fillPage 188 = .ok (.invokevirtual 75, 3) := by decide +kernel
theorem dX1_fillPage_191 : decode cX1_fillPage 191 = .ok (.istore 5, 2) := by decide +kernel
theorem dX1_fillPage_193 : decode cX1_fillPage 193 = .ok (.aload_n 0, 1) := by decide +kernel
theorem dX1_fillPage_194 : decode cX1_fillPage 194 = .ok (.iload_n 3, 1) := by decide +kernel
theorem dX1_fillPage_195 : decode cX1_fillPage 195 = .ok (.iload 7, 2) := by decide +kernel
theorem dX1_fillPage_197 : decode cX1_fillPage 197 = .ok (.invokevirtual 79, 3) := by decide +kernel
theorem dX1_fillPage_200 : decode cX1_fillPage 200 = .ok (.iload 5, 2) := by decide +kernel
theorem dX1_fillPage_202 : decode cX1_fillPage 202 = .ok (.ireturn, 1) := by decide +kernel
set_option maxRecDepth 20000 in
theorem ggX1_mayGiveBack_X1_lineValue : GoodIn wsX1_mayGiveBack wsX1_lineValue := goodIn_r _ [7, 8, 9, 10, 11, 12, 13, 14, 15] (by decide +kernel) (by decide +kernel)
set_option maxRecDepth 20000 in
theorem gX1_mayGiveBack_X1_lineValue : GoodIn wsX1_mayGiveBack (wsV RX1 75 RX1 yX1_lineValue wsX1_lineValue) := goodIn_app (goodIn_of _ (by decide +kernel)) ggX1_mayGiveBack_X1_lineValue
theorem dX1_mayGiveBack_0 : decode cX1_mayGiveBack 0 = .ok (.aload_n 0, 1) := by decide +kernel
theorem dX1_mayGiveBack_1 : decode cX1_mayGiveBack 1 = .ok (.getfield 40, 3) := by decide +kernel
theorem dX1_mayGiveBack_4 : decode cX1_mayGiveBack 4 = .ok (.iload_n 1, 1) := by decide +kernel
theorem dX1_mayGiveBack_5 : decode cX1_mayGiveBack 5 = .ok (.isub, 1) := by decide +kernel
theorem dX1_mayGiveBack_6 : decode cX1_mayGiveBack 6 = .ok (.istore_n 2, 1) := by decide +kernel
theorem dX1_mayGiveBack_7 : decode cX1_mayGiveBack 7 = .ok (.iload_n 2, 1) := by decide +kernel
theorem dX1_mayGiveBack_8 : decode cX1_mayGiveBack 8 = .ok (.aload_n 0, 1) := by decide +kernel
theorem dX1_mayGiveBack_9 : decode cX1_mayGiveBack 9 = .ok (.getfield 21, 3) := by decide +kernel
theorem dX1_mayGiveBack_12 : decode cX1_mayGiveBack 12 = .ok (.iconst 1, 1) := by decide +kernel
theorem dX1_mayGiveBack_13 : decode cX1_mayGiveBack 13 = .ok (.iaload, 1) := by decide +kernel
theorem dX1_mayGiveBack_14 : decode cX1_mayGiveBack 14 = .ok (.if_icmp .ne 7, 3) := by decide +kernel
theorem dX1_mayGiveBack_17 : decode cX1_mayGiveBack 17 = .ok (.iconst 1, 1) := by decide +kernel
theorem dX1_mayGiveBack_18 : decode cX1_mayGiveBack 18 = .ok (.goto 4, 3) := by decide +kernel
theorem dX1_mayGiveBack_21 : decode cX1_mayGiveBack 21 = .ok (.iconst 0, 1) := by decide +kernel
theorem dX1_mayGiveBack_22 : decode cX1_mayGiveBack 22 = .ok (.istore_n 3, 1) := by decide +kernel
theorem dX1_mayGiveBack_23 : decode cX1_mayGiveBack 23 = .ok (.aload_n 0, 1) := by decide +kernel
theorem dX1_mayGiveBack_24 : decode cX1_mayGiveBack 24 = .ok (.getfield 21, 3) := by decide +kernel
theorem dX1_mayGiveBack_27 : decode cX1_mayGiveBack 27 = .ok (.iconst 5, 1) := by decide +kernel
theorem dX1_mayGiveBack_28 : decode cX1_mayGiveBack 28 = .ok (.iaload, 1) := by decide +kernel
theorem dX1_mayGiveBack_29 : decode cX1_mayGiveBack 29 = .ok (.iconst 1, 1) := by decide +kernel
theorem dX1_mayGiveBack_30 : decode cX1_mayGiveBack 30 = .ok (.if_icmp .ne 31, 3) := by decide +kernel
theorem dX1_mayGiveBack_33 : decode cX1_mayGiveBack 33 = .ok (.iload_n 3, 1) := by decide +kernel
theorem dX1_mayGiveBack_34 : decode cX1_mayGiveBack 34 = .ok (.ifCond .eq 27, 3) := by decide +kernel
theorem dX1_mayGiveBack_37 : decode cX1_mayGiveBack 37 = .ok (.iload_n 2, 1) := by decide +kernel
theorem dX1_mayGiveBack_38 : decode cX1_mayGiveBack 38 = .ok (.iconst 1, 1) := by decide +kernel
theorem dX1_mayGiveBack_39 : decode cX1_mayGiveBack 39 = .ok (.if_icmp .le 22, 3) := by decide +kernel
theorem dX1_mayGiveBack_42 : decode cX1_mayGiveBack 42 = .ok (.aload_n 0, 1) := by decide +kernel
theorem dX1_mayGiveBack_43 : decode cX1_mayGiveBack 43 = .ok (.aload_n 0, 1) := by decide +kernel
theorem dX1_mayGiveBack_44 : decode cX1_mayGiveBack 44 = .ok (.getfield 40, 3) := by decide +kernel
theorem dX1_mayGiveBack_47 : decode cX1_mayGiveBack 47 = .ok (.iconst 1, 1) := by decide +kernel
theorem dX1_mayGiveBack_48 : decode cX1_mayGiveBack 48 = .ok (.isub, 1) := by decide +kernel
theorem dX1_mayGiveBack_49 : decode cX1_mayGiveBack 49 = .ok (.bipush 10, 2) := by decide +kernel
theorem dX1_mayGiveBack_51 : decode cX1_mayGiveBack 51 = .ok (.invokevirtual 75, 3) := by decide +kernel
theorem dX1_mayGiveBack_54 : decode cX1_mayGiveBack 54 = .ok (.ifCond .ne 7, 3) := by decide +kernel
theorem dX1_mayGiveBack_57 : decode cX1_mayGiveBack 57 = .ok (.iconst 1, 1) := by decide +kernel
theorem dX1_mayGiveBack_58 : decode cX1_mayGiveBack 58 = .ok (.goto 4, 3) := by decide +kernel
theorem dX1_mayGiveBack_61 : decode cX1_mayGiveBack 61 = .ok (.iconst 0, 1) := by decide +kernel
theorem dX1_mayGiveBack_62 : decode cX1_mayGiveBack 62 = .ok (.ireturn, 1) := by decide +kernel
set_option maxRecDepth 20000 in
theorem ggX1_addLine_X2_empty : GoodIn wsX1_addLine wsX2_empty := goodIn_r _ [22, 23, 24, 25, 26, 27, 28, 21, 29, 30, 31, 39, 40, 41, 42, 43, 44, 45, 46] (by decide +kernel) (by decide +kernel)
set_option maxRecDepth 20000 in
theorem gX1_addLine_X2_empty : GoodIn wsX1_addLine (wsV RX1 101 RX2 yX2_empty wsX2_empty) := goodIn_app (goodIn_of _ (by decide +kernel)) ggX1_addLine_X2_empty
theorem dX1_addLine_0 : decode cX1_addLine 0 = .ok (.aload_n 0, 1) := by decide +kernel
theorem dX1_addLine_1 : decode cX1_addLine 1 = .ok (.getfield 40, 3) := by decide +kernel
theorem dX1_addLine_4 : decode cX1_addLine 4 = .ok (.bipush 60, 2) := by decide +kernel
theorem dX1_addLine_6 : decode cX1_addLine 6 = .ok (.if_icmp .lt 4, 3) := by decide +kernel
theorem dX1_addLine_9 : decode cX1_addLine 9 = .ok (.return_, 1) := by decide +kernel
theorem dX1_addLine_10 : decode cX1_addLine 10 = .ok (.aload_n 0, 1) := by decide +kernel
theorem dX1_addLine_11 : decode cX1_addLine 11 = .ok (.getfield 40, 3) := by decide +kernel
theorem dX1_addLine_14 : decode cX1_addLine 14 = .ok (.bipush 12, 2) := by decide +kernel
theorem dX1_addLine_16 : decode cX1_addLine 16 = .ok (.imul, 1) := by decide +kernel
theorem dX1_addLine_17 : decode cX1_addLine 17 = .ok (.istore_n 3, 1) := by decide +kernel
theorem dX1_addLine_18 : decode cX1_addLine 18 = .ok (.aload_n 0, 1) := by decide +kernel
theorem dX1_addLine_19 : decode cX1_addLine 19 = .ok (.getfield 9, 3) := by decide +kernel
theorem dX1_addLine_22 : decode cX1_addLine 22 = .ok (.iload_n 3, 1) := by decide +kernel
theorem dX1_addLine_23 : decode cX1_addLine 23 = .ok (.iconst 0, 1) := by decide +kernel
theorem dX1_addLine_24 : decode cX1_addLine 24 = .ok (.iadd, 1) := by decide +kernel
theorem dX1_addLine_25 : decode cX1_addLine 25 = .ok (.aload_n 0, 1) := by decide +kernel
theorem dX1_addLine_26 : decode cX1_addLine 26 = .ok (.getfield 44, 3) := by decide +kernel
theorem dX1_addLine_29 : decode cX1_addLine 29 = .ok (.iastore, 1) := by decide +kernel
theorem dX1_addLine_30 : decode cX1_addLine 30 = .ok (.aload_n 0, 1) := by decide +kernel
theorem dX1_addLine_31 : decode cX1_addLine 31 = .ok (.getfield 9, 3) := by decide +kernel
theorem dX1_addLine_34 : decode cX1_addLine 34 = .ok (.iload_n 3, 1) := by decide +kernel
theorem dX1_addLine_35 : decode cX1_addLine 35 = .ok (.iconst 1, 1) := by decide +kernel
theorem dX1_addLine_36 : decode cX1_addLine 36 = .ok (.iadd, 1) := by decide +kernel
theorem dX1_addLine_37 : decode cX1_addLine 37 = .ok (.iload_n 1, 1) := by decide +kernel
theorem dX1_addLine_38 : decode cX1_addLine 38 = .ok (.iastore, 1) := by decide +kernel
theorem dX1_addLine_39 : decode cX1_addLine 39 = .ok (.aload_n 0, 1) := by decide +kernel
theorem dX1_addLine_40 : decode cX1_addLine 40 = .ok (.getfield 9, 3) := by decide +kernel
theorem dX1_addLine_43 : decode cX1_addLine 43 = .ok (.iload_n 3, 1) := by decide +kernel
theorem dX1_addLine_44 : decode cX1_addLine 44 = .ok (.iconst 2, 1) := by decide +kernel
theorem dX1_addLine_45 : decode cX1_addLine 45 = .ok (.iadd, 1) := by decide +kernel
theorem dX1_addLine_46 : decode cX1_addLine 46 = .ok (.aload_n 0, 1) := by decide +kernel
theorem dX1_addLine_47 : decode cX1_addLine 47 = .ok (.getfield 27, 3) := by decide +kernel
theorem dX1_addLine_50 : decode cX1_addLine 50 = .ok (.getfield 58, 3) := by decide +kernel
theorem dX1_addLine_53 : decode cX1_addLine 53 = .ok (.iastore, 1) := by decide +kernel
theorem dX1_addLine_54 : decode cX1_addLine 54 = .ok (.aload_n 0, 1) := by decide +kernel
theorem dX1_addLine_55 : decode cX1_addLine 55 = .ok (.getfield 9, 3) := by decide +kernel
theorem dX1_addLine_58 : decode cX1_addLine 58 = .ok (.iload_n 3, 1) := by decide +kernel
theorem dX1_addLine_59 : decode cX1_addLine 59 = .ok (.iconst 3, 1) := by decide +kernel
theorem dX1_addLine_60 : decode cX1_addLine 60 = .ok (.iadd, 1) := by decide +kernel
theorem dX1_addLine_61 : decode cX1_addLine 61 = .ok (.aload_n 0, 1) := by decide +kernel
theorem dX1_addLine_62 : decode cX1_addLine 62 = .ok (.getfield 27, 3) := by decide +kernel
theorem dX1_addLine_65 : decode cX1_addLine 65 = .ok (.getfield 82, 3) := by decide +kernel
theorem dX1_addLine_68 : decode cX1_addLine 68 = .ok (.iastore, 1) := by decide +kernel
theorem dX1_addLine_69 : decode cX1_addLine 69 = .ok (.aload_n 0, 1) := by decide +kernel
theorem dX1_addLine_70 : decode cX1_addLine 70 = .ok (.getfield 9, 3) := by decide +kernel
theorem dX1_addLine_73 : decode cX1_addLine 73 = .ok (.iload_n 3, 1) := by decide +kernel
theorem dX1_addLine_74 : decode cX1_addLine 74 = .ok (.iconst 4, 1) := by decide +kernel
theorem dX1_addLine_75 : decode cX1_addLine 75 = .ok (.iadd, 1) := by decide +kernel
theorem dX1_addLine_76 : decode cX1_addLine 76 = .ok (.aload_n 0, 1) := by decide +kernel
theorem dX1_addLine_77 : decode cX1_addLine 77 = .ok (.getfield 27, 3) := by decide +kernel
theorem dX1_addLine_80 : decode cX1_addLine 80 = .ok (.getfield 85, 3) := by decide +kernel
theorem dX1_addLine_83 : decode cX1_addLine 83 = .ok (.iastore, 1) := by decide +kernel
theorem dX1_addLine_84 : decode cX1_addLine 84 = .ok (.aload_n 0, 1) := by decide +kernel
theorem dX1_addLine_85 : decode cX1_addLine 85 = .ok (.getfield 9, 3) := by decide +kernel
theorem dX1_addLine_88 : decode cX1_addLine 88 = .ok (.iload_n 3, 1) := by decide +kernel
theorem dX1_addLine_89 : decode cX1_addLine 89 = .ok (.iconst 5, 1) := by decide +kernel
theorem dX1_addLine_90 : decode cX1_addLine 90 = .ok (.iadd, 1) := by decide +kernel
theorem dX1_addLine_91 : decode cX1_addLine 91 = .ok (.aload_n 0, 1) := by decide +kernel
theorem dX1_addLine_92 : decode cX1_addLine 92 = .ok (.getfield 27, 3) := by decide +kernel
theorem dX1_addLine_95 : decode cX1_addLine 95 = .ok (.getfield 88, 3) := by decide +kernel
theorem dX1_addLine_98 : decode cX1_addLine 98 = .ok (.iastore, 1) := by decide +kernel
theorem dX1_addLine_99 : decode cX1_addLine 99 = .ok (.aload_n 0, 1) := by decide +kernel
theorem dX1_addLine_100 : decode cX1_addLine 100 = .ok (.getfield 9, 3) := by decide +kernel
theorem dX1_addLine_103 : decode cX1_addLine 103 = .ok (.iload_n 3, 1) := by decide +kernel
theorem dX1_addLine_104 : decode cX1_addLine 104 = .ok (.bipush 6, 2) := by decide +kernel
theorem dX1_addLine_106 : decode cX1_addLine 106 = .ok (.iadd, 1) := by decide +kernel
theorem dX1_addLine_107 : decode cX1_addLine 107 = .ok (.aload_n 0, 1) := by decide +kernel
theorem dX1_addLine_108 : decode cX1_addLine 108 = .ok (.getfield 27, 3) := by decide +kernel
theorem dX1_addLine_111 : decode cX1_addLine 111 = .ok (.getfield 91, 3) := by decide +kernel
theorem dX1_addLine_114 : decode cX1_addLine 114 = .ok (.iastore, 1) := by decide +kernel
theorem dX1_addLine_115 : decode cX1_addLine 115 = .ok (.aload_n 0, 1) := by decide +kernel
theorem dX1_addLine_116 : decode cX1_addLine 116 = .ok (.getfield 9, 3) := by decide +kernel
theorem dX1_addLine_119 : decode cX1_addLine 119 = .ok (.iload_n 3, 1) := by decide +kernel
theorem dX1_addLine_120 : decode cX1_addLine 120 = .ok (.bipush 7, 2) := by decide +kernel
theorem dX1_addLine_122 : decode cX1_addLine 122 = .ok (.iadd, 1) := by decide +kernel
theorem dX1_addLine_123 : decode cX1_addLine 123 = .ok (.aload_n 0, 1) := by decide +kernel
theorem dX1_addLine_124 : decode cX1_addLine 124 = .ok (.getfield 27, 3) := by decide +kernel
theorem dX1_addLine_127 : decode cX1_addLine 127 = .ok (.getfield 94, 3) := by decide +kernel
theorem dX1_addLine_130 : decode cX1_addLine 130 = .ok (.iastore, 1) := by decide +kernel
theorem dX1_addLine_131 : decode cX1_addLine 131 = .ok (.aload_n 0, 1) := by decide +kernel
theorem dX1_addLine_132 : decode cX1_addLine 132 = .ok (.getfield 9, 3) := by decide +kernel
theorem dX1_addLine_135 : decode cX1_addLine 135 = .ok (.iload_n 3, 1) := by decide +kernel
theorem dX1_addLine_136 : decode cX1_addLine 136 = .ok (.bipush 8, 2) := by decide +kernel
theorem dX1_addLine_138 : decode cX1_addLine 138 = .ok (.iadd, 1) := by decide +kernel
theorem dX1_addLine_139 : decode cX1_addLine 139 = .ok (.aload_n 0, 1) := by decide +kernel
theorem dX1_addLine_140 : decode cX1_addLine 140 = .ok (.getfield 27, 3) := by decide +kernel
theorem dX1_addLine_143 : decode cX1_addLine 143 = .ok (.getfield 69, 3) := by decide +kernel
theorem dX1_addLine_146 : decode cX1_addLine 146 = .ok (.iastore, 1) := by decide +kernel
theorem dX1_addLine_147 : decode cX1_addLine 147 = .ok (.aload_n 0, 1) := by decide +kernel
theorem dX1_addLine_148 : decode cX1_addLine 148 = .ok (.getfield 9, 3) := by decide +kernel
theorem dX1_addLine_151 : decode cX1_addLine 151 = .ok (.iload_n 3, 1) := by decide +kernel
theorem dX1_addLine_152 : decode cX1_addLine 152 = .ok (.bipush 9, 2) := by decide +kernel
theorem dX1_addLine_154 : decode cX1_addLine 154 = .ok (.iadd, 1) := by decide +kernel
theorem dX1_addLine_155 : decode cX1_addLine 155 = .ok (.aload_n 0, 1) := by decide +kernel
theorem dX1_addLine_156 : decode cX1_addLine 156 = .ok (.getfield 27, 3) := by decide +kernel
theorem dX1_addLine_159 : decode cX1_addLine 159 = .ok (.getfield 97, 3) := by decide +kernel
theorem dX1_addLine_162 : decode cX1_addLine 162 = .ok (.ifCond .eq 7, 3) := by decide +kernel
theorem dX1_addLine_165 : decode cX1_addLine 165 = .ok (.iconst 1, 1) := by decide +kernel
theorem dX1_addLine_166 : decode cX1_addLine 166 = .ok (.goto 4, 3) := by decide +kernel
theorem dX1_addLine_169 : decode cX1_addLine 169 = .ok (.iconst 0, 1) := by decide +kernel
theorem dX1_addLine_170 : decode cX1_addLine 170 = .ok (.iastore, 1) := by decide +kernel
theorem dX1_addLine_171 : decode cX1_addLine 171 = .ok (.aload_n 0, 1) := by decide +kernel
theorem dX1_addLine_172 : decode cX1_addLine 172 = .ok (.getfield 9, 3) := by decide +kernel
theorem dX1_addLine_175 : decode cX1_addLine 175 = .ok (.iload_n 3, 1) := by decide +kernel
theorem dX1_addLine_176 : decode cX1_addLine 176 = .ok (.bipush 10, 2) := by decide +kernel
theorem dX1_addLine_178 : decode cX1_addLine 178 = .ok (.iadd, 1) := by decide +kernel
theorem dX1_addLine_179 : decode cX1_addLine 179 = .ok (.iload_n 2, 1) := by decide +kernel
theorem dX1_addLine_180 : decode cX1_addLine 180 = .ok (.ifCond .eq 7, 3) := by decide +kernel
theorem dX1_addLine_183 : decode cX1_addLine 183 = .ok (.iconst 1, 1) := by decide +kernel
theorem dX1_addLine_184 : decode cX1_addLine 184 = .ok (.goto 4, 3) := by decide +kernel
theorem dX1_addLine_187 : decode cX1_addLine 187 = .ok (.iconst 0, 1) := by decide +kernel
theorem dX1_addLine_188 : decode cX1_addLine 188 = .ok (.iastore, 1) := by decide +kernel
theorem dX1_addLine_189 : decode cX1_addLine 189 = .ok (.aload_n 0, 1) := by decide +kernel
theorem dX1_addLine_190 : decode cX1_addLine 190 = .ok (.getfield 9, 3) := by decide +kernel
theorem dX1_addLine_193 : decode cX1_addLine 193 = .ok (.iload_n 3, 1) := by decide +kernel
theorem dX1_addLine_194 : decode cX1_addLine 194 = .ok (.bipush 11, 2) := by decide +kernel
theorem dX1_addLine_196 : decode cX1_addLine 196 = .ok (.iadd, 1) := by decide +kernel
theorem dX1_addLine_197 : decode cX1_addLine 197 = .ok (.aload_n 0, 1) := by decide +kernel
theorem dX1_addLine_198 : decode cX1_addLine 198 = .ok (.getfield 27, 3) := by decide +kernel
theorem dX1_addLine_201 : decode cX1_addLine 201 = .ok (.invokevirtual 101, 3) := by decide +kernel
theorem dX1_addLine_204 : decode cX1_addLine 204 = .ok (.iastore, 1) := by decide +kernel
theorem dX1_addLine_205 : decode cX1_addLine 205 = .ok (.iconst 0, 1) := by decide +kernel
theorem dX1_addLine_206 : decode cX1_addLine 206 = .ok (.iload_n 1, 1) := by decide +kernel
theorem dX1_addLine_207 : decode cX1_addLine 207 = .ok (.invokestatic 105, 3) := by decide +kernel
theorem dX1_addLine_210 : decode cX1_addLine 210 = .ok (.istore 4, 2) := by decide +kernel
theorem dX1_addLine_212 : decode cX1_addLine 212 = .ok (.iload 4, 2) := by decide +kernel
theorem dX1_addLine_214 : decode cX1_addLine 214 = .ok (.iload_n 1, 1) := by decide +kernel
theorem dX1_addLine_215 : decode cX1_addLine 215 = .ok (.aload_n 0, 1) := by decide +kernel
theorem dX1_addLine_216 : decode cX1_addLine 216 = .ok (.getfield 27, 3) := by decide +kernel
theorem dX1_addLine_219 : decode cX1_addLine 219 = .ok (.getfield 58, 3) := by decide +kernel
theorem dX1_addLine_222 : decode cX1_addLine 222 = .ok (.iadd, 1) := by decide +kernel
theorem dX1_addLine_223 : decode cX1_addLine 223 = .ok (.if_icmp .ge 27, 3) := by decide +kernel
theorem dX1_addLine_226 : decode cX1_addLine 226 = .ok (.iload 4, 2) := by decide +kernel
theorem dX1_addLine_228 : decode cX1_addLine 228 = .ok (.bipush 60, 2) := by decide +kernel
theorem dX1_addLine_230 : decode cX1_addLine 230 = .ok (.if_icmp .ge 20, 3) := by decide +kernel
theorem dX1_addLine_233 : decode cX1_addLine 233 = .ok (.aload_n 0, 1) := by decide +kernel
theorem dX1_addLine_234 : decode cX1_addLine 234 = .ok (.getfield 18, 3) := by decide +kernel
theorem dX1_addLine_237 : decode cX1_addLine 237 = .ok (.iload 4, 2) := by decide +kernel
theorem dX1_addLine_239 : decode cX1_addLine 239 = .ok (.aload_n 0, 1) := by decide +kernel
theorem dX1_addLine_240 : decode cX1_addLine 240 = .ok (.getfield 40, 3) := by decide +kernel
theorem dX1_addLine_243 : decode cX1_addLine 243 = .ok (.iastore, 1) := by decide +kernel
theorem dX1_addLine_244 : decode cX1_addLine 244 = .ok (.iinc 4 1, 3) := by decide +kernel
theorem dX1_addLine_247 : decode cX1_addLine 247 = .ok (.goto (-35), 3) := by decide +kernel
theorem dX1_addLine_250 : decode cX1_addLine 250 = .ok (.aload_n 0, 1) := by decide +kernel
theorem dX1_addLine_251 : decode cX1_addLine 251 = .ok (.dup, 1) := by decide +kernel
theorem dX1_addLine_252 : decode cX1_addLine 252 = .ok (.getfield 40, 3) := by decide +kernel
theorem dX1_addLine_255 : decode cX1_addLine 255 = .ok (.iconst 1, 1) := by decide +kernel
theorem dX1_addLine_256 : decode cX1_addLine 256 = .ok (.iadd, 1) := by decide +kernel
theorem dX1_addLine_257 : decode cX1_addLine 257 = .ok (.putfield 40, 3) := by decide +kernel
theorem dX1_addLine_260 : decode cX1_addLine 260 = .ok (.return_, 1) := by decide +kernel
set_option maxRecDepth 20000 in
theorem ggX1_addPage_X1_lentTo : GoodIn wsX1_addPage wsX1_lentTo := goodIn_r _ [8, 9, 10, 11, 7, 12, 13, 14, 15, 16, 17, 18, 19, 20] (by decide +kernel) (by decide +kernel)
set_option maxRecDepth 20000 in
theorem gX1_addPage_X1_lentTo : GoodIn wsX1_addPage (wsV RX1 110 RX1 yX1_lentTo wsX1_lentTo) := goodIn_app (goodIn_of _ (by decide +kernel)) ggX1_addPage_X1_lentTo
set_option maxRecDepth 20000 in
theorem ggX1_addPage_X1_lineValue : GoodIn wsX1_addPage wsX1_lineValue := goodIn_r _ [12, 13, 14, 15, 16, 17, 18, 19, 20] (by decide +kernel) (by decide +kernel)
set_option maxRecDepth 20000 in
theorem gX1_addPage_X1_lineValue : GoodIn wsX1_addPage (wsV RX1 75 RX1 yX1_lineValue wsX1_lineValue) := goodIn_app (goodIn_of _ (by decide +kernel)) ggX1_addPage_X1_lineValue
theorem dX1_addPage_0 : decode cX1_addPage 0 = .ok (.aload_n 0, 1) := by decide +kernel
theorem dX1_addPage_1 : decode cX1_addPage 1 = .ok (.getfield 44, 3) := by decide +kernel
theorem dX1_addPage_4 : decode cX1_addPage 4 = .ok (.bipush 60, 2) := by decide +kernel
theorem dX1_addPage_6 : decode cX1_addPage 6 = .ok (.if_icmp .lt 4, 3) := by decide +kernel
theorem dX1_addPage_9 : decode cX1_addPage 9 = .ok (.return_, 1) := by decide +kernel
theorem dX1_addPage_10 : decode cX1_addPage 10 = .ok (.iconst 0, 1) := by decide +kernel
theorem dX1_addPage_11 : decode cX1_addPage 11 = .ok (.istore_n 3, 1) := by decide +kernel
theorem dX1_addPage_12 : decode cX1_addPage 12 = .ok (.iconst 0, 1) := by decide +kernel
theorem dX1_addPage_13 : decode cX1_addPage 13 = .ok (.istore 4, 2) := by decide +kernel
theorem dX1_addPage_15 : decode cX1_addPage 15 = .ok (.iload_n 1, 1) := by decide +kernel
theorem dX1_addPage_16 : decode cX1_addPage 16 = .ok (.istore 5, 2) := by decide +kernel
theorem dX1_addPage_18 : decode cX1_addPage 18 = .ok (.iload 5, 2) := by decide +kernel
theorem dX1_addPage_20 : decode cX1_addPage 20 = .ok (.aload_n 0, 1) := by decide +kernel
theorem dX1_addPage_21 : decode cX1_addPage 21 = .ok (.getfield 40, 3) := by decide +kernel
theorem dX1_addPage_24 : decode cX1_addPage 24 = .ok (.if_icmp .ge 31, 3) := by decide +kernel
theorem dX1_addPage_27 : decode cX1_addPage 27 = .ok (.iload_n 3, 1) := by decide +kernel
theorem dX1_addPage_28 : decode cX1_addPage 28 = .ok (.aload_n 0, 1) := by decide +kernel
theorem dX1_addPage_29 : decode cX1_addPage 29 = .ok (.iload 5, 2) := by decide +kernel
theorem dX1_addPage_31 : decode cX1_addPage 31 = .ok (.invokevirtual 110, 3) := by decide +kernel
theorem dX1_addPage_34 : decode cX1_addPage 34 = .ok (.iadd, 1) := by decide +kernel
theorem dX1_addPage_35 : decode cX1_addPage 35 = .ok (.istore_n 3, 1) := by decide +kernel
theorem dX1_addPage_36 : decode cX1_addPage 36 = .ok (.iload 4, 2) := by decide +kernel
theorem dX1_addPage_38 : decode cX1_addPage 38 = .ok (.aload_n 0, 1) := by decide +kernel
theorem dX1_addPage_39 : decode cX1_addPage 39 = .ok (.iload 5, 2) := by decide +kernel
theorem dX1_addPage_41 : decode cX1_addPage 41 = .ok (.bipush 7, 2) := by decide +kernel
theorem dX1_addPage_43 : decode cX1_addPage 43 = .ok (.invokevirtual 75, 3) := by decide +kernel
theorem dX1_addPage_46 : decode cX1_addPage 46 = .ok (.iadd, 1) := by decide +kernel
theorem dX1_addPage_47 : decode cX1_addPage 47 = .ok (.istore 4, 2) := by decide +kernel
theorem dX1_addPage_49 : decode cX1_addPage 49 = .ok (.iinc 5 1, 3) := by decide +kernel
theorem dX1_addPage_52 : decode cX1_addPage 52 = .ok (.goto (-34), 3) := by decide +kernel
theorem dX1_addPage_55 : decode cX1_addPage 55 = .ok (.aload_n 0, 1) := by decide +kernel
theorem dX1_addPage_56 : decode cX1_addPage 56 = .ok (.getfield 44, 3) := by decide +kernel
theorem dX1_addPage_59 : decode cX1_addPage 59 = .ok (.bipush 6, 2) := by decide +kernel
theorem dX1_addPage_61 : decode cX1_addPage 61 = .ok (.imul, 1) := by decide +kernel
theorem dX1_addPage_62 : decode cX1_addPage 62 = .ok (.istore 5, 2) := by decide +kernel
theorem dX1_addPage_64 : decode cX1_addPage 64 = .ok (.aload_n 0, 1) := by decide +kernel
theorem dX1_addPage_65 : decode cX1_addPage 65 = .ok (.getfield 15, 3) := by decide +kernel
theorem dX1_addPage_68 : decode cX1_addPage 68 = .ok (.iload 5, 2) := by decide +kernel
theorem dX1_addPage_70 : decode cX1_addPage 70 = .ok (.iconst 0, 1) := by decide +kernel
theorem dX1_addPage_71 : decode cX1_addPage 71 = .ok (.iadd, 1) := by decide +kernel
theorem dX1_addPage_72 : decode cX1_addPage 72 = .ok (.iload_n 1, 1) := by decide +kernel
theorem dX1_addPage_73 : decode cX1_addPage 73 = .ok (.iastore, 1) := by decide +kernel
theorem dX1_addPage_74 : decode cX1_addPage 74 = .ok (.aload_n 0, 1) := by decide +kernel
theorem dX1_addPage_75 : decode cX1_addPage 75 = .ok (.getfield 15, 3) := by decide +kernel
theorem dX1_addPage_78 : decode cX1_addPage 78 = .ok (.iload 5, 2) := by decide +kernel
theorem dX1_addPage_80 : decode cX1_addPage 80 = .ok (.iconst 1, 1) := by decide +kernel
theorem dX1_addPage_81 : decode cX1_addPage 81 = .ok (.iadd, 1) := by decide +kernel
theorem dX1_addPage_82 : decode cX1_addPage 82 = .ok (.aload_n 0, 1) := by decide +kernel
theorem dX1_addPage_83 : decode cX1_addPage 83 = .ok (.getfield 40, 3) := by decide +kernel
theorem dX1_addPage_86 : decode cX1_addPage 86 = .ok (.iload_n 1, 1) := by decide +kernel
theorem dX1_addPage_87 : decode cX1_addPage 87 = .ok (.isub, 1) := by decide +kernel
theorem dX1_addPage_88 : decode cX1_addPage 88 = .ok (.iastore, 1) := by decide +kernel
theorem dX1_addPage_89 : decode cX1_addPage 89 = .ok (.aload_n 0, 1) := by decide +kernel
theorem dX1_addPage_90 : decode cX1_addPage 90 = .ok (.getfield 15, 3) := by decide +kernel
theorem dX1_addPage_93 : decode cX1_addPage 93 = .ok (.iload 5, 2) := by decide +kernel
theorem dX1_addPage_95 : decode cX1_addPage 95 = .ok (.iconst 2, 1) := by decide +kernel
theorem dX1_addPage_96 : decode cX1_addPage 96 = .ok (.iadd, 1) := by decide +kernel
theorem dX1_addPage_97 : decode cX1_addPage 97 = .ok (.iload_n 3, 1) := by decide +kernel
theorem dX1_addPage_98 : decode cX1_addPage 98 = .ok (.iastore, 1) := by decide +kernel
theorem dX1_addPage_99 : decode cX1_addPage 99 = .ok (.aload_n 0, 1) := by decide +kernel
theorem dX1_addPage_100 : decode cX1_addPage 100 = .ok (.getfield 15, 3) := by decide +kernel
theorem dX1_addPage_103 : decode cX1_addPage 103 = .ok (.iload 5, 2) := by decide +kernel
theorem dX1_addPage_105 : decode cX1_addPage 105 = .ok (.iconst 3, 1) := by decide +kernel
theorem dX1_addPage_106 : decode cX1_addPage 106 = .ok (.iadd, 1) := by decide +kernel
theorem dX1_addPage_107 : decode cX1_addPage 107 = .ok (.iload 4, 2) := by decide +kernel
theorem dX1_addPage_109 : decode cX1_addPage 109 = .ok (.iastore, 1) := by decide +kernel
theorem dX1_addPage_110 : decode cX1_addPage 110 = .ok (.aload_n 0, 1) := by decide +kernel
theorem dX1_addPage_111 : decode cX1_addPage 111 = .ok (.getfield 15, 3) := by decide +kernel
theorem dX1_addPage_114 : decode cX1_addPage 114 = .ok (.iload 5, 2) := by decide +kernel
theorem dX1_addPage_116 : decode cX1_addPage 116 = .ok (.iconst 4, 1) := by decide +kernel
theorem dX1_addPage_117 : decode cX1_addPage 117 = .ok (.iadd, 1) := by decide +kernel
theorem dX1_addPage_118 : decode cX1_addPage 118 = .ok (.aload_n 0, 1) := by decide +kernel
theorem dX1_addPage_119 : decode cX1_addPage 119 = .ok (.aload_n 0, 1) := by decide +kernel
theorem dX1_addPage_120 : decode cX1_addPage 120 = .ok (.getfield 40, 3) := by decide +kernel
theorem dX1_addPage_123 : decode cX1_addPage 123 = .ok (.iconst 1, 1) := by decide +kernel
theorem dX1_addPage_124 : decode cX1_addPage 124 = .ok (.isub, 1) := by decide +kernel
theorem dX1_addPage_125 : decode cX1_addPage 125 = .ok (.bipush 8, 2) := by decide +kernel
theorem dX1_addPage_127 : decode cX1_addPage 127 = .ok (.invokevirtual 75, 3) := by decide +kernel
theorem dX1_addPage_130 : decode cX1_addPage 130 = .ok (.iastore, 1) := by decide +kernel
theorem dX1_addPage_131 : decode cX1_addPage 131 = .ok (.aload_n 0, 1) := by decide +kernel
theorem dX1_addPage_132 : decode cX1_addPage 132 = .ok (.getfield 15, 3) := by decide +kernel
theorem dX1_addPage_135 : decode cX1_addPage 135 = .ok (.iload 5, 2) := by decide +kernel
theorem dX1_addPage_137 : decode cX1_addPage 137 = .ok (.iconst 5, 1) := by decide +kernel
theorem dX1_addPage_138 : decode cX1_addPage 138 = .ok (.iadd, 1) := by decide +kernel
theorem dX1_addPage_139 : decode cX1_addPage 139 = .ok (.iload_n 2, 1) := by decide +kernel
theorem dX1_addPage_140 : decode cX1_addPage 140 = .ok (.ifCond .eq 7, 3) := by decide +kernel
theorem dX1_addPage_143 : decode cX1_addPage 143 = .ok (.iconst 1, 1) := by decide +kernel
theorem dX1_addPage_144 : decode cX1_addPage 144 = .ok (.goto 4, 3) := by decide +kernel
theorem dX1_addPage_147 : decode cX1_addPage 147 = .ok (.iconst 0, 1) := by decide +kernel
theorem dX1_addPage_148 : decode cX1_addPage 148 = .ok (.iastore, 1) := by decide +kernel
theorem dX1_addPage_149 : decode cX1_addPage 149 = .ok (.aload_n 0, 1) := by decide +kernel
theorem dX1_addPage_150 : decode cX1_addPage 150 = .ok (.dup, 1) := by decide +kernel
theorem dX1_addPage_151 : decode cX1_addPage 151 = .ok (.getfield 44, 3) := by decide +kernel
theorem dX1_addPage_154 : decode cX1_addPage 154 = .ok (.iconst 1, 1) := by decide +kernel
theorem dX1_addPage_155 : decode cX1_addPage 155 = .ok (.iadd, 1) := by decide +kernel
theorem dX1_addPage_156 : decode cX1_addPage 156 = .ok (.putfield 44, 3) := by decide +kernel
theorem dX1_addPage_159 : decode cX1_addPage 159 = .ok (.return_, 1) := by decide +kernel
theorem dX1_lineValue_0 : decode cX1_lineValue 0 = .ok (.iload_n 1, 1) := by decide +kernel
theorem dX1_lineValue_1 : decode cX1_lineValue 1 = .ok (.ifCond .lt 19, 3) := by decide +kernel
theorem dX1_lineValue_4 : decode cX1_lineValue 4 = .ok (.iload_n 1, 1) := by decide +kernel
theorem dX1_lineValue_5 : decode cX1_lineValue 5 = .ok (.bipush 60, 2) := by decide +kernel
theorem dX1_lineValue_7 : decode cX1_lineValue 7 = .ok (.if_icmp .ge 13, 3) := by decide +kernel
theorem dX1_lineValue_10 : decode cX1_lineValue 10 = .ok (.iload_n 2, 1) := by decide +kernel
theorem dX1_lineValue_11 : decode cX1_lineValue 11 = .ok (.ifCond .lt 9, 3) := by decide +kernel
theorem dX1_lineValue_14 : decode cX1_lineValue 14 = .ok (.iload_n 2, 1) := by decide +kernel
theorem dX1_lineValue_15 : decode cX1_lineValue 15 = .ok (.bipush 12, 2) := by decide +kernel
theorem dX1_lineValue_17 : decode cX1_lineValue 17 = .ok (.if_icmp .lt 5, 3) := by decide +kernel
theorem dX1_lineValue_20 : decode cX1_lineValue 20 = .ok (.iconst 0, 1) := by decide +kernel
theorem dX1_lineValue_21 : decode cX1_lineValue 21 = .ok (.ireturn, 1) := by decide +kernel
theorem dX1_lineValue_22 : decode cX1_lineValue 22 = .ok (.aload_n 0, 1) := by decide +kernel
theorem dX1_lineValue_23 : decode cX1_lineValue 23 = .ok (.getfield 9, 3) := by decide +kernel
theorem dX1_lineValue_26 : decode cX1_lineValue 26 = .ok (.iload_n 1, 1) := by decide +kernel
theorem dX1_lineValue_27 : decode cX1_lineValue 27 = .ok (.bipush 12, 2) := by decide +kernel
theorem dX1_lineValue_29 : decode cX1_lineValue 29 = .ok (.imul, 1) := by decide +kernel
theorem dX1_lineValue_30 : decode cX1_lineValue 30 = .ok (.iload_n 2, 1) := by decide +kernel
theorem dX1_lineValue_31 : decode cX1_lineValue 31 = .ok (.iadd, 1) := by decide +kernel
theorem dX1_lineValue_32 : decode cX1_lineValue 32 = .ok (.iaload, 1) := by decide +kernel
theorem dX1_lineValue_33 : decode cX1_lineValue 33 = .ok (.ireturn, 1) := by decide +kernel
theorem dX1_pageValue_0 : decode cX1_pageValue 0 = .ok (.iload_n 1, 1) := by decide +kernel
theorem dX1_pageValue_1 : decode cX1_pageValue 1 = .ok (.ifCond .lt 19, 3) := by decide +kernel
theorem dX1_pageValue_4 : decode cX1_pageValue 4 = .ok (.iload_n 1, 1) := by decide +kernel
theorem dX1_pageValue_5 : decode cX1_pageValue 5 = .ok (.bipush 60, 2) := by decide +kernel
theorem dX1_pageValue_7 : decode cX1_pageValue 7 = .ok (.if_icmp .ge 13, 3) := by decide +kernel
theorem dX1_pageValue_10 : decode cX1_pageValue 10 = .ok (.iload_n 2, 1) := by decide +kernel
theorem dX1_pageValue_11 : decode cX1_pageValue 11 = .ok (.ifCond .lt 9, 3) := by decide +kernel
theorem dX1_pageValue_14 : decode cX1_pageValue 14 = .ok (.iload_n 2, 1) := by decide +kernel
theorem dX1_pageValue_15 : decode cX1_pageValue 15 = .ok (.bipush 6, 2) := by decide +kernel
theorem dX1_pageValue_17 : decode cX1_pageValue 17 = .ok (.if_icmp .lt 5, 3) := by decide +kernel
theorem dX1_pageValue_20 : decode cX1_pageValue 20 = .ok (.iconst 0, 1) := by decide +kernel
theorem dX1_pageValue_21 : decode cX1_pageValue 21 = .ok (.ireturn, 1) := by decide +kernel
theorem dX1_pageValue_22 : decode cX1_pageValue 22 = .ok (.aload_n 0, 1) := by decide +kernel
theorem dX1_pageValue_23 : decode cX1_pageValue 23 = .ok (.getfield 15, 3) := by decide +kernel
theorem dX1_pageValue_26 : decode cX1_pageValue 26 = .ok (.iload_n 1, 1) := by decide +kernel
theorem dX1_pageValue_27 : decode cX1_pageValue 27 = .ok (.bipush 6, 2) := by decide +kernel
theorem dX1_pageValue_29 : decode cX1_pageValue 29 = .ok (.imul, 1) := by decide +kernel
theorem dX1_pageValue_30 : decode cX1_pageValue 30 = .ok (.iload_n 2, 1) := by decide +kernel
theorem dX1_pageValue_31 : decode cX1_pageValue 31 = .ok (.iadd, 1) := by decide +kernel
theorem dX1_pageValue_32 : decode cX1_pageValue 32 = .ok (.iaload, 1) := by decide +kernel
theorem dX1_pageValue_33 : decode cX1_pageValue 33 = .ok (.ireturn, 1) := by decide +kernel
theorem dX1_lineOfWord_0 : decode cX1_lineOfWord 0 = .ok (.iload_n 1, 1) := by decide +kernel
theorem dX1_lineOfWord_1 : decode cX1_lineOfWord 1 = .ok (.ifCond .lt 18, 3) := by decide +kernel
theorem dX1_lineOfWord_4 : decode cX1_lineOfWord 4 = .ok (.iload_n 1, 1) := by decide +kernel
theorem dX1_lineOfWord_5 : decode cX1_lineOfWord 5 = .ok (.bipush 60, 2) := by decide +kernel
theorem dX1_lineOfWord_7 : decode cX1_lineOfWord 7 = .ok (.if_icmp .ge 12, 3) := by decide +kernel
theorem dX1_lineOfWord_10 : decode cX1_lineOfWord 10 = .ok (.aload_n 0, 1) := by decide +kernel
theorem dX1_lineOfWord_11 : decode cX1_lineOfWord 11 = .ok (.getfield 18, 3) := by decide +kernel
theorem dX1_lineOfWord_14 : decode cX1_lineOfWord 14 = .ok (.iload_n 1, 1) := by decide +kernel
theorem dX1_lineOfWord_15 : decode cX1_lineOfWord 15 = .ok (.iaload, 1) := by decide +kernel
theorem dX1_lineOfWord_16 : decode cX1_lineOfWord 16 = .ok (.goto 4, 3) := by decide +kernel
theorem dX1_lineOfWord_19 : decode cX1_lineOfWord 19 = .ok (.iconst 0, 1) := by decide +kernel
theorem dX1_lineOfWord_20 : decode cX1_lineOfWord 20 = .ok (.ireturn, 1) := by decide +kernel
set_option maxRecDepth 20000 in
theorem ggX1_lentTo_X1_lineValue : GoodIn wsX1_lentTo wsX1_lineValue := goodIn_r _ [5, 6, 7, 8, 9, 10, 11, 12, 13] (by decide +kernel) (by decide +kernel)
set_option maxRecDepth 20000 in
theorem gX1_lentTo_X1_lineValue : GoodIn wsX1_lentTo (wsV RX1 75 RX1 yX1_lineValue wsX1_lineValue) := goodIn_app (goodIn_of _ (by decide +kernel)) ggX1_lentTo_X1_lineValue
theorem dX1_lentTo_0 : decode cX1_lentTo 0 = .ok (.aload_n 0, 1) := by decide +kernel
theorem dX1_lentTo_1 : decode cX1_lentTo 1 = .ok (.iload_n 1, 1) := by decide +kernel
theorem dX1_lentTo_2 : decode cX1_lentTo 2 = .ok (.iconst 5, 1) := by decide +kernel
theorem dX1_lentTo_3 : decode cX1_lentTo 3 = .ok (.invokevirtual 75, 3) := by decide +kernel
theorem dX1_lentTo_6 : decode cX1_lentTo 6 = .ok (.aload_n 0, 1) := by decide +kernel
theorem dX1_lentTo_7 : decode cX1_lentTo 7 = .ok (.iload_n 1, 1) := by decide +kernel
theorem dX1_lentTo_8 : decode cX1_lentTo 8 = .ok (.bipush 6, 2) := by decide +kernel
theorem dX1_lentTo_10 : decode cX1_lentTo 10 = .ok (.invokevirtual 75, 3) := by decide +kernel
theorem dX1_lentTo_13 : decode cX1_lentTo 13 = .ok (.iadd, 1) := by decide +kernel
theorem dX1_lentTo_14 : decode cX1_lentTo 14 = .ok (.ireturn, 1) := by decide +kernel
set_option maxRecDepth 20000 in
theorem ggX1_sumOf_X1_lineValue : GoodIn wsX1_sumOf wsX1_lineValue := goodIn_r _ [6, 7, 8, 9, 10, 11, 12, 13, 14] (by decide +kernel) (by decide +kernel)
set_option maxRecDepth 20000 in
theorem gX1_sumOf_X1_lineValue : GoodIn wsX1_sumOf (wsV RX1 75 RX1 yX1_lineValue wsX1_lineValue) := goodIn_app (goodIn_of _ (by decide +kernel)) ggX1_sumOf_X1_lineValue
theorem dX1_sumOf_0 : decode cX1_sumOf 0 = .ok (.iconst 0, 1) := by decide +kernel
theorem dX1_sumOf_1 : decode cX1_sumOf 1 = .ok (.istore_n 2, 1) := by decide +kernel
theorem dX1_sumOf_2 : decode cX1_sumOf 2 = .ok (.iconst 0, 1) := by decide +kernel
theorem dX1_sumOf_3 : decode cX1_sumOf 3 = .ok (.istore_n 3, 1) := by decide +kernel
theorem dX1_sumOf_4 : decode cX1_sumOf 4 = .ok (.iload_n 3, 1) := by decide +kernel
theorem dX1_sumOf_5 : decode cX1_sumOf 5 = .ok (.aload_n 0, 1) := by decide +kernel
theorem dX1_sumOf_6 : decode cX1_sumOf 6 = .ok (.getfield 40, 3) := by decide +kernel
theorem dX1_sumOf_9 : decode cX1_sumOf 9 = .ok (.if_icmp .ge 18, 3) := by decide +kernel
theorem dX1_sumOf_12 : decode cX1_sumOf 12 = .ok (.iload_n 2, 1) := by decide +kernel
theorem dX1_sumOf_13 : decode cX1_sumOf 13 = .ok (.aload_n 0, 1) := by decide +kernel
theorem dX1_sumOf_14 : decode cX1_sumOf 14 = .ok (.iload_n 3, 1) := by decide +kernel
theorem dX1_sumOf_15 : decode cX1_sumOf 15 = .ok (.iload_n 1, 1) := by decide +kernel
theorem dX1_sumOf_16 : decode cX1_sumOf 16 = .ok (.invokevirtual 75, 3) := by decide +kernel
theorem dX1_sumOf_19 : decode cX1_sumOf 19 = .ok (.iadd, 1) := by decide +kernel
theorem dX1_sumOf_20 : decode cX1_sumOf 20 = .ok (.istore_n 2, 1) := by decide +kernel
theorem dX1_sumOf_21 : decode cX1_sumOf 21 = .ok (.iinc 3 1, 3) := by decide +kernel
theorem dX1_sumOf_24 : decode cX1_sumOf 24 = .ok (.goto (-20), 3) := by decide +kernel
theorem dX1_sumOf_27 : decode cX1_sumOf 27 = .ok (.iload_n 2, 1) := by decide +kernel
theorem dX1_sumOf_28 : decode cX1_sumOf 28 = .ok (.ireturn, 1) := by decide +kernel
set_option maxRecDepth 20000 in
theorem ggX1_lendingLines_X1_lentTo : GoodIn wsX1_lendingLines wsX1_lentTo := goodIn_r _ [6, 7, 8, 9, 5, 10, 11, 12, 13, 14, 15, 16, 17, 18] (by decide +kernel) (by decide +kernel)
set_option maxRecDepth 20000 in
theorem gX1_lendingLines_X1_lentTo : GoodIn wsX1_lendingLines (wsV RX1 110 RX1 yX1_lentTo wsX1_lentTo) := goodIn_app (goodIn_of _ (by decide +kernel)) ggX1_lendingLines_X1_lentTo
theorem dX1_lendingLines_0 : decode cX1_lendingLines 0 = .ok (.iconst 0, 1) := by decide +kernel
theorem dX1_lendingLines_1 : decode cX1_lendingLines 1 = .ok (.istore_n 1, 1) := by decide +kernel
theorem dX1_lendingLines_2 : decode cX1_lendingLines 2 = .ok (.iconst 0, 1) := by decide +kernel
theorem dX1_lendingLines_3 : decode cX1_lendingLines 3 = .ok (.istore_n 2, 1) := by decide +kernel
theorem dX1_lendingLines_4 : decode cX1_lendingLines 4 = .ok (.iload_n 2, 1) := by decide +kernel
theorem dX1_lendingLines_5 : decode cX1_lendingLines 5 = .ok (.aload_n 0, 1) := by decide +kernel
theorem dX1_lendingLines_6 : decode cX1_lendingLines 6 = .ok (.getfield 40, 3) := by decide +kernel
theorem dX1_lendingLines_9 : decode cX1_lendingLines 9 = .ok (.if_icmp .ge 20, 3) := by decide +kernel
theorem dX1_lendingLines_12 : decode cX1_lendingLines 12 = .ok (.aload_n 0, 1) := by decide +kernel
theorem dX1_lendingLines_13 : decode cX1_lendingLines 13 = .ok (.iload_n 2, 1) := by decide +kernel
theorem dX1_lendingLines_14 : decode cX1_lendingLines 14 = .ok (.invokevirtual 110, 3) := by decide +kernel
theorem dX1_lendingLines_17 : decode cX1_lendingLines 17 = .ok (.ifCond .le 6, 3) := by decide +kernel
theorem dX1_lendingLines_20 : decode cX1_lendingLines 20 = .ok (.iinc 1 1, 3) := by decide +kernel
theorem dX1_lendingLines_23 : decode cX1_lendingLines 23 = .ok (.iinc 2 1, 3) := by decide +kernel
theorem dX1_lendingLines_26 : decode cX1_lendingLines 26 = .ok (.goto (-22), 3) := by decide +kernel
theorem dX1_lendingLines_29 : decode cX1_lendingLines 29 = .ok (.iload_n 1, 1) := by decide +kernel
theorem dX1_lendingLines_30 : decode cX1_lendingLines 30 = .ok (.ireturn, 1) := by decide +kernel
set_option maxRecDepth 20000 in
theorem ggX1_squaresOfEmpty_X1_lineValue : GoodIn wsX1_squaresOfEmpty wsX1_lineValue := goodIn_r _ [6, 7, 8, 9, 10, 11, 12, 13, 14] (by decide +kernel) (by decide +kernel)
set_option maxRecDepth 20000 in
theorem gX1_squaresOfEmpty_X1_lineValue : GoodIn wsX1_squaresOfEmpty (wsV RX1 75 RX1 yX1_lineValue wsX1_lineValue) := goodIn_app (goodIn_of _ (by decide +kernel)) ggX1_squaresOfEmpty_X1_lineValue
theorem dX1_squaresOfEmpty_0 : decode cX1_squaresOfEmpty 0 = .ok (.iconst 0, 1) := by decide +kernel
theorem dX1_squaresOfEmpty_1 : decode cX1_squaresOfEmpty 1 = .ok (.istore_n 1, 1) := by decide +kernel
theorem dX1_squaresOfEmpty_2 : decode cX1_squaresOfEmpty 2 = .ok (.iconst 0, 1) := by decide +kernel
theorem dX1_squaresOfEmpty_3 : decode cX1_squaresOfEmpty 3 = .ok (.istore_n 2, 1) := by decide +kernel
theorem dX1_squaresOfEmpty_4 : decode cX1_squaresOfEmpty 4 = .ok (.iload_n 2, 1) := by decide +kernel
theorem dX1_squaresOfEmpty_5 : decode cX1_squaresOfEmpty 5 = .ok (.aload_n 0, 1) := by decide +kernel
theorem dX1_squaresOfEmpty_6 : decode cX1_squaresOfEmpty 6 = .ok (.getfield 40, 3) := by decide +kernel
theorem dX1_squaresOfEmpty_9 : decode cX1_squaresOfEmpty 9 = .ok (.if_icmp .ge 33, 3) := by decide +kernel
theorem dX1_squaresOfEmpty_12 : decode cX1_squaresOfEmpty 12 = .ok (.aload_n 0, 1) := by decide +kernel
theorem dX1_squaresOfEmpty_13 : decode cX1_squaresOfEmpty 13 = .ok (.iload_n 2, 1) := by decide +kernel
theorem dX1_squaresOfEmpty_14 : decode cX1_squaresOfEmpty 14 = .ok (.bipush 11, 2) := by decide +kernel
theorem dX1_squaresOfEmpty_16 : decode cX1_squaresOfEmpty 16 = .ok (.invokevirtual 75, 3) := by decide +kernel
theorem dX1_squaresOfEmpty_19 : decode cX1_squaresOfEmpty 19 = .ok (.istore_n 3, 1) := by decide +kernel
theorem dX1_squaresOfEmpty_20 : decode cX1_squaresOfEmpty 20 = .ok (.aload_n 0, 1) := by decide +kernel
theorem dX1_squaresOfEmpty_21 : decode cX1_squaresOfEmpty 21 = .ok (.iload_n 2, 1) := by decide +kernel
theorem dX1_squaresOfEmpty_22 : decode cX1_squaresOfEmpty 22 = .ok (.bipush 10, 2) := by decide +kernel
theorem dX1_squaresOfEmpty_24 : decode cX1_squaresOfEmpty 24 = .ok (.invokevirtual 75, 3) := by decide +kernel
theorem dX1_squaresOfEmpty_27 : decode cX1_squaresOfEmpty 27 = .ok (.ifCond .ne 9, 3) := by decide +kernel
theorem dX1_squaresOfEmpty_30 : decode cX1_squaresOfEmpty 30 = .ok (.iload_n 1, 1) := by decide +kernel
theorem dX1_squaresOfEmpty_31 : decode cX1_squaresOfEmpty 31 = .ok (.iload_n 3, 1) := by decide +kernel
theorem dX1_squaresOfEmpty_32 : decode cX1_squaresOfEmpty 32 = .ok (.iload_n 3, 1) := by decide +kernel
theorem dX1_squaresOfEmpty_33 : decode cX1_squaresOfEmpty 33 = .ok (.imul, 1) := by decide +kernel
theorem dX1_squaresOfEmpty_34 : decode cX1_squaresOfEmpty 34 = .ok (.iadd, 1) := by decide +kernel
theorem dX1_squaresOfEmpty_35 : decode cX1_squaresOfEmpty 35 = .ok (.istore_n 1, 1) := by decide +kernel
theorem dX1_squaresOfEmpty_36 : decode cX1_squaresOfEmpty 36 = .ok (.iinc 2 1, 3) := by decide +kernel
theorem dX1_squaresOfEmpty_39 : decode cX1_squaresOfEmpty 39 = .ok (.goto (-35), 3) := by decide +kernel
theorem dX1_squaresOfEmpty_42 : decode cX1_squaresOfEmpty 42 = .ok (.iload_n 1, 1) := by decide +kernel
theorem dX1_squaresOfEmpty_43 : decode cX1_squaresOfEmpty 43 = .ok (.ireturn, 1) := by decide +kernel
theorem dX2_init_0 : decode cX2_init 0 = .ok (.aload_n 0, 1) := by decide +kernel
theorem dX2_init_1 : decode cX2_init 1 = .ok (.invokespecial 3, 3) := by decide +kernel
theorem dX2_init_4 : decode cX2_init 4 = .ok (.return_, 1) := by decide +kernel
theorem dX2_lent_0 : decode cX2_lent 0 = .ok (.aload_n 0, 1) := by decide +kernel
theorem dX2_lent_1 : decode cX2_lent 1 = .ok (.getfield 9, 3) := by decide +kernel
theorem dX2_lent_4 : decode cX2_lent 4 = .ok (.aload_n 0, 1) := by decide +kernel
theorem dX2_lent_5 : decode cX2_lent 5 = .ok (.getfield 15, 3) := by decide +kernel
theorem dX2_lent_8 : decode cX2_lent 8 = .ok (.iadd, 1) := by decide +kernel
theorem dX2_lent_9 : decode cX2_lent 9 = .ok (.ireturn, 1) := by decide +kernel
set_option maxRecDepth 20000 in
theorem ggX2_empty_X2_lent : GoodIn wsX2_empty wsX2_lent := goodIn_r _ [8, 9, 10, 11, 12, 13, 14, 15, 16, 17, 18] (by decide +kernel) (by decide +kernel)
set_option maxRecDepth 20000 in
theorem gX2_empty_X2_lent : GoodIn wsX2_empty (wsV RX2 25 RX2 yX2_lent wsX2_lent) := goodIn_app (goodIn_of _ (by decide +kernel)) ggX2_empty_X2_lent
theorem dX2_empty_0 : decode cX2_empty 0 = .ok (.aload_n 0, 1) := by decide +kernel
theorem dX2_empty_1 : decode cX2_empty 1 = .ok (.getfield 18, 3) := by decide +kernel
theorem dX2_empty_4 : decode cX2_empty 4 = .ok (.ifCond .eq 7, 3) := by decide +kernel
theorem dX2_empty_7 : decode cX2_empty 7 = .ok (.iconst 0, 1) := by decide +kernel
theorem dX2_empty_8 : decode cX2_empty 8 = .ok (.goto 17, 3) := by decide +kernel
theorem dX2_empty_11 : decode cX2_empty 11 = .ok (.aload_n 0, 1) := by decide +kernel
theorem dX2_empty_12 : decode cX2_empty 12 = .ok (.getfield 22, 3) := by decide +kernel
theorem dX2_empty_15 : decode cX2_empty 15 = .ok (.aload_n 0, 1) := by decide +kernel
theorem dX2_empty_16 : decode cX2_empty 16 = .ok (.invokevirtual 25, 3) := by decide +kernel
theorem dX2_empty_19 : decode cX2_empty 19 = .ok (.iadd, 1) := by decide +kernel
theorem dX2_empty_20 : decode cX2_empty 20 = .ok (.aload_n 0, 1) := by decide +kernel
theorem dX2_empty_21 : decode cX2_empty 21 = .ok (.getfield 29, 3) := by decide +kernel
theorem dX2_empty_24 : decode cX2_empty 24 = .ok (.isub, 1) := by decide +kernel
theorem dX2_empty_25 : decode cX2_empty 25 = .ok (.ireturn, 1) := by decide +kernel
set_option maxRecDepth 20000 in
theorem ggX2_choose_X3_widthOf : GoodIn wsX2_choose wsX3_widthOf := goodIn_r _ [16, 17, 18, 19, 20, 21, 22, 15, 23, 24, 25, 26, 27, 28, 77, 78, 79, 80, 81, 82, 83, 84, 85] (by decide +kernel) (by decide +kernel)
set_option maxRecDepth 20000 in
theorem gX2_choose_X3_widthOf : GoodIn wsX2_choose (wsV RX2 41 RX3 yX3_widthOf wsX3_widthOf) := goodIn_app (goodIn_of _ (by decide +kernel)) ggX2_choose_X3_widthOf
set_option maxRecDepth 20000 in
theorem ggX2_choose_X2_takeFirstAlone : GoodIn wsX2_choose wsX2_takeFirstAlone := goodIn_r _ [33, 34, 35, 36, 37, 38, 69, 70, 71, 72, 73, 74, 75, 76] (by decide +kernel) (by decide +kernel)
set_option maxRecDepth 20000 in
theorem gX2_choose_X2_takeFirstAlone : GoodIn wsX2_choose (wsV RX2 47 RX2 yX2_takeFirstAlone wsX2_takeFirstAlone) := goodIn_app (goodIn_of _ (by decide +kernel)) ggX2_choose_X2_takeFirstAlone
set_option maxRecDepth 20000 in
theorem ggX2_choose_X3_aheadOf : GoodIn wsX2_choose wsX3_aheadOf := goodIn_r _ [42, 18, 20, 21, 22, 15, 23, 24, 77, 78, 79, 80, 81, 82, 83, 84, 85] (by decide +kernel) (by decide +kernel)
set_option maxRecDepth 20000 in
theorem gX2_choose_X3_aheadOf : GoodIn wsX2_choose (wsV RX2 51 RX3 yX3_aheadOf wsX3_aheadOf) := goodIn_app (goodIn_of _ (by decide +kernel)) ggX2_choose_X3_aheadOf
set_option maxRecDepth 20000 in
theorem ggX2_choose_X3_overhang : GoodIn wsX2_choose wsX3_overhang := goodIn_r _ [46, 25, 26, 27, 28, 47, 48, 49, 15, 50, 51, 77, 78, 79, 80, 81, 82, 83, 84, 85] (by decide +kernel) (by decide +kernel)
set_option maxRecDepth 20000 in
theorem gX2_choose_X3_overhang : GoodIn wsX2_choose (wsV RX2 54 RX3 yX3_overhang wsX3_overhang) := goodIn_app (goodIn_of _ (by decide +kernel)) ggX2_choose_X3_overhang
set_option maxRecDepth 20000 in
theorem ggX2_choose_X3_behindOf : GoodIn wsX2_choose wsX3_behindOf := goodIn_r _ [55, 19, 20, 21, 22, 15, 23, 24, 77, 78, 79, 80, 81, 82, 83, 84, 85] (by decide +kernel) (by decide +kernel)
set_option maxRecDepth 20000 in
theorem gX2_choose_X3_behindOf : GoodIn wsX2_choose (wsV RX2 63 RX3 yX3_behindOf wsX3_behindOf) := goodIn_app (goodIn_of _ (by decide +kernel)) ggX2_choose_X3_behindOf
set_option maxRecDepth 20000 in
theorem ggX2_choose_X2_take : GoodIn wsX2_choose wsX2_take := goodIn_r _ [59, 34, 35, 1, 2, 3, 4, 37, 36, 38, 69, 70, 71, 72, 73, 74, 75, 76] (by decide +kernel) (by decide +kernel)
set_option maxRecDepth 20000 in
theorem gX2_choose_X2_take : GoodIn wsX2_choose (wsV RX2 66 RX2 yX2_take wsX2_take) := goodIn_app (goodIn_of _ (by decide +kernel)) ggX2_choose_X2_take
set_option maxRecDepth 20000 in
theorem ggX2_choose_X3_endsParagraph : GoodIn wsX2_choose wsX3_endsParagraph := goodIn_r _ [63, 64, 24, 20, 21, 22, 15, 23, 77, 78, 79, 80, 81, 82, 83, 84, 85] (by decide +kernel) (by decide +kernel)
set_option maxRecDepth 20000 in
theorem gX2_choose_X3_endsParagraph : GoodIn wsX2_choose (wsV RX2 70 RX3 yX3_endsParagraph wsX3_endsParagraph) := goodIn_app (goodIn_of _ (by decide +kernel)) ggX2_choose_X3_endsParagraph
set_option maxRecDepth 20000 in
theorem ggX2_choose_X2_lent : GoodIn wsX2_choose wsX2_lent := goodIn_r _ [68, 36, 37, 69, 70, 71, 72, 73, 74, 75, 76] (by decide +kernel) (by decide +kernel)
set_option maxRecDepth 20000 in
theorem gX2_choose_X2_lent : GoodIn wsX2_choose (wsV RX2 25 RX2 yX2_lent wsX2_lent) := goodIn_app (goodIn_of _ (by decide +kernel)) ggX2_choose_X2_lent
theorem dX2_choose_0 : decode cX2_choose 0 = .ok (.aload_n 0, 1) := by decide +kernel
theorem dX2_choose_1 : decode cX2_choose 1 = .ok (.iload 4, 2) := by decide +kernel
theorem dX2_choose_3 : decode cX2_choose 3 = .ok (.aload_n 2, 1) := by decide +kernel
theorem dX2_choose_4 : decode cX2_choose 4 = .ok (.iconst 4, 1) := by decide +kernel
theorem dX2_choose_5 : decode cX2_choose 5 = .ok (.iaload, 1) := by decide +kernel
theorem dX2_choose_6 : decode cX2_choose 6 = .ok (.invokestatic 32, 3) := by decide +kernel
theorem dX2_choose_9 : decode cX2_choose 9 = .ok (.putfield 38, 3) := by decide +kernel
theorem dX2_choose_12 : decode cX2_choose 12 = .ok (.aload_n 0, 1) := by decide +kernel
theorem dX2_choose_13 : decode cX2_choose 13 = .ok (.aload_n 2, 1) := by decide +kernel
theorem dX2_choose_14 : decode cX2_choose 14 = .ok (.iconst 0, 1) := by decide +kernel
theorem dX2_choose_15 : decode cX2_choose 15 = .ok (.iaload, 1) := by decide +kernel
theorem dX2_choose_16 : decode cX2_choose 16 = .ok (.aload_n 0, 1) := by decide +kernel
theorem dX2_choose_17 : decode cX2_choose 17 = .ok (.getfield 38, 3) := by decide +kernel
theorem dX2_choose_20 : decode cX2_choose 20 = .ok (.isub, 1) := by decide +kernel
theorem dX2_choose_21 : decode cX2_choose 21 = .ok (.putfield 22, 3) := by decide +kernel
theorem dX2_choose_24 : decode cX2_choose 24 = .ok (.aload_n 0, 1) := by decide +kernel
theorem dX2_choose_25 : decode cX2_choose 25 = .ok (.aload_n 1, 1) := by decide +kernel
theorem dX2_choose_26 : decode cX2_choose 26 = .ok (.iload_n 3, 1) := by decide +kernel
theorem dX2_choose_27 : decode cX2_choose 27 = .ok (.invokevirtual 41, 3) := by decide +kernel
theorem dX2_choose_30 : decode cX2_choose 30 = .ok (.invokevirtual 47, 3) := by decide +kernel
theorem dX2_choose_33 : decode cX2_choose 33 = .ok (.iload 4, 2) := by decide +kernel
theorem dX2_choose_35 : decode cX2_choose 35 = .ok (.aload_n 0, 1) := by decide +kernel
theorem dX2_choose_36 : decode cX2_choose 36 = .ok (.getfield 38, 3) := by decide +kernel
theorem dX2_choose_39 : decode cX2_choose 39 = .ok (.isub, 1) := by decide +kernel
theorem dX2_choose_40 : decode cX2_choose 40 = .ok (.istore 6, 2) := by decide +kernel
theorem dX2_choose_42 : decode cX2_choose 42 = .ok (.aload_n 2, 1) := by decide +kernel
theorem dX2_choose_43 : decode cX2_choose 43 = .ok (.iconst 4, 1) := by decide +kernel
theorem dX2_choose_44 : decode cX2_choose 44 = .ok (.iaload, 1) := by decide +kernel
theorem dX2_choose_45 : decode cX2_choose 45 = .ok (.iload 5, 2) := by decide +kernel
theorem dX2_choose_47 : decode cX2_choose 47 = .ok (.imul, 1) := by decide +kernel
theorem dX2_choose_48 : decode cX2_choose 48 = .ok (.iload 6, 2) := by decide +kernel
theorem dX2_choose_50 : decode cX2_choose 50 = .ok (.isub, 1) := by decide +kernel
theorem dX2_choose_51 : decode cX2_choose 51 = .ok (.istore 7, 2) := by decide +kernel
theorem dX2_choose_53 : decode cX2_choose 53 = .ok (.aload_n 1, 1) := by decide +kernel
theorem dX2_choose_54 : decode cX2_choose 54 = .ok (.aload_n 1, 1) := by decide +kernel
theorem dX2_choose_55 : decode cX2_choose 55 = .ok (.iload_n 3, 1) := by decide +kernel
theorem dX2_choose_56 : decode cX2_choose 56 = .ok (.invokevirtual 51, 3) := by decide +kernel
theorem dX2_choose_59 : decode cX2_choose 59 = .ok (.invokevirtual 54, 3) := by decide +kernel
theorem dX2_choose_62 : decode cX2_choose 62 = .ok (.aload_n 2, 1) := by decide +kernel
theorem dX2_choose_63 : decode cX2_choose 63 = .ok (.iconst 2, 1) := by decide +kernel
theorem dX2_choose_64 : decode cX2_choose 64 = .ok (.iaload, 1) := by decide +kernel
theorem dX2_choose_65 : decode cX2_choose 65 = .ok (.invokestatic 32, 3) := by decide +kernel
theorem dX2_choose_68 : decode cX2_choose 68 = .ok (.istore 8, 2) := by decide +kernel
theorem dX2_choose_70 : decode cX2_choose 70 = .ok (.bipush (-2), 2) := by decide +kernel
theorem dX2_choose_72 : decode cX2_choose 72 = .ok (.istore 9, 2) := by decide +kernel
theorem dX2_choose_74 : decode cX2_choose 74 = .ok (.iload_n 3, 1) := by decide +kernel
theorem dX2_choose_75 : decode cX2_choose 75 = .ok (.istore 10, 2) := by decide +kernel
theorem dX2_choose_77 : decode cX2_choose 77 = .ok (.iload 10, 2) := by decide +kernel
theorem dX2_choose_79 : decode cX2_choose 79 = .ok (.aload_n 1, 1) := by decide +kernel
theorem dX2_choose_80 : decode cX2_choose 80 = .ok (.getfield 57, 3) := by decide +kernel
theorem dX2_choose_83 : decode cX2_choose 83 = .ok (.if_icmp .ge 118, 3) := by decide +kernel
theorem dX2_choose_86 : decode cX2_choose 86 = .ok (.iload 9, 2) := by decide +kernel
theorem dX2_choose_88 : decode cX2_choose 88 = .ok (.iconst 2, 1) := by decide +kernel
theorem dX2_choose_89 : decode cX2_choose 89 = .ok (.aload_n 1, 1) := by decide +kernel
theorem dX2_choose_90 : decode cX2_choose 90 = .ok (.iload 10, 2) := by decide +kernel
theorem dX2_choose_92 : decode cX2_choose 92 = .ok (.invokevirtual 41, 3) := by decide +kernel
theorem dX2_choose_95 : decode cX2_choose 95 = .ok (.iadd, 1) := by decide +kernel
theorem dX2_choose_96 : decode cX2_choose 96 = .ok (.iadd, 1) := by decide +kernel
theorem dX2_choose_97 : decode cX2_choose 97 = .ok (.istore 9, 2) := by decide +kernel
theorem dX2_choose_99 : decode cX2_choose 99 = .ok (.iconst 0, 1) := by decide +kernel
theorem dX2_choose_100 : decode cX2_choose 100 = .ok (.iload 9, 2) := by decide +kernel
theorem dX2_choose_102 : decode cX2_choose 102 = .ok (.aload_n 0, 1) := by decide +kernel
theorem dX2_choose_103 : decode cX2_choose 103 = .ok (.getfield 22, 3) := by decide +kernel
theorem dX2_choose_106 : decode cX2_choose 106 = .ok (.isub, 1) := by decide +kernel
theorem dX2_choose_107 : decode cX2_choose 107 = .ok (.invokestatic 60, 3) := by decide +kernel
theorem dX2_choose_110 : decode cX2_choose 110 = .ok (.istore 11, 2) := by decide +kernel
theorem dX2_choose_112 : decode cX2_choose 112 = .ok (.iload 11, 2) := by decide +kernel
theorem dX2_choose_114 : decode cX2_choose 114 = .ok (.aload_n 2, 1) := by decide +kernel
theorem dX2_choose_115 : decode cX2_choose 115 = .ok (.iconst 2, 1) := by decide +kernel
theorem dX2_choose_116 : decode cX2_choose 116 = .ok (.iaload, 1) := by decide +kernel
theorem dX2_choose_117 : decode cX2_choose 117 = .ok (.aload_n 2, 1) := by decide +kernel
theorem dX2_choose_118 : decode cX2_choose 118 = .ok (.iconst 3, 1) := by decide +kernel
theorem dX2_choose_119 : decode cX2_choose 119 = .ok (.iaload, 1) := by decide +kernel
theorem dX2_choose_120 : decode cX2_choose 120 = .ok (.iadd, 1) := by decide +kernel
theorem dX2_choose_121 : decode cX2_choose 121 = .ok (.if_icmp .le 6, 3) := by decide +kernel
theorem dX2_choose_124 : decode cX2_choose 124 = .ok (.goto 77, 3) := by decide +kernel
theorem dX2_choose_127 : decode cX2_choose 127 = .ok (.aload_n 1, 1) := by decide +kernel
theorem dX2_choose_128 : decode cX2_choose 128 = .ok (.aload_n 1, 1) := by decide +kernel
theorem dX2_choose_129 : decode cX2_choose 129 = .ok (.iload 10, 2) := by decide +kernel
theorem dX2_choose_131 : decode cX2_choose 131 = .ok (.invokevirtual 63, 3) := by decide +kernel
theorem dX2_choose_134 : decode cX2_choose 134 = .ok (.invokevirtual 54, 3) := by decide +kernel
theorem dX2_choose_137 : decode cX2_choose 137 = .ok (.aload_n 2, 1) := by decide +kernel
theorem dX2_choose_138 : decode cX2_choose 138 = .ok (.iconst 3, 1) := by decide +kernel
theorem dX2_choose_139 : decode cX2_choose 139 = .ok (.iaload, 1) := by decide +kernel
theorem dX2_choose_140 : decode cX2_choose 140 = .ok (.invokestatic 32, 3) := by decide +kernel
theorem dX2_choose_143 : decode cX2_choose 143 = .ok (.istore 12, 2) := by decide +kernel
theorem dX2_choose_145 : decode cX2_choose 145 = .ok (.iload 11, 2) := by decide +kernel
theorem dX2_choose_147 : decode cX2_choose 147 = .ok (.ifCond .eq 20, 3) := by decide +kernel
theorem dX2_choose_150 : decode cX2_choose 150 = .ok (.iload 11, 2) := by decide +kernel
theorem dX2_choose_152 : decode cX2_choose 152 = .ok (.iload 8, 2) := by decide +kernel
theorem dX2_choose_154 : decode cX2_choose 154 = .ok (.iload 12, 2) := by decide +kernel
theorem dX2_choose_156 : decode cX2_choose 156 = .ok (.iadd, 1) := by decide +kernel
theorem dX2_choose_157 : decode cX2_choose 157 = .ok (.if_icmp .gt 26, 3) := by decide +kernel
theorem dX2_choose_160 : decode cX2_choose 160 = .ok (.iload 11, 2) := by decide +kernel
theorem dX2_choose_162 : decode cX2_choose 162 = .ok (.iload 7, 2) := by decide +kernel
theorem dX2_choose_164 : decode cX2_choose 164 = .ok (.if_icmp .gt 19, 3) := by decide +kernel
theorem dX2_choose_167 : decode cX2_choose 167 = .ok (.aload_n 0, 1) := by decide +kernel
theorem dX2_choose_168 : decode cX2_choose 168 = .ok (.iload 10, 2) := by decide +kernel
theorem dX2_choose_170 : decode cX2_choose 170 = .ok (.iload_n 3, 1) := by decide +kernel
theorem dX2_choose_171 : decode cX2_choose 171 = .ok (.isub, 1) := by decide +kernel
theorem dX2_choose_172 : decode cX2_choose 172 = .ok (.iconst 1, 1) := by decide +kernel
theorem dX2_choose_173 : decode cX2_choose 173 = .ok (.iadd, 1) := by decide +kernel
theorem dX2_choose_174 : decode cX2_choose 174 = .ok (.iload 9, 2) := by decide +kernel
theorem dX2_choose_176 : decode cX2_choose 176 = .ok (.iload 11, 2) := by decide +kernel
theorem dX2_choose_178 : decode cX2_choose 178 = .ok (.iload 12, 2) := by decide +kernel
theorem dX2_choose_180 : decode cX2_choose 180 = .ok (.invokevirtual 66, 3) := by decide +kernel
theorem dX2_choose_183 : decode cX2_choose 183 = .ok (.aload_n 1, 1) := by decide +kernel
theorem dX2_choose_184 : decode cX2_choose 184 = .ok (.iload 10, 2) := by decide +kernel
theorem dX2_choose_186 : decode cX2_choose 186 = .ok (.invokevirtual 70, 3) := by decide +kernel
theorem dX2_choose_189 : decode cX2_choose 189 = .ok (.ifCond .eq 6, 3) := by decide +kernel
theorem dX2_choose_192 : decode cX2_choose 192 = .ok (.goto 9, 3) := by decide +kernel
theorem dX2_choose_195 : decode cX2_choose 195 = .ok (.iinc 10 1, 3) := by decide +kernel
theorem dX2_choose_198 : decode cX2_choose 198 = .ok (.goto (-121), 3) := by decide +kernel
theorem dX2_choose_201 : decode cX2_choose 201 = .ok (.aload_n 0, 1) := by decide +kernel
theorem dX2_choose_202 : decode cX2_choose 202 = .ok (.iload 6, 2) := by decide +kernel
theorem dX2_choose_204 : decode cX2_choose 204 = .ok (.aload_n 0, 1) := by decide +kernel
theorem dX2_choose_205 : decode cX2_choose 205 = .ok (.invokevirtual 25, 3) := by decide +kernel
theorem dX2_choose_208 : decode cX2_choose 208 = .ok (.iadd, 1) := by decide +kernel
theorem dX2_choose_209 : decode cX2_choose 209 = .ok (.putfield 74, 3) := by decide +kernel
theorem dX2_choose_212 : decode cX2_choose 212 = .ok (.return_, 1) := by decide +kernel
theorem dX2_takeFirstAlone_0 : decode cX2_takeFirstAlone 0 = .ok (.aload_n 0, 1) := by decide +kernel
theorem dX2_takeFirstAlone_1 : decode cX2_takeFirstAlone 1 = .ok (.iconst 1, 1) := by decide +kernel
theorem dX2_takeFirstAlone_2 : decode cX2_takeFirstAlone 2 = .ok (.putfield 77, 3) := by decide +kernel
theorem dX2_takeFirstAlone_5 : decode cX2_takeFirstAlone 5 = .ok (.aload_n 0, 1) := by decide +kernel
theorem dX2_takeFirstAlone_6 : decode cX2_takeFirstAlone 6 = .ok (.iload_n 1, 1) := by decide +kernel
theorem dX2_takeFirstAlone_7 : decode cX2_takeFirstAlone 7 = .ok (.putfield 29, 3) := by decide +kernel
theorem dX2_takeFirstAlone_10 : decode cX2_takeFirstAlone 10 = .ok (.aload_n 0, 1) := by decide +kernel
theorem dX2_takeFirstAlone_11 : decode cX2_takeFirstAlone 11 = .ok (.iconst 0, 1) := by decide +kernel
theorem dX2_takeFirstAlone_12 : decode cX2_takeFirstAlone 12 = .ok (.putfield 9, 3) := by decide +kernel
theorem dX2_takeFirstAlone_15 : decode cX2_takeFirstAlone 15 = .ok (.aload_n 0, 1) := by decide +kernel
theorem dX2_takeFirstAlone_16 : decode cX2_takeFirstAlone 16 = .ok (.iconst 0, 1) := by decide +kernel
theorem dX2_takeFirstAlone_17 : decode cX2_takeFirstAlone 17 = .ok (.putfield 15, 3) := by decide +kernel
theorem dX2_takeFirstAlone_20 : decode cX2_takeFirstAlone 20 = .ok (.aload_n 0, 1) := by decide +kernel
theorem dX2_takeFirstAlone_21 : decode cX2_takeFirstAlone 21 = .ok (.iconst 1, 1) := by decide +kernel
theorem dX2_takeFirstAlone_22 : decode cX2_takeFirstAlone 22 = .ok (.putfield 18, 3) := by decide +kernel
theorem dX2_takeFirstAlone_25 : decode cX2_takeFirstAlone 25 = .ok (.return_, 1) := by decide +kernel
theorem dX2_take_0 : decode cX2_take 0 = .ok (.aload_n 0, 1) := by decide +kernel
theorem dX2_take_1 : decode cX2_take 1 = .ok (.iload_n 1, 1) := by decide +kernel
theorem dX2_take_2 : decode cX2_take 2 = .ok (.putfield 77, 3) := by decide +kernel
theorem dX2_take_5 : decode cX2_take 5 = .ok (.aload_n 0, 1) := by decide +kernel
theorem dX2_take_6 : decode cX2_take 6 = .ok (.iload_n 2, 1) := by decide +kernel
theorem dX2_take_7 : decode cX2_take 7 = .ok (.putfield 29, 3) := by decide +kernel
theorem dX2_take_10 : decode cX2_take 10 = .ok (.aload_n 0, 1) := by decide +kernel
theorem dX2_take_11 : decode cX2_take 11 = .ok (.iload_n 3, 1) := by decide +kernel
theorem dX2_take_12 : decode cX2_take 12 = .ok (.iload 4, 2) := by decide +kernel
theorem dX2_take_14 : decode cX2_take 14 = .ok (.invokestatic 32, 3) := by decide +kernel
theorem dX2_take_17 : decode cX2_take 17 = .ok (.putfield 15, 3) := by decide +kernel
theorem dX2_take_20 : decode cX2_take 20 = .ok (.aload_n 0, 1) := by decide +kernel
theorem dX2_take_21 : decode cX2_take 21 = .ok (.iload_n 3, 1) := by decide +kernel
theorem dX2_take_22 : decode cX2_take 22 = .ok (.aload_n 0, 1) := by decide +kernel
theorem dX2_take_23 : decode cX2_take 23 = .ok (.getfield 15, 3) := by decide +kernel
theorem dX2_take_26 : decode cX2_take 26 = .ok (.isub, 1) := by decide +kernel
theorem dX2_take_27 : decode cX2_take 27 = .ok (.putfield 9, 3) := by decide +kernel
theorem dX2_take_30 : decode cX2_take 30 = .ok (.aload_n 0, 1) := by decide +kernel
theorem dX2_take_31 : decode cX2_take 31 = .ok (.iconst 0, 1) := by decide +kernel
theorem dX2_take_32 : decode cX2_take 32 = .ok (.putfield 18, 3) := by decide +kernel
theorem dX2_take_35 : decode cX2_take 35 = .ok (.return_, 1) := by decide +kernel
