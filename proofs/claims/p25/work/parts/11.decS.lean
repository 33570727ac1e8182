theorem dJ6_bitCount_0f7a4_0 : decode cJ6_bitCount_0f7a4 0 = .ok (.iload_n 0, 1) := by decide +kernel
theorem dJ6_bitCount_0f7a4_1 : decode cJ6_bitCount_0f7a4 1 = .ok (.iload_n 0, 1) := by decide +kernel
theorem dJ6_bitCount_0f7a4_2 : decode cJ6_bitCount_0f7a4 2 = .ok (.iconst 1, 1) := by decide +kernel
theorem dJ6_bitCount_0f7a4_3 : decode cJ6_bitCount_0f7a4 3 = .ok (.iushr, 1) := by decide +kernel
theorem dJ6_bitCount_0f7a4_4 : decode cJ6_bitCount_0f7a4 4 = .ok (.ldc_w 265, 3) := by decide +kernel
theorem dJ6_bitCount_0f7a4_7 : decode cJ6_bitCount_0f7a4 7 = .ok (.iand, 1) := by decide +kernel
theorem dJ6_bitCount_0f7a4_8 : decode cJ6_bitCount_0f7a4 8 = .ok (.isub, 1) := by decide +kernel
theorem dJ6_bitCount_0f7a4_9 : decode cJ6_bitCount_0f7a4 9 = .ok (.istore_n 0, 1) := by decide +kernel
theorem dJ6_bitCount_0f7a4_10 : decode cJ6_bitCount_0f7a4 10 = .ok (.iload_n 0, 1) := by decide +kernel
theorem dJ6_bitCount_0f7a4_11 : decode cJ6_bitCount_0f7a4 11 = .ok (.ldc_w 266, 3) := by decide +kernel
theorem dJ6_bitCount_0f7a4_14 : decode cJ6_bitCount_0f7a4 14 = .ok (.iand, 1) := by decide +kernel
theorem dJ6_bitCount_0f7a4_15 : decode cJ6_bitCount_0f7a4 15 = .ok (.iload_n 0, 1) := by decide +kernel
theorem dJ6_bitCount_0f7a4_16 : decode cJ6_bitCount_0f7a4 16 = .ok (.iconst 2, 1) := by decide +kernel
theorem dJ6_bitCount_0f7a4_17 : decode cJ6_bitCount_0f7a4 17 = .ok (.iushr, 1) := by decide +kernel
theorem dJ6_bitCount_0f7a4_18 : decode cJ6_bitCount_0f7a4 18 = .ok (.ldc_w 266, 3) := by decide +kernel
theorem dJ6_bitCount_0f7a4_21 : decode cJ6_bitCount_0f7a4 21 = .ok (.iand, 1) := by decide +kernel
theorem dJ6_bitCount_0f7a4_22 : decode cJ6_bitCount_0f7a4 22 = .ok (.iadd, 1) := by decide +kernel
theorem dJ6_bitCount_0f7a4_23 : decode cJ6_bitCount_0f7a4 23 = .ok (.istore_n 0, 1) := by decide +kernel
theorem dJ6_bitCount_0f7a4_24 : decode cJ6_bitCount_0f7a4 24 = .ok (.iload_n 0, 1) := by decide +kernel
theorem dJ6_bitCount_0f7a4_25 : decode cJ6_bitCount_0f7a4 25 = .ok (.iload_n 0, 1) := by decide +kernel
theorem dJ6_bitCount_0f7a4_26 : decode cJ6_bitCount_0f7a4 26 = .ok (.iconst 4, 1) := by decide +kernel
theorem dJ6_bitCount_0f7a4_27 : decode cJ6_bitCount_0f7a4 27 = .ok (.iushr, 1) := by decide +kernel
theorem dJ6_bitCount_0f7a4_28 : decode cJ6_bitCount_0f7a4 28 = .ok (.iadd, 1) := by decide +kernel
theorem dJ6_bitCount_0f7a4_29 : decode cJ6_bitCount_0f7a4 29 = .ok (.ldc_w 267, 3) := by decide +kernel
theorem dJ6_bitCount_0f7a4_32 : decode cJ6_bitCount_0f7a4 32 = .ok (.iand, 1) := by decide +kernel
theorem dJ6_bitCount_0f7a4_33 : decode cJ6_bitCount_0f7a4 33 = .ok (.istore_n 0, 1) := by decide +kernel
theorem dJ6_bitCount_0f7a4_34 : decode cJ6_bitCount_0f7a4 34 = .ok (.iload_n 0, 1) := by decide +kernel
theorem dJ6_bitCount_0f7a4_35 : decode cJ6_bitCount_0f7a4 35 = .ok (.iload_n 0, 1) := by decide +kernel
theorem dJ6_bitCount_0f7a4_36 : decode cJ6_bitCount_0f7a4 36 = .ok (.bipush 8, 2) := by decide +kernel
theorem dJ6_bitCount_0f7a4_38 : decode cJ6_bitCount_0f7a4 38 = .ok (.iushr, 1) := by decide +kernel
theorem dJ6_bitCount_0f7a4_39 : decode cJ6_bitCount_0f7a4 39 = .ok (.iadd, 1) := by decide +kernel
theorem dJ6_bitCount_0f7a4_40 : decode cJ6_bitCount_0f7a4 40 = .ok (.istore_n 0, 1) := by decide +kernel
theorem dJ6_bitCount_0f7a4_41 : decode cJ6_bitCount_0f7a4 41 = .ok (.iload_n 0, 1) := by decide +kernel
theorem dJ6_bitCount_0f7a4_42 : decode cJ6_bitCount_0f7a4 42 = .ok (.iload_n 0, 1) := by decide +kernel
theorem dJ6_bitCount_0f7a4_43 : decode cJ6_bitCount_0f7a4 43 = .ok (.bipush 16, 2) := by decide +kernel
theorem dJ6_bitCount_0f7a4_45 : decode cJ6_bitCount_0f7a4 45 = .ok (.iushr, 1) := by decide +kernel
theorem dJ6_bitCount_0f7a4_46 : decode cJ6_bitCount_0f7a4 46 = .ok (.iadd, 1) := by decide +kernel
theorem dJ6_bitCount_0f7a4_47 : decode cJ6_bitCount_0f7a4 47 = .ok (.istore_n 0, 1) := by decide +kernel
theorem dJ6_bitCount_0f7a4_48 : decode cJ6_bitCount_0f7a4 48 = .ok (.iload_n 0, 1) := by decide +kernel
theorem dJ6_bitCount_0f7a4_49 : decode cJ6_bitCount_0f7a4 49 = .ok (.bipush 63, 2) := by decide +kernel
theorem dJ6_bitCount_0f7a4_51 : decode cJ6_bitCount_0f7a4 51 = .ok (.iand, 1) := by decide +kernel
theorem dJ6_bitCount_0f7a4_52 : decode cJ6_bitCount_0f7a4 52 = .ok (.ireturn, 1) := by decide +kernel
theorem dJ9_max_7cf53_0 : decode cJ9_max_7cf53 0 = .ok (.iload_n 0, 1) := by decide +kernel
theorem dJ9_max_7cf53_1 : decode cJ9_max_7cf53 1 = .ok (.iload_n 1, 1) := by decide +kernel
theorem dJ9_max_7cf53_2 : decode cJ9_max_7cf53 2 = .ok (.if_icmp .lt 7, 3) := by decide +kernel
theorem dJ9_max_7cf53_5 : decode cJ9_max_7cf53 5 = .ok (.iload_n 0, 1) := by decide +kernel
theorem dJ9_max_7cf53_6 : decode cJ9_max_7cf53 6 = .ok (.goto 4, 3) := by decide +kernel
theorem dJ9_max_7cf53_9 : decode cJ9_max_7cf53 9 = .ok (.iload_n 1, 1) := by decide +kernel
theorem dJ9_max_7cf53_10 : decode cJ9_max_7cf53 10 = .ok (.ireturn, 1) := by decide +kernel
theorem dJ9_min_7cf53_0 : decode cJ9_min_7cf53 0 = .ok (.iload_n 0, 1) := by decide +kernel
theorem dJ9_min_7cf53_1 : decode cJ9_min_7cf53 1 = .ok (.iload_n 1, 1) := by decide +kernel
theorem dJ9_min_7cf53_2 : decode cJ9_min_7cf53 2 = .ok (.if_icmp .gt 7, 3) := by decide +kernel
theorem dJ9_min_7cf53_5 : decode cJ9_min_7cf53 5 = .ok (.iload_n 0, 1) := by decide +kernel
theorem dJ9_min_7cf53_6 : decode cJ9_min_7cf53 6 = .ok (.goto 4, 3) := by decide +kernel
theorem dJ9_min_7cf53_9 : decode cJ9_min_7cf53 9 = .ok (.iload_n 1, 1) := by decide +kernel
theorem dJ9_min_7cf53_10 : decode cJ9_min_7cf53 10 = .ok (.ireturn, 1) := by decide +kernel
set_option maxRecDepth 20000 in
theorem ggX0_init_X2_init : GoodIn wsX0_init wsX2_init := goodIn_r _ [12, 13, 2, 3, 14, 15, 16, 17, 18, 19, 20, 24, 25, 26, 27, 28] (by decide +kernel) (by decide +kernel)
set_option maxRecDepth 20000 in
theorem gX0_init_X2_init : GoodIn wsX0_init (wsX2_init) := ggX0_init_X2_init
theorem dX0_init_0 : decode cX0_init 0 = .ok (.aload_n 0, 1) := by decide +kernel
theorem dX0_init_1 : decode cX0_init 1 = .ok (.invokespecial 3, 3) := by decide +kernel
theorem dX0_init_4 : decode cX0_init 4 = .ok (.aload_n 0, 1) := by decide +kernel
theorem dX0_init_5 : decode cX0_init 5 = .ok (.bipush 6, 2) := by decide +kernel
theorem dX0_init_7 : decode cX0_init 7 = .ok (.anewarray 9, 3) := by decide +kernel
theorem dX0_init_10 : decode cX0_init 10 = .ok (.putfield 11, 3) := by decide +kernel
theorem dX0_init_13 : decode cX0_init 13 = .ok (.iconst 0, 1) := by decide +kernel
theorem dX0_init_14 : decode cX0_init 14 = .ok (.istore_n 1, 1) := by decide +kernel
theorem dX0_init_15 : decode cX0_init 15 = .ok (.iload_n 1, 1) := by decide +kernel
theorem dX0_init_16 : decode cX0_init 16 = .ok (.iconst 5, 1) := by decide +kernel
theorem dX0_init_17 : decode cX0_init 17 = .ok (.if_icmp .gt 22, 3) := by decide +kernel
theorem dX0_init_20 : decode cX0_init 20 = .ok (.aload_n 0, 1) := by decide +kernel
theorem dX0_init_21 : decode cX0_init 21 = .ok (.getfield 11, 3) := by decide +kernel
theorem dX0_init_24 : decode cX0_init 24 = .ok (.iload_n 1, 1) := by decide +kernel
theorem dX0_init_25 : decode cX0_init 25 = .ok (.new 9, 3) := by decide +kernel
theorem dX0_init_28 : decode cX0_init 28 = .ok (.dup, 1) := by decide +kernel
theorem dX0_init_29 : decode cX0_init 29 = .ok (.invokespecial 17, 3) := by decide +kernel
theorem dX0_init_32 : decode cX0_init 32 = .ok (.aastore, 1) := by decide +kernel
theorem dX0_init_33 : decode cX0_init 33 = .ok (.iinc 1 1, 3) := by decide +kernel
theorem dX0_init_36 : decode cX0_init 36 = .ok (.goto (-21), 3) := by decide +kernel
theorem dX0_init_39 : decode cX0_init 39 = .ok (.aload_n 0, 1) := by decide +kernel
theorem dX0_init_40 : decode cX0_init 40 = .ok (.iconst 0, 1) := by decide +kernel
theorem dX0_init_41 : decode cX0_init 41 = .ok (.putfield 18, 3) := by decide +kernel
theorem dX0_init_44 : decode cX0_init 44 = .ok (.aload_n 0, 1) := by decide +kernel
theorem dX0_init_45 : decode cX0_init 45 = .ok (.iconst 0, 1) := by decide +kernel
theorem dX0_init_46 : decode cX0_init 46 = .ok (.putfield 22, 3) := by decide +kernel
theorem dX0_init_49 : decode cX0_init 49 = .ok (.return_, 1) := by decide +kernel
set_option maxRecDepth 20000 in
theorem ggX0_prepare_X0_behindLatest : GoodIn wsX0_prepare wsX0_behindLatest := goodIn_r _ [6, 7, 8, 23, 24, 25] (by decide +kernel) (by decide +kernel)
set_option maxRecDepth 20000 in
theorem gX0_prepare_X0_behindLatest : GoodIn wsX0_prepare (wsV RX0 25 RX0 yX0_behindLatest wsX0_behindLatest) := goodIn_app (goodIn_of _ (by decide +kernel)) ggX0_prepare_X0_behindLatest
set_option maxRecDepth 20000 in
theorem ggX0_prepare_X2_copyFrom : GoodIn wsX0_prepare wsX2_copyFrom := goodIn_r _ [13, 14, 15, 16, 17, 18, 19, 20, 21, 22, 26, 27, 28, 29, 30] (by decide +kernel) (by decide +kernel)
set_option maxRecDepth 20000 in
theorem gX0_prepare_X2_copyFrom : GoodIn wsX0_prepare (wsV RX0 29 RX2 yX2_copyFrom wsX2_copyFrom) := goodIn_app (goodIn_of _ (by decide +kernel)) ggX0_prepare_X2_copyFrom
theorem dX0_prepare_0 : decode cX0_prepare 0 = .ok (.aload_n 0, 1) := by decide +kernel
theorem dX0_prepare_1 : decode cX0_prepare 1 = .ok (.getfield 11, 3) := by decide +kernel
theorem dX0_prepare_4 : decode cX0_prepare 4 = .ok (.aload_n 0, 1) := by decide +kernel
theorem dX0_prepare_5 : decode cX0_prepare 5 = .ok (.invokevirtual 25, 3) := by decide +kernel
theorem dX0_prepare_8 : decode cX0_prepare 8 = .ok (.aaload, 1) := by decide +kernel
theorem dX0_prepare_9 : decode cX0_prepare 9 = .ok (.aload_n 1, 1) := by decide +kernel
theorem dX0_prepare_10 : decode cX0_prepare 10 = .ok (.invokevirtual 29, 3) := by decide +kernel
theorem dX0_prepare_13 : decode cX0_prepare 13 = .ok (.return_, 1) := by decide +kernel
set_option maxRecDepth 20000 in
theorem ggX0_takeBack_X0_behindLatest : GoodIn wsX0_takeBack wsX0_behindLatest := goodIn_r _ [6, 7, 8, 23, 24, 25] (by decide +kernel) (by decide +kernel)
set_option maxRecDepth 20000 in
theorem gX0_takeBack_X0_behindLatest : GoodIn wsX0_takeBack (wsV RX0 25 RX0 yX0_behindLatest wsX0_behindLatest) := goodIn_app (goodIn_of _ (by decide +kernel)) ggX0_takeBack_X0_behindLatest
set_option maxRecDepth 20000 in
theorem ggX0_takeBack_X2_copyFrom : GoodIn wsX0_takeBack wsX2_copyFrom := goodIn_r _ [13, 14, 15, 16, 17, 18, 19, 20, 21, 22, 26, 27, 28, 29, 30] (by decide +kernel) (by decide +kernel)
set_option maxRecDepth 20000 in
theorem gX0_takeBack_X2_copyFrom : GoodIn wsX0_takeBack (wsV RX0 29 RX2 yX2_copyFrom wsX2_copyFrom) := goodIn_app (goodIn_of _ (by decide +kernel)) ggX0_takeBack_X2_copyFrom
theorem dX0_takeBack_0 : decode cX0_takeBack 0 = .ok (.aload_n 1, 1) := by decide +kernel
theorem dX0_takeBack_1 : decode cX0_takeBack 1 = .ok (.aload_n 0, 1) := by decide +kernel
theorem dX0_takeBack_2 : decode cX0_takeBack 2 = .ok (.getfield 11, 3) := by decide +kernel
theorem dX0_takeBack_5 : decode cX0_takeBack 5 = .ok (.aload_n 0, 1) := by decide +kernel
theorem dX0_takeBack_6 : decode cX0_takeBack 6 = .ok (.invokevirtual 25, 3) := by decide +kernel
theorem dX0_takeBack_9 : decode cX0_takeBack 9 = .ok (.aaload, 1) := by decide +kernel
theorem dX0_takeBack_10 : decode cX0_takeBack 10 = .ok (.invokevirtual 29, 3) := by decide +kernel
theorem dX0_takeBack_13 : decode cX0_takeBack 13 = .ok (.return_, 1) := by decide +kernel
theorem dX0_keep_0 : decode cX0_keep 0 = .ok (.aload_n 0, 1) := by decide +kernel
theorem dX0_keep_1 : decode cX0_keep 1 = .ok (.getfield 22, 3) := by decide +kernel
theorem dX0_keep_4 : decode cX0_keep 4 = .ok (.iconst 5, 1) := by decide +kernel
theorem dX0_keep_5 : decode cX0_keep 5 = .ok (.if_icmp .ge 16, 3) := by decide +kernel
theorem dX0_keep_8 : decode cX0_keep 8 = .ok (.aload_n 0, 1) := by decide +kernel
theorem dX0_keep_9 : decode cX0_keep 9 = .ok (.dup, 1) := by decide +kernel
theorem dX0_keep_10 : decode cX0_keep 10 = .ok (.getfield 22, 3) := by decide +kernel
theorem dX0_keep_13 : decode cX0_keep 13 = .ok (.iconst 1, 1) := by decide +kernel
theorem dX0_keep_14 : decode cX0_keep 14 = .ok (.iadd, 1) := by decide +kernel
theorem dX0_keep_15 : decode cX0_keep 15 = .ok (.putfield 22, 3) := by decide +kernel
theorem dX0_keep_18 : decode cX0_keep 18 = .ok (.goto 16, 3) := by decide +kernel
theorem dX0_keep_21 : decode cX0_keep 21 = .ok (.aload_n 0, 1) := by decide +kernel
theorem dX0_keep_22 : decode cX0_keep 22 = .ok (.aload_n 0, 1) := by decide +kernel
theorem dX0_keep_23 : decode cX0_keep 23 = .ok (.getfield 18, 3) := by decide +kernel
theorem dX0_keep_26 : decode cX0_keep 26 = .ok (.iconst 1, 1) := by decide +kernel
theorem dX0_keep_27 : decode cX0_keep 27 = .ok (.iadd, 1) := by decide +kernel
theorem dX0_keep_28 : decode cX0_keep 28 = .ok (.bipush 6, 2) := by decide +kernel
theorem dX0_keep_30 : decode cX0_keep 30 = .ok (.irem, 1) := by decide +kernel
theorem dX0_keep_31 : decode cX0_keep 31 = .ok (.putfield 18, 3) := by decide +kernel
theorem dX0_keep_34 : decode cX0_keep 34 = .ok (.return_, 1) := by decide +kernel
set_option maxRecDepth 20000 in
theorem ggX0_restoreLatest_X0_takeBack : GoodIn wsX0_restoreLatest wsX0_takeBack := goodIn_r _ [6, 7, 8, 9, 10, 5, 11, 12, 1, 13, 14, 15, 16, 17, 18, 19, 20, 21, 22, 23, 24, 25, 26, 27, 28, 29, 30, 31, 32, 33, 34] (by decide +kernel) (by decide +kernel)
set_option maxRecDepth 20000 in
theorem gX0_restoreLatest_X0_takeBack : GoodIn wsX0_restoreLatest (wsV RX0 33 RX0 yX0_takeBack wsX0_takeBack) := goodIn_app (goodIn_of _ (by decide +kernel)) ggX0_restoreLatest_X0_takeBack
theorem dX0_restoreLatest_0 : decode cX0_restoreLatest 0 = .ok (.aload_n 0, 1) := by decide +kernel
theorem dX0_restoreLatest_1 : decode cX0_restoreLatest 1 = .ok (.getfield 22, 3) := by decide +kernel
theorem dX0_restoreLatest_4 : decode cX0_restoreLatest 4 = .ok (.ifCond .ne 6, 3) := by decide +kernel
theorem dX0_restoreLatest_7 : decode cX0_restoreLatest 7 = .ok (.bipush (-2), 2) := by decide +kernel
theorem dX0_restoreLatest_9 : decode cX0_restoreLatest 9 = .ok (.ireturn, 1) := by decide +kernel
theorem dX0_restoreLatest_10 : decode cX0_restoreLatest 10 = .ok (.aload_n 0, 1) := by decide +kernel
theorem dX0_restoreLatest_11 : decode cX0_restoreLatest 11 = .ok (.dup, 1) := by decide +kernel
theorem dX0_restoreLatest_12 : decode cX0_restoreLatest 12 = .ok (.getfield 22, 3) := by decide +kernel
theorem dX0_restoreLatest_15 : decode cX0_restoreLatest 15 = .ok (.iconst 1, 1) := by decide +kernel
theorem dX0_restoreLatest_16 : decode cX0_restoreLatest 16 = .ok (.isub, 1) := by decide +kernel
theorem dX0_restoreLatest_17 : decode cX0_restoreLatest 17 = .ok (.putfield 22, 3) := by decide +kernel
theorem dX0_restoreLatest_20 : decode cX0_restoreLatest 20 = .ok (.aload_n 0, 1) := by decide +kernel
theorem dX0_restoreLatest_21 : decode cX0_restoreLatest 21 = .ok (.aload_n 1, 1) := by decide +kernel
theorem dX0_restoreLatest_22 : decode cX0_restoreLatest 22 = .ok (.invokevirtual 33, 3) := by decide +kernel
theorem dX0_restoreLatest_25 : decode cX0_restoreLatest 25 = .ok (.aload_n 0, 1) := by decide +kernel
theorem dX0_restoreLatest_26 : decode cX0_restoreLatest 26 = .ok (.getfield 22, 3) := by decide +kernel
theorem dX0_restoreLatest_29 : decode cX0_restoreLatest 29 = .ok (.ireturn, 1) := by decide +kernel
theorem dX0_behindLatest_0 : decode cX0_behindLatest 0 = .ok (.aload_n 0, 1) := by decide +kernel
theorem dX0_behindLatest_1 : decode cX0_behindLatest 1 = .ok (.getfield 18, 3) := by decide +kernel
theorem dX0_behindLatest_4 : decode cX0_behindLatest 4 = .ok (.aload_n 0, 1) := by decide +kernel
theorem dX0_behindLatest_5 : decode cX0_behindLatest 5 = .ok (.getfield 22, 3) := by decide +kernel
theorem dX0_behindLatest_8 : decode cX0_behindLatest 8 = .ok (.iadd, 1) := by decide +kernel
theorem dX0_behindLatest_9 : decode cX0_behindLatest 9 = .ok (.bipush 6, 2) := by decide +kernel
theorem dX0_behindLatest_11 : decode cX0_behindLatest 11 = .ok (.irem, 1) := by decide +kernel
theorem dX0_behindLatest_12 : decode cX0_behindLatest 12 = .ok (.ireturn, 1) := by decide +kernel
theorem dX1_init_0 : decode cX1_init 0 = .ok (.aload_n 0, 1) := by decide +kernel
theorem dX1_init_1 : decode cX1_init 1 = .ok (.invokespecial 3, 3) := by decide +kernel
theorem dX1_init_4 : decode cX1_init 4 = .ok (.aload_n 0, 1) := by decide +kernel
theorem dX1_init_5 : decode cX1_init 5 = .ok (.iconst 0, 1) := by decide +kernel
theorem dX1_init_6 : decode cX1_init 6 = .ok (.putfield 11, 3) := by decide +kernel
theorem dX1_init_9 : decode cX1_init 9 = .ok (.return_, 1) := by decide +kernel
set_option maxRecDepth 20000 in
theorem ggX1_execute_X1_readCharacter : GoodIn wsX1_execute wsX1_readCharacter := goodIn_r _ [7, 1, 8, 9, 10, 6, 11, 2, 12, 13, 14, 15, 16, 17, 18, 19, 20, 21, 22, 23, 24, 25, 26, 27, 137, 138, 139, 140, 141, 142] (by decide +kernel) (by decide +kernel)
set_option maxRecDepth 20000 in
theorem gX1_execute_X1_readCharacter : GoodIn wsX1_execute (wsV RX1 15 RX1 yX1_readCharacter wsX1_readCharacter) := goodIn_app (goodIn_of _ (by decide +kernel)) ggX1_execute_X1_readCharacter
set_option maxRecDepth 20000 in
theorem ggX1_execute_X1_perform : GoodIn wsX1_execute wsX1_perform := goodIn_r _ [31, 1, 14, 13, 12, 23, 32, 33, 34, 35, 36, 37, 38, 39, 40, 41, 42, 43, 44, 45, 46, 47, 48, 49, 50, 51, 52, 53, 54, 55, 56, 57, 58, 59, 60, 61, 62, 63, 64, 65, 66, 67, 68, 69, 70, 71, 72, 73, 74, 75, 76, 77, 78, 79, 80, 81, 82, 83, 84, 85, 86, 87, 88, 89, 90, 91, 92, 93, 94, 95, 96, 97, 98, 99, 100, 101, 102, 103, 104, 105, 106, 107, 108, 109, 110, 111, 112, 113, 114, 115, 116, 117, 118, 119, 120, 121, 122, 123, 124, 125, 126, 127, 128, 129, 130, 131, 132, 133, 134, 135, 136, 137, 138, 139, 140, 141, 142, 143, 144, 145, 146, 147] (by decide +kernel) (by decide +kernel)
set_option maxRecDepth 20000 in
theorem gX1_execute_X1_perform : GoodIn wsX1_execute (wsV RX1 19 RX1 yX1_perform wsX1_perform) := goodIn_app (goodIn_of _ (by decide +kernel)) ggX1_execute_X1_perform
theorem dX1_execute_0 : decode cX1_execute 0 = .ok (.iconst 0, 1) := by decide +kernel
theorem dX1_execute_1 : decode cX1_execute 1 = .ok (.istore 4, 2) := by decide +kernel
theorem dX1_execute_3 : decode cX1_execute 3 = .ok (.aload_n 0, 1) := by decide +kernel
theorem dX1_execute_4 : decode cX1_execute 4 = .ok (.iconst 0, 1) := by decide +kernel
theorem dX1_execute_5 : decode cX1_execute 5 = .ok (.putfield 11, 3) := by decide +kernel
theorem dX1_execute_8 : decode cX1_execute 8 = .ok (.iconst 0, 1) := by decide +kernel
theorem dX1_execute_9 : decode cX1_execute 9 = .ok (.istore 5, 2) := by decide +kernel
theorem dX1_execute_11 : decode cX1_execute 11 = .ok (.iload 5, 2) := by decide +kernel
theorem dX1_execute_13 : decode cX1_execute 13 = .ok (.iload_n 2, 1) := by decide +kernel
theorem dX1_execute_14 : decode cX1_execute 14 = .ok (.if_icmp .ge 65, 3) := by decide +kernel
theorem dX1_execute_17 : decode cX1_execute 17 = .ok (.aload_n 1, 1) := by decide +kernel
theorem dX1_execute_18 : decode cX1_execute 18 = .ok (.iload 5, 2) := by decide +kernel
theorem dX1_execute_20 : decode cX1_execute 20 = .ok (.caload, 1) := by decide +kernel
theorem dX1_execute_21 : decode cX1_execute 21 = .ok (.istore 6, 2) := by decide +kernel
theorem dX1_execute_23 : decode cX1_execute 23 = .ok (.aload_n 0, 1) := by decide +kernel
theorem dX1_execute_24 : decode cX1_execute 24 = .ok (.iload 6, 2) := by decide +kernel
theorem dX1_execute_26 : decode cX1_execute 26 = .ok (.iload 5, 2) := by decide +kernel
theorem dX1_execute_28 : decode cX1_execute 28 = .ok (.invokevirtual 15, 3) := by decide +kernel
theorem dX1_execute_31 : decode cX1_execute 31 = .ok (.ifCond .ne 10, 3) := by decide +kernel
theorem dX1_execute_34 : decode cX1_execute 34 = .ok (.sipush (-1000), 3) := by decide +kernel
theorem dX1_execute_37 : decode cX1_execute 37 = .ok (.iload 5, 2) := by decide +kernel
theorem dX1_execute_39 : decode cX1_execute 39 = .ok (.isub, 1) := by decide +kernel
theorem dX1_execute_40 : decode cX1_execute 40 = .ok (.ireturn, 1) := by decide +kernel
theorem dX1_execute_41 : decode cX1_execute 41 = .ok (.iload 6, 2) := by decide +kernel
theorem dX1_execute_43 : decode cX1_execute 43 = .ok (.bipush 59, 2) := by decide +kernel
theorem dX1_execute_45 : decode cX1_execute 45 = .ok (.if_icmp .ne 28, 3) := by decide +kernel
theorem dX1_execute_48 : decode cX1_execute 48 = .ok (.aload_n 0, 1) := by decide +kernel
theorem dX1_execute_49 : decode cX1_execute 49 = .ok (.aload_n 3, 1) := by decide +kernel
theorem dX1_execute_50 : decode cX1_execute 50 = .ok (.invokevirtual 19, 3) := by decide +kernel
theorem dX1_execute_53 : decode cX1_execute 53 = .ok (.ifCond .ge 12, 3) := by decide +kernel
theorem dX1_execute_56 : decode cX1_execute 56 = .ok (.sipush (-1000), 3) := by decide +kernel
theorem dX1_execute_59 : decode cX1_execute 59 = .ok (.aload_n 0, 1) := by decide +kernel
theorem dX1_execute_60 : decode cX1_execute 60 = .ok (.getfield 23, 3) := by decide +kernel
theorem dX1_execute_63 : decode cX1_execute 63 = .ok (.isub, 1) := by decide +kernel
theorem dX1_execute_64 : decode cX1_execute 64 = .ok (.ireturn, 1) := by decide +kernel
theorem dX1_execute_65 : decode cX1_execute 65 = .ok (.iinc 4 1, 3) := by decide +kernel
theorem dX1_execute_68 : decode cX1_execute 68 = .ok (.aload_n 0, 1) := by decide +kernel
theorem dX1_execute_69 : decode cX1_execute 69 = .ok (.iconst 0, 1) := by decide +kernel
theorem dX1_execute_70 : decode cX1_execute 70 = .ok (.putfield 11, 3) := by decide +kernel
theorem dX1_execute_73 : decode cX1_execute 73 = .ok (.iinc 5 1, 3) := by decide +kernel
theorem dX1_execute_76 : decode cX1_execute 76 = .ok (.goto (-65), 3) := by decide +kernel
theorem dX1_execute_79 : decode cX1_execute 79 = .ok (.aload_n 0, 1) := by decide +kernel
theorem dX1_execute_80 : decode cX1_execute 80 = .ok (.getfield 11, 3) := by decide +kernel
theorem dX1_execute_83 : decode cX1_execute 83 = .ok (.ifCond .ne 8, 3) := by decide +kernel
theorem dX1_execute_86 : decode cX1_execute 86 = .ok (.iload 4, 2) := by decide +kernel
theorem dX1_execute_88 : decode cX1_execute 88 = .ok (.goto 8, 3) := by decide +kernel
theorem dX1_execute_91 : decode cX1_execute 91 = .ok (.sipush (-1000), 3) := by decide +kernel
theorem dX1_execute_94 : decode cX1_execute 94 = .ok (.iload_n 2, 1) := by decide +kernel
theorem dX1_execute_95 : decode cX1_execute 95 = .ok (.isub, 1) := by decide +kernel
theorem dX1_execute_96 : decode cX1_execute 96 = .ok (.ireturn, 1) := by decide +kernel
set_option maxRecDepth 20000 in
theorem ggX1_readCharacter_X1_readLetter : GoodIn wsX1_readCharacter wsX1_readLetter := goodIn_r _ [6, 1, 7, 8, 9, 10, 24, 25, 26, 27, 28, 29] (by decide +kernel) (by decide +kernel)
set_option maxRecDepth 20000 in
theorem gX1_readCharacter_X1_readLetter : GoodIn wsX1_readCharacter (wsV RX1 27 RX1 yX1_readLetter wsX1_readLetter) := goodIn_app (goodIn_of _ (by decide +kernel)) ggX1_readCharacter_X1_readLetter
set_option maxRecDepth 20000 in
theorem ggX1_readCharacter_X1_readDigit : GoodIn wsX1_readCharacter wsX1_readDigit := goodIn_r _ [14, 10, 9, 1, 24, 25, 26, 27, 28, 29] (by decide +kernel) (by decide +kernel)
set_option maxRecDepth 20000 in
theorem gX1_readCharacter_X1_readDigit : GoodIn wsX1_readCharacter (wsV RX1 30 RX1 yX1_readDigit wsX1_readDigit) := goodIn_app (goodIn_of _ (by decide +kernel)) ggX1_readCharacter_X1_readDigit
set_option maxRecDepth 20000 in
theorem ggX1_readCharacter_X1_readDash : GoodIn wsX1_readCharacter wsX1_readDash := goodIn_r _ [18, 1, 8, 10, 9, 19, 24, 25, 26, 27, 28, 29] (by decide +kernel) (by decide +kernel)
set_option maxRecDepth 20000 in
theorem gX1_readCharacter_X1_readDash : GoodIn wsX1_readCharacter (wsV RX1 34 RX1 yX1_readDash wsX1_readDash) := goodIn_app (goodIn_of _ (by decide +kernel)) ggX1_readCharacter_X1_readDash
set_option maxRecDepth 20000 in
theorem ggX1_readCharacter_X1_mayEnd : GoodIn wsX1_readCharacter wsX1_mayEnd := goodIn_r _ [23, 10, 1, 24, 25, 26, 27, 28, 29] (by decide +kernel) (by decide +kernel)
set_option maxRecDepth 20000 in
theorem gX1_readCharacter_X1_mayEnd : GoodIn wsX1_readCharacter (wsV RX1 38 RX1 yX1_mayEnd wsX1_mayEnd) := goodIn_app (goodIn_of _ (by decide +kernel)) ggX1_readCharacter_X1_mayEnd
theorem dX1_readCharacter_0 : decode cX1_readCharacter 0 = .ok (.aload_n 0, 1) := by decide +kernel
theorem dX1_readCharacter_1 : decode cX1_readCharacter 1 = .ok (.getfield 11, 3) := by decide +kernel
theorem dX1_readCharacter_4 : decode cX1_readCharacter 4 = .ok (.ifCond .ne 10, 3) := by decide +kernel
theorem dX1_readCharacter_7 : decode cX1_readCharacter 7 = .ok (.aload_n 0, 1) := by decide +kernel
theorem dX1_readCharacter_8 : decode cX1_readCharacter 8 = .ok (.iload_n 1, 1) := by decide +kernel
theorem dX1_readCharacter_9 : decode cX1_readCharacter 9 = .ok (.iload_n 2, 1) := by decide +kernel
theorem dX1_readCharacter_10 : decode cX1_readCharacter 10 = .ok (.invokevirtual 27, 3) := by decide +kernel
theorem dX1_readCharacter_13 : decode cX1_readCharacter 13 = .ok (.ireturn, 1) := by decide +kernel
theorem dX1_readCharacter_14 : decode cX1_readCharacter 14 = .ok (.iload_n 1, 1) := by decide +kernel
theorem dX1_readCharacter_15 : decode cX1_readCharacter 15 = .ok (.bipush 48, 2) := by decide +kernel
theorem dX1_readCharacter_17 : decode cX1_readCharacter 17 = .ok (.if_icmp .lt 18, 3) := by decide +kernel
theorem dX1_readCharacter_20 : decode cX1_readCharacter 20 = .ok (.iload_n 1, 1) := by decide +kernel
theorem dX1_readCharacter_21 : decode cX1_readCharacter 21 = .ok (.bipush 57, 2) := by decide +kernel
theorem dX1_readCharacter_23 : decode cX1_readCharacter 23 = .ok (.if_icmp .gt 12, 3) := by decide +kernel
theorem dX1_readCharacter_26 : decode cX1_readCharacter 26 = .ok (.aload_n 0, 1) := by decide +kernel
theorem dX1_readCharacter_27 : decode cX1_readCharacter 27 = .ok (.iload_n 1, 1) := by decide +kernel
theorem dX1_readCharacter_28 : decode cX1_readCharacter 28 = .ok (.bipush 48, 2) := by decide +kernel
theorem dX1_readCharacter_30 : decode cX1_readCharacter 30 = .ok (.isub, 1) := by decide +kernel
theorem dX1_readCharacter_31 : decode cX1_readCharacter 31 = .ok (.invokevirtual 30, 3) := by decide +kernel
theorem dX1_readCharacter_34 : decode cX1_readCharacter 34 = .ok (.ireturn, 1) := by decide +kernel
theorem dX1_readCharacter_35 : decode cX1_readCharacter 35 = .ok (.iload_n 1, 1) := by decide +kernel
theorem dX1_readCharacter_36 : decode cX1_readCharacter 36 = .ok (.bipush 45, 2) := by decide +kernel
theorem dX1_readCharacter_38 : decode cX1_readCharacter 38 = .ok (.if_icmp .ne 8, 3) := by decide +kernel
theorem dX1_readCharacter_41 : decode cX1_readCharacter 41 = .ok (.aload_n 0, 1) := by decide +kernel
theorem dX1_readCharacter_42 : decode cX1_readCharacter 42 = .ok (.invokevirtual 34, 3) := by decide +kernel
theorem dX1_readCharacter_45 : decode cX1_readCharacter 45 = .ok (.ireturn, 1) := by decide +kernel
theorem dX1_readCharacter_46 : decode cX1_readCharacter 46 = .ok (.iload_n 1, 1) := by decide +kernel
theorem dX1_readCharacter_47 : decode cX1_readCharacter 47 = .ok (.bipush 59, 2) := by decide +kernel
theorem dX1_readCharacter_49 : decode cX1_readCharacter 49 = .ok (.if_icmp .ne 14, 3) := by decide +kernel
theorem dX1_readCharacter_52 : decode cX1_readCharacter 52 = .ok (.aload_n 0, 1) := by decide +kernel
theorem dX1_readCharacter_53 : decode cX1_readCharacter 53 = .ok (.invokevirtual 38, 3) := by decide +kernel
theorem dX1_readCharacter_56 : decode cX1_readCharacter 56 = .ok (.ifCond .eq 7, 3) := by decide +kernel
theorem dX1_readCharacter_59 : decode cX1_readCharacter 59 = .ok (.iconst 1, 1) := by decide +kernel
theorem dX1_readCharacter_60 : decode cX1_readCharacter 60 = .ok (.goto 4, 3) := by decide +kernel
theorem dX1_readCharacter_63 : decode cX1_readCharacter 63 = .ok (.iconst 0, 1) := by decide +kernel
theorem dX1_readCharacter_64 : decode cX1_readCharacter 64 = .ok (.ireturn, 1) := by decide +kernel
theorem dX1_readLetter_0 : decode cX1_readLetter 0 = .ok (.iload_n 1, 1) := by decide +kernel
theorem dX1_readLetter_1 : decode cX1_readLetter 1 = .ok (.tableswitch 122 97 116 #[95, 95, 95, 95, 122, 95, 122, 122, 122, 122, 122, 122, 122, 122, 122, 122, 122, 95, 122, 95], 95) := by decide +kernel
theorem dX1_readLetter_96 : decode cX1_readLetter 96 = .ok (.aload_n 0, 1) := by decide +kernel
theorem dX1_readLetter_97 : decode cX1_readLetter 97 = .ok (.iload_n 1, 1) := by decide +kernel
theorem dX1_readLetter_98 : decode cX1_readLetter 98 = .ok (.putfield 11, 3) := by decide +kernel
theorem dX1_readLetter_101 : decode cX1_readLetter 101 = .ok (.aload_n 0, 1) := by decide +kernel
theorem dX1_readLetter_102 : decode cX1_readLetter 102 = .ok (.iload_n 2, 1) := by decide +kernel
theorem dX1_readLetter_103 : decode cX1_readLetter 103 = .ok (.putfield 23, 3) := by decide +kernel
theorem dX1_readLetter_106 : decode cX1_readLetter 106 = .ok (.aload_n 0, 1) := by decide +kernel
theorem dX1_readLetter_107 : decode cX1_readLetter 107 = .ok (.iconst 0, 1) := by decide +kernel
theorem dX1_readLetter_108 : decode cX1_readLetter 108 = .ok (.putfield 41, 3) := by decide +kernel
theorem dX1_readLetter_111 : decode cX1_readLetter 111 = .ok (.aload_n 0, 1) := by decide +kernel
theorem dX1_readLetter_112 : decode cX1_readLetter 112 = .ok (.iconst 0, 1) := by decide +kernel
theorem dX1_readLetter_113 : decode cX1_readLetter 113 = .ok (.putfield 45, 3) := by decide +kernel
theorem dX1_readLetter_116 : decode cX1_readLetter 116 = .ok (.aload_n 0, 1) := by decide +kernel
theorem dX1_readLetter_117 : decode cX1_readLetter 117 = .ok (.iconst 0, 1) := by decide +kernel
theorem dX1_readLetter_118 : decode cX1_readLetter 118 = .ok (.putfield 48, 3) := by decide +kernel
theorem dX1_readLetter_121 : decode cX1_readLetter 121 = .ok (.iconst 1, 1) := by decide +kernel
theorem dX1_readLetter_122 : decode cX1_readLetter 122 = .ok (.ireturn, 1) := by decide +kernel
theorem dX1_readLetter_123 : decode cX1_readLetter 123 = .ok (.iconst 0, 1) := by decide +kernel
theorem dX1_readLetter_124 : decode cX1_readLetter 124 = .ok (.ireturn, 1) := by decide +kernel
theorem dX1_readDigit_0 : decode cX1_readDigit 0 = .ok (.aload_n 0, 1) := by decide +kernel
theorem dX1_readDigit_1 : decode cX1_readDigit 1 = .ok (.getfield 48, 3) := by decide +kernel
theorem dX1_readDigit_4 : decode cX1_readDigit 4 = .ok (.iconst 1, 1) := by decide +kernel
theorem dX1_readDigit_5 : decode cX1_readDigit 5 = .ok (.if_icmp .ne 14, 3) := by decide +kernel
theorem dX1_readDigit_8 : decode cX1_readDigit 8 = .ok (.aload_n 0, 1) := by decide +kernel
theorem dX1_readDigit_9 : decode cX1_readDigit 9 = .ok (.getfield 45, 3) := by decide +kernel
theorem dX1_readDigit_12 : decode cX1_readDigit 12 = .ok (.ifCond .ne 7, 3) := by decide +kernel
theorem dX1_readDigit_15 : decode cX1_readDigit 15 = .ok (.iconst 1, 1) := by decide +kernel
theorem dX1_readDigit_16 : decode cX1_readDigit 16 = .ok (.goto 4, 3) := by decide +kernel
theorem dX1_readDigit_19 : decode cX1_readDigit 19 = .ok (.iconst 0, 1) := by decide +kernel
theorem dX1_readDigit_20 : decode cX1_readDigit 20 = .ok (.istore_n 2, 1) := by decide +kernel
theorem dX1_readDigit_21 : decode cX1_readDigit 21 = .ok (.aload_n 0, 1) := by decide +kernel
theorem dX1_readDigit_22 : decode cX1_readDigit 22 = .ok (.getfield 11, 3) := by decide +kernel
theorem dX1_readDigit_25 : decode cX1_readDigit 25 = .ok (.bipush 97, 2) := by decide +kernel
theorem dX1_readDigit_27 : decode cX1_readDigit 27 = .ok (.if_icmp .eq 15, 3) := by decide +kernel
theorem dX1_readDigit_30 : decode cX1_readDigit 30 = .ok (.aload_n 0, 1) := by decide +kernel
theorem dX1_readDigit_31 : decode cX1_readDigit 31 = .ok (.getfield 48, 3) := by decide +kernel
theorem dX1_readDigit_34 : decode cX1_readDigit 34 = .ok (.iconst 3, 1) := by decide +kernel
theorem dX1_readDigit_35 : decode cX1_readDigit 35 = .ok (.if_icmp .eq 7, 3) := by decide +kernel
theorem dX1_readDigit_38 : decode cX1_readDigit 38 = .ok (.iload_n 2, 1) := by decide +kernel
theorem dX1_readDigit_39 : decode cX1_readDigit 39 = .ok (.ifCond .eq 5, 3) := by decide +kernel
theorem dX1_readDigit_42 : decode cX1_readDigit 42 = .ok (.iconst 0, 1) := by decide +kernel
theorem dX1_readDigit_43 : decode cX1_readDigit 43 = .ok (.ireturn, 1) := by decide +kernel
theorem dX1_readDigit_44 : decode cX1_readDigit 44 = .ok (.aload_n 0, 1) := by decide +kernel
theorem dX1_readDigit_45 : decode cX1_readDigit 45 = .ok (.aload_n 0, 1) := by decide +kernel
theorem dX1_readDigit_46 : decode cX1_readDigit 46 = .ok (.getfield 45, 3) := by decide +kernel
theorem dX1_readDigit_49 : decode cX1_readDigit 49 = .ok (.bipush 10, 2) := by decide +kernel
theorem dX1_readDigit_51 : decode cX1_readDigit 51 = .ok (.imul, 1) := by decide +kernel
theorem dX1_readDigit_52 : decode cX1_readDigit 52 = .ok (.iload_n 1, 1) := by decide +kernel
theorem dX1_readDigit_53 : decode cX1_readDigit 53 = .ok (.iadd, 1) := by decide +kernel
theorem dX1_readDigit_54 : decode cX1_readDigit 54 = .ok (.putfield 45, 3) := by decide +kernel
theorem dX1_readDigit_57 : decode cX1_readDigit 57 = .ok (.aload_n 0, 1) := by decide +kernel
theorem dX1_readDigit_58 : decode cX1_readDigit 58 = .ok (.dup, 1) := by decide +kernel
theorem dX1_readDigit_59 : decode cX1_readDigit 59 = .ok (.getfield 48, 3) := by decide +kernel
theorem dX1_readDigit_62 : decode cX1_readDigit 62 = .ok (.iconst 1, 1) := by decide +kernel
theorem dX1_readDigit_63 : decode cX1_readDigit 63 = .ok (.iadd, 1) := by decide +kernel
theorem dX1_readDigit_64 : decode cX1_readDigit 64 = .ok (.putfield 48, 3) := by decide +kernel
theorem dX1_readDigit_67 : decode cX1_readDigit 67 = .ok (.iconst 1, 1) := by decide +kernel
theorem dX1_readDigit_68 : decode cX1_readDigit 68 = .ok (.ireturn, 1) := by decide +kernel
theorem dX1_readDash_0 : decode cX1_readDash 0 = .ok (.aload_n 0, 1) := by decide +kernel
theorem dX1_readDash_1 : decode cX1_readDash 1 = .ok (.getfield 11, 3) := by decide +kernel
theorem dX1_readDash_4 : decode cX1_readDash 4 = .ok (.bipush 102, 2) := by decide +kernel
theorem dX1_readDash_6 : decode cX1_readDash 6 = .ok (.if_icmp .ne 17, 3) := by decide +kernel
theorem dX1_readDash_9 : decode cX1_readDash 9 = .ok (.aload_n 0, 1) := by decide +kernel
theorem dX1_readDash_10 : decode cX1_readDash 10 = .ok (.getfield 41, 3) := by decide +kernel
theorem dX1_readDash_13 : decode cX1_readDash 13 = .ok (.ifCond .ne 10, 3) := by decide +kernel
theorem dX1_readDash_16 : decode cX1_readDash 16 = .ok (.aload_n 0, 1) := by decide +kernel
theorem dX1_readDash_17 : decode cX1_readDash 17 = .ok (.getfield 48, 3) := by decide +kernel
theorem dX1_readDash_20 : decode cX1_readDash 20 = .ok (.ifCond .ne 5, 3) := by decide +kernel
theorem dX1_readDash_23 : decode cX1_readDash 23 = .ok (.iconst 0, 1) := by decide +kernel
theorem dX1_readDash_24 : decode cX1_readDash 24 = .ok (.ireturn, 1) := by decide +kernel
theorem dX1_readDash_25 : decode cX1_readDash 25 = .ok (.aload_n 0, 1) := by decide +kernel
theorem dX1_readDash_26 : decode cX1_readDash 26 = .ok (.iconst 1, 1) := by decide +kernel
theorem dX1_readDash_27 : decode cX1_readDash 27 = .ok (.putfield 41, 3) := by decide +kernel
theorem dX1_readDash_30 : decode cX1_readDash 30 = .ok (.aload_n 0, 1) := by decide +kernel
theorem dX1_readDash_31 : decode cX1_readDash 31 = .ok (.aload_n 0, 1) := by decide +kernel
theorem dX1_readDash_32 : decode cX1_readDash 32 = .ok (.getfield 45, 3) := by decide +kernel
theorem dX1_readDash_35 : decode cX1_readDash 35 = .ok (.putfield 51, 3) := by decide +kernel
theorem dX1_readDash_38 : decode cX1_readDash 38 = .ok (.aload_n 0, 1) := by decide +kernel
theorem dX1_readDash_39 : decode cX1_readDash 39 = .ok (.iconst 0, 1) := by decide +kernel
theorem dX1_readDash_40 : decode cX1_readDash 40 = .ok (.putfield 45, 3) := by decide +kernel
theorem dX1_readDash_43 : decode cX1_readDash 43 = .ok (.aload_n 0, 1) := by decide +kernel
theorem dX1_readDash_44 : decode cX1_readDash 44 = .ok (.iconst 0, 1) := by decide +kernel
theorem dX1_readDash_45 : decode cX1_readDash 45 = .ok (.putfield 48, 3) := by decide +kernel
theorem dX1_readDash_48 : decode cX1_readDash 48 = .ok (.iconst 1, 1) := by decide +kernel
theorem dX1_readDash_49 : decode cX1_readDash 49 = .ok (.ireturn, 1) := by decide +kernel
theorem dX1_mayEnd_0 : decode cX1_mayEnd 0 = .ok (.aload_n 0, 1) := by decide +kernel
theorem dX1_mayEnd_1 : decode cX1_mayEnd 1 = .ok (.getfield 48, 3) := by decide +kernel
theorem dX1_mayEnd_4 : decode cX1_mayEnd 4 = .ok (.ifCond .gt 21, 3) := by decide +kernel
theorem dX1_mayEnd_7 : decode cX1_mayEnd 7 = .ok (.aload_n 0, 1) := by decide +kernel
theorem dX1_mayEnd_8 : decode cX1_mayEnd 8 = .ok (.getfield 11, 3) := by decide +kernel
theorem dX1_mayEnd_11 : decode cX1_mayEnd 11 = .ok (.bipush 116, 2) := by decide +kernel
theorem dX1_mayEnd_13 : decode cX1_mayEnd 13 = .ok (.if_icmp .eq 12, 3) := by decide +kernel
theorem dX1_mayEnd_16 : decode cX1_mayEnd 16 = .ok (.aload_n 0, 1) := by decide +kernel
theorem dX1_mayEnd_17 : decode cX1_mayEnd 17 = .ok (.getfield 11, 3) := by decide +kernel
theorem dX1_mayEnd_20 : decode cX1_mayEnd 20 = .ok (.bipush 97, 2) := by decide +kernel
theorem dX1_mayEnd_22 : decode cX1_mayEnd 22 = .ok (.if_icmp .ne 7, 3) := by decide +kernel
theorem dX1_mayEnd_25 : decode cX1_mayEnd 25 = .ok (.iconst 1, 1) := by decide +kernel
theorem dX1_mayEnd_26 : decode cX1_mayEnd 26 = .ok (.goto 4, 3) := by decide +kernel
theorem dX1_mayEnd_29 : decode cX1_mayEnd 29 = .ok (.iconst 0, 1) := by decide +kernel
theorem dX1_mayEnd_30 : decode cX1_mayEnd 30 = .ok (.ireturn, 1) := by decide +kernel
set_option maxRecDepth 20000 in
theorem ggX1_perform_X2_takeMany : GoodIn wsX1_perform wsX2_takeMany := goodIn_r _ [10, 11, 12, 13, 9, 14, 15, 16, 17, 18, 19, 20, 21, 22, 23, 24, 25, 26, 27, 28, 29, 30, 31, 32, 33, 34, 35, 36, 37, 38, 39, 40, 41, 42, 43, 44, 45, 46, 47, 48, 49, 50, 117, 118, 119, 120, 121] (by decide +kernel) (by decide +kernel)
set_option maxRecDepth 20000 in
theorem gX1_perform_X2_takeMany : GoodIn wsX1_perform (wsV RX1 54 RX2 yX2_takeMany wsX2_takeMany) := goodIn_app (goodIn_of _ (by decide +kernel)) ggX1_perform_X2_takeMany
set_option maxRecDepth 20000 in
theorem ggX1_perform_X2_giveBackRange : GoodIn wsX1_perform wsX2_giveBackRange := goodIn_r _ [54, 20, 55, 31, 56, 57, 58, 59, 60, 61, 62, 63, 64, 65, 66, 9, 67, 68, 69, 70, 71, 72, 73, 74, 75, 42, 43, 44, 45, 21, 26, 27, 28, 29, 50, 34, 35, 36, 37, 38, 39, 117, 118, 119, 120, 121] (by decide +kernel) (by decide +kernel)
set_option maxRecDepth 20000 in
theorem gX1_perform_X2_giveBackRange : GoodIn wsX1_perform (wsV RX1 60 RX2 yX2_giveBackRange wsX2_giveBackRange) := goodIn_app (goodIn_of _ (by decide +kernel)) ggX1_perform_X2_giveBackRange
set_option maxRecDepth 20000 in
theorem ggX1_perform_X2_clearWords : GoodIn wsX1_perform wsX2_clearWords := goodIn_r _ [49, 20, 42, 43, 44, 9, 45, 21, 26, 27, 28, 29, 50, 34, 35, 36, 37, 38, 39, 117, 118, 119, 120, 121] (by decide +kernel) (by decide +kernel)
set_option maxRecDepth 20000 in
theorem gX1_perform_X2_clearWords : GoodIn wsX1_perform (wsV RX1 64 RX2 yX2_clearWords wsX2_clearWords) := goodIn_app (goodIn_of _ (by decide +kernel)) ggX1_perform_X2_clearWords
set_option maxRecDepth 20000 in
theorem ggX1_perform_X2_reserveBlock : GoodIn wsX1_perform wsX2_reserveBlock := goodIn_r _ [80, 68, 75, 81, 31, 82, 83, 84, 85, 9, 86, 87, 88, 89, 90, 91, 92, 93, 94, 20, 69, 70, 55, 56, 57, 58, 59, 60, 61, 62, 63, 71, 72, 73, 74, 42, 43, 44, 45, 21, 26, 27, 28, 29, 117, 118, 119, 120, 121] (by decide +kernel) (by decide +kernel)
set_option maxRecDepth 20000 in
theorem gX1_perform_X2_reserveBlock : GoodIn wsX1_perform (wsV RX1 67 RX2 yX2_reserveBlock wsX2_reserveBlock) := goodIn_app (goodIn_of _ (by decide +kernel)) ggX1_perform_X2_reserveBlock
set_option maxRecDepth 20000 in
theorem ggX1_perform_X2_takeInBlock : GoodIn wsX1_perform wsX2_takeInBlock := goodIn_r _ [98, 68, 20, 87, 88, 89, 9, 90, 75, 69, 31, 70, 71, 72, 73, 74, 55, 56, 57, 58, 59, 60, 61, 62, 63, 30, 32, 33, 34, 35, 36, 37, 38, 39, 40, 41, 42, 43, 44, 45, 21, 26, 27, 28, 29, 117, 118, 119, 120, 121] (by decide +kernel) (by decide +kernel)
set_option maxRecDepth 20000 in
theorem gX1_perform_X2_takeInBlock : GoodIn wsX1_perform (wsV RX1 70 RX2 yX2_takeInBlock wsX2_takeInBlock) := goodIn_app (goodIn_of _ (by decide +kernel)) ggX1_perform_X2_takeInBlock
set_option maxRecDepth 20000 in
theorem ggX1_perform_X2_damageBit : GoodIn wsX1_perform wsX2_damageBit := goodIn_r _ [102, 21, 22, 23, 24, 9, 25, 117, 118, 119, 120, 121] (by decide +kernel) (by decide +kernel)
set_option maxRecDepth 20000 in
theorem gX1_perform_X2_damageBit : GoodIn wsX1_perform (wsV RX1 73 RX2 yX2_damageBit wsX2_damageBit) := goodIn_app (goodIn_of _ (by decide +kernel)) ggX1_perform_X2_damageBit
set_option maxRecDepth 20000 in
theorem ggX1_perform_X2_repairBits : GoodIn wsX1_perform wsX2_repairBits := goodIn_r _ [106, 21, 107, 108, 109, 9, 110, 26, 27, 28, 29, 20, 50, 34, 35, 36, 37, 38, 39, 117, 118, 119, 120, 121] (by decide +kernel) (by decide +kernel)
set_option maxRecDepth 20000 in
theorem gX1_perform_X2_repairBits : GoodIn wsX1_perform (wsV RX1 76 RX2 yX2_repairBits wsX2_repairBits) := goodIn_app (goodIn_of _ (by decide +kernel)) ggX1_perform_X2_repairBits
theorem dX1_perform_0 : decode cX1_perform 0 = .ok (.aload_n 0, 1) := by decide +kernel
theorem dX1_perform_1 : decode cX1_perform 1 = .ok (.getfield 11, 3) := by decide +kernel
theorem dX1_perform_4 : decode cX1_perform 4 = .ok (.tableswitch 175 98 116 #[157, 139, 166, 175, 112, 175, 175, 175, 175, 175, 175, 175, 175, 175, 175, 175, 148, 175, 92], 92) := by decide +kernel
theorem dX1_perform_96 : decode cX1_perform 96 = .ok (.aload_n 1, 1) := by decide +kernel
theorem dX1_perform_97 : decode cX1_perform 97 = .ok (.aload_n 0, 1) := by decide +kernel
theorem dX1_perform_98 : decode cX1_perform 98 = .ok (.getfield 48, 3) := by decide +kernel
theorem dX1_perform_101 : decode cX1_perform 101 = .ok (.ifCond .ne 7, 3) := by decide +kernel
theorem dX1_perform_104 : decode cX1_perform 104 = .ok (.iconst 1, 1) := by decide +kernel
theorem dX1_perform_105 : decode cX1_perform 105 = .ok (.goto 7, 3) := by decide +kernel
theorem dX1_perform_108 : decode cX1_perform 108 = .ok (.aload_n 0, 1) := by decide +kernel
theorem dX1_perform_109 : decode cX1_perform 109 = .ok (.getfield 45, 3) := by decide +kernel
theorem dX1_perform_112 : decode cX1_perform 112 = .ok (.invokevirtual 54, 3) := by decide +kernel
theorem dX1_perform_115 : decode cX1_perform 115 = .ok (.ireturn, 1) := by decide +kernel
theorem dX1_perform_116 : decode cX1_perform 116 = .ok (.aload_n 1, 1) := by decide +kernel
theorem dX1_perform_117 : decode cX1_perform 117 = .ok (.aload_n 0, 1) := by decide +kernel
theorem dX1_perform_118 : decode cX1_perform 118 = .ok (.getfield 41, 3) := by decide +kernel
theorem dX1_perform_121 : decode cX1_perform 121 = .ok (.ifCond .eq 10, 3) := by decide +kernel
theorem dX1_perform_124 : decode cX1_perform 124 = .ok (.aload_n 0, 1) := by decide +kernel
theorem dX1_perform_125 : decode cX1_perform 125 = .ok (.getfield 51, 3) := by decide +kernel
theorem dX1_perform_128 : decode cX1_perform 128 = .ok (.goto 7, 3) := by decide +kernel
theorem dX1_perform_131 : decode cX1_perform 131 = .ok (.aload_n 0, 1) := by decide +kernel
theorem dX1_perform_132 : decode cX1_perform 132 = .ok (.getfield 45, 3) := by decide +kernel
theorem dX1_perform_135 : decode cX1_perform 135 = .ok (.aload_n 0, 1) := by decide +kernel
theorem dX1_perform_136 : decode cX1_perform 136 = .ok (.getfield 45, 3) := by decide +kernel
theorem dX1_perform_139 : decode cX1_perform 139 = .ok (.invokevirtual 60, 3) := by decide +kernel
theorem dX1_perform_142 : decode cX1_perform 142 = .ok (.ireturn, 1) := by decide +kernel
theorem dX1_perform_143 : decode cX1_perform 143 = .ok (.aload_n 1, 1) := by decide +kernel
theorem dX1_perform_144 : decode cX1_perform 144 = .ok (.aload_n 0, 1) := by decide +kernel
theorem dX1_perform_145 : decode cX1_perform 145 = .ok (.getfield 45, 3) := by decide +kernel
theorem dX1_perform_148 : decode cX1_perform 148 = .ok (.invokevirtual 64, 3) := by decide +kernel
theorem dX1_perform_151 : decode cX1_perform 151 = .ok (.ireturn, 1) := by decide +kernel
theorem dX1_perform_152 : decode cX1_perform 152 = .ok (.aload_n 1, 1) := by decide +kernel
theorem dX1_perform_153 : decode cX1_perform 153 = .ok (.aload_n 0, 1) := by decide +kernel
theorem dX1_perform_154 : decode cX1_perform 154 = .ok (.getfield 45, 3) := by decide +kernel
theorem dX1_perform_157 : decode cX1_perform 157 = .ok (.invokevirtual 67, 3) := by decide +kernel
theorem dX1_perform_160 : decode cX1_perform 160 = .ok (.ireturn, 1) := by decide +kernel
theorem dX1_perform_161 : decode cX1_perform 161 = .ok (.aload_n 1, 1) := by decide +kernel
theorem dX1_perform_162 : decode cX1_perform 162 = .ok (.aload_n 0, 1) := by decide +kernel
theorem dX1_perform_163 : decode cX1_perform 163 = .ok (.getfield 45, 3) := by decide +kernel
theorem dX1_perform_166 : decode cX1_perform 166 = .ok (.invokevirtual 70, 3) := by decide +kernel
theorem dX1_perform_169 : decode cX1_perform 169 = .ok (.ireturn, 1) := by decide +kernel
theorem dX1_perform_170 : decode cX1_perform 170 = .ok (.aload_n 1, 1) := by decide +kernel
theorem dX1_perform_171 : decode cX1_perform 171 = .ok (.aload_n 0, 1) := by decide +kernel
theorem dX1_perform_172 : decode cX1_perform 172 = .ok (.getfield 45, 3) := by decide +kernel
theorem dX1_perform_175 : decode cX1_perform 175 = .ok (.invokevirtual 73, 3) := by decide +kernel
theorem dX1_perform_178 : decode cX1_perform 178 = .ok (.ireturn, 1) := by decide +kernel
theorem dX1_perform_179 : decode cX1_perform 179 = .ok (.aload_n 1, 1) := by decide +kernel
theorem dX1_perform_180 : decode cX1_perform 180 = .ok (.invokevirtual 76, 3) := by decide +kernel
theorem dX1_perform_183 : decode cX1_perform 183 = .ok (.ireturn, 1) := by decide +kernel
theorem dX2_init_0 : decode cX2_init 0 = .ok (.aload_n 0, 1) := by decide +kernel
theorem dX2_init_1 : decode cX2_init 1 = .ok (.invokespecial 3, 3) := by decide +kernel
theorem dX2_init_4 : decode cX2_init 4 = .ok (.aload_n 0, 1) := by decide +kernel
theorem dX2_init_5 : decode cX2_init 5 = .ok (.iconst 4, 1) := by decide +kernel
theorem dX2_init_6 : decode cX2_init 6 = .ok (.bipush 10, 2) := by decide +kernel
theorem dX2_init_8 : decode cX2_init 8 = .ok (.multianewarray 9 2, 4) := by decide +kernel
theorem dX2_init_12 : decode cX2_init 12 = .ok (.putfield 11, 3) := by decide +kernel
theorem dX2_init_15 : decode cX2_init 15 = .ok (.aload_n 0, 1) := by decide +kernel
theorem dX2_init_16 : decode cX2_init 16 = .ok (.bipush 8, 2) := by decide +kernel
theorem dX2_init_18 : decode cX2_init 18 = .ok (.newarray .int, 2) := by decide +kernel
theorem dX2_init_20 : decode cX2_init 20 = .ok (.putfield 16, 3) := by decide +kernel
theorem dX2_init_23 : decode cX2_init 23 = .ok (.aload_n 0, 1) := by decide +kernel
theorem dX2_init_24 : decode cX2_init 24 = .ok (.bipush 8, 2) := by decide +kernel
theorem dX2_init_26 : decode cX2_init 26 = .ok (.newarray .int, 2) := by decide +kernel
theorem dX2_init_28 : decode cX2_init 28 = .ok (.putfield 20, 3) := by decide +kernel
theorem dX2_init_31 : decode cX2_init 31 = .ok (.aload_n 0, 1) := by decide +kernel
theorem dX2_init_32 : decode cX2_init 32 = .ok (.iconst 0, 1) := by decide +kernel
theorem dX2_init_33 : decode cX2_init 33 = .ok (.putfield 23, 3) := by decide +kernel
theorem dX2_init_36 : decode cX2_init 36 = .ok (.aload_n 0, 1) := by decide +kernel
theorem dX2_init_37 : decode cX2_init 37 = .ok (.iconst 0, 1) := by decide +kernel
theorem dX2_init_38 : decode cX2_init 38 = .ok (.putfield 27, 3) := by decide +kernel
theorem dX2_init_41 : decode cX2_init 41 = .ok (.iconst 0, 1) := by decide +kernel
theorem dX2_init_42 : decode cX2_init 42 = .ok (.istore_n 1, 1) := by decide +kernel
theorem dX2_init_43 : decode cX2_init 43 = .ok (.iload_n 1, 1) := by decide +kernel
theorem dX2_init_44 : decode cX2_init 44 = .ok (.bipush 10, 2) := by decide +kernel
theorem dX2_init_46 : decode cX2_init 46 = .ok (.if_icmp .ge 18, 3) := by decide +kernel
theorem dX2_init_49 : decode cX2_init 49 = .ok (.aload_n 0, 1) := by decide +kernel
theorem dX2_init_50 : decode cX2_init 50 = .ok (.getfield 11, 3) := by decide +kernel
theorem dX2_init_53 : decode cX2_init 53 = .ok (.iconst 0, 1) := by decide +kernel
theorem dX2_init_54 : decode cX2_init 54 = .ok (.aaload, 1) := by decide +kernel
theorem dX2_init_55 : decode cX2_init 55 = .ok (.iload_n 1, 1) := by decide +kernel
theorem dX2_init_56 : decode cX2_init 56 = .ok (.iconst (-1), 1) := by decide +kernel
theorem dX2_init_57 : decode cX2_init 57 = .ok (.iastore, 1) := by decide +kernel
theorem dX2_init_58 : decode cX2_init 58 = .ok (.iinc 1 1, 3) := by decide +kernel
theorem dX2_init_61 : decode cX2_init 61 = .ok (.goto (-18), 3) := by decide +kernel
theorem dX2_init_64 : decode cX2_init 64 = .ok (.return_, 1) := by decide +kernel
theorem dX2_copyFrom_0 : decode cX2_copyFrom 0 = .ok (.iconst 0, 1) := by decide +kernel
theorem dX2_copyFrom_1 : decode cX2_copyFrom 1 = .ok (.istore_n 2, 1) := by decide +kernel
theorem dX2_copyFrom_2 : decode cX2_copyFrom 2 = .ok (.iload_n 2, 1) := by decide +kernel
theorem dX2_copyFrom_3 : decode cX2_copyFrom 3 = .ok (.iconst 4, 1) := by decide +kernel
theorem dX2_copyFrom_4 : decode cX2_copyFrom 4 = .ok (.if_icmp .ge 28, 3) := by decide +kernel
theorem dX2_copyFrom_7 : decode cX2_copyFrom 7 = .ok (.aload_n 1, 1) := by decide +kernel
theorem dX2_copyFrom_8 : decode cX2_copyFrom 8 = .ok (.getfield 11, 3) := by decide +kernel
theorem dX2_copyFrom_11 : decode cX2_copyFrom 11 = .ok (.iload_n 2, 1) := by decide +kernel
theorem dX2_copyFrom_12 : decode cX2_copyFrom 12 = .ok (.aaload, 1) := by decide +kernel
theorem dX2_copyFrom_13 : decode cX2_copyFrom 13 = .ok (.iconst 0, 1) := by decide +kernel
theorem dX2_copyFrom_14 : decode cX2_copyFrom 14 = .ok (.aload_n 0, 1) := by decide +kernel
theorem dX2_copyFrom_15 : decode cX2_copyFrom 15 = .ok (.getfield 11, 3) := by decide +kernel
theorem dX2_copyFrom_18 : decode cX2_copyFrom 18 = .ok (.iload_n 2, 1) := by decide +kernel
theorem dX2_copyFrom_19 : decode cX2_copyFrom 19 = .ok (.aaload, 1) := by decide +kernel
theorem dX2_copyFrom_20 : decode cX2_copyFrom 20 = .ok (.iconst 0, 1) := by decide +kernel
theorem dX2_copyFrom_21 : decode cX2_copyFrom 21 = .ok (.bipush 10, 2) := by decide +kernel
theorem dX2_copyFrom_23 : decode cX2_copyFrom 23 = .ok (.invokestatic 30, 3) := by decide +kernel
theorem dX2_copyFrom_26 : decode cX2_copyFrom 26 = .ok (.iinc 2 1, 3) := by decide +kernel
theorem dX2_copyFrom_29 : decode cX2_copyFrom 29 = .ok (.goto (-27), 3) := by decide +kernel
theorem dX2_copyFrom_32 : decode cX2_copyFrom 32 = .ok (.aload_n 1, 1) := by decide +kernel
theorem dX2_copyFrom_33 : decode cX2_copyFrom 33 = .ok (.getfield 16, 3) := by decide +kernel
theorem dX2_copyFrom_36 : decode cX2_copyFrom 36 = .ok (.iconst 0, 1) := by decide +kernel
theorem dX2_copyFrom_37 : decode cX2_copyFrom 37 = .ok (.aload_n 0, 1) := by decide +kernel
theorem dX2_copyFrom_38 : decode cX2_copyFrom 38 = .ok (.getfield 16, 3) := by decide +kernel
theorem dX2_copyFrom_41 : decode cX2_copyFrom 41 = .ok (.iconst 0, 1) := by decide +kernel
theorem dX2_copyFrom_42 : decode cX2_copyFrom 42 = .ok (.bipush 8, 2) := by decide +kernel
theorem dX2_copyFrom_44 : decode cX2_copyFrom 44 = .ok (.invokestatic 30, 3) := by decide +kernel
theorem dX2_copyFrom_47 : decode cX2_copyFrom 47 = .ok (.aload_n 1, 1) := by decide +kernel
theorem dX2_copyFrom_48 : decode cX2_copyFrom 48 = .ok (.getfield 20, 3) := by decide +kernel
theorem dX2_copyFrom_51 : decode cX2_copyFrom 51 = .ok (.iconst 0, 1) := by decide +kernel
theorem dX2_copyFrom_52 : decode cX2_copyFrom 52 = .ok (.aload_n 0, 1) := by decide +kernel
theorem dX2_copyFrom_53 : decode cX2_copyFrom 53 = .ok (.getfield 20, 3) := by decide +kernel
theorem dX2_copyFrom_56 : decode cX2_copyFrom 56 = .ok (.iconst 0, 1) := by decide +kernel
theorem dX2_copyFrom_57 : decode cX2_copyFrom 57 = .ok (.bipush 8, 2) := by decide +kernel
theorem dX2_copyFrom_59 : decode cX2_copyFrom 59 = .ok (.invokestatic 30, 3) := by decide +kernel
theorem dX2_copyFrom_62 : decode cX2_copyFrom 62 = .ok (.aload_n 0, 1) := by decide +kernel
theorem dX2_copyFrom_63 : decode cX2_copyFrom 63 = .ok (.aload_n 1, 1) := by decide +kernel
theorem dX2_copyFrom_64 : decode cX2_copyFrom 64 = .ok (.getfield 23, 3) := by decide +kernel
theorem dX2_copyFrom_67 : decode cX2_copyFrom 67 = .ok (.putfield 23, 3) := by decide +kernel
theorem dX2_copyFrom_70 : decode cX2_copyFrom 70 = .ok (.aload_n 0, 1) := by decide +kernel
theorem dX2_copyFrom_71 : decode cX2_copyFrom 71 = .ok (.aload_n 1, 1) := by decide +kernel
theorem dX2_copyFrom_72 : decode cX2_copyFrom 72 = .ok (.getfield 27, 3) := by decide +kernel
theorem dX2_copyFrom_75 : decode cX2_copyFrom 75 = .ok (.putfield 27, 3) := by decide +kernel
theorem dX2_copyFrom_78 : decode cX2_copyFrom 78 = .ok (.return_, 1) := by decide +kernel
set_option maxRecDepth 20000 in
theorem ggX2_takeOne_X2_takeBySummaries : GoodIn wsX2_takeOne wsX2_takeBySummaries := goodIn_r _ [5, 6, 7, 8, 9, 10, 11, 4, 12, 13, 14, 15, 16, 17, 18, 19, 20, 21, 22, 23, 24, 25, 26, 27, 28, 29, 30, 31, 32, 38, 39, 40, 41, 42] (by decide +kernel) (by decide +kernel)
set_option maxRecDepth 20000 in
theorem gX2_takeOne_X2_takeBySummaries : GoodIn wsX2_takeOne (wsV RX2 36 RX2 yX2_takeBySummaries wsX2_takeBySummaries) := goodIn_app (goodIn_of _ (by decide +kernel)) ggX2_takeOne_X2_takeBySummaries
set_option maxRecDepth 20000 in
theorem ggX2_takeOne_X2_clearWords : GoodIn wsX2_takeOne wsX2_clearWords := goodIn_r _ [36, 7, 29, 30, 31, 4, 32, 8, 13, 14, 15, 16, 37, 21, 22, 23, 24, 25, 26, 38, 39, 40, 41, 42] (by decide +kernel) (by decide +kernel)
set_option maxRecDepth 20000 in
theorem gX2_takeOne_X2_clearWords : GoodIn wsX2_takeOne (wsV RX2 40 RX2 yX2_clearWords wsX2_clearWords) := goodIn_app (goodIn_of _ (by decide +kernel)) ggX2_takeOne_X2_clearWords
theorem dX2_takeOne_0 : decode cX2_takeOne 0 = .ok (.aload_n 0, 1) := by decide +kernel
theorem dX2_takeOne_1 : decode cX2_takeOne 1 = .ok (.invokevirtual 36, 3) := by decide +kernel
theorem dX2_takeOne_4 : decode cX2_takeOne 4 = .ok (.istore_n 1, 1) := by decide +kernel
theorem dX2_takeOne_5 : decode cX2_takeOne 5 = .ok (.iload_n 1, 1) := by decide +kernel
theorem dX2_takeOne_6 : decode cX2_takeOne 6 = .ok (.bipush (-9), 2) := by decide +kernel
theorem dX2_takeOne_8 : decode cX2_takeOne 8 = .ok (.if_icmp .ne 17, 3) := by decide +kernel
theorem dX2_takeOne_11 : decode cX2_takeOne 11 = .ok (.aload_n 0, 1) := by decide +kernel
theorem dX2_takeOne_12 : decode cX2_takeOne 12 = .ok (.bipush 10, 2) := by decide +kernel
theorem dX2_takeOne_14 : decode cX2_takeOne 14 = .ok (.invokevirtual 40, 3) := by decide +kernel
theorem dX2_takeOne_17 : decode cX2_takeOne 17 = .ok (.ifCond .le 8, 3) := by decide +kernel
theorem dX2_takeOne_20 : decode cX2_takeOne 20 = .ok (.aload_n 0, 1) := by decide +kernel
theorem dX2_takeOne_21 : decode cX2_takeOne 21 = .ok (.invokevirtual 36, 3) := by decide +kernel
theorem dX2_takeOne_24 : decode cX2_takeOne 24 = .ok (.istore_n 1, 1) := by decide +kernel
theorem dX2_takeOne_25 : decode cX2_takeOne 25 = .ok (.iload_n 1, 1) := by decide +kernel
theorem dX2_takeOne_26 : decode cX2_takeOne 26 = .ok (.bipush (-9), 2) := by decide +kernel
theorem dX2_takeOne_28 : decode cX2_takeOne 28 = .ok (.if_icmp .ne 8, 3) := by decide +kernel
theorem dX2_takeOne_31 : decode cX2_takeOne 31 = .ok (.bipush (-3), 2) := by decide +kernel
theorem dX2_takeOne_33 : decode cX2_takeOne 33 = .ok (.goto 4, 3) := by decide +kernel
theorem dX2_takeOne_36 : decode cX2_takeOne 36 = .ok (.iload_n 1, 1) := by decide +kernel
theorem dX2_takeOne_37 : decode cX2_takeOne 37 = .ok (.ireturn, 1) := by decide +kernel
set_option maxRecDepth 20000 in
theorem ggX2_takeBySummaries_X2_summaryBit : GoodIn wsX2_takeBySummaries wsX2_summaryBit := goodIn_r _ [8, 3, 29, 30, 31, 32, 33] (by decide +kernel) (by decide +kernel)
set_option maxRecDepth 20000 in
theorem gX2_takeBySummaries_X2_summaryBit : GoodIn wsX2_takeBySummaries (wsV RX2 44 RX2 yX2_summaryBit wsX2_summaryBit) := goodIn_app (goodIn_of _ (by decide +kernel)) ggX2_takeBySummaries_X2_summaryBit
set_option maxRecDepth 20000 in
theorem ggX2_takeBySummaries_X2_isFull : GoodIn wsX2_takeBySummaries wsX2_isFull := goodIn_r _ [12, 2, 29, 30, 31, 32, 33] (by decide +kernel) (by decide +kernel)
set_option maxRecDepth 20000 in
theorem gX2_takeBySummaries_X2_isFull : GoodIn wsX2_takeBySummaries (wsV RX2 47 RX2 yX2_isFull wsX2_isFull) := goodIn_app (goodIn_of _ (by decide +kernel)) ggX2_takeBySummaries_X2_isFull
set_option maxRecDepth 20000 in
theorem ggX2_takeBySummaries_X3_lowestBit : GoodIn wsX2_takeBySummaries wsX3_lowestBit := goodIn_r _ [15, 16, 17, 18, 19, 20, 21, 22] (by decide +kernel) (by decide +kernel)
set_option maxRecDepth 20000 in
theorem gX2_takeBySummaries_X3_lowestBit_n51 : GoodIn wsX2_takeBySummaries (wsX3_lowestBit) := ggX2_takeBySummaries_X3_lowestBit
set_option maxRecDepth 20000 in
theorem ggX2_takeBySummaries_X3_bitOf : GoodIn wsX2_takeBySummaries wsX3_bitOf := goodIn_r _ [24] (by decide +kernel) (by decide +kernel)
set_option maxRecDepth 20000 in
theorem gX2_takeBySummaries_X3_bitOf_n54 : GoodIn wsX2_takeBySummaries (wsX3_bitOf) := ggX2_takeBySummaries_X3_bitOf
set_option maxRecDepth 20000 in
theorem ggX2_takeBySummaries_X2_change : GoodIn wsX2_takeBySummaries wsX2_change := goodIn_r _ [28, 2, 3, 9, 10, 11, 7, 12, 29, 30, 31, 32, 33] (by decide +kernel) (by decide +kernel)
set_option maxRecDepth 20000 in
theorem gX2_takeBySummaries_X2_change : GoodIn wsX2_takeBySummaries (wsV RX2 57 RX2 yX2_change wsX2_change) := goodIn_app (goodIn_of _ (by decide +kernel)) ggX2_takeBySummaries_X2_change
theorem dX2_takeBySummaries_0 : decode cX2_takeBySummaries 0 = .ok (.iconst 0, 1) := by decide +kernel
theorem dX2_takeBySummaries_1 : decode cX2_takeBySummaries 1 = .ok (.istore_n 1, 1) := by decide +kernel
theorem dX2_takeBySummaries_2 : decode cX2_takeBySummaries 2 = .ok (.iload_n 1, 1) := by decide +kernel
theorem dX2_takeBySummaries_3 : decode cX2_takeBySummaries 3 = .ok (.bipush 10, 2) := by decide +kernel
theorem dX2_takeBySummaries_5 : decode cX2_takeBySummaries 5 = .ok (.if_icmp .ge 77, 3) := by decide +kernel
theorem dX2_takeBySummaries_8 : decode cX2_takeBySummaries 8 = .ok (.aload_n 0, 1) := by decide +kernel
theorem dX2_takeBySummaries_9 : decode cX2_takeBySummaries 9 = .ok (.iload_n 1, 1) := by decide +kernel
theorem dX2_takeBySummaries_10 : decode cX2_takeBySummaries 10 = .ok (.invokevirtual 44, 3) := by decide +kernel
theorem dX2_takeBySummaries_13 : decode cX2_takeBySummaries 13 = .ok (.ifCond .ne 63, 3) := by decide +kernel
theorem dX2_takeBySummaries_16 : decode cX2_takeBySummaries 16 = .ok (.aload_n 0, 1) := by decide +kernel
theorem dX2_takeBySummaries_17 : decode cX2_takeBySummaries 17 = .ok (.dup, 1) := by decide +kernel
theorem dX2_takeBySummaries_18 : decode cX2_takeBySummaries 18 = .ok (.getfield 27, 3) := by decide +kernel
theorem dX2_takeBySummaries_21 : decode cX2_takeBySummaries 21 = .ok (.iconst 1, 1) := by decide +kernel
theorem dX2_takeBySummaries_22 : decode cX2_takeBySummaries 22 = .ok (.iadd, 1) := by decide +kernel
theorem dX2_takeBySummaries_23 : decode cX2_takeBySummaries 23 = .ok (.putfield 27, 3) := by decide +kernel
theorem dX2_takeBySummaries_26 : decode cX2_takeBySummaries 26 = .ok (.aload_n 0, 1) := by decide +kernel
theorem dX2_takeBySummaries_27 : decode cX2_takeBySummaries 27 = .ok (.iload_n 1, 1) := by decide +kernel
theorem dX2_takeBySummaries_28 : decode cX2_takeBySummaries 28 = .ok (.invokevirtual 47, 3) := by decide +kernel
theorem dX2_takeBySummaries_31 : decode cX2_takeBySummaries 31 = .ok (.ifCond .ne 33, 3) := by decide +kernel
theorem dX2_takeBySummaries_34 : decode cX2_takeBySummaries 34 = .ok (.iload_n 1, 1) := by decide +kernel
theorem dX2_takeBySummaries_35 : decode cX2_takeBySummaries 35 = .ok (.bipush 32, 2) := by decide +kernel
theorem dX2_takeBySummaries_37 : decode cX2_takeBySummaries 37 = .ok (.imul, 1) := by decide +kernel
theorem dX2_takeBySummaries_38 : decode cX2_takeBySummaries 38 = .ok (.aload_n 0, 1) := by decide +kernel
theorem dX2_takeBySummaries_39 : decode cX2_takeBySummaries 39 = .ok (.getfield 11, 3) := by decide +kernel
theorem dX2_takeBySummaries_42 : decode cX2_takeBySummaries 42 = .ok (.iconst 0, 1) := by decide +kernel
theorem dX2_takeBySummaries_43 : decode cX2_takeBySummaries 43 = .ok (.aaload, 1) := by decide +kernel
theorem dX2_takeBySummaries_44 : decode cX2_takeBySummaries 44 = .ok (.iload_n 1, 1) := by decide +kernel
theorem dX2_takeBySummaries_45 : decode cX2_takeBySummaries 45 = .ok (.iaload, 1) := by decide +kernel
theorem dX2_takeBySummaries_46 : decode cX2_takeBySummaries 46 = .ok (.invokestatic 51, 3) := by decide +kernel
theorem dX2_takeBySummaries_49 : decode cX2_takeBySummaries 49 = .ok (.iadd, 1) := by decide +kernel
theorem dX2_takeBySummaries_50 : decode cX2_takeBySummaries 50 = .ok (.istore_n 2, 1) := by decide +kernel
theorem dX2_takeBySummaries_51 : decode cX2_takeBySummaries 51 = .ok (.aload_n 0, 1) := by decide +kernel
theorem dX2_takeBySummaries_52 : decode cX2_takeBySummaries 52 = .ok (.iload_n 1, 1) := by decide +kernel
theorem dX2_takeBySummaries_53 : decode cX2_takeBySummaries 53 = .ok (.iload_n 2, 1) := by decide +kernel
theorem dX2_takeBySummaries_54 : decode cX2_takeBySummaries 54 = .ok (.invokestatic 54, 3) := by decide +kernel
theorem dX2_takeBySummaries_57 : decode cX2_takeBySummaries 57 = .ok (.iconst 0, 1) := by decide +kernel
theorem dX2_takeBySummaries_58 : decode cX2_takeBySummaries 58 = .ok (.iconst 1, 1) := by decide +kernel
theorem dX2_takeBySummaries_59 : decode cX2_takeBySummaries 59 = .ok (.invokevirtual 57, 3) := by decide +kernel
theorem dX2_takeBySummaries_62 : decode cX2_takeBySummaries 62 = .ok (.iload_n 2, 1) := by decide +kernel
theorem dX2_takeBySummaries_63 : decode cX2_takeBySummaries 63 = .ok (.ireturn, 1) := by decide +kernel
theorem dX2_takeBySummaries_64 : decode cX2_takeBySummaries 64 = .ok (.aload_n 0, 1) := by decide +kernel
theorem dX2_takeBySummaries_65 : decode cX2_takeBySummaries 65 = .ok (.dup, 1) := by decide +kernel
theorem dX2_takeBySummaries_66 : decode cX2_takeBySummaries 66 = .ok (.getfield 23, 3) := by decide +kernel
theorem dX2_takeBySummaries_69 : decode cX2_takeBySummaries 69 = .ok (.iconst 1, 1) := by decide +kernel
theorem dX2_takeBySummaries_70 : decode cX2_takeBySummaries 70 = .ok (.iload_n 1, 1) := by decide +kernel
theorem dX2_takeBySummaries_71 : decode cX2_takeBySummaries 71 = .ok (.ishl, 1) := by decide +kernel
theorem dX2_takeBySummaries_72 : decode cX2_takeBySummaries 72 = .ok (.ior, 1) := by decide +kernel
theorem dX2_takeBySummaries_73 : decode cX2_takeBySummaries 73 = .ok (.putfield 23, 3) := by decide +kernel
theorem dX2_takeBySummaries_76 : decode cX2_takeBySummaries 76 = .ok (.iinc 1 1, 3) := by decide +kernel
theorem dX2_takeBySummaries_79 : decode cX2_takeBySummaries 79 = .ok (.goto (-77), 3) := by decide +kernel
theorem dX2_takeBySummaries_82 : decode cX2_takeBySummaries 82 = .ok (.bipush (-9), 2) := by decide +kernel
theorem dX2_takeBySummaries_84 : decode cX2_takeBySummaries 84 = .ok (.ireturn, 1) := by decide +kernel
set_option maxRecDepth 20000 in
theorem ggX2_takeMany_X2_takeOne : GoodIn wsX2_takeMany wsX2_takeOne := goodIn_r _ [5, 6, 7, 8, 4, 9, 10, 11, 12, 13, 14, 15, 16, 17, 18, 19, 20, 21, 22, 23, 24, 25, 26, 27, 28, 29, 30, 31, 32, 33, 34, 35, 36, 37, 38, 39, 40, 41, 42, 43, 44, 45, 46] (by decide +kernel) (by decide +kernel)
set_option maxRecDepth 20000 in
theorem gX2_takeMany_X2_takeOne : GoodIn wsX2_takeMany (wsV RX2 61 RX2 yX2_takeOne wsX2_takeOne) := goodIn_app (goodIn_of _ (by decide +kernel)) ggX2_takeMany_X2_takeOne
theorem dX2_takeMany_0 : decode cX2_takeMany 0 = .ok (.iload_n 1, 1) := by decide +kernel
theorem dX2_takeMany_1 : decode cX2_takeMany 1 = .ok (.iconst 1, 1) := by decide +kernel
theorem dX2_takeMany_2 : decode cX2_takeMany 2 = .ok (.if_icmp .lt 10, 3) := by decide +kernel
theorem dX2_takeMany_5 : decode cX2_takeMany 5 = .ok (.iload_n 1, 1) := by decide +kernel
theorem dX2_takeMany_6 : decode cX2_takeMany 6 = .ok (.sipush 320, 3) := by decide +kernel
theorem dX2_takeMany_9 : decode cX2_takeMany 9 = .ok (.if_icmp .le 5, 3) := by decide +kernel
theorem dX2_takeMany_12 : decode cX2_takeMany 12 = .ok (.iconst (-1), 1) := by decide +kernel
theorem dX2_takeMany_13 : decode cX2_takeMany 13 = .ok (.ireturn, 1) := by decide +kernel
theorem dX2_takeMany_14 : decode cX2_takeMany 14 = .ok (.iconst 0, 1) := by decide +kernel
theorem dX2_takeMany_15 : decode cX2_takeMany 15 = .ok (.istore_n 2, 1) := by decide +kernel
theorem dX2_takeMany_16 : decode cX2_takeMany 16 = .ok (.iload_n 2, 1) := by decide +kernel
theorem dX2_takeMany_17 : decode cX2_takeMany 17 = .ok (.iload_n 1, 1) := by decide +kernel
theorem dX2_takeMany_18 : decode cX2_takeMany 18 = .ok (.if_icmp .ge 19, 3) := by decide +kernel
theorem dX2_takeMany_21 : decode cX2_takeMany 21 = .ok (.aload_n 0, 1) := by decide +kernel
theorem dX2_takeMany_22 : decode cX2_takeMany 22 = .ok (.invokevirtual 61, 3) := by decide +kernel
theorem dX2_takeMany_25 : decode cX2_takeMany 25 = .ok (.ifCond .ge 6, 3) := by decide +kernel
theorem dX2_takeMany_28 : decode cX2_takeMany 28 = .ok (.bipush (-3), 2) := by decide +kernel
theorem dX2_takeMany_30 : decode cX2_takeMany 30 = .ok (.ireturn, 1) := by decide +kernel
theorem dX2_takeMany_31 : decode cX2_takeMany 31 = .ok (.iinc 2 1, 3) := by decide +kernel
theorem dX2_takeMany_34 : decode cX2_takeMany 34 = .ok (.goto (-18), 3) := by decide +kernel
theorem dX2_takeMany_37 : decode cX2_takeMany 37 = .ok (.iload_n 1, 1) := by decide +kernel
theorem dX2_takeMany_38 : decode cX2_takeMany 38 = .ok (.ireturn, 1) := by decide +kernel
set_option maxRecDepth 20000 in
theorem ggX2_takeSideBySide_X3_isRunLength : GoodIn wsX2_takeSideBySide wsX3_isRunLength := goodIn_r _ [4] (by decide +kernel) (by decide +kernel)
set_option maxRecDepth 20000 in
theorem gX2_takeSideBySide_X3_isRunLength_n64 : GoodIn wsX2_takeSideBySide (wsX3_isRunLength) := ggX2_takeSideBySide_X3_isRunLength
set_option maxRecDepth 20000 in
theorem ggX2_takeSideBySide_X2_runStart : GoodIn wsX2_takeSideBySide wsX2_runStart := goodIn_r _ [9, 10, 11, 12, 8, 13, 14, 15, 3, 16, 17, 18, 37, 38, 39, 40, 41] (by decide +kernel) (by decide +kernel)
set_option maxRecDepth 20000 in
theorem gX2_takeSideBySide_X2_runStart : GoodIn wsX2_takeSideBySide (wsV RX2 67 RX2 yX2_runStart wsX2_runStart) := goodIn_app (goodIn_of _ (by decide +kernel)) ggX2_takeSideBySide_X2_runStart
set_option maxRecDepth 20000 in
theorem ggX2_takeSideBySide_X3_wordOf : GoodIn wsX2_takeSideBySide wsX3_wordOf := goodIn_r _ [16] (by decide +kernel) (by decide +kernel)
set_option maxRecDepth 20000 in
theorem gX2_takeSideBySide_X3_wordOf_n70 : GoodIn wsX2_takeSideBySide (wsX3_wordOf) := ggX2_takeSideBySide_X3_wordOf
set_option maxRecDepth 20000 in
theorem ggX2_takeSideBySide_X3_rangeBits : GoodIn wsX2_takeSideBySide wsX3_rangeBits := goodIn_r _ [20, 21, 22, 23, 24, 25, 26, 27] (by decide +kernel) (by decide +kernel)
set_option maxRecDepth 20000 in
theorem gX2_takeSideBySide_X3_rangeBits_n73 : GoodIn wsX2_takeSideBySide (wsX3_rangeBits) := ggX2_takeSideBySide_X3_rangeBits
set_option maxRecDepth 20000 in
theorem ggX2_takeSideBySide_X2_change : GoodIn wsX2_takeSideBySide wsX2_change := goodIn_r _ [31, 14, 32, 33, 34, 35, 8, 36, 37, 38, 39, 40, 41] (by decide +kernel) (by decide +kernel)
set_option maxRecDepth 20000 in
theorem gX2_takeSideBySide_X2_change : GoodIn wsX2_takeSideBySide (wsV RX2 57 RX2 yX2_change wsX2_change) := goodIn_app (goodIn_of _ (by decide +kernel)) ggX2_takeSideBySide_X2_change
theorem dX2_takeSideBySide_0 : decode cX2_takeSideBySide 0 = .ok (.iload_n 1, 1) := by decide +kernel
theorem dX2_takeSideBySide_1 : decode cX2_takeSideBySide 1 = .ok (.invokestatic 64, 3) := by decide +kernel
theorem dX2_takeSideBySide_4 : decode cX2_takeSideBySide 4 = .ok (.ifCond .ne 5, 3) := by decide +kernel
theorem dX2_takeSideBySide_7 : decode cX2_takeSideBySide 7 = .ok (.iconst (-1), 1) := by decide +kernel
theorem dX2_takeSideBySide_8 : decode cX2_takeSideBySide 8 = .ok (.ireturn, 1) := by decide +kernel
theorem dX2_takeSideBySide_9 : decode cX2_takeSideBySide 9 = .ok (.aload_n 0, 1) := by decide +kernel
theorem dX2_takeSideBySide_10 : decode cX2_takeSideBySide 10 = .ok (.iload_n 1, 1) := by decide +kernel
theorem dX2_takeSideBySide_11 : decode cX2_takeSideBySide 11 = .ok (.invokevirtual 67, 3) := by decide +kernel
theorem dX2_takeSideBySide_14 : decode cX2_takeSideBySide 14 = .ok (.istore_n 2, 1) := by decide +kernel
theorem dX2_takeSideBySide_15 : decode cX2_takeSideBySide 15 = .ok (.iload_n 2, 1) := by decide +kernel
theorem dX2_takeSideBySide_16 : decode cX2_takeSideBySide 16 = .ok (.bipush (-9), 2) := by decide +kernel
theorem dX2_takeSideBySide_18 : decode cX2_takeSideBySide 18 = .ok (.if_icmp .ne 6, 3) := by decide +kernel
theorem dX2_takeSideBySide_21 : decode cX2_takeSideBySide 21 = .ok (.bipush (-3), 2) := by decide +kernel
theorem dX2_takeSideBySide_23 : decode cX2_takeSideBySide 23 = .ok (.ireturn, 1) := by decide +kernel
theorem dX2_takeSideBySide_24 : decode cX2_takeSideBySide 24 = .ok (.iload_n 2, 1) := by decide +kernel
theorem dX2_takeSideBySide_25 : decode cX2_takeSideBySide 25 = .ok (.iload_n 1, 1) := by decide +kernel
theorem dX2_takeSideBySide_26 : decode cX2_takeSideBySide 26 = .ok (.iadd, 1) := by decide +kernel
theorem dX2_takeSideBySide_27 : decode cX2_takeSideBySide 27 = .ok (.iconst 1, 1) := by decide +kernel
theorem dX2_takeSideBySide_28 : decode cX2_takeSideBySide 28 = .ok (.isub, 1) := by decide +kernel
theorem dX2_takeSideBySide_29 : decode cX2_takeSideBySide 29 = .ok (.istore_n 3, 1) := by decide +kernel
theorem dX2_takeSideBySide_30 : decode cX2_takeSideBySide 30 = .ok (.aload_n 0, 1) := by decide +kernel
theorem dX2_takeSideBySide_31 : decode cX2_takeSideBySide 31 = .ok (.dup, 1) := by decide +kernel
theorem dX2_takeSideBySide_32 : decode cX2_takeSideBySide 32 = .ok (.getfield 27, 3) := by decide +kernel
theorem dX2_takeSideBySide_35 : decode cX2_takeSideBySide 35 = .ok (.iload_n 3, 1) := by decide +kernel
theorem dX2_takeSideBySide_36 : decode cX2_takeSideBySide 36 = .ok (.invokestatic 70, 3) := by decide +kernel
theorem dX2_takeSideBySide_39 : decode cX2_takeSideBySide 39 = .ok (.iconst 1, 1) := by decide +kernel
theorem dX2_takeSideBySide_40 : decode cX2_takeSideBySide 40 = .ok (.iadd, 1) := by decide +kernel
theorem dX2_takeSideBySide_41 : decode cX2_takeSideBySide 41 = .ok (.iadd, 1) := by decide +kernel
theorem dX2_takeSideBySide_42 : decode cX2_takeSideBySide 42 = .ok (.putfield 27, 3) := by decide +kernel
theorem dX2_takeSideBySide_45 : decode cX2_takeSideBySide 45 = .ok (.iconst 0, 1) := by decide +kernel
theorem dX2_takeSideBySide_46 : decode cX2_takeSideBySide 46 = .ok (.istore 4, 2) := by decide +kernel
theorem dX2_takeSideBySide_48 : decode cX2_takeSideBySide 48 = .ok (.iload 4, 2) := by decide +kernel
theorem dX2_takeSideBySide_50 : decode cX2_takeSideBySide 50 = .ok (.bipush 10, 2) := by decide +kernel
theorem dX2_takeSideBySide_52 : decode cX2_takeSideBySide 52 = .ok (.if_icmp .ge 24, 3) := by decide +kernel
theorem dX2_takeSideBySide_55 : decode cX2_takeSideBySide 55 = .ok (.aload_n 0, 1) := by decide +kernel
theorem dX2_takeSideBySide_56 : decode cX2_takeSideBySide 56 = .ok (.iload 4, 2) := by decide +kernel
theorem dX2_takeSideBySide_58 : decode cX2_takeSideBySide 58 = .ok (.iload 4, 2) := by decide +kernel
theorem dX2_takeSideBySide_60 : decode cX2_takeSideBySide 60 = .ok (.iload_n 2, 1) := by decide +kernel
theorem dX2_takeSideBySide_61 : decode cX2_takeSideBySide 61 = .ok (.iload_n 3, 1) := by decide +kernel
theorem dX2_takeSideBySide_62 : decode cX2_takeSideBySide 62 = .ok (.invokestatic 73, 3) := by decide +kernel
theorem dX2_takeSideBySide_65 : decode cX2_takeSideBySide 65 = .ok (.iconst 0, 1) := by decide +kernel
theorem dX2_takeSideBySide_66 : decode cX2_takeSideBySide 66 = .ok (.iconst 1, 1) := by decide +kernel
theorem dX2_takeSideBySide_67 : decode cX2_takeSideBySide 67 = .ok (.invokevirtual 57, 3) := by decide +kernel
theorem dX2_takeSideBySide_70 : decode cX2_takeSideBySide 70 = .ok (.iinc 4 1, 3) := by decide +kernel
theorem dX2_takeSideBySide_73 : decode cX2_takeSideBySide 73 = .ok (.goto (-25), 3) := by decide +kernel
theorem dX2_takeSideBySide_76 : decode cX2_takeSideBySide 76 = .ok (.iload_n 2, 1) := by decide +kernel
theorem dX2_takeSideBySide_77 : decode cX2_takeSideBySide 77 = .ok (.ireturn, 1) := by decide +kernel
set_option maxRecDepth 20000 in
theorem ggX2_giveBackRange_X3_rangeBits : GoodIn wsX2_giveBackRange wsX3_rangeBits := goodIn_r _ [4, 5, 6, 7, 8, 9, 10, 11] (by decide +kernel) (by decide +kernel)
set_option maxRecDepth 20000 in
theorem gX2_giveBackRange_X3_rangeBits_n73 : GoodIn wsX2_giveBackRange (wsX3_rangeBits) := ggX2_giveBackRange_X3_rangeBits
set_option maxRecDepth 20000 in
theorem ggX2_giveBackRange_X2_ownedBits : GoodIn wsX2_giveBackRange wsX2_ownedBits := goodIn_r _ [16, 17, 18, 3, 19, 20, 21, 22, 15, 23, 24, 2, 4, 5, 6, 7, 8, 9, 10, 11, 41, 42, 43, 44, 45] (by decide +kernel) (by decide +kernel)
set_option maxRecDepth 20000 in
theorem gX2_giveBackRange_X2_ownedBits : GoodIn wsX2_giveBackRange (wsV RX2 77 RX2 yX2_ownedBits wsX2_ownedBits) := goodIn_app (goodIn_of _ (by decide +kernel)) ggX2_giveBackRange_X2_ownedBits
set_option maxRecDepth 20000 in
theorem ggX2_giveBackRange_X2_change : GoodIn wsX2_giveBackRange wsX2_change := goodIn_r _ [28, 1, 29, 30, 31, 32, 15, 33, 41, 42, 43, 44, 45] (by decide +kernel) (by decide +kernel)
set_option maxRecDepth 20000 in
theorem gX2_giveBackRange_X2_change : GoodIn wsX2_giveBackRange (wsV RX2 57 RX2 yX2_change wsX2_change) := goodIn_app (goodIn_of _ (by decide +kernel)) ggX2_giveBackRange_X2_change
set_option maxRecDepth 20000 in
theorem ggX2_giveBackRange_J6_bitCount_0f7a4 : GoodIn wsX2_giveBackRange wsJ6_bitCount_0f7a4 := goodIn_r _ [37, 38, 39, 40] (by decide +kernel) (by decide +kernel)
set_option maxRecDepth 20000 in
theorem gX2_giveBackRange_J6_bitCount_0f7a4 : GoodIn wsX2_giveBackRange (va_wsS RX2 80 yJ6_bitCount_0f7a4 wsJ6_bitCount_0f7a4) := goodIn_app (goodIn_of _ (by decide +kernel)) ggX2_giveBackRange_J6_bitCount_0f7a4
theorem dX2_giveBackRange_0 : decode cX2_giveBackRange 0 = .ok (.iload_n 1, 1) := by decide +kernel
theorem dX2_giveBackRange_1 : decode cX2_giveBackRange 1 = .ok (.ifCond .lt 15, 3) := by decide +kernel
theorem dX2_giveBackRange_4 : decode cX2_giveBackRange 4 = .ok (.iload_n 2, 1) := by decide +kernel
theorem dX2_giveBackRange_5 : decode cX2_giveBackRange 5 = .ok (.sipush 320, 3) := by decide +kernel
theorem dX2_giveBackRange_8 : decode cX2_giveBackRange 8 = .ok (.if_icmp .ge 8, 3) := by decide +kernel
theorem dX2_giveBackRange_11 : decode cX2_giveBackRange 11 = .ok (.iload_n 1, 1) := by decide +kernel
theorem dX2_giveBackRange_12 : decode cX2_giveBackRange 12 = .ok (.iload_n 2, 1) := by decide +kernel
theorem dX2_giveBackRange_13 : decode cX2_giveBackRange 13 = .ok (.if_icmp .le 5, 3) := by decide +kernel
theorem dX2_giveBackRange_16 : decode cX2_giveBackRange 16 = .ok (.iconst (-1), 1) := by decide +kernel
theorem dX2_giveBackRange_17 : decode cX2_giveBackRange 17 = .ok (.ireturn, 1) := by decide +kernel
theorem dX2_giveBackRange_18 : decode cX2_giveBackRange 18 = .ok (.iconst 0, 1) := by decide +kernel
theorem dX2_giveBackRange_19 : decode cX2_giveBackRange 19 = .ok (.istore_n 3, 1) := by decide +kernel
theorem dX2_giveBackRange_20 : decode cX2_giveBackRange 20 = .ok (.iconst 0, 1) := by decide +kernel
theorem dX2_giveBackRange_21 : decode cX2_giveBackRange 21 = .ok (.istore 4, 2) := by decide +kernel
theorem dX2_giveBackRange_23 : decode cX2_giveBackRange 23 = .ok (.iload 4, 2) := by decide +kernel
theorem dX2_giveBackRange_25 : decode cX2_giveBackRange 25 = .ok (.bipush 10, 2) := by decide +kernel
theorem dX2_giveBackRange_27 : decode cX2_giveBackRange 27 = .ok (.if_icmp .ge 72, 3) := by decide +kernel
theorem dX2_giveBackRange_30 : decode cX2_giveBackRange 30 = .ok (.aload_n 0, 1) := by decide +kernel
theorem dX2_giveBackRange_31 : decode cX2_giveBackRange 31 = .ok (.getfield 11, 3) := by decide +kernel
theorem dX2_giveBackRange_34 : decode cX2_giveBackRange 34 = .ok (.iconst 1, 1) := by decide +kernel
theorem dX2_giveBackRange_35 : decode cX2_giveBackRange 35 = .ok (.aaload, 1) := by decide +kernel
theorem dX2_giveBackRange_36 : decode cX2_giveBackRange 36 = .ok (.iload 4, 2) := by decide +kernel
theorem dX2_giveBackRange_38 : decode cX2_giveBackRange 38 = .ok (.iaload, 1) := by decide +kernel
theorem dX2_giveBackRange_39 : decode cX2_giveBackRange 39 = .ok (.iload 4, 2) := by decide +kernel
theorem dX2_giveBackRange_41 : decode cX2_giveBackRange 41 = .ok (.iload_n 1, 1) := by decide +kernel
theorem dX2_giveBackRange_42 : decode cX2_giveBackRange 42 = .ok (.iload_n 2, 1) := by decide +kernel
theorem dX2_giveBackRange_43 : decode cX2_giveBackRange 43 = .ok (.invokestatic 73, 3) := by decide +kernel
theorem dX2_giveBackRange_46 : decode cX2_giveBackRange 46 = .ok (.iand, 1) := by decide +kernel
theorem dX2_giveBackRange_47 : decode cX2_giveBackRange 47 = .ok (.istore 5, 2) := by decide +kernel
theorem dX2_giveBackRange_49 : decode cX2_giveBackRange 49 = .ok (.iload 5, 2) := by decide +kernel
theorem dX2_giveBackRange_51 : decode cX2_giveBackRange 51 = .ok (.aload_n 0, 1) := by decide +kernel
theorem dX2_giveBackRange_52 : decode cX2_giveBackRange 52 = .ok (.iload 4, 2) := by decide +kernel
theorem dX2_giveBackRange_54 : decode cX2_giveBackRange 54 = .ok (.invokevirtual 77, 3) := by decide +kernel
theorem dX2_giveBackRange_57 : decode cX2_giveBackRange 57 = .ok (.iand, 1) := by decide +kernel
theorem dX2_giveBackRange_58 : decode cX2_giveBackRange 58 = .ok (.istore 6, 2) := by decide +kernel
theorem dX2_giveBackRange_60 : decode cX2_giveBackRange 60 = .ok (.aload_n 0, 1) := by decide +kernel
theorem dX2_giveBackRange_61 : decode cX2_giveBackRange 61 = .ok (.iload 4, 2) := by decide +kernel
theorem dX2_giveBackRange_63 : decode cX2_giveBackRange 63 = .ok (.iload 5, 2) := by decide +kernel
theorem dX2_giveBackRange_65 : decode cX2_giveBackRange 65 = .ok (.iload 6, 2) := by decide +kernel
theorem dX2_giveBackRange_67 : decode cX2_giveBackRange 67 = .ok (.iconst (-1), 1) := by decide +kernel
theorem dX2_giveBackRange_68 : decode cX2_giveBackRange 68 = .ok (.ixor, 1) := by decide +kernel
theorem dX2_giveBackRange_69 : decode cX2_giveBackRange 69 = .ok (.iand, 1) := by decide +kernel
theorem dX2_giveBackRange_70 : decode cX2_giveBackRange 70 = .ok (.iconst 1, 1) := by decide +kernel
theorem dX2_giveBackRange_71 : decode cX2_giveBackRange 71 = .ok (.iconst 2, 1) := by decide +kernel
theorem dX2_giveBackRange_72 : decode cX2_giveBackRange 72 = .ok (.invokevirtual 57, 3) := by decide +kernel
theorem dX2_giveBackRange_75 : decode cX2_giveBackRange 75 = .ok (.aload_n 0, 1) := by decide +kernel
theorem dX2_giveBackRange_76 : decode cX2_giveBackRange 76 = .ok (.iload 4, 2) := by decide +kernel
theorem dX2_giveBackRange_78 : decode cX2_giveBackRange 78 = .ok (.iload 6, 2) := by decide +kernel
theorem dX2_giveBackRange_80 : decode cX2_giveBackRange 80 = .ok (.iconst 1, 1) := by decide +kernel
theorem dX2_giveBackRange_81 : decode cX2_giveBackRange 81 = .ok (.iconst 3, 1) := by decide +kernel
theorem dX2_giveBackRange_82 : decode cX2_giveBackRange 82 = .ok (.invokevirtual 57, 3) := by decide +kernel
theorem dX2_giveBackRange_85 : decode cX2_giveBackRange 85 = .ok (.iload_n 3, 1) := by decide +kernel
theorem dX2_giveBackRange_86 : decode cX2_giveBackRange 86 = .ok (.iload 5, 2) := by decide +kernel
theorem dX2_giveBackRange_88 : decode cX2_giveBackRange 88 = .ok (.invokestatic 80, 3) := by decide +kernel
theorem dX2_giveBackRange_91 : decode cX2_giveBackRange 91 = .ok (.iadd, 1) := by decide +kernel
theorem dX2_giveBackRange_92 : decode cX2_giveBackRange 92 = .ok (.istore_n 3, 1) := by decide +kernel
theorem dX2_giveBackRange_93 : decode cX2_giveBackRange 93 = .ok (.iinc 4 1, 3) := by decide +kernel
theorem dX2_giveBackRange_96 : decode cX2_giveBackRange 96 = .ok (.goto (-73), 3) := by decide +kernel
theorem dX2_giveBackRange_99 : decode cX2_giveBackRange 99 = .ok (.iload_n 3, 1) := by decide +kernel
theorem dX2_giveBackRange_100 : decode cX2_giveBackRange 100 = .ok (.ifCond .ne 8, 3) := by decide +kernel
theorem dX2_giveBackRange_103 : decode cX2_giveBackRange 103 = .ok (.bipush (-2), 2) := by decide +kernel
theorem dX2_giveBackRange_105 : decode cX2_giveBackRange 105 = .ok (.goto 4, 3) := by decide +kernel
theorem dX2_giveBackRange_108 : decode cX2_giveBackRange 108 = .ok (.iload_n 3, 1) := by decide +kernel
theorem dX2_giveBackRange_109 : decode cX2_giveBackRange 109 = .ok (.ireturn, 1) := by decide +kernel
set_option maxRecDepth 20000 in
theorem ggX2_clearWords_X2_change : GoodIn wsX2_clearWords wsX2_change := goodIn_r _ [6, 1, 7, 8, 9, 10, 5, 11, 19, 20, 21, 22, 23] (by decide +kernel) (by decide +kernel)
set_option maxRecDepth 20000 in
theorem gX2_clearWords_X2_change : GoodIn wsX2_clearWords (wsV RX2 57 RX2 yX2_change wsX2_change) := goodIn_app (goodIn_of _ (by decide +kernel)) ggX2_clearWords_X2_change
set_option maxRecDepth 20000 in
theorem ggX2_clearWords_J6_bitCount_0f7a4 : GoodIn wsX2_clearWords wsJ6_bitCount_0f7a4 := goodIn_r _ [15, 16, 17, 18] (by decide +kernel) (by decide +kernel)
set_option maxRecDepth 20000 in
theorem gX2_clearWords_J6_bitCount_0f7a4 : GoodIn wsX2_clearWords (va_wsS RX2 80 yJ6_bitCount_0f7a4 wsJ6_bitCount_0f7a4) := goodIn_app (goodIn_of _ (by decide +kernel)) ggX2_clearWords_J6_bitCount_0f7a4
theorem dX2_clearWords_0 : decode cX2_clearWords 0 = .ok (.iload_n 1, 1) := by decide +kernel
theorem dX2_clearWords_1 : decode cX2_clearWords 1 = .ok (.iconst 1, 1) := by decide +kernel
theorem dX2_clearWords_2 : decode cX2_clearWords 2 = .ok (.if_icmp .lt 9, 3) := by decide +kernel
theorem dX2_clearWords_5 : decode cX2_clearWords 5 = .ok (.iload_n 1, 1) := by decide +kernel
theorem dX2_clearWords_6 : decode cX2_clearWords 6 = .ok (.bipush 10, 2) := by decide +kernel
theorem dX2_clearWords_8 : decode cX2_clearWords 8 = .ok (.if_icmp .le 5, 3) := by decide +kernel
theorem dX2_clearWords_11 : decode cX2_clearWords 11 = .ok (.iconst (-1), 1) := by decide +kernel
theorem dX2_clearWords_12 : decode cX2_clearWords 12 = .ok (.ireturn, 1) := by decide +kernel
theorem dX2_clearWords_13 : decode cX2_clearWords 13 = .ok (.iconst 0, 1) := by decide +kernel
theorem dX2_clearWords_14 : decode cX2_clearWords 14 = .ok (.istore_n 2, 1) := by decide +kernel
theorem dX2_clearWords_15 : decode cX2_clearWords 15 = .ok (.iconst 0, 1) := by decide +kernel
theorem dX2_clearWords_16 : decode cX2_clearWords 16 = .ok (.istore_n 3, 1) := by decide +kernel
theorem dX2_clearWords_17 : decode cX2_clearWords 17 = .ok (.iconst 0, 1) := by decide +kernel
theorem dX2_clearWords_18 : decode cX2_clearWords 18 = .ok (.istore 4, 2) := by decide +kernel
theorem dX2_clearWords_20 : decode cX2_clearWords 20 = .ok (.iload 4, 2) := by decide +kernel
theorem dX2_clearWords_22 : decode cX2_clearWords 22 = .ok (.bipush 10, 2) := by decide +kernel
theorem dX2_clearWords_24 : decode cX2_clearWords 24 = .ok (.if_icmp .ge 51, 3) := by decide +kernel
theorem dX2_clearWords_27 : decode cX2_clearWords 27 = .ok (.iload_n 2, 1) := by decide +kernel
theorem dX2_clearWords_28 : decode cX2_clearWords 28 = .ok (.iload_n 1, 1) := by decide +kernel
theorem dX2_clearWords_29 : decode cX2_clearWords 29 = .ok (.if_icmp .ge 46, 3) := by decide +kernel
theorem dX2_clearWords_32 : decode cX2_clearWords 32 = .ok (.aload_n 0, 1) := by decide +kernel
theorem dX2_clearWords_33 : decode cX2_clearWords 33 = .ok (.getfield 11, 3) := by decide +kernel
theorem dX2_clearWords_36 : decode cX2_clearWords 36 = .ok (.iconst 2, 1) := by decide +kernel
theorem dX2_clearWords_37 : decode cX2_clearWords 37 = .ok (.aaload, 1) := by decide +kernel
theorem dX2_clearWords_38 : decode cX2_clearWords 38 = .ok (.iload 4, 2) := by decide +kernel
theorem dX2_clearWords_40 : decode cX2_clearWords 40 = .ok (.iaload, 1) := by decide +kernel
theorem dX2_clearWords_41 : decode cX2_clearWords 41 = .ok (.istore 5, 2) := by decide +kernel
theorem dX2_clearWords_43 : decode cX2_clearWords 43 = .ok (.iload 5, 2) := by decide +kernel
theorem dX2_clearWords_45 : decode cX2_clearWords 45 = .ok (.ifCond .eq 24, 3) := by decide +kernel
theorem dX2_clearWords_48 : decode cX2_clearWords 48 = .ok (.aload_n 0, 1) := by decide +kernel
theorem dX2_clearWords_49 : decode cX2_clearWords 49 = .ok (.iload 4, 2) := by decide +kernel
theorem dX2_clearWords_51 : decode cX2_clearWords 51 = .ok (.iload 5, 2) := by decide +kernel
theorem dX2_clearWords_53 : decode cX2_clearWords 53 = .ok (.iconst 2, 1) := by decide +kernel
theorem dX2_clearWords_54 : decode cX2_clearWords 54 = .ok (.iconst 0, 1) := by decide +kernel
theorem dX2_clearWords_55 : decode cX2_clearWords 55 = .ok (.invokevirtual 57, 3) := by decide +kernel
theorem dX2_clearWords_58 : decode cX2_clearWords 58 = .ok (.iload_n 3, 1) := by decide +kernel
theorem dX2_clearWords_59 : decode cX2_clearWords 59 = .ok (.iload 5, 2) := by decide +kernel
theorem dX2_clearWords_61 : decode cX2_clearWords 61 = .ok (.invokestatic 80, 3) := by decide +kernel
theorem dX2_clearWords_64 : decode cX2_clearWords 64 = .ok (.iadd, 1) := by decide +kernel
theorem dX2_clearWords_65 : decode cX2_clearWords 65 = .ok (.istore_n 3, 1) := by decide +kernel
theorem dX2_clearWords_66 : decode cX2_clearWords 66 = .ok (.iinc 2 1, 3) := by decide +kernel
theorem dX2_clearWords_69 : decode cX2_clearWords 69 = .ok (.iinc 4 1, 3) := by decide +kernel
theorem dX2_clearWords_72 : decode cX2_clearWords 72 = .ok (.goto (-52), 3) := by decide +kernel
theorem dX2_clearWords_75 : decode cX2_clearWords 75 = .ok (.iload_n 3, 1) := by decide +kernel
theorem dX2_clearWords_76 : decode cX2_clearWords 76 = .ok (.ireturn, 1) := by decide +kernel
set_option maxRecDepth 20000 in
theorem ggX2_reserveBlock_X3_isBlockSize : GoodIn wsX2_reserveBlock wsX3_isBlockSize := goodIn_r _ [5] (by decide +kernel) (by decide +kernel)
set_option maxRecDepth 20000 in
theorem gX2_reserveBlock_X3_isBlockSize_n85 : GoodIn wsX2_reserveBlock (wsX3_isBlockSize) := ggX2_reserveBlock_X3_isBlockSize
set_option maxRecDepth 20000 in
theorem ggX2_reserveBlock_X2_firstUnusedBlock : GoodIn wsX2_reserveBlock wsX2_firstUnusedBlock := goodIn_r _ [10, 11, 12, 13, 9, 14, 2, 44, 45, 46, 47, 48] (by decide +kernel) (by decide +kernel)
set_option maxRecDepth 20000 in
theorem gX2_reserveBlock_X2_firstUnusedBlock : GoodIn wsX2_reserveBlock (wsV RX2 88 RX2 yX2_firstUnusedBlock wsX2_firstUnusedBlock) := goodIn_app (goodIn_of _ (by decide +kernel)) ggX2_reserveBlock_X2_firstUnusedBlock
set_option maxRecDepth 20000 in
theorem ggX2_reserveBlock_X2_placeStart : GoodIn wsX2_reserveBlock wsX2_placeStart := goodIn_r _ [18, 19, 20, 4, 21, 22, 23, 24, 25, 26, 27, 28, 29, 30, 44, 45, 46, 47, 48] (by decide +kernel) (by decide +kernel)
set_option maxRecDepth 20000 in
theorem gX2_reserveBlock_X2_placeStart : GoodIn wsX2_reserveBlock (wsV RX2 91 RX2 yX2_placeStart wsX2_placeStart) := goodIn_app (goodIn_of _ (by decide +kernel)) ggX2_reserveBlock_X2_placeStart
set_option maxRecDepth 20000 in
theorem ggX2_reserveBlock_X3_wordOf : GoodIn wsX2_reserveBlock wsX3_wordOf := goodIn_r _ [21] (by decide +kernel) (by decide +kernel)
set_option maxRecDepth 20000 in
theorem gX2_reserveBlock_X3_wordOf_n70 : GoodIn wsX2_reserveBlock (wsX3_wordOf) := ggX2_reserveBlock_X3_wordOf
set_option maxRecDepth 20000 in
theorem ggX2_reserveBlock_X2_blockBits : GoodIn wsX2_reserveBlock wsX2_blockBits := goodIn_r _ [34, 1, 2, 20, 4, 21, 22, 23, 24, 25, 26, 27, 28, 29, 30, 44, 45, 46, 47, 48] (by decide +kernel) (by decide +kernel)
set_option maxRecDepth 20000 in
theorem gX2_reserveBlock_X2_blockBits : GoodIn wsX2_reserveBlock (wsV RX2 94 RX2 yX2_blockBits wsX2_blockBits) := goodIn_app (goodIn_of _ (by decide +kernel)) ggX2_reserveBlock_X2_blockBits
set_option maxRecDepth 20000 in
theorem ggX2_reserveBlock_X2_change : GoodIn wsX2_reserveBlock wsX2_change := goodIn_r _ [38, 19, 39, 40, 41, 42, 9, 43, 44, 45, 46, 47, 48] (by decide +kernel) (by decide +kernel)
set_option maxRecDepth 20000 in
theorem gX2_reserveBlock_X2_change : GoodIn wsX2_reserveBlock (wsV RX2 57 RX2 yX2_change wsX2_change) := goodIn_app (goodIn_of _ (by decide +kernel)) ggX2_reserveBlock_X2_change
theorem dX2_reserveBlock_0 : decode cX2_reserveBlock 0 = .ok (.iload_n 1, 1) := by decide +kernel
theorem dX2_reserveBlock_1 : decode cX2_reserveBlock 1 = .ok (.invokestatic 85, 3) := by decide +kernel
theorem dX2_reserveBlock_4 : decode cX2_reserveBlock 4 = .ok (.ifCond .ne 5, 3) := by decide +kernel
theorem dX2_reserveBlock_7 : decode cX2_reserveBlock 7 = .ok (.iconst (-1), 1) := by decide +kernel
theorem dX2_reserveBlock_8 : decode cX2_reserveBlock 8 = .ok (.ireturn, 1) := by decide +kernel
theorem dX2_reserveBlock_9 : decode cX2_reserveBlock 9 = .ok (.aload_n 0, 1) := by decide +kernel
theorem dX2_reserveBlock_10 : decode cX2_reserveBlock 10 = .ok (.invokevirtual 88, 3) := by decide +kernel
theorem dX2_reserveBlock_13 : decode cX2_reserveBlock 13 = .ok (.istore_n 2, 1) := by decide +kernel
theorem dX2_reserveBlock_14 : decode cX2_reserveBlock 14 = .ok (.aload_n 0, 1) := by decide +kernel
theorem dX2_reserveBlock_15 : decode cX2_reserveBlock 15 = .ok (.iload_n 1, 1) := by decide +kernel
theorem dX2_reserveBlock_16 : decode cX2_reserveBlock 16 = .ok (.invokevirtual 91, 3) := by decide +kernel
theorem dX2_reserveBlock_19 : decode cX2_reserveBlock 19 = .ok (.istore_n 3, 1) := by decide +kernel
theorem dX2_reserveBlock_20 : decode cX2_reserveBlock 20 = .ok (.iload_n 2, 1) := by decide +kernel
theorem dX2_reserveBlock_21 : decode cX2_reserveBlock 21 = .ok (.bipush (-9), 2) := by decide +kernel
theorem dX2_reserveBlock_23 : decode cX2_reserveBlock 23 = .ok (.if_icmp .eq 9, 3) := by decide +kernel
theorem dX2_reserveBlock_26 : decode cX2_reserveBlock 26 = .ok (.iload_n 3, 1) := by decide +kernel
theorem dX2_reserveBlock_27 : decode cX2_reserveBlock 27 = .ok (.bipush (-9), 2) := by decide +kernel
theorem dX2_reserveBlock_29 : decode cX2_reserveBlock 29 = .ok (.if_icmp .ne 6, 3) := by decide +kernel
theorem dX2_reserveBlock_32 : decode cX2_reserveBlock 32 = .ok (.bipush (-3), 2) := by decide +kernel
theorem dX2_reserveBlock_34 : decode cX2_reserveBlock 34 = .ok (.ireturn, 1) := by decide +kernel
theorem dX2_reserveBlock_35 : decode cX2_reserveBlock 35 = .ok (.aload_n 0, 1) := by decide +kernel
theorem dX2_reserveBlock_36 : decode cX2_reserveBlock 36 = .ok (.getfield 16, 3) := by decide +kernel
theorem dX2_reserveBlock_39 : decode cX2_reserveBlock 39 = .ok (.iload_n 2, 1) := by decide +kernel
theorem dX2_reserveBlock_40 : decode cX2_reserveBlock 40 = .ok (.iload_n 3, 1) := by decide +kernel
theorem dX2_reserveBlock_41 : decode cX2_reserveBlock 41 = .ok (.iastore, 1) := by decide +kernel
theorem dX2_reserveBlock_42 : decode cX2_reserveBlock 42 = .ok (.aload_n 0, 1) := by decide +kernel
theorem dX2_reserveBlock_43 : decode cX2_reserveBlock 43 = .ok (.getfield 20, 3) := by decide +kernel
theorem dX2_reserveBlock_46 : decode cX2_reserveBlock 46 = .ok (.iload_n 2, 1) := by decide +kernel
theorem dX2_reserveBlock_47 : decode cX2_reserveBlock 47 = .ok (.iload_n 1, 1) := by decide +kernel
theorem dX2_reserveBlock_48 : decode cX2_reserveBlock 48 = .ok (.iastore, 1) := by decide +kernel
theorem dX2_reserveBlock_49 : decode cX2_reserveBlock 49 = .ok (.aload_n 0, 1) := by decide +kernel
theorem dX2_reserveBlock_50 : decode cX2_reserveBlock 50 = .ok (.iload_n 3, 1) := by decide +kernel
theorem dX2_reserveBlock_51 : decode cX2_reserveBlock 51 = .ok (.invokestatic 70, 3) := by decide +kernel
theorem dX2_reserveBlock_54 : decode cX2_reserveBlock 54 = .ok (.aload_n 0, 1) := by decide +kernel
theorem dX2_reserveBlock_55 : decode cX2_reserveBlock 55 = .ok (.iload_n 2, 1) := by decide +kernel
theorem dX2_reserveBlock_56 : decode cX2_reserveBlock 56 = .ok (.invokevirtual 94, 3) := by decide +kernel
theorem dX2_reserveBlock_59 : decode cX2_reserveBlock 59 = .ok (.iconst 0, 1) := by decide +kernel
theorem dX2_reserveBlock_60 : decode cX2_reserveBlock 60 = .ok (.iconst 3, 1) := by decide +kernel
theorem dX2_reserveBlock_61 : decode cX2_reserveBlock 61 = .ok (.invokevirtual 57, 3) := by decide +kernel
theorem dX2_reserveBlock_64 : decode cX2_reserveBlock 64 = .ok (.iload_n 2, 1) := by decide +kernel
theorem dX2_reserveBlock_65 : decode cX2_reserveBlock 65 = .ok (.ireturn, 1) := by decide +kernel
set_option maxRecDepth 20000 in
theorem ggX2_takeInBlock_X2_hasBlock : GoodIn wsX2_takeInBlock wsX2_hasBlock := goodIn_r _ [7, 8, 45, 46, 47, 48, 49] (by decide +kernel) (by decide +kernel)
set_option maxRecDepth 20000 in
theorem gX2_takeInBlock_X2_hasBlock : GoodIn wsX2_takeInBlock (wsV RX2 97 RX2 yX2_hasBlock wsX2_hasBlock) := goodIn_app (goodIn_of _ (by decide +kernel)) ggX2_takeInBlock_X2_hasBlock
set_option maxRecDepth 20000 in
theorem ggX2_takeInBlock_X3_wordOf : GoodIn wsX2_takeInBlock wsX3_wordOf := goodIn_r _ [11] (by decide +kernel) (by decide +kernel)
set_option maxRecDepth 20000 in
theorem gX2_takeInBlock_X3_wordOf_n70 : GoodIn wsX2_takeInBlock (wsX3_wordOf) := ggX2_takeInBlock_X3_wordOf
set_option maxRecDepth 20000 in
theorem ggX2_takeInBlock_X2_blockBits : GoodIn wsX2_takeInBlock wsX2_blockBits := goodIn_r _ [15, 1, 8, 9, 10, 11, 16, 17, 18, 19, 20, 21, 22, 23, 24, 45, 46, 47, 48, 49] (by decide +kernel) (by decide +kernel)
set_option maxRecDepth 20000 in
theorem gX2_takeInBlock_X2_blockBits : GoodIn wsX2_takeInBlock (wsV RX2 94 RX2 yX2_blockBits wsX2_blockBits) := goodIn_app (goodIn_of _ (by decide +kernel)) ggX2_takeInBlock_X2_blockBits
set_option maxRecDepth 20000 in
theorem ggX2_takeInBlock_X3_lowestBit : GoodIn wsX2_takeInBlock wsX3_lowestBit := goodIn_r _ [26, 27, 28, 29, 30, 31, 32, 33] (by decide +kernel) (by decide +kernel)
set_option maxRecDepth 20000 in
theorem gX2_takeInBlock_X3_lowestBit_n51 : GoodIn wsX2_takeInBlock (wsX3_lowestBit) := ggX2_takeInBlock_X3_lowestBit
set_option maxRecDepth 20000 in
theorem ggX2_takeInBlock_X3_bitOf : GoodIn wsX2_takeInBlock wsX3_bitOf := goodIn_r _ [35] (by decide +kernel) (by decide +kernel)
set_option maxRecDepth 20000 in
theorem gX2_takeInBlock_X3_bitOf_n54 : GoodIn wsX2_takeInBlock (wsX3_bitOf) := ggX2_takeInBlock_X3_bitOf
set_option maxRecDepth 20000 in
theorem ggX2_takeInBlock_X2_change : GoodIn wsX2_takeInBlock wsX2_change := goodIn_r _ [39, 2, 40, 41, 42, 43, 6, 44, 45, 46, 47, 48, 49] (by decide +kernel) (by decide +kernel)
set_option maxRecDepth 20000 in
theorem gX2_takeInBlock_X2_change : GoodIn wsX2_takeInBlock (wsV RX2 57 RX2 yX2_change wsX2_change) := goodIn_app (goodIn_of _ (by decide +kernel)) ggX2_takeInBlock_X2_change
theorem dX2_takeInBlock_0 : decode cX2_takeInBlock 0 = .ok (.aload_n 0, 1) := by decide +kernel
theorem dX2_takeInBlock_1 : decode cX2_takeInBlock 1 = .ok (.iload_n 1, 1) := by decide +kernel
theorem dX2_takeInBlock_2 : decode cX2_takeInBlock 2 = .ok (.invokevirtual 97, 3) := by decide +kernel
theorem dX2_takeInBlock_5 : decode cX2_takeInBlock 5 = .ok (.ifCond .ne 5, 3) := by decide +kernel
theorem dX2_takeInBlock_8 : decode cX2_takeInBlock 8 = .ok (.iconst (-1), 1) := by decide +kernel
theorem dX2_takeInBlock_9 : decode cX2_takeInBlock 9 = .ok (.ireturn, 1) := by decide +kernel
theorem dX2_takeInBlock_10 : decode cX2_takeInBlock 10 = .ok (.aload_n 0, 1) := by decide +kernel
theorem dX2_takeInBlock_11 : decode cX2_takeInBlock 11 = .ok (.getfield 16, 3) := by decide +kernel
theorem dX2_takeInBlock_14 : decode cX2_takeInBlock 14 = .ok (.iload_n 1, 1) := by decide +kernel
theorem dX2_takeInBlock_15 : decode cX2_takeInBlock 15 = .ok (.iaload, 1) := by decide +kernel
theorem dX2_takeInBlock_16 : decode cX2_takeInBlock 16 = .ok (.invokestatic 70, 3) := by decide +kernel
theorem dX2_takeInBlock_19 : decode cX2_takeInBlock 19 = .ok (.istore_n 2, 1) := by decide +kernel
theorem dX2_takeInBlock_20 : decode cX2_takeInBlock 20 = .ok (.aload_n 0, 1) := by decide +kernel
theorem dX2_takeInBlock_21 : decode cX2_takeInBlock 21 = .ok (.getfield 11, 3) := by decide +kernel
theorem dX2_takeInBlock_24 : decode cX2_takeInBlock 24 = .ok (.iconst 3, 1) := by decide +kernel
theorem dX2_takeInBlock_25 : decode cX2_takeInBlock 25 = .ok (.aaload, 1) := by decide +kernel
theorem dX2_takeInBlock_26 : decode cX2_takeInBlock 26 = .ok (.iload_n 2, 1) := by decide +kernel
theorem dX2_takeInBlock_27 : decode cX2_takeInBlock 27 = .ok (.iaload, 1) := by decide +kernel
theorem dX2_takeInBlock_28 : decode cX2_takeInBlock 28 = .ok (.aload_n 0, 1) := by decide +kernel
theorem dX2_takeInBlock_29 : decode cX2_takeInBlock 29 = .ok (.iload_n 1, 1) := by decide +kernel
theorem dX2_takeInBlock_30 : decode cX2_takeInBlock 30 = .ok (.invokevirtual 94, 3) := by decide +kernel
theorem dX2_takeInBlock_33 : decode cX2_takeInBlock 33 = .ok (.iand, 1) := by decide +kernel
theorem dX2_takeInBlock_34 : decode cX2_takeInBlock 34 = .ok (.istore_n 3, 1) := by decide +kernel
theorem dX2_takeInBlock_35 : decode cX2_takeInBlock 35 = .ok (.iload_n 3, 1) := by decide +kernel
theorem dX2_takeInBlock_36 : decode cX2_takeInBlock 36 = .ok (.ifCond .ne 6, 3) := by decide +kernel
theorem dX2_takeInBlock_39 : decode cX2_takeInBlock 39 = .ok (.bipush (-3), 2) := by decide +kernel
theorem dX2_takeInBlock_41 : decode cX2_takeInBlock 41 = .ok (.ireturn, 1) := by decide +kernel
theorem dX2_takeInBlock_42 : decode cX2_takeInBlock 42 = .ok (.iload_n 2, 1) := by decide +kernel
theorem dX2_takeInBlock_43 : decode cX2_takeInBlock 43 = .ok (.bipush 32, 2) := by decide +kernel
theorem dX2_takeInBlock_45 : decode cX2_takeInBlock 45 = .ok (.imul, 1) := by decide +kernel
theorem dX2_takeInBlock_46 : decode cX2_takeInBlock 46 = .ok (.iload_n 3, 1) := by decide +kernel
theorem dX2_takeInBlock_47 : decode cX2_takeInBlock 47 = .ok (.invokestatic 51, 3) := by decide +kernel
theorem dX2_takeInBlock_50 : decode cX2_takeInBlock 50 = .ok (.iadd, 1) := by decide +kernel
theorem dX2_takeInBlock_51 : decode cX2_takeInBlock 51 = .ok (.istore 4, 2) := by decide +kernel
theorem dX2_takeInBlock_53 : decode cX2_takeInBlock 53 = .ok (.aload_n 0, 1) := by decide +kernel
theorem dX2_takeInBlock_54 : decode cX2_takeInBlock 54 = .ok (.iload_n 2, 1) := by decide +kernel
theorem dX2_takeInBlock_55 : decode cX2_takeInBlock 55 = .ok (.iload 4, 2) := by decide +kernel
theorem dX2_takeInBlock_57 : decode cX2_takeInBlock 57 = .ok (.invokestatic 54, 3) := by decide +kernel
theorem dX2_takeInBlock_60 : decode cX2_takeInBlock 60 = .ok (.iconst 3, 1) := by decide +kernel
theorem dX2_takeInBlock_61 : decode cX2_takeInBlock 61 = .ok (.iconst 1, 1) := by decide +kernel
theorem dX2_takeInBlock_62 : decode cX2_takeInBlock 62 = .ok (.invokevirtual 57, 3) := by decide +kernel
theorem dX2_takeInBlock_65 : decode cX2_takeInBlock 65 = .ok (.iload 4, 2) := by decide +kernel
theorem dX2_takeInBlock_67 : decode cX2_takeInBlock 67 = .ok (.ireturn, 1) := by decide +kernel
set_option maxRecDepth 20000 in
theorem ggX2_giveUpBlock_X2_hasBlock : GoodIn wsX2_giveUpBlock wsX2_hasBlock := goodIn_r _ [8, 3, 41, 42, 43, 44, 45] (by decide +kernel) (by decide +kernel)
set_option maxRecDepth 20000 in
theorem gX2_giveUpBlock_X2_hasBlock : GoodIn wsX2_giveUpBlock (wsV RX2 97 RX2 yX2_hasBlock wsX2_hasBlock) := goodIn_app (goodIn_of _ (by decide +kernel)) ggX2_giveUpBlock_X2_hasBlock
set_option maxRecDepth 20000 in
theorem ggX2_giveUpBlock_X3_wordOf : GoodIn wsX2_giveUpBlock wsX3_wordOf := goodIn_r _ [11] (by decide +kernel) (by decide +kernel)
set_option maxRecDepth 20000 in
theorem gX2_giveUpBlock_X3_wordOf_n70 : GoodIn wsX2_giveUpBlock (wsX3_wordOf) := ggX2_giveUpBlock_X3_wordOf
set_option maxRecDepth 20000 in
theorem ggX2_giveUpBlock_X2_blockBits : GoodIn wsX2_giveUpBlock wsX2_blockBits := goodIn_r _ [15, 1, 3, 9, 10, 11, 16, 17, 18, 19, 20, 21, 22, 23, 24, 41, 42, 43, 44, 45] (by decide +kernel) (by decide +kernel)
set_option maxRecDepth 20000 in
theorem gX2_giveUpBlock_X2_blockBits : GoodIn wsX2_giveUpBlock (wsV RX2 94 RX2 yX2_blockBits wsX2_blockBits) := goodIn_app (goodIn_of _ (by decide +kernel)) ggX2_giveUpBlock_X2_blockBits
set_option maxRecDepth 20000 in
theorem ggX2_giveUpBlock_X2_change : GoodIn wsX2_giveUpBlock wsX2_change := goodIn_r _ [28, 2, 29, 30, 31, 32, 7, 33, 41, 42, 43, 44, 45] (by decide +kernel) (by decide +kernel)
set_option maxRecDepth 20000 in
theorem gX2_giveUpBlock_X2_change : GoodIn wsX2_giveUpBlock (wsV RX2 57 RX2 yX2_change wsX2_change) := goodIn_app (goodIn_of _ (by decide +kernel)) ggX2_giveUpBlock_X2_change
set_option maxRecDepth 20000 in
theorem ggX2_giveUpBlock_J6_bitCount_0f7a4 : GoodIn wsX2_giveUpBlock wsJ6_bitCount_0f7a4 := goodIn_r _ [37, 38, 39, 40] (by decide +kernel) (by decide +kernel)
set_option maxRecDepth 20000 in
theorem gX2_giveUpBlock_J6_bitCount_0f7a4 : GoodIn wsX2_giveUpBlock (va_wsS RX2 80 yJ6_bitCount_0f7a4 wsJ6_bitCount_0f7a4) := goodIn_app (goodIn_of _ (by decide +kernel)) ggX2_giveUpBlock_J6_bitCount_0f7a4
theorem dX2_giveUpBlock_0 : decode cX2_giveUpBlock 0 = .ok (.aload_n 0, 1) := by decide +kernel
theorem dX2_giveUpBlock_1 : decode cX2_giveUpBlock 1 = .ok (.iload_n 1, 1) := by decide +kernel
theorem dX2_giveUpBlock_2 : decode cX2_giveUpBlock 2 = .ok (.invokevirtual 97, 3) := by decide +kernel
theorem dX2_giveUpBlock_5 : decode cX2_giveUpBlock 5 = .ok (.ifCond .ne 5, 3) := by decide +kernel
theorem dX2_giveUpBlock_8 : decode cX2_giveUpBlock 8 = .ok (.iconst (-1), 1) := by decide +kernel
theorem dX2_giveUpBlock_9 : decode cX2_giveUpBlock 9 = .ok (.ireturn, 1) := by decide +kernel
theorem dX2_giveUpBlock_10 : decode cX2_giveUpBlock 10 = .ok (.aload_n 0, 1) := by decide +kernel
theorem dX2_giveUpBlock_11 : decode cX2_giveUpBlock 11 = .ok (.getfield 16, 3) := by decide +kernel
theorem dX2_giveUpBlock_14 : decode cX2_giveUpBlock 14 = .ok (.iload_n 1, 1) := by decide +kernel
theorem dX2_giveUpBlock_15 : decode cX2_giveUpBlock 15 = .ok (.iaload, 1) := by decide +kernel
theorem dX2_giveUpBlock_16 : decode cX2_giveUpBlock 16 = .ok (.invokestatic 70, 3) := by decide +kernel
theorem dX2_giveUpBlock_19 : decode cX2_giveUpBlock 19 = .ok (.istore_n 2, 1) := by decide +kernel
theorem dX2_giveUpBlock_20 : decode cX2_giveUpBlock 20 = .ok (.aload_n 0, 1) := by decide +kernel
theorem dX2_giveUpBlock_21 : decode cX2_giveUpBlock 21 = .ok (.getfield 11, 3) := by decide +kernel
theorem dX2_giveUpBlock_24 : decode cX2_giveUpBlock 24 = .ok (.iconst 3, 1) := by decide +kernel
theorem dX2_giveUpBlock_25 : decode cX2_giveUpBlock 25 = .ok (.aaload, 1) := by decide +kernel
theorem dX2_giveUpBlock_26 : decode cX2_giveUpBlock 26 = .ok (.iload_n 2, 1) := by decide +kernel
theorem dX2_giveUpBlock_27 : decode cX2_giveUpBlock 27 = .ok (.iaload, 1) := by decide +kernel
theorem dX2_giveUpBlock_28 : decode cX2_giveUpBlock 28 = .ok (.aload_n 0, 1) := by decide +kernel
theorem dX2_giveUpBlock_29 : decode cX2_giveUpBlock 29 = .ok (.iload_n 1, 1) := by decide +kernel
theorem dX2_giveUpBlock_30 : decode cX2_giveUpBlock 30 = .ok (.invokevirtual 94, 3) := by decide +kernel
theorem dX2_giveUpBlock_33 : decode cX2_giveUpBlock 33 = .ok (.iand, 1) := by decide +kernel
theorem dX2_giveUpBlock_34 : decode cX2_giveUpBlock 34 = .ok (.istore_n 3, 1) := by decide +kernel
theorem dX2_giveUpBlock_35 : decode cX2_giveUpBlock 35 = .ok (.aload_n 0, 1) := by decide +kernel
theorem dX2_giveUpBlock_36 : decode cX2_giveUpBlock 36 = .ok (.iload_n 2, 1) := by decide +kernel
theorem dX2_giveUpBlock_37 : decode cX2_giveUpBlock 37 = .ok (.iload_n 3, 1) := by decide +kernel
theorem dX2_giveUpBlock_38 : decode cX2_giveUpBlock 38 = .ok (.iconst 3, 1) := by decide +kernel
theorem dX2_giveUpBlock_39 : decode cX2_giveUpBlock 39 = .ok (.iconst 0, 1) := by decide +kernel
theorem dX2_giveUpBlock_40 : decode cX2_giveUpBlock 40 = .ok (.invokevirtual 57, 3) := by decide +kernel
theorem dX2_giveUpBlock_43 : decode cX2_giveUpBlock 43 = .ok (.aload_n 0, 1) := by decide +kernel
theorem dX2_giveUpBlock_44 : decode cX2_giveUpBlock 44 = .ok (.getfield 20, 3) := by decide +kernel
theorem dX2_giveUpBlock_47 : decode cX2_giveUpBlock 47 = .ok (.iload_n 1, 1) := by decide +kernel
theorem dX2_giveUpBlock_48 : decode cX2_giveUpBlock 48 = .ok (.iconst 0, 1) := by decide +kernel
theorem dX2_giveUpBlock_49 : decode cX2_giveUpBlock 49 = .ok (.iastore, 1) := by decide +kernel
theorem dX2_giveUpBlock_50 : decode cX2_giveUpBlock 50 = .ok (.iload_n 3, 1) := by decide +kernel
theorem dX2_giveUpBlock_51 : decode cX2_giveUpBlock 51 = .ok (.invokestatic 80, 3) := by decide +kernel
theorem dX2_giveUpBlock_54 : decode cX2_giveUpBlock 54 = .ok (.ireturn, 1) := by decide +kernel
set_option maxRecDepth 20000 in
theorem ggX2_damageBit_X2_summaryBit : GoodIn wsX2_damageBit wsX2_summaryBit := goodIn_r _ [6, 1, 7, 8, 9, 10, 11] (by decide +kernel) (by decide +kernel)
set_option maxRecDepth 20000 in
theorem gX2_damageBit_X2_summaryBit : GoodIn wsX2_damageBit (wsV RX2 44 RX2 yX2_summaryBit wsX2_summaryBit) := goodIn_app (goodIn_of _ (by decide +kernel)) ggX2_damageBit_X2_summaryBit
theorem dX2_damageBit_0 : decode cX2_damageBit 0 = .ok (.iload_n 1, 1) := by decide +kernel
theorem dX2_damageBit_1 : decode cX2_damageBit 1 = .ok (.ifCond .lt 9, 3) := by decide +kernel
theorem dX2_damageBit_4 : decode cX2_damageBit 4 = .ok (.iload_n 1, 1) := by decide +kernel
theorem dX2_damageBit_5 : decode cX2_damageBit 5 = .ok (.bipush 10, 2) := by decide +kernel
theorem dX2_damageBit_7 : decode cX2_damageBit 7 = .ok (.if_icmp .lt 5, 3) := by decide +kernel
theorem dX2_damageBit_10 : decode cX2_damageBit 10 = .ok (.iconst (-1), 1) := by decide +kernel
theorem dX2_damageBit_11 : decode cX2_damageBit 11 = .ok (.ireturn, 1) := by decide +kernel
theorem dX2_damageBit_12 : decode cX2_damageBit 12 = .ok (.aload_n 0, 1) := by decide +kernel
theorem dX2_damageBit_13 : decode cX2_damageBit 13 = .ok (.dup, 1) := by decide +kernel
theorem dX2_damageBit_14 : decode cX2_damageBit 14 = .ok (.getfield 23, 3) := by decide +kernel
theorem dX2_damageBit_17 : decode cX2_damageBit 17 = .ok (.iconst 1, 1) := by decide +kernel
theorem dX2_damageBit_18 : decode cX2_damageBit 18 = .ok (.iload_n 1, 1) := by decide +kernel
theorem dX2_damageBit_19 : decode cX2_damageBit 19 = .ok (.ishl, 1) := by decide +kernel
theorem dX2_damageBit_20 : decode cX2_damageBit 20 = .ok (.ixor, 1) := by decide +kernel
theorem dX2_damageBit_21 : decode cX2_damageBit 21 = .ok (.putfield 23, 3) := by decide +kernel
theorem dX2_damageBit_24 : decode cX2_damageBit 24 = .ok (.aload_n 0, 1) := by decide +kernel
theorem dX2_damageBit_25 : decode cX2_damageBit 25 = .ok (.iload_n 1, 1) := by decide +kernel
theorem dX2_damageBit_26 : decode cX2_damageBit 26 = .ok (.invokevirtual 44, 3) := by decide +kernel
theorem dX2_damageBit_29 : decode cX2_damageBit 29 = .ok (.ireturn, 1) := by decide +kernel
set_option maxRecDepth 20000 in
theorem ggX2_repairBits_X2_rightSummary : GoodIn wsX2_repairBits wsX2_rightSummary := goodIn_r _ [6, 7, 8, 9, 5, 10, 11, 19, 20, 21, 22, 23] (by decide +kernel) (by decide +kernel)
set_option maxRecDepth 20000 in
theorem gX2_repairBits_X2_rightSummary : GoodIn wsX2_repairBits (wsV RX2 100 RX2 yX2_rightSummary wsX2_rightSummary) := goodIn_app (goodIn_of _ (by decide +kernel)) ggX2_repairBits_X2_rightSummary
set_option maxRecDepth 20000 in
theorem ggX2_repairBits_J6_bitCount_0f7a4 : GoodIn wsX2_repairBits wsJ6_bitCount_0f7a4 := goodIn_r _ [15, 16, 17, 18] (by decide +kernel) (by decide +kernel)
set_option maxRecDepth 20000 in
theorem gX2_repairBits_J6_bitCount_0f7a4 : GoodIn wsX2_repairBits (va_wsS RX2 80 yJ6_bitCount_0f7a4 wsJ6_bitCount_0f7a4) := goodIn_app (goodIn_of _ (by decide +kernel)) ggX2_repairBits_J6_bitCount_0f7a4
theorem dX2_repairBits_0 : decode cX2_repairBits 0 = .ok (.aload_n 0, 1) := by decide +kernel
theorem dX2_repairBits_1 : decode cX2_repairBits 1 = .ok (.invokevirtual 100, 3) := by decide +kernel
theorem dX2_repairBits_4 : decode cX2_repairBits 4 = .ok (.istore_n 1, 1) := by decide +kernel
theorem dX2_repairBits_5 : decode cX2_repairBits 5 = .ok (.aload_n 0, 1) := by decide +kernel
theorem dX2_repairBits_6 : decode cX2_repairBits 6 = .ok (.getfield 23, 3) := by decide +kernel
theorem dX2_repairBits_9 : decode cX2_repairBits 9 = .ok (.iload_n 1, 1) := by decide +kernel
theorem dX2_repairBits_10 : decode cX2_repairBits 10 = .ok (.ixor, 1) := by decide +kernel
theorem dX2_repairBits_11 : decode cX2_repairBits 11 = .ok (.invokestatic 80, 3) := by decide +kernel
theorem dX2_repairBits_14 : decode cX2_repairBits 14 = .ok (.istore_n 2, 1) := by decide +kernel
theorem dX2_repairBits_15 : decode cX2_repairBits 15 = .ok (.aload_n 0, 1) := by decide +kernel
theorem dX2_repairBits_16 : decode cX2_repairBits 16 = .ok (.iload_n 1, 1) := by decide +kernel
theorem dX2_repairBits_17 : decode cX2_repairBits 17 = .ok (.putfield 23, 3) := by decide +kernel
theorem dX2_repairBits_20 : decode cX2_repairBits 20 = .ok (.iload_n 2, 1) := by decide +kernel
theorem dX2_repairBits_21 : decode cX2_repairBits 21 = .ok (.ireturn, 1) := by decide +kernel
set_option maxRecDepth 20000 in
theorem ggX2_change_X2_isFull : GoodIn wsX2_change wsX2_isFull := goodIn_r _ [7, 1, 8, 9, 10, 11, 12] (by decide +kernel) (by decide +kernel)
set_option maxRecDepth 20000 in
theorem gX2_change_X2_isFull : GoodIn wsX2_change (wsV RX2 47 RX2 yX2_isFull wsX2_isFull) := goodIn_app (goodIn_of _ (by decide +kernel)) ggX2_change_X2_isFull
theorem dX2_change_0 : decode cX2_change 0 = .ok (.iload_n 2, 1) := by decide +kernel
theorem dX2_change_1 : decode cX2_change 1 = .ok (.ifCond .ne 4, 3) := by decide +kernel
theorem dX2_change_4 : decode cX2_change 4 = .ok (.return_, 1) := by decide +kernel
theorem dX2_change_5 : decode cX2_change 5 = .ok (.aload_n 0, 1) := by decide +kernel
theorem dX2_change_6 : decode cX2_change 6 = .ok (.getfield 11, 3) := by decide +kernel
theorem dX2_change_9 : decode cX2_change 9 = .ok (.iload_n 3, 1) := by decide +kernel
theorem dX2_change_10 : decode cX2_change 10 = .ok (.aaload, 1) := by decide +kernel
theorem dX2_change_11 : decode cX2_change 11 = .ok (.iload_n 1, 1) := by decide +kernel
theorem dX2_change_12 : decode cX2_change 12 = .ok (.dup2, 1) := by decide +kernel
theorem dX2_change_13 : decode cX2_change 13 = .ok (.iaload, 1) := by decide +kernel
theorem dX2_change_14 : decode cX2_change 14 = .ok (.iload_n 2, 1) := by decide +kernel
theorem dX2_change_15 : decode cX2_change 15 = .ok (.iconst (-1), 1) := by decide +kernel
theorem dX2_change_16 : decode cX2_change 16 = .ok (.ixor, 1) := by decide +kernel
theorem dX2_change_17 : decode cX2_change 17 = .ok (.iand, 1) := by decide +kernel
theorem dX2_change_18 : decode cX2_change 18 = .ok (.iastore, 1) := by decide +kernel
theorem dX2_change_19 : decode cX2_change 19 = .ok (.aload_n 0, 1) := by decide +kernel
theorem dX2_change_20 : decode cX2_change 20 = .ok (.getfield 11, 3) := by decide +kernel
theorem dX2_change_23 : decode cX2_change 23 = .ok (.iload 4, 2) := by decide +kernel
theorem dX2_change_25 : decode cX2_change 25 = .ok (.aaload, 1) := by decide +kernel
theorem dX2_change_26 : decode cX2_change 26 = .ok (.iload_n 1, 1) := by decide +kernel
theorem dX2_change_27 : decode cX2_change 27 = .ok (.dup2, 1) := by decide +kernel
theorem dX2_change_28 : decode cX2_change 28 = .ok (.iaload, 1) := by decide +kernel
theorem dX2_change_29 : decode cX2_change 29 = .ok (.iload_n 2, 1) := by decide +kernel
theorem dX2_change_30 : decode cX2_change 30 = .ok (.ior, 1) := by decide +kernel
theorem dX2_change_31 : decode cX2_change 31 = .ok (.iastore, 1) := by decide +kernel
theorem dX2_change_32 : decode cX2_change 32 = .ok (.aload_n 0, 1) := by decide +kernel
theorem dX2_change_33 : decode cX2_change 33 = .ok (.iload_n 1, 1) := by decide +kernel
theorem dX2_change_34 : decode cX2_change 34 = .ok (.invokevirtual 47, 3) := by decide +kernel
theorem dX2_change_37 : decode cX2_change 37 = .ok (.ifCond .eq 18, 3) := by decide +kernel
theorem dX2_change_40 : decode cX2_change 40 = .ok (.aload_n 0, 1) := by decide +kernel
theorem dX2_change_41 : decode cX2_change 41 = .ok (.dup, 1) := by decide +kernel
theorem dX2_change_42 : decode cX2_change 42 = .ok (.getfield 23, 3) := by decide +kernel
theorem dX2_change_45 : decode cX2_change 45 = .ok (.iconst 1, 1) := by decide +kernel
theorem dX2_change_46 : decode cX2_change 46 = .ok (.iload_n 1, 1) := by decide +kernel
theorem dX2_change_47 : decode cX2_change 47 = .ok (.ishl, 1) := by decide +kernel
theorem dX2_change_48 : decode cX2_change 48 = .ok (.ior, 1) := by decide +kernel
theorem dX2_change_49 : decode cX2_change 49 = .ok (.putfield 23, 3) := by decide +kernel
theorem dX2_change_52 : decode cX2_change 52 = .ok (.goto 17, 3) := by decide +kernel
theorem dX2_change_55 : decode cX2_change 55 = .ok (.aload_n 0, 1) := by decide +kernel
theorem dX2_change_56 : decode cX2_change 56 = .ok (.dup, 1) := by decide +kernel
theorem dX2_change_57 : decode cX2_change 57 = .ok (.getfield 23, 3) := by decide +kernel
theorem dX2_change_60 : decode cX2_change 60 = .ok (.iconst 1, 1) := by decide +kernel
theorem dX2_change_61 : decode cX2_change 61 = .ok (.iload_n 1, 1) := by decide +kernel
theorem dX2_change_62 : decode cX2_change 62 = .ok (.ishl, 1) := by decide +kernel
theorem dX2_change_63 : decode cX2_change 63 = .ok (.iconst (-1), 1) := by decide +kernel
theorem dX2_change_64 : decode cX2_change 64 = .ok (.ixor, 1) := by decide +kernel
theorem dX2_change_65 : decode cX2_change 65 = .ok (.iand, 1) := by decide +kernel
theorem dX2_change_66 : decode cX2_change 66 = .ok (.putfield 23, 3) := by decide +kernel
theorem dX2_change_69 : decode cX2_change 69 = .ok (.return_, 1) := by decide +kernel
set_option maxRecDepth 20000 in
theorem ggX2_total_J6_bitCount_0f7a4 : GoodIn wsX2_total wsJ6_bitCount_0f7a4 := goodIn_r _ [5, 6, 7, 8] (by decide +kernel) (by decide +kernel)
set_option maxRecDepth 20000 in
theorem gX2_total_J6_bitCount_0f7a4 : GoodIn wsX2_total (va_wsS RX2 80 yJ6_bitCount_0f7a4 wsJ6_bitCount_0f7a4) := goodIn_app (goodIn_of _ (by decide +kernel)) ggX2_total_J6_bitCount_0f7a4
theorem dX2_total_0 : decode cX2_total 0 = .ok (.iconst 0, 1) := by decide +kernel
theorem dX2_total_1 : decode cX2_total 1 = .ok (.istore_n 2, 1) := by decide +kernel
theorem dX2_total_2 : decode cX2_total 2 = .ok (.iconst 0, 1) := by decide +kernel
theorem dX2_total_3 : decode cX2_total 3 = .ok (.istore_n 3, 1) := by decide +kernel
theorem dX2_total_4 : decode cX2_total 4 = .ok (.iload_n 3, 1) := by decide +kernel
theorem dX2_total_5 : decode cX2_total 5 = .ok (.bipush 10, 2) := by decide +kernel
theorem dX2_total_7 : decode cX2_total 7 = .ok (.if_icmp .ge 23, 3) := by decide +kernel
theorem dX2_total_10 : decode cX2_total 10 = .ok (.iload_n 2, 1) := by decide +kernel
theorem dX2_total_11 : decode cX2_total 11 = .ok (.aload_n 0, 1) := by decide +kernel
theorem dX2_total_12 : decode cX2_total 12 = .ok (.getfield 11, 3) := by decide +kernel
theorem dX2_total_15 : decode cX2_total 15 = .ok (.iload_n 1, 1) := by decide +kernel
theorem dX2_total_16 : decode cX2_total 16 = .ok (.aaload, 1) := by decide +kernel
theorem dX2_total_17 : decode cX2_total 17 = .ok (.iload_n 3, 1) := by decide +kernel
theorem dX2_total_18 : decode cX2_total 18 = .ok (.iaload, 1) := by decide +kernel
theorem dX2_total_19 : decode cX2_total 19 = .ok (.invokestatic 80, 3) := by decide +kernel
theorem dX2_total_22 : decode cX2_total 22 = .ok (.iadd, 1) := by decide +kernel
theorem dX2_total_23 : decode cX2_total 23 = .ok (.istore_n 2, 1) := by decide +kernel
theorem dX2_total_24 : decode cX2_total 24 = .ok (.iinc 3 1, 3) := by decide +kernel
theorem dX2_total_27 : decode cX2_total 27 = .ok (.goto (-23), 3) := by decide +kernel
theorem dX2_total_30 : decode cX2_total 30 = .ok (.iload_n 2, 1) := by decide +kernel
theorem dX2_total_31 : decode cX2_total 31 = .ok (.ireturn, 1) := by decide +kernel
set_option maxRecDepth 20000 in
theorem ggX2_kindOf_X3_wordOf : GoodIn wsX2_kindOf wsX3_wordOf := goodIn_r _ [4] (by decide +kernel) (by decide +kernel)
set_option maxRecDepth 20000 in
theorem gX2_kindOf_X3_wordOf_n70 : GoodIn wsX2_kindOf (wsX3_wordOf) := ggX2_kindOf_X3_wordOf
set_option maxRecDepth 20000 in
theorem ggX2_kindOf_X3_bitOf : GoodIn wsX2_kindOf wsX3_bitOf := goodIn_r _ [6] (by decide +kernel) (by decide +kernel)
set_option maxRecDepth 20000 in
theorem gX2_kindOf_X3_bitOf_n54 : GoodIn wsX2_kindOf (wsX3_bitOf) := ggX2_kindOf_X3_bitOf
theorem dX2_kindOf_0 : decode cX2_kindOf 0 = .ok (.iconst 0, 1) := by decide +kernel
theorem dX2_kindOf_1 : decode cX2_kindOf 1 = .ok (.istore_n 2, 1) := by decide +kernel
theorem dX2_kindOf_2 : decode cX2_kindOf 2 = .ok (.iload_n 2, 1) := by decide +kernel
theorem dX2_kindOf_3 : decode cX2_kindOf 3 = .ok (.iconst 4, 1) := by decide +kernel
theorem dX2_kindOf_4 : decode cX2_kindOf 4 = .ok (.if_icmp .ge 30, 3) := by decide +kernel
theorem dX2_kindOf_7 : decode cX2_kindOf 7 = .ok (.aload_n 0, 1) := by decide +kernel
theorem dX2_kindOf_8 : decode cX2_kindOf 8 = .ok (.getfield 11, 3) := by decide +kernel
theorem dX2_kindOf_11 : decode cX2_kindOf 11 = .ok (.iload_n 2, 1) := by decide +kernel
theorem dX2_kindOf_12 : decode cX2_kindOf 12 = .ok (.aaload, 1) := by decide +kernel
theorem dX2_kindOf_13 : decode cX2_kindOf 13 = .ok (.iload_n 1, 1) := by decide +kernel
theorem dX2_kindOf_14 : decode cX2_kindOf 14 = .ok (.invokestatic 70, 3) := by decide +kernel
theorem dX2_kindOf_17 : decode cX2_kindOf 17 = .ok (.iaload, 1) := by decide +kernel
theorem dX2_kindOf_18 : decode cX2_kindOf 18 = .ok (.iload_n 1, 1) := by decide +kernel
theorem dX2_kindOf_19 : decode cX2_kindOf 19 = .ok (.invokestatic 54, 3) := by decide +kernel
theorem dX2_kindOf_22 : decode cX2_kindOf 22 = .ok (.iand, 1) := by decide +kernel
theorem dX2_kindOf_23 : decode cX2_kindOf 23 = .ok (.ifCond .eq 5, 3) := by decide +kernel
theorem dX2_kindOf_26 : decode cX2_kindOf 26 = .ok (.iload_n 2, 1) := by decide +kernel
theorem dX2_kindOf_27 : decode cX2_kindOf 27 = .ok (.ireturn, 1) := by decide +kernel
theorem dX2_kindOf_28 : decode cX2_kindOf 28 = .ok (.iinc 2 1, 3) := by decide +kernel
theorem dX2_kindOf_31 : decode cX2_kindOf 31 = .ok (.goto (-29), 3) := by decide +kernel
theorem dX2_kindOf_34 : decode cX2_kindOf 34 = .ok (.iconst 0, 1) := by decide +kernel
theorem dX2_kindOf_35 : decode cX2_kindOf 35 = .ok (.ireturn, 1) := by decide +kernel
set_option maxRecDepth 20000 in
theorem ggX2_isFree_X3_wordOf : GoodIn wsX2_isFree wsX3_wordOf := goodIn_r _ [4] (by decide +kernel) (by decide +kernel)
set_option maxRecDepth 20000 in
theorem gX2_isFree_X3_wordOf_n70 : GoodIn wsX2_isFree (wsX3_wordOf) := ggX2_isFree_X3_wordOf
set_option maxRecDepth 20000 in
theorem ggX2_isFree_X3_bitOf : GoodIn wsX2_isFree wsX3_bitOf := goodIn_r _ [6] (by decide +kernel) (by decide +kernel)
set_option maxRecDepth 20000 in
theorem gX2_isFree_X3_bitOf_n54 : GoodIn wsX2_isFree (wsX3_bitOf) := ggX2_isFree_X3_bitOf
theorem dX2_isFree_0 : decode cX2_isFree 0 = .ok (.aload_n 0, 1) := by decide +kernel
theorem dX2_isFree_1 : decode cX2_isFree 1 = .ok (.getfield 11, 3) := by decide +kernel
theorem dX2_isFree_4 : decode cX2_isFree 4 = .ok (.iconst 0, 1) := by decide +kernel
theorem dX2_isFree_5 : decode cX2_isFree 5 = .ok (.aaload, 1) := by decide +kernel
theorem dX2_isFree_6 : decode cX2_isFree 6 = .ok (.iload_n 1, 1) := by decide +kernel
theorem dX2_isFree_7 : decode cX2_isFree 7 = .ok (.invokestatic 70, 3) := by decide +kernel
theorem dX2_isFree_10 : decode cX2_isFree 10 = .ok (.iaload, 1) := by decide +kernel
theorem dX2_isFree_11 : decode cX2_isFree 11 = .ok (.iload_n 1, 1) := by decide +kernel
theorem dX2_isFree_12 : decode cX2_isFree 12 = .ok (.invokestatic 54, 3) := by decide +kernel
theorem dX2_isFree_15 : decode cX2_isFree 15 = .ok (.iand, 1) := by decide +kernel
theorem dX2_isFree_16 : decode cX2_isFree 16 = .ok (.ifCond .eq 7, 3) := by decide +kernel
theorem dX2_isFree_19 : decode cX2_isFree 19 = .ok (.iconst 1, 1) := by decide +kernel
theorem dX2_isFree_20 : decode cX2_isFree 20 = .ok (.goto 4, 3) := by decide +kernel
theorem dX2_isFree_23 : decode cX2_isFree 23 = .ok (.iconst 0, 1) := by decide +kernel
theorem dX2_isFree_24 : decode cX2_isFree 24 = .ok (.ireturn, 1) := by decide +kernel
theorem dX2_isFull_0 : decode cX2_isFull 0 = .ok (.aload_n 0, 1) := by decide +kernel
theorem dX2_isFull_1 : decode cX2_isFull 1 = .ok (.getfield 11, 3) := by decide +kernel
theorem dX2_isFull_4 : decode cX2_isFull 4 = .ok (.iconst 0, 1) := by decide +kernel
theorem dX2_isFull_5 : decode cX2_isFull 5 = .ok (.aaload, 1) := by decide +kernel
theorem dX2_isFull_6 : decode cX2_isFull 6 = .ok (.iload_n 1, 1) := by decide +kernel
theorem dX2_isFull_7 : decode cX2_isFull 7 = .ok (.iaload, 1) := by decide +kernel
theorem dX2_isFull_8 : decode cX2_isFull 8 = .ok (.ifCond .ne 7, 3) := by decide +kernel
theorem dX2_isFull_11 : decode cX2_isFull 11 = .ok (.iconst 1, 1) := by decide +kernel
theorem dX2_isFull_12 : decode cX2_isFull 12 = .ok (.goto 4, 3) := by decide +kernel
theorem dX2_isFull_15 : decode cX2_isFull 15 = .ok (.iconst 0, 1) := by decide +kernel
theorem dX2_isFull_16 : decode cX2_isFull 16 = .ok (.ireturn, 1) := by decide +kernel
set_option maxRecDepth 20000 in
theorem ggX2_firstFree_X2_isFull : GoodIn wsX2_firstFree wsX2_isFull := goodIn_r _ [6, 1, 17, 18, 19, 20, 21] (by decide +kernel) (by decide +kernel)
set_option maxRecDepth 20000 in
theorem gX2_firstFree_X2_isFull : GoodIn wsX2_firstFree (wsV RX2 47 RX2 yX2_isFull wsX2_isFull) := goodIn_app (goodIn_of _ (by decide +kernel)) ggX2_firstFree_X2_isFull
set_option maxRecDepth 20000 in
theorem ggX2_firstFree_X3_lowestBit : GoodIn wsX2_firstFree wsX3_lowestBit := goodIn_r _ [9, 10, 11, 12, 13, 14, 15, 16] (by decide +kernel) (by decide +kernel)
set_option maxRecDepth 20000 in
theorem gX2_firstFree_X3_lowestBit_n51 : GoodIn wsX2_firstFree (wsX3_lowestBit) := ggX2_firstFree_X3_lowestBit
theorem dX2_firstFree_0 : decode cX2_firstFree 0 = .ok (.aload_n 0, 1) := by decide +kernel
theorem dX2_firstFree_1 : decode cX2_firstFree 1 = .ok (.iload_n 1, 1) := by decide +kernel
theorem dX2_firstFree_2 : decode cX2_firstFree 2 = .ok (.invokevirtual 47, 3) := by decide +kernel
theorem dX2_firstFree_5 : decode cX2_firstFree 5 = .ok (.ifCond .eq 8, 3) := by decide +kernel
theorem dX2_firstFree_8 : decode cX2_firstFree 8 = .ok (.bipush (-9), 2) := by decide +kernel
theorem dX2_firstFree_10 : decode cX2_firstFree 10 = .ok (.goto 19, 3) := by decide +kernel
theorem dX2_firstFree_13 : decode cX2_firstFree 13 = .ok (.iload_n 1, 1) := by decide +kernel
theorem dX2_firstFree_14 : decode cX2_firstFree 14 = .ok (.bipush 32, 2) := by decide +kernel
theorem dX2_firstFree_16 : decode cX2_firstFree 16 = .ok (.imul, 1) := by decide +kernel
theorem dX2_firstFree_17 : decode cX2_firstFree 17 = .ok (.aload_n 0, 1) := by decide +kernel
theorem dX2_firstFree_18 : decode cX2_firstFree 18 = .ok (.getfield 11, 3) := by decide +kernel
theorem dX2_firstFree_21 : decode cX2_firstFree 21 = .ok (.iconst 0, 1) := by decide +kernel
theorem dX2_firstFree_22 : decode cX2_firstFree 22 = .ok (.aaload, 1) := by decide +kernel
theorem dX2_firstFree_23 : decode cX2_firstFree 23 = .ok (.iload_n 1, 1) := by decide +kernel
theorem dX2_firstFree_24 : decode cX2_firstFree 24 = .ok (.iaload, 1) := by decide +kernel
theorem dX2_firstFree_25 : decode cX2_firstFree 25 = .ok (.invokestatic 51, 3) := by decide +kernel
theorem dX2_firstFree_28 : decode cX2_firstFree 28 = .ok (.iadd, 1) := by decide +kernel
theorem dX2_firstFree_29 : decode cX2_firstFree 29 = .ok (.ireturn, 1) := by decide +kernel
theorem dX2_summaryBit_0 : decode cX2_summaryBit 0 = .ok (.aload_n 0, 1) := by decide +kernel
theorem dX2_summaryBit_1 : decode cX2_summaryBit 1 = .ok (.getfield 23, 3) := by decide +kernel
theorem dX2_summaryBit_4 : decode cX2_summaryBit 4 = .ok (.iload_n 1, 1) := by decide +kernel
theorem dX2_summaryBit_5 : decode cX2_summaryBit 5 = .ok (.ishr, 1) := by decide +kernel
theorem dX2_summaryBit_6 : decode cX2_summaryBit 6 = .ok (.iconst 1, 1) := by decide +kernel
theorem dX2_summaryBit_7 : decode cX2_summaryBit 7 = .ok (.iand, 1) := by decide +kernel
theorem dX2_summaryBit_8 : decode cX2_summaryBit 8 = .ok (.ireturn, 1) := by decide +kernel
set_option maxRecDepth 20000 in
theorem ggX2_rightSummary_X2_isFull : GoodIn wsX2_rightSummary wsX2_isFull := goodIn_r _ [5, 6, 7, 8, 9, 10, 11] (by decide +kernel) (by decide +kernel)
set_option maxRecDepth 20000 in
theorem gX2_rightSummary_X2_isFull : GoodIn wsX2_rightSummary (wsV RX2 47 RX2 yX2_isFull wsX2_isFull) := goodIn_app (goodIn_of _ (by decide +kernel)) ggX2_rightSummary_X2_isFull
theorem dX2_rightSummary_0 : decode cX2_rightSummary 0 = .ok (.iconst 0, 1) := by decide +kernel
theorem dX2_rightSummary_1 : decode cX2_rightSummary 1 = .ok (.istore_n 1, 1) := by decide +kernel
theorem dX2_rightSummary_2 : decode cX2_rightSummary 2 = .ok (.iconst 0, 1) := by decide +kernel
theorem dX2_rightSummary_3 : decode cX2_rightSummary 3 = .ok (.istore_n 2, 1) := by decide +kernel
theorem dX2_rightSummary_4 : decode cX2_rightSummary 4 = .ok (.iload_n 2, 1) := by decide +kernel
theorem dX2_rightSummary_5 : decode cX2_rightSummary 5 = .ok (.bipush 10, 2) := by decide +kernel
theorem dX2_rightSummary_7 : decode cX2_rightSummary 7 = .ok (.if_icmp .ge 23, 3) := by decide +kernel
theorem dX2_rightSummary_10 : decode cX2_rightSummary 10 = .ok (.aload_n 0, 1) := by decide +kernel
theorem dX2_rightSummary_11 : decode cX2_rightSummary 11 = .ok (.iload_n 2, 1) := by decide +kernel
theorem dX2_rightSummary_12 : decode cX2_rightSummary 12 = .ok (.invokevirtual 47, 3) := by decide +kernel
theorem dX2_rightSummary_15 : decode cX2_rightSummary 15 = .ok (.ifCond .eq 9, 3) := by decide +kernel
theorem dX2_rightSummary_18 : decode cX2_rightSummary 18 = .ok (.iload_n 1, 1) := by decide +kernel
theorem dX2_rightSummary_19 : decode cX2_rightSummary 19 = .ok (.iconst 1, 1) := by decide +kernel
theorem dX2_rightSummary_20 : decode cX2_rightSummary 20 = .ok (.iload_n 2, 1) := by decide +kernel
theorem dX2_rightSummary_21 : decode cX2_rightSummary 21 = .ok (.ishl, 1) := by decide +kernel
theorem dX2_rightSummary_22 : decode cX2_rightSummary 22 = .ok (.ior, 1) := by decide +kernel
theorem dX2_rightSummary_23 : decode cX2_rightSummary 23 = .ok (.istore_n 1, 1) := by decide +kernel
theorem dX2_rightSummary_24 : decode cX2_rightSummary 24 = .ok (.iinc 2 1, 3) := by decide +kernel
theorem dX2_rightSummary_27 : decode cX2_rightSummary 27 = .ok (.goto (-23), 3) := by decide +kernel
theorem dX2_rightSummary_30 : decode cX2_rightSummary 30 = .ok (.iload_n 1, 1) := by decide +kernel
theorem dX2_rightSummary_31 : decode cX2_rightSummary 31 = .ok (.ireturn, 1) := by decide +kernel
set_option maxRecDepth 20000 in
theorem ggX2_runStart_X2_isFree : GoodIn wsX2_runStart wsX2_isFree := goodIn_r _ [5, 6, 7, 8, 9, 10, 11, 12, 13, 14, 15, 16] (by decide +kernel) (by decide +kernel)
set_option maxRecDepth 20000 in
theorem gX2_runStart_X2_isFree : GoodIn wsX2_runStart (wsV RX2 103 RX2 yX2_isFree wsX2_isFree) := goodIn_app (goodIn_of _ (by decide +kernel)) ggX2_runStart_X2_isFree
theorem dX2_runStart_0 : decode cX2_runStart 0 = .ok (.iconst 0, 1) := by decide +kernel
theorem dX2_runStart_1 : decode cX2_runStart 1 = .ok (.istore_n 2, 1) := by decide +kernel
theorem dX2_runStart_2 : decode cX2_runStart 2 = .ok (.iconst 0, 1) := by decide +kernel
theorem dX2_runStart_3 : decode cX2_runStart 3 = .ok (.istore_n 3, 1) := by decide +kernel
theorem dX2_runStart_4 : decode cX2_runStart 4 = .ok (.iload_n 3, 1) := by decide +kernel
theorem dX2_runStart_5 : decode cX2_runStart 5 = .ok (.sipush 320, 3) := by decide +kernel
theorem dX2_runStart_8 : decode cX2_runStart 8 = .ok (.if_icmp .ge 36, 3) := by decide +kernel
theorem dX2_runStart_11 : decode cX2_runStart 11 = .ok (.aload_n 0, 1) := by decide +kernel
theorem dX2_runStart_12 : decode cX2_runStart 12 = .ok (.iload_n 3, 1) := by decide +kernel
theorem dX2_runStart_13 : decode cX2_runStart 13 = .ok (.invokevirtual 103, 3) := by decide +kernel
theorem dX2_runStart_16 : decode cX2_runStart 16 = .ok (.ifCond .eq 9, 3) := by decide +kernel
theorem dX2_runStart_19 : decode cX2_runStart 19 = .ok (.iload_n 2, 1) := by decide +kernel
theorem dX2_runStart_20 : decode cX2_runStart 20 = .ok (.iconst 1, 1) := by decide +kernel
theorem dX2_runStart_21 : decode cX2_runStart 21 = .ok (.iadd, 1) := by decide +kernel
theorem dX2_runStart_22 : decode cX2_runStart 22 = .ok (.goto 4, 3) := by decide +kernel
theorem dX2_runStart_25 : decode cX2_runStart 25 = .ok (.iconst 0, 1) := by decide +kernel
theorem dX2_runStart_26 : decode cX2_runStart 26 = .ok (.istore_n 2, 1) := by decide +kernel
theorem dX2_runStart_27 : decode cX2_runStart 27 = .ok (.iload_n 2, 1) := by decide +kernel
theorem dX2_runStart_28 : decode cX2_runStart 28 = .ok (.iload_n 1, 1) := by decide +kernel
theorem dX2_runStart_29 : decode cX2_runStart 29 = .ok (.if_icmp .ne 9, 3) := by decide +kernel
theorem dX2_runStart_32 : decode cX2_runStart 32 = .ok (.iload_n 3, 1) := by decide +kernel
theorem dX2_runStart_33 : decode cX2_runStart 33 = .ok (.iload_n 1, 1) := by decide +kernel
theorem dX2_runStart_34 : decode cX2_runStart 34 = .ok (.isub, 1) := by decide +kernel
theorem dX2_runStart_35 : decode cX2_runStart 35 = .ok (.iconst 1, 1) := by decide +kernel
theorem dX2_runStart_36 : decode cX2_runStart 36 = .ok (.iadd, 1) := by decide +kernel
theorem dX2_runStart_37 : decode cX2_runStart 37 = .ok (.ireturn, 1) := by decide +kernel
theorem dX2_runStart_38 : decode cX2_runStart 38 = .ok (.iinc 3 1, 3) := by decide +kernel
theorem dX2_runStart_41 : decode cX2_runStart 41 = .ok (.goto (-37), 3) := by decide +kernel
theorem dX2_runStart_44 : decode cX2_runStart 44 = .ok (.bipush (-9), 2) := by decide +kernel
theorem dX2_runStart_46 : decode cX2_runStart 46 = .ok (.ireturn, 1) := by decide +kernel
set_option maxRecDepth 20000 in
theorem ggX2_freeRuns_X2_isFree : GoodIn wsX2_freeRuns wsX2_isFree := goodIn_r _ [5, 6, 7, 8, 9, 10, 11, 12, 13, 14, 15, 16] (by decide +kernel) (by decide +kernel)
set_option maxRecDepth 20000 in
theorem gX2_freeRuns_X2_isFree : GoodIn wsX2_freeRuns (wsV RX2 103 RX2 yX2_isFree wsX2_isFree) := goodIn_app (goodIn_of _ (by decide +kernel)) ggX2_freeRuns_X2_isFree
theorem dX2_freeRuns_0 : decode cX2_freeRuns 0 = .ok (.iconst 0, 1) := by decide +kernel
theorem dX2_freeRuns_1 : decode cX2_freeRuns 1 = .ok (.istore_n 1, 1) := by decide +kernel
theorem dX2_freeRuns_2 : decode cX2_freeRuns 2 = .ok (.iconst 0, 1) := by decide +kernel
theorem dX2_freeRuns_3 : decode cX2_freeRuns 3 = .ok (.istore_n 2, 1) := by decide +kernel
theorem dX2_freeRuns_4 : decode cX2_freeRuns 4 = .ok (.iconst 0, 1) := by decide +kernel
theorem dX2_freeRuns_5 : decode cX2_freeRuns 5 = .ok (.istore_n 3, 1) := by decide +kernel
theorem dX2_freeRuns_6 : decode cX2_freeRuns 6 = .ok (.iload_n 3, 1) := by decide +kernel
theorem dX2_freeRuns_7 : decode cX2_freeRuns 7 = .ok (.sipush 320, 3) := by decide +kernel
theorem dX2_freeRuns_10 : decode cX2_freeRuns 10 = .ok (.if_icmp .ge 31, 3) := by decide +kernel
theorem dX2_freeRuns_13 : decode cX2_freeRuns 13 = .ok (.aload_n 0, 1) := by decide +kernel
theorem dX2_freeRuns_14 : decode cX2_freeRuns 14 = .ok (.iload_n 3, 1) := by decide +kernel
theorem dX2_freeRuns_15 : decode cX2_freeRuns 15 = .ok (.invokevirtual 103, 3) := by decide +kernel
theorem dX2_freeRuns_18 : decode cX2_freeRuns 18 = .ok (.istore 4, 2) := by decide +kernel
theorem dX2_freeRuns_20 : decode cX2_freeRuns 20 = .ok (.iload 4, 2) := by decide +kernel
theorem dX2_freeRuns_22 : decode cX2_freeRuns 22 = .ok (.ifCond .eq 10, 3) := by decide +kernel
theorem dX2_freeRuns_25 : decode cX2_freeRuns 25 = .ok (.iload_n 2, 1) := by decide +kernel
theorem dX2_freeRuns_26 : decode cX2_freeRuns 26 = .ok (.ifCond .ne 6, 3) := by decide +kernel
theorem dX2_freeRuns_29 : decode cX2_freeRuns 29 = .ok (.iinc 1 1, 3) := by decide +kernel
theorem dX2_freeRuns_32 : decode cX2_freeRuns 32 = .ok (.iload 4, 2) := by decide +kernel
theorem dX2_freeRuns_34 : decode cX2_freeRuns 34 = .ok (.istore_n 2, 1) := by decide +kernel
theorem dX2_freeRuns_35 : decode cX2_freeRuns 35 = .ok (.iinc 3 1, 3) := by decide +kernel
theorem dX2_freeRuns_38 : decode cX2_freeRuns 38 = .ok (.goto (-32), 3) := by decide +kernel
theorem dX2_freeRuns_41 : decode cX2_freeRuns 41 = .ok (.iload_n 1, 1) := by decide +kernel
theorem dX2_freeRuns_42 : decode cX2_freeRuns 42 = .ok (.ireturn, 1) := by decide +kernel
set_option maxRecDepth 20000 in
theorem ggX2_longestFreeRun_X2_isFree : GoodIn wsX2_longestFreeRun wsX2_isFree := goodIn_r _ [9, 10, 11, 12, 13, 14, 15, 16, 17, 18, 19, 20] (by decide +kernel) (by decide +kernel)
set_option maxRecDepth 20000 in
theorem gX2_longestFreeRun_X2_isFree : GoodIn wsX2_longestFreeRun (wsV RX2 103 RX2 yX2_isFree wsX2_isFree) := goodIn_app (goodIn_of _ (by decide +kernel)) ggX2_longestFreeRun_X2_isFree
theorem dX2_longestFreeRun_0 : decode cX2_longestFreeRun 0 = .ok (.iconst 0, 1) := by decide +kernel
theorem dX2_longestFreeRun_1 : decode cX2_longestFreeRun 1 = .ok (.istore_n 1, 1) := by decide +kernel
theorem dX2_longestFreeRun_2 : decode cX2_longestFreeRun 2 = .ok (.iconst 0, 1) := by decide +kernel
theorem dX2_longestFreeRun_3 : decode cX2_longestFreeRun 3 = .ok (.istore_n 2, 1) := by decide +kernel
theorem dX2_longestFreeRun_4 : decode cX2_longestFreeRun 4 = .ok (.iconst 0, 1) := by decide +kernel
theorem dX2_longestFreeRun_5 : decode cX2_longestFreeRun 5 = .ok (.istore_n 3, 1) := by decide +kernel
theorem dX2_longestFreeRun_6 : decode cX2_longestFreeRun 6 = .ok (.iload_n 3, 1) := by decide +kernel
theorem dX2_longestFreeRun_7 : decode cX2_longestFreeRun 7 = .ok (.sipush 320, 3) := by decide +kernel
theorem dX2_longestFreeRun_10 : decode cX2_longestFreeRun 10 = .ok (.if_icmp .ge 31, 3) := by decide +kernel
theorem dX2_longestFreeRun_13 : decode cX2_longestFreeRun 13 = .ok (.aload_n 0, 1) := by decide +kernel
theorem dX2_longestFreeRun_14 : decode cX2_longestFreeRun 14 = .ok (.iload_n 3, 1) := by decide +kernel
theorem dX2_longestFreeRun_15 : decode cX2_longestFreeRun 15 = .ok (.invokevirtual 103, 3) := by decide +kernel
theorem dX2_longestFreeRun_18 : decode cX2_longestFreeRun 18 = .ok (.ifCond .eq 9, 3) := by decide +kernel
theorem dX2_longestFreeRun_21 : decode cX2_longestFreeRun 21 = .ok (.iload_n 2, 1) := by decide +kernel
theorem dX2_longestFreeRun_22 : decode cX2_longestFreeRun 22 = .ok (.iconst 1, 1) := by decide +kernel
theorem dX2_longestFreeRun_23 : decode cX2_longestFreeRun 23 = .ok (.iadd, 1) := by decide +kernel
theorem dX2_longestFreeRun_24 : decode cX2_longestFreeRun 24 = .ok (.goto 4, 3) := by decide +kernel
theorem dX2_longestFreeRun_27 : decode cX2_longestFreeRun 27 = .ok (.iconst 0, 1) := by decide +kernel
theorem dX2_longestFreeRun_28 : decode cX2_longestFreeRun 28 = .ok (.istore_n 2, 1) := by decide +kernel
theorem dX2_longestFreeRun_29 : decode cX2_longestFreeRun 29 = .ok (.iload_n 1, 1) := by decide +kernel
theorem dX2_longestFreeRun_30 : decode cX2_longestFreeRun 30 = .ok (.iload_n 2, 1) := by decide +kernel
theorem dX2_longestFreeRun_31 : decode cX2_longestFreeRun 31 = .ok (.invokestatic 106, 3) := by decide +kernel
theorem dX2_longestFreeRun_34 : decode cX2_longestFreeRun 34 = .ok (.istore_n 1, 1) := by decide +kernel
theorem dX2_longestFreeRun_35 : decode cX2_longestFreeRun 35 = .ok (.iinc 3 1, 3) := by decide +kernel
theorem dX2_longestFreeRun_38 : decode cX2_longestFreeRun 38 = .ok (.goto (-32), 3) := by decide +kernel
theorem dX2_longestFreeRun_41 : decode cX2_longestFreeRun 41 = .ok (.iload_n 1, 1) := by decide +kernel
theorem dX2_longestFreeRun_42 : decode cX2_longestFreeRun 42 = .ok (.ireturn, 1) := by decide +kernel
set_option maxRecDepth 20000 in
theorem ggX2_reachable_X2_summaryBit : GoodIn wsX2_reachable wsX2_summaryBit := goodIn_r _ [6, 7, 15, 16, 17, 18, 19] (by decide +kernel) (by decide +kernel)
set_option maxRecDepth 20000 in
theorem gX2_reachable_X2_summaryBit : GoodIn wsX2_reachable (wsV RX2 44 RX2 yX2_summaryBit wsX2_summaryBit) := goodIn_app (goodIn_of _ (by decide +kernel)) ggX2_reachable_X2_summaryBit
set_option maxRecDepth 20000 in
theorem ggX2_reachable_J6_bitCount_0f7a4 : GoodIn wsX2_reachable wsJ6_bitCount_0f7a4 := goodIn_r _ [11, 12, 13, 14] (by decide +kernel) (by decide +kernel)
set_option maxRecDepth 20000 in
theorem gX2_reachable_J6_bitCount_0f7a4 : GoodIn wsX2_reachable (va_wsS RX2 80 yJ6_bitCount_0f7a4 wsJ6_bitCount_0f7a4) := goodIn_app (goodIn_of _ (by decide +kernel)) ggX2_reachable_J6_bitCount_0f7a4
theorem dX2_reachable_0 : decode cX2_reachable 0 = .ok (.iconst 0, 1) := by decide +kernel
theorem dX2_reachable_1 : decode cX2_reachable 1 = .ok (.istore_n 1, 1) := by decide +kernel
theorem dX2_reachable_2 : decode cX2_reachable 2 = .ok (.iconst 0, 1) := by decide +kernel
theorem dX2_reachable_3 : decode cX2_reachable 3 = .ok (.istore_n 2, 1) := by decide +kernel
theorem dX2_reachable_4 : decode cX2_reachable 4 = .ok (.iload_n 2, 1) := by decide +kernel
theorem dX2_reachable_5 : decode cX2_reachable 5 = .ok (.bipush 10, 2) := by decide +kernel
theorem dX2_reachable_7 : decode cX2_reachable 7 = .ok (.if_icmp .ge 51, 3) := by decide +kernel
theorem dX2_reachable_10 : decode cX2_reachable 10 = .ok (.aload_n 0, 1) := by decide +kernel
theorem dX2_reachable_11 : decode cX2_reachable 11 = .ok (.iload_n 2, 1) := by decide +kernel
theorem dX2_reachable_12 : decode cX2_reachable 12 = .ok (.invokevirtual 44, 3) := by decide +kernel
theorem dX2_reachable_15 : decode cX2_reachable 15 = .ok (.ifCond .eq 14, 3) := by decide +kernel
theorem dX2_reachable_18 : decode cX2_reachable 18 = .ok (.aload_n 0, 1) := by decide +kernel
theorem dX2_reachable_19 : decode cX2_reachable 19 = .ok (.getfield 11, 3) := by decide +kernel
theorem dX2_reachable_22 : decode cX2_reachable 22 = .ok (.iconst 2, 1) := by decide +kernel
theorem dX2_reachable_23 : decode cX2_reachable 23 = .ok (.aaload, 1) := by decide +kernel
theorem dX2_reachable_24 : decode cX2_reachable 24 = .ok (.iload_n 2, 1) := by decide +kernel
theorem dX2_reachable_25 : decode cX2_reachable 25 = .ok (.iaload, 1) := by decide +kernel
theorem dX2_reachable_26 : decode cX2_reachable 26 = .ok (.ifCond .eq 26, 3) := by decide +kernel
theorem dX2_reachable_29 : decode cX2_reachable 29 = .ok (.iload_n 1, 1) := by decide +kernel
theorem dX2_reachable_30 : decode cX2_reachable 30 = .ok (.aload_n 0, 1) := by decide +kernel
theorem dX2_reachable_31 : decode cX2_reachable 31 = .ok (.getfield 11, 3) := by decide +kernel
theorem dX2_reachable_34 : decode cX2_reachable 34 = .ok (.iconst 0, 1) := by decide +kernel
theorem dX2_reachable_35 : decode cX2_reachable 35 = .ok (.aaload, 1) := by decide +kernel
theorem dX2_reachable_36 : decode cX2_reachable 36 = .ok (.iload_n 2, 1) := by decide +kernel
theorem dX2_reachable_37 : decode cX2_reachable 37 = .ok (.iaload, 1) := by decide +kernel
theorem dX2_reachable_38 : decode cX2_reachable 38 = .ok (.aload_n 0, 1) := by decide +kernel
theorem dX2_reachable_39 : decode cX2_reachable 39 = .ok (.getfield 11, 3) := by decide +kernel
theorem dX2_reachable_42 : decode cX2_reachable 42 = .ok (.iconst 2, 1) := by decide +kernel
theorem dX2_reachable_43 : decode cX2_reachable 43 = .ok (.aaload, 1) := by decide +kernel
theorem dX2_reachable_44 : decode cX2_reachable 44 = .ok (.iload_n 2, 1) := by decide +kernel
theorem dX2_reachable_45 : decode cX2_reachable 45 = .ok (.iaload, 1) := by decide +kernel
theorem dX2_reachable_46 : decode cX2_reachable 46 = .ok (.ior, 1) := by decide +kernel
theorem dX2_reachable_47 : decode cX2_reachable 47 = .ok (.invokestatic 80, 3) := by decide +kernel
theorem dX2_reachable_50 : decode cX2_reachable 50 = .ok (.iadd, 1) := by decide +kernel
theorem dX2_reachable_51 : decode cX2_reachable 51 = .ok (.istore_n 1, 1) := by decide +kernel
theorem dX2_reachable_52 : decode cX2_reachable 52 = .ok (.iinc 2 1, 3) := by decide +kernel
theorem dX2_reachable_55 : decode cX2_reachable 55 = .ok (.goto (-51), 3) := by decide +kernel
theorem dX2_reachable_58 : decode cX2_reachable 58 = .ok (.iload_n 1, 1) := by decide +kernel
theorem dX2_reachable_59 : decode cX2_reachable 59 = .ok (.ireturn, 1) := by decide +kernel
theorem dX2_hasBlock_0 : decode cX2_hasBlock 0 = .ok (.iload_n 1, 1) := by decide +kernel
theorem dX2_hasBlock_1 : decode cX2_hasBlock 1 = .ok (.ifCond .lt 22, 3) := by decide +kernel
theorem dX2_hasBlock_4 : decode cX2_hasBlock 4 = .ok (.iload_n 1, 1) := by decide +kernel
theorem dX2_hasBlock_5 : decode cX2_hasBlock 5 = .ok (.bipush 8, 2) := by decide +kernel
theorem dX2_hasBlock_7 : decode cX2_hasBlock 7 = .ok (.if_icmp .ge 16, 3) := by decide +kernel
theorem dX2_hasBlock_10 : decode cX2_hasBlock 10 = .ok (.aload_n 0, 1) := by decide +kernel
theorem dX2_hasBlock_11 : decode cX2_hasBlock 11 = .ok (.getfield 20, 3) := by decide +kernel
theorem dX2_hasBlock_14 : decode cX2_hasBlock 14 = .ok (.iload_n 1, 1) := by decide +kernel
theorem dX2_hasBlock_15 : decode cX2_hasBlock 15 = .ok (.iaload, 1) := by decide +kernel
theorem dX2_hasBlock_16 : decode cX2_hasBlock 16 = .ok (.ifCond .eq 7, 3) := by decide +kernel
theorem dX2_hasBlock_19 : decode cX2_hasBlock 19 = .ok (.iconst 1, 1) := by decide +kernel
theorem dX2_hasBlock_20 : decode cX2_hasBlock 20 = .ok (.goto 4, 3) := by decide +kernel
theorem dX2_hasBlock_23 : decode cX2_hasBlock 23 = .ok (.iconst 0, 1) := by decide +kernel
theorem dX2_hasBlock_24 : decode cX2_hasBlock 24 = .ok (.ireturn, 1) := by decide +kernel
set_option maxRecDepth 20000 in
theorem ggX2_blockTotal_X2_hasBlock : GoodIn wsX2_blockTotal wsX2_hasBlock := goodIn_r _ [5, 6, 7, 8, 9, 10, 11] (by decide +kernel) (by decide +kernel)
set_option maxRecDepth 20000 in
theorem gX2_blockTotal_X2_hasBlock : GoodIn wsX2_blockTotal (wsV RX2 97 RX2 yX2_hasBlock wsX2_hasBlock) := goodIn_app (goodIn_of _ (by decide +kernel)) ggX2_blockTotal_X2_hasBlock
theorem dX2_blockTotal_0 : decode cX2_blockTotal 0 = .ok (.iconst 0, 1) := by decide +kernel
theorem dX2_blockTotal_1 : decode cX2_blockTotal 1 = .ok (.istore_n 1, 1) := by decide +kernel
theorem dX2_blockTotal_2 : decode cX2_blockTotal 2 = .ok (.iconst 0, 1) := by decide +kernel
theorem dX2_blockTotal_3 : decode cX2_blockTotal 3 = .ok (.istore_n 2, 1) := by decide +kernel
theorem dX2_blockTotal_4 : decode cX2_blockTotal 4 = .ok (.iload_n 2, 1) := by decide +kernel
theorem dX2_blockTotal_5 : decode cX2_blockTotal 5 = .ok (.bipush 8, 2) := by decide +kernel
theorem dX2_blockTotal_7 : decode cX2_blockTotal 7 = .ok (.if_icmp .ge 20, 3) := by decide +kernel
theorem dX2_blockTotal_10 : decode cX2_blockTotal 10 = .ok (.aload_n 0, 1) := by decide +kernel
theorem dX2_blockTotal_11 : decode cX2_blockTotal 11 = .ok (.iload_n 2, 1) := by decide +kernel
theorem dX2_blockTotal_12 : decode cX2_blockTotal 12 = .ok (.invokevirtual 97, 3) := by decide +kernel
theorem dX2_blockTotal_15 : decode cX2_blockTotal 15 = .ok (.ifCond .eq 6, 3) := by decide +kernel
theorem dX2_blockTotal_18 : decode cX2_blockTotal 18 = .ok (.iinc 1 1, 3) := by decide +kernel
theorem dX2_blockTotal_21 : decode cX2_blockTotal 21 = .ok (.iinc 2 1, 3) := by decide +kernel
theorem dX2_blockTotal_24 : decode cX2_blockTotal 24 = .ok (.goto (-20), 3) := by decide +kernel
theorem dX2_blockTotal_27 : decode cX2_blockTotal 27 = .ok (.iload_n 1, 1) := by decide +kernel
theorem dX2_blockTotal_28 : decode cX2_blockTotal 28 = .ok (.ireturn, 1) := by decide +kernel
set_option maxRecDepth 20000 in
theorem ggX2_firstUnusedBlock_X2_hasBlock : GoodIn wsX2_firstUnusedBlock wsX2_hasBlock := goodIn_r _ [5, 6, 7, 8, 9, 10, 11] (by decide +kernel) (by decide +kernel)
set_option maxRecDepth 20000 in
theorem gX2_firstUnusedBlock_X2_hasBlock : GoodIn wsX2_firstUnusedBlock (wsV RX2 97 RX2 yX2_hasBlock wsX2_hasBlock) := goodIn_app (goodIn_of _ (by decide +kernel)) ggX2_firstUnusedBlock_X2_hasBlock
theorem dX2_firstUnusedBlock_0 : decode cX2_firstUnusedBlock 0 = .ok (.iconst 0, 1) := by decide +kernel
theorem dX2_firstUnusedBlock_1 : decode cX2_firstUnusedBlock 1 = .ok (.istore_n 1, 1) := by decide +kernel
theorem dX2_firstUnusedBlock_2 : decode cX2_firstUnusedBlock 2 = .ok (.iload_n 1, 1) := by decide +kernel
theorem dX2_firstUnusedBlock_3 : decode cX2_firstUnusedBlock 3 = .ok (.bipush 8, 2) := by decide +kernel
theorem dX2_firstUnusedBlock_5 : decode cX2_firstUnusedBlock 5 = .ok (.if_icmp .ge 19, 3) := by decide +kernel
theorem dX2_firstUnusedBlock_8 : decode cX2_firstUnusedBlock 8 = .ok (.aload_n 0, 1) := by decide +kernel
theorem dX2_firstUnusedBlock_9 : decode cX2_firstUnusedBlock 9 = .ok (.iload_n 1, 1) := by decide +kernel
theorem dX2_firstUnusedBlock_10 : decode cX2_firstUnusedBlock 10 = .ok (.invokevirtual 97, 3) := by decide +kernel
theorem dX2_firstUnusedBlock_13 : decode cX2_firstUnusedBlock 13 = .ok (.ifCond .ne 5, 3) := by decide +kernel
theorem dX2_firstUnusedBlock_16 : decode cX2_firstUnusedBlock 16 = .ok (.iload_n 1, 1) := by decide +kernel
theorem dX2_firstUnusedBlock_17 : decode cX2_firstUnusedBlock 17 = .ok (.ireturn, 1) := by decide +kernel
theorem dX2_firstUnusedBlock_18 : decode cX2_firstUnusedBlock 18 = .ok (.iinc 1 1, 3) := by decide +kernel
theorem dX2_firstUnusedBlock_21 : decode cX2_firstUnusedBlock 21 = .ok (.goto (-19), 3) := by decide +kernel
theorem dX2_firstUnusedBlock_24 : decode cX2_firstUnusedBlock 24 = .ok (.bipush (-9), 2) := by decide +kernel
theorem dX2_firstUnusedBlock_26 : decode cX2_firstUnusedBlock 26 = .ok (.ireturn, 1) := by decide +kernel
set_option maxRecDepth 20000 in
theorem ggX2_placeStart_X3_wordOf : GoodIn wsX2_placeStart wsX3_wordOf := goodIn_r _ [4] (by decide +kernel) (by decide +kernel)
set_option maxRecDepth 20000 in
theorem gX2_placeStart_X3_wordOf_n70 : GoodIn wsX2_placeStart (wsX3_wordOf) := ggX2_placeStart_X3_wordOf
set_option maxRecDepth 20000 in
theorem ggX2_placeStart_X3_rangeBits : GoodIn wsX2_placeStart wsX3_rangeBits := goodIn_r _ [6, 7, 8, 9, 10, 11, 12, 13] (by decide +kernel) (by decide +kernel)
set_option maxRecDepth 20000 in
theorem gX2_placeStart_X3_rangeBits_n73 : GoodIn wsX2_placeStart (wsX3_rangeBits) := ggX2_placeStart_X3_rangeBits
theorem dX2_placeStart_0 : decode cX2_placeStart 0 = .ok (.iconst 0, 1) := by decide +kernel
theorem dX2_placeStart_1 : decode cX2_placeStart 1 = .ok (.istore_n 2, 1) := by decide +kernel
theorem dX2_placeStart_2 : decode cX2_placeStart 2 = .ok (.iload_n 2, 1) := by decide +kernel
theorem dX2_placeStart_3 : decode cX2_placeStart 3 = .ok (.sipush 320, 3) := by decide +kernel
theorem dX2_placeStart_6 : decode cX2_placeStart 6 = .ok (.if_icmp .ge 52, 3) := by decide +kernel
theorem dX2_placeStart_9 : decode cX2_placeStart 9 = .ok (.iload_n 2, 1) := by decide +kernel
theorem dX2_placeStart_10 : decode cX2_placeStart 10 = .ok (.iload_n 1, 1) := by decide +kernel
theorem dX2_placeStart_11 : decode cX2_placeStart 11 = .ok (.iconst 1, 1) := by decide +kernel
theorem dX2_placeStart_12 : decode cX2_placeStart 12 = .ok (.isub, 1) := by decide +kernel
theorem dX2_placeStart_13 : decode cX2_placeStart 13 = .ok (.iand, 1) := by decide +kernel
theorem dX2_placeStart_14 : decode cX2_placeStart 14 = .ok (.ifCond .ne 38, 3) := by decide +kernel
theorem dX2_placeStart_17 : decode cX2_placeStart 17 = .ok (.iload_n 2, 1) := by decide +kernel
theorem dX2_placeStart_18 : decode cX2_placeStart 18 = .ok (.invokestatic 70, 3) := by decide +kernel
theorem dX2_placeStart_21 : decode cX2_placeStart 21 = .ok (.istore_n 3, 1) := by decide +kernel
theorem dX2_placeStart_22 : decode cX2_placeStart 22 = .ok (.iload_n 3, 1) := by decide +kernel
theorem dX2_placeStart_23 : decode cX2_placeStart 23 = .ok (.iload_n 2, 1) := by decide +kernel
theorem dX2_placeStart_24 : decode cX2_placeStart 24 = .ok (.iload_n 2, 1) := by decide +kernel
theorem dX2_placeStart_25 : decode cX2_placeStart 25 = .ok (.iload_n 1, 1) := by decide +kernel
theorem dX2_placeStart_26 : decode cX2_placeStart 26 = .ok (.iadd, 1) := by decide +kernel
theorem dX2_placeStart_27 : decode cX2_placeStart 27 = .ok (.iconst 1, 1) := by decide +kernel
theorem dX2_placeStart_28 : decode cX2_placeStart 28 = .ok (.isub, 1) := by decide +kernel
theorem dX2_placeStart_29 : decode cX2_placeStart 29 = .ok (.invokestatic 73, 3) := by decide +kernel
theorem dX2_placeStart_32 : decode cX2_placeStart 32 = .ok (.istore 4, 2) := by decide +kernel
theorem dX2_placeStart_34 : decode cX2_placeStart 34 = .ok (.aload_n 0, 1) := by decide +kernel
theorem dX2_placeStart_35 : decode cX2_placeStart 35 = .ok (.getfield 11, 3) := by decide +kernel
theorem dX2_placeStart_38 : decode cX2_placeStart 38 = .ok (.iconst 0, 1) := by decide +kernel
theorem dX2_placeStart_39 : decode cX2_placeStart 39 = .ok (.aaload, 1) := by decide +kernel
theorem dX2_placeStart_40 : decode cX2_placeStart 40 = .ok (.iload_n 3, 1) := by decide +kernel
theorem dX2_placeStart_41 : decode cX2_placeStart 41 = .ok (.iaload, 1) := by decide +kernel
theorem dX2_placeStart_42 : decode cX2_placeStart 42 = .ok (.iload 4, 2) := by decide +kernel
theorem dX2_placeStart_44 : decode cX2_placeStart 44 = .ok (.iand, 1) := by decide +kernel
theorem dX2_placeStart_45 : decode cX2_placeStart 45 = .ok (.iload 4, 2) := by decide +kernel
theorem dX2_placeStart_47 : decode cX2_placeStart 47 = .ok (.if_icmp .ne 5, 3) := by decide +kernel
theorem dX2_placeStart_50 : decode cX2_placeStart 50 = .ok (.iload_n 2, 1) := by decide +kernel
theorem dX2_placeStart_51 : decode cX2_placeStart 51 = .ok (.ireturn, 1) := by decide +kernel
theorem dX2_placeStart_52 : decode cX2_placeStart 52 = .ok (.iinc 2 4, 3) := by decide +kernel
theorem dX2_placeStart_55 : decode cX2_placeStart 55 = .ok (.goto (-53), 3) := by decide +kernel
theorem dX2_placeStart_58 : decode cX2_placeStart 58 = .ok (.bipush (-9), 2) := by decide +kernel
theorem dX2_placeStart_60 : decode cX2_placeStart 60 = .ok (.ireturn, 1) := by decide +kernel
theorem dX2_blockOf_0 : decode cX2_blockOf 0 = .ok (.iconst 0, 1) := by decide +kernel
theorem dX2_blockOf_1 : decode cX2_blockOf 1 = .ok (.istore_n 2, 1) := by decide +kernel
theorem dX2_blockOf_2 : decode cX2_blockOf 2 = .ok (.iload_n 2, 1) := by decide +kernel
theorem dX2_blockOf_3 : decode cX2_blockOf 3 = .ok (.bipush 8, 2) := by decide +kernel
theorem dX2_blockOf_5 : decode cX2_blockOf 5 = .ok (.if_icmp .ge 38, 3) := by decide +kernel
theorem dX2_blockOf_8 : decode cX2_blockOf 8 = .ok (.iload_n 1, 1) := by decide +kernel
theorem dX2_blockOf_9 : decode cX2_blockOf 9 = .ok (.aload_n 0, 1) := by decide +kernel
theorem dX2_blockOf_10 : decode cX2_blockOf 10 = .ok (.getfield 16, 3) := by decide +kernel
theorem dX2_blockOf_13 : decode cX2_blockOf 13 = .ok (.iload_n 2, 1) := by decide +kernel
theorem dX2_blockOf_14 : decode cX2_blockOf 14 = .ok (.iaload, 1) := by decide +kernel
theorem dX2_blockOf_15 : decode cX2_blockOf 15 = .ok (.if_icmp .lt 22, 3) := by decide +kernel
theorem dX2_blockOf_18 : decode cX2_blockOf 18 = .ok (.iload_n 1, 1) := by decide +kernel
theorem dX2_blockOf_19 : decode cX2_blockOf 19 = .ok (.aload_n 0, 1) := by decide +kernel
theorem dX2_blockOf_20 : decode cX2_blockOf 20 = .ok (.getfield 16, 3) := by decide +kernel
theorem dX2_blockOf_23 : decode cX2_blockOf 23 = .ok (.iload_n 2, 1) := by decide +kernel
theorem dX2_blockOf_24 : decode cX2_blockOf 24 = .ok (.iaload, 1) := by decide +kernel
theorem dX2_blockOf_25 : decode cX2_blockOf 25 = .ok (.aload_n 0, 1) := by decide +kernel
theorem dX2_blockOf_26 : decode cX2_blockOf 26 = .ok (.getfield 20, 3) := by decide +kernel
theorem dX2_blockOf_29 : decode cX2_blockOf 29 = .ok (.iload_n 2, 1) := by decide +kernel
theorem dX2_blockOf_30 : decode cX2_blockOf 30 = .ok (.iaload, 1) := by decide +kernel
theorem dX2_blockOf_31 : decode cX2_blockOf 31 = .ok (.iadd, 1) := by decide +kernel
theorem dX2_blockOf_32 : decode cX2_blockOf 32 = .ok (.if_icmp .ge 5, 3) := by decide +kernel
theorem dX2_blockOf_35 : decode cX2_blockOf 35 = .ok (.iload_n 2, 1) := by decide +kernel
theorem dX2_blockOf_36 : decode cX2_blockOf 36 = .ok (.ireturn, 1) := by decide +kernel
theorem dX2_blockOf_37 : decode cX2_blockOf 37 = .ok (.iinc 2 1, 3) := by decide +kernel
theorem dX2_blockOf_40 : decode cX2_blockOf 40 = .ok (.goto (-38), 3) := by decide +kernel
theorem dX2_blockOf_43 : decode cX2_blockOf 43 = .ok (.bipush (-9), 2) := by decide +kernel
theorem dX2_blockOf_45 : decode cX2_blockOf 45 = .ok (.ireturn, 1) := by decide +kernel
set_option maxRecDepth 20000 in
theorem ggX2_totalInBlock_X3_wordOf : GoodIn wsX2_totalInBlock wsX3_wordOf := goodIn_r _ [5] (by decide +kernel) (by decide +kernel)
set_option maxRecDepth 20000 in
theorem gX2_totalInBlock_X3_wordOf_n70 : GoodIn wsX2_totalInBlock (wsX3_wordOf) := ggX2_totalInBlock_X3_wordOf
set_option maxRecDepth 20000 in
theorem ggX2_totalInBlock_X2_blockBits : GoodIn wsX2_totalInBlock wsX2_blockBits := goodIn_r _ [10, 2, 11, 3, 4, 5, 12, 13, 14, 15, 16, 17, 18, 19, 20, 28, 29, 30, 31, 32] (by decide +kernel) (by decide +kernel)
set_option maxRecDepth 20000 in
theorem gX2_totalInBlock_X2_blockBits : GoodIn wsX2_totalInBlock (wsV RX2 94 RX2 yX2_blockBits wsX2_blockBits) := goodIn_app (goodIn_of _ (by decide +kernel)) ggX2_totalInBlock_X2_blockBits
set_option maxRecDepth 20000 in
theorem ggX2_totalInBlock_J6_bitCount_0f7a4 : GoodIn wsX2_totalInBlock wsJ6_bitCount_0f7a4 := goodIn_r _ [24, 25, 26, 27] (by decide +kernel) (by decide +kernel)
set_option maxRecDepth 20000 in
theorem gX2_totalInBlock_J6_bitCount_0f7a4 : GoodIn wsX2_totalInBlock (va_wsS RX2 80 yJ6_bitCount_0f7a4 wsJ6_bitCount_0f7a4) := goodIn_app (goodIn_of _ (by decide +kernel)) ggX2_totalInBlock_J6_bitCount_0f7a4
theorem dX2_totalInBlock_0 : decode cX2_totalInBlock 0 = .ok (.aload_n 0, 1) := by decide +kernel
theorem dX2_totalInBlock_1 : decode cX2_totalInBlock 1 = .ok (.getfield 11, 3) := by decide +kernel
theorem dX2_totalInBlock_4 : decode cX2_totalInBlock 4 = .ok (.iload_n 2, 1) := by decide +kernel
theorem dX2_totalInBlock_5 : decode cX2_totalInBlock 5 = .ok (.aaload, 1) := by decide +kernel
theorem dX2_totalInBlock_6 : decode cX2_totalInBlock 6 = .ok (.aload_n 0, 1) := by decide +kernel
theorem dX2_totalInBlock_7 : decode cX2_totalInBlock 7 = .ok (.getfield 16, 3) := by decide +kernel
theorem dX2_totalInBlock_10 : decode cX2_totalInBlock 10 = .ok (.iload_n 1, 1) := by decide +kernel
theorem dX2_totalInBlock_11 : decode cX2_totalInBlock 11 = .ok (.iaload, 1) := by decide +kernel
theorem dX2_totalInBlock_12 : decode cX2_totalInBlock 12 = .ok (.invokestatic 70, 3) := by decide +kernel
theorem dX2_totalInBlock_15 : decode cX2_totalInBlock 15 = .ok (.iaload, 1) := by decide +kernel
theorem dX2_totalInBlock_16 : decode cX2_totalInBlock 16 = .ok (.aload_n 0, 1) := by decide +kernel
theorem dX2_totalInBlock_17 : decode cX2_totalInBlock 17 = .ok (.iload_n 1, 1) := by decide +kernel
theorem dX2_totalInBlock_18 : decode cX2_totalInBlock 18 = .ok (.invokevirtual 94, 3) := by decide +kernel
theorem dX2_totalInBlock_21 : decode cX2_totalInBlock 21 = .ok (.iand, 1) := by decide +kernel
theorem dX2_totalInBlock_22 : decode cX2_totalInBlock 22 = .ok (.invokestatic 80, 3) := by decide +kernel
theorem dX2_totalInBlock_25 : decode cX2_totalInBlock 25 = .ok (.ireturn, 1) := by decide +kernel
set_option maxRecDepth 20000 in
theorem ggX2_blockBits_X3_wordOf : GoodIn wsX2_blockBits wsX3_wordOf := goodIn_r _ [5] (by decide +kernel) (by decide +kernel)
set_option maxRecDepth 20000 in
theorem gX2_blockBits_X3_wordOf_n70 : GoodIn wsX2_blockBits (wsX3_wordOf) := ggX2_blockBits_X3_wordOf
set_option maxRecDepth 20000 in
theorem ggX2_blockBits_X3_rangeBits : GoodIn wsX2_blockBits wsX3_rangeBits := goodIn_r _ [7, 8, 9, 10, 11, 12, 13, 14] (by decide +kernel) (by decide +kernel)
set_option maxRecDepth 20000 in
theorem gX2_blockBits_X3_rangeBits_n73 : GoodIn wsX2_blockBits (wsX3_rangeBits) := ggX2_blockBits_X3_rangeBits
theorem dX2_blockBits_0 : decode cX2_blockBits 0 = .ok (.aload_n 0, 1) := by decide +kernel
theorem dX2_blockBits_1 : decode cX2_blockBits 1 = .ok (.getfield 16, 3) := by decide +kernel
theorem dX2_blockBits_4 : decode cX2_blockBits 4 = .ok (.iload_n 1, 1) := by decide +kernel
theorem dX2_blockBits_5 : decode cX2_blockBits 5 = .ok (.iaload, 1) := by decide +kernel
theorem dX2_blockBits_6 : decode cX2_blockBits 6 = .ok (.istore_n 2, 1) := by decide +kernel
theorem dX2_blockBits_7 : decode cX2_blockBits 7 = .ok (.iload_n 2, 1) := by decide +kernel
theorem dX2_blockBits_8 : decode cX2_blockBits 8 = .ok (.invokestatic 70, 3) := by decide +kernel
theorem dX2_blockBits_11 : decode cX2_blockBits 11 = .ok (.iload_n 2, 1) := by decide +kernel
theorem dX2_blockBits_12 : decode cX2_blockBits 12 = .ok (.iload_n 2, 1) := by decide +kernel
theorem dX2_blockBits_13 : decode cX2_blockBits 13 = .ok (.aload_n 0, 1) := by decide +kernel
theorem dX2_blockBits_14 : decode cX2_blockBits 14 = .ok (.getfield 20, 3) := by decide +kernel
theorem dX2_blockBits_17 : decode cX2_blockBits 17 = .ok (.iload_n 1, 1) := by decide +kernel
theorem dX2_blockBits_18 : decode cX2_blockBits 18 = .ok (.iaload, 1) := by decide +kernel
theorem dX2_blockBits_19 : decode cX2_blockBits 19 = .ok (.iadd, 1) := by decide +kernel
theorem dX2_blockBits_20 : decode cX2_blockBits 20 = .ok (.iconst 1, 1) := by decide +kernel
theorem dX2_blockBits_21 : decode cX2_blockBits 21 = .ok (.isub, 1) := by decide +kernel
theorem dX2_blockBits_22 : decode cX2_blockBits 22 = .ok (.invokestatic 73, 3) := by decide +kernel
theorem dX2_blockBits_25 : decode cX2_blockBits 25 = .ok (.ireturn, 1) := by decide +kernel
set_option maxRecDepth 20000 in
theorem ggX2_ownedBits_X3_wordOf : GoodIn wsX2_ownedBits wsX3_wordOf := goodIn_r _ [4] (by decide +kernel) (by decide +kernel)
set_option maxRecDepth 20000 in
theorem gX2_ownedBits_X3_wordOf_n70 : GoodIn wsX2_ownedBits (wsX3_wordOf) := ggX2_ownedBits_X3_wordOf
set_option maxRecDepth 20000 in
theorem ggX2_ownedBits_X2_blockBits : GoodIn wsX2_ownedBits wsX2_blockBits := goodIn_r _ [9, 1, 10, 2, 3, 4, 11, 12, 13, 14, 15, 16, 17, 18, 19, 20, 21, 22, 23, 24] (by decide +kernel) (by decide +kernel)
set_option maxRecDepth 20000 in
theorem gX2_ownedBits_X2_blockBits : GoodIn wsX2_ownedBits (wsV RX2 94 RX2 yX2_blockBits wsX2_blockBits) := goodIn_app (goodIn_of _ (by decide +kernel)) ggX2_ownedBits_X2_blockBits
theorem dX2_ownedBits_0 : decode cX2_ownedBits 0 = .ok (.iconst 0, 1) := by decide +kernel
theorem dX2_ownedBits_1 : decode cX2_ownedBits 1 = .ok (.istore_n 2, 1) := by decide +kernel
theorem dX2_ownedBits_2 : decode cX2_ownedBits 2 = .ok (.iconst 0, 1) := by decide +kernel
theorem dX2_ownedBits_3 : decode cX2_ownedBits 3 = .ok (.istore_n 3, 1) := by decide +kernel
theorem dX2_ownedBits_4 : decode cX2_ownedBits 4 = .ok (.iload_n 3, 1) := by decide +kernel
theorem dX2_ownedBits_5 : decode cX2_ownedBits 5 = .ok (.bipush 8, 2) := by decide +kernel
theorem dX2_ownedBits_7 : decode cX2_ownedBits 7 = .ok (.if_icmp .ge 30, 3) := by decide +kernel
theorem dX2_ownedBits_10 : decode cX2_ownedBits 10 = .ok (.aload_n 0, 1) := by decide +kernel
theorem dX2_ownedBits_11 : decode cX2_ownedBits 11 = .ok (.getfield 16, 3) := by decide +kernel
theorem dX2_ownedBits_14 : decode cX2_ownedBits 14 = .ok (.iload_n 3, 1) := by decide +kernel
theorem dX2_ownedBits_15 : decode cX2_ownedBits 15 = .ok (.iaload, 1) := by decide +kernel
theorem dX2_ownedBits_16 : decode cX2_ownedBits 16 = .ok (.invokestatic 70, 3) := by decide +kernel
theorem dX2_ownedBits_19 : decode cX2_ownedBits 19 = .ok (.iload_n 1, 1) := by decide +kernel
theorem dX2_ownedBits_20 : decode cX2_ownedBits 20 = .ok (.if_icmp .ne 11, 3) := by decide +kernel
theorem dX2_ownedBits_23 : decode cX2_ownedBits 23 = .ok (.iload_n 2, 1) := by decide +kernel
theorem dX2_ownedBits_24 : decode cX2_ownedBits 24 = .ok (.aload_n 0, 1) := by decide +kernel
theorem dX2_ownedBits_25 : decode cX2_ownedBits 25 = .ok (.iload_n 3, 1) := by decide +kernel
theorem dX2_ownedBits_26 : decode cX2_ownedBits 26 = .ok (.invokevirtual 94, 3) := by decide +kernel
theorem dX2_ownedBits_29 : decode cX2_ownedBits 29 = .ok (.ior, 1) := by decide +kernel
theorem dX2_ownedBits_30 : decode cX2_ownedBits 30 = .ok (.istore_n 2, 1) := by decide +kernel
theorem dX2_ownedBits_31 : decode cX2_ownedBits 31 = .ok (.iinc 3 1, 3) := by decide +kernel
theorem dX2_ownedBits_34 : decode cX2_ownedBits 34 = .ok (.goto (-30), 3) := by decide +kernel
theorem dX2_ownedBits_37 : decode cX2_ownedBits 37 = .ok (.iload_n 2, 1) := by decide +kernel
theorem dX2_ownedBits_38 : decode cX2_ownedBits 38 = .ok (.ireturn, 1) := by decide +kernel
set_option maxRecDepth 20000 in
theorem ggX3_init_X2_init : GoodIn wsX3_init wsX2_init := goodIn_r _ [22, 23, 2, 3, 24, 25, 26, 27, 28, 29, 30, 45, 46, 47, 48, 49] (by decide +kernel) (by decide +kernel)
set_option maxRecDepth 20000 in
theorem gX3_init_X2_init : GoodIn wsX3_init (wsX2_init) := ggX3_init_X2_init
set_option maxRecDepth 20000 in
theorem ggX3_init_X0_init : GoodIn wsX3_init wsX0_init := goodIn_r _ [33, 34, 2, 3, 35, 36, 5, 6, 37, 38, 39, 21, 22, 23, 24, 25, 26, 27, 28, 29, 30, 56, 57, 58, 45, 46, 47, 48, 49] (by decide +kernel) (by decide +kernel)
set_option maxRecDepth 20000 in
theorem gX3_init_X0_init : GoodIn wsX3_init (wsX0_init) := ggX3_init_X0_init
set_option maxRecDepth 20000 in
theorem ggX3_init_X1_init : GoodIn wsX3_init wsX1_init := goodIn_r _ [42, 43, 2, 3, 44, 59, 60, 61, 62, 63, 64] (by decide +kernel) (by decide +kernel)
set_option maxRecDepth 20000 in
theorem gX3_init_X1_init : GoodIn wsX3_init (wsX1_init) := ggX3_init_X1_init
theorem dX3_init_0 : decode cX3_init 0 = .ok (.aload_n 0, 1) := by decide +kernel
theorem dX3_init_1 : decode cX3_init 1 = .ok (.invokespecial 1, 3) := by decide +kernel
theorem dX3_init_4 : decode cX3_init 4 = .ok (.aload_n 0, 1) := by decide +kernel
theorem dX3_init_5 : decode cX3_init 5 = .ok (.new 7, 3) := by decide +kernel
theorem dX3_init_8 : decode cX3_init 8 = .ok (.dup, 1) := by decide +kernel
theorem dX3_init_9 : decode cX3_init 9 = .ok (.invokespecial 9, 3) := by decide +kernel
theorem dX3_init_12 : decode cX3_init 12 = .ok (.putfield 10, 3) := by decide +kernel
theorem dX3_init_15 : decode cX3_init 15 = .ok (.aload_n 0, 1) := by decide +kernel
theorem dX3_init_16 : decode cX3_init 16 = .ok (.new 7, 3) := by decide +kernel
theorem dX3_init_19 : decode cX3_init 19 = .ok (.dup, 1) := by decide +kernel
theorem dX3_init_20 : decode cX3_init 20 = .ok (.invokespecial 9, 3) := by decide +kernel
theorem dX3_init_23 : decode cX3_init 23 = .ok (.putfield 16, 3) := by decide +kernel
theorem dX3_init_26 : decode cX3_init 26 = .ok (.aload_n 0, 1) := by decide +kernel
theorem dX3_init_27 : decode cX3_init 27 = .ok (.new 19, 3) := by decide +kernel
theorem dX3_init_30 : decode cX3_init 30 = .ok (.dup, 1) := by decide +kernel
theorem dX3_init_31 : decode cX3_init 31 = .ok (.invokespecial 21, 3) := by decide +kernel
theorem dX3_init_34 : decode cX3_init 34 = .ok (.putfield 22, 3) := by decide +kernel
theorem dX3_init_37 : decode cX3_init 37 = .ok (.aload_n 0, 1) := by decide +kernel
theorem dX3_init_38 : decode cX3_init 38 = .ok (.new 26, 3) := by decide +kernel
theorem dX3_init_41 : decode cX3_init 41 = .ok (.dup, 1) := by decide +kernel
theorem dX3_init_42 : decode cX3_init 42 = .ok (.invokespecial 28, 3) := by decide +kernel
theorem dX3_init_45 : decode cX3_init 45 = .ok (.putfield 29, 3) := by decide +kernel
theorem dX3_init_48 : decode cX3_init 48 = .ok (.aload_n 0, 1) := by decide +kernel
theorem dX3_init_49 : decode cX3_init 49 = .ok (.bipush 80, 2) := by decide +kernel
theorem dX3_init_51 : decode cX3_init 51 = .ok (.newarray .char, 2) := by decide +kernel
theorem dX3_init_53 : decode cX3_init 53 = .ok (.putfield 33, 3) := by decide +kernel
theorem dX3_init_56 : decode cX3_init 56 = .ok (.aload_n 0, 1) := by decide +kernel
theorem dX3_init_57 : decode cX3_init 57 = .ok (.iconst 0, 1) := by decide +kernel
theorem dX3_init_58 : decode cX3_init 58 = .ok (.putfield 37, 3) := by decide +kernel
theorem dX3_init_61 : decode cX3_init 61 = .ok (.return_, 1) := by decide +kernel
set_option maxRecDepth 20000 in
theorem ggX3_take_X0_prepare : GoodIn wsX3_take wsX0_prepare := goodIn_r _ [7, 8, 9, 10, 11, 6, 12, 13, 14, 15, 16, 17, 18, 19, 20, 21, 22, 23, 24, 25, 26, 27, 28, 84, 85, 86, 87, 88, 89, 90, 91] (by decide +kernel) (by decide +kernel)
set_option maxRecDepth 20000 in
theorem gX3_take_X0_prepare : GoodIn wsX3_take (wsV RX3 41 RX0 yX0_prepare wsX0_prepare) := goodIn_app (goodIn_of _ (by decide +kernel)) ggX3_take_X0_prepare
set_option maxRecDepth 20000 in
theorem ggX3_take_X2_takeOne : GoodIn wsX3_take wsX2_takeOne := goodIn_r _ [32, 33, 34, 35, 18, 36, 28, 20, 27, 37, 38, 39, 40, 41, 42, 43, 44, 45, 46, 47, 48, 49, 50, 51, 52, 53, 54, 55, 56, 57, 58, 59, 60, 61, 62, 63, 64, 65, 87, 88, 89, 90, 91] (by decide +kernel) (by decide +kernel)
set_option maxRecDepth 20000 in
theorem gX3_take_X2_takeOne : GoodIn wsX3_take (wsV RX3 45 RX2 yX2_takeOne wsX2_takeOne) := goodIn_app (goodIn_of _ (by decide +kernel)) ggX3_take_X2_takeOne
set_option maxRecDepth 20000 in
theorem ggX3_take_X3_settle : GoodIn wsX3_take wsX3_settle := goodIn_r _ [69, 1, 2, 70, 71, 72, 6, 73, 8, 9, 10, 11, 12, 13, 14, 15, 16, 17, 18, 19, 20, 21, 22, 23, 24, 25, 26, 27, 28, 74, 75, 76, 77, 78, 79, 80, 81, 82, 83, 84, 85, 86, 87, 88, 89, 90, 91] (by decide +kernel) (by decide +kernel)
set_option maxRecDepth 20000 in
theorem gX3_take_X3_settle : GoodIn wsX3_take (wsV RX3 49 RX3 yX3_settle wsX3_settle) := goodIn_app (goodIn_of _ (by decide +kernel)) ggX3_take_X3_settle
theorem dX3_take_0 : decode cX3_take 0 = .ok (.aload_n 0, 1) := by decide +kernel
theorem dX3_take_1 : decode cX3_take 1 = .ok (.getfield 22, 3) := by decide +kernel
theorem dX3_take_4 : decode cX3_take 4 = .ok (.aload_n 0, 1) := by decide +kernel
theorem dX3_take_5 : decode cX3_take 5 = .ok (.getfield 10, 3) := by decide +kernel
theorem dX3_take_8 : decode cX3_take 8 = .ok (.invokevirtual 41, 3) := by decide +kernel
theorem dX3_take_11 : decode cX3_take 11 = .ok (.aload_n 0, 1) := by decide +kernel
theorem dX3_take_12 : decode cX3_take 12 = .ok (.aload_n 0, 1) := by decide +kernel
theorem dX3_take_13 : decode cX3_take 13 = .ok (.getfield 10, 3) := by decide +kernel
theorem dX3_take_16 : decode cX3_take 16 = .ok (.invokevirtual 45, 3) := by decide +kernel
theorem dX3_take_19 : decode cX3_take 19 = .ok (.invokevirtual 49, 3) := by decide +kernel
theorem dX3_take_22 : decode cX3_take 22 = .ok (.ireturn, 1) := by decide +kernel
set_option maxRecDepth 20000 in
theorem ggX3_takeRun_X0_prepare : GoodIn wsX3_takeRun wsX0_prepare := goodIn_r _ [7, 8, 9, 10, 11, 6, 12, 13, 14, 15, 16, 17, 18, 19, 20, 21, 22, 23, 24, 25, 26, 27, 28, 83, 84, 85, 86, 87, 88, 89, 90] (by decide +kernel) (by decide +kernel)
set_option maxRecDepth 20000 in
theorem gX3_takeRun_X0_prepare : GoodIn wsX3_takeRun (wsV RX3 41 RX0 yX0_prepare wsX0_prepare) := goodIn_app (goodIn_of _ (by decide +kernel)) ggX3_takeRun_X0_prepare
set_option maxRecDepth 20000 in
theorem ggX3_takeRun_X2_takeSideBySide : GoodIn wsX3_takeRun wsX2_takeSideBySide := goodIn_r _ [32, 28, 33, 34, 35, 36, 37, 38, 18, 39, 40, 41, 42, 43, 20, 44, 45, 46, 47, 48, 49, 50, 51, 52, 53, 54, 55, 56, 57, 58, 59, 60, 27, 61, 62, 63, 64, 86, 87, 88, 89, 90] (by decide +kernel) (by decide +kernel)
set_option maxRecDepth 20000 in
theorem gX3_takeRun_X2_takeSideBySide : GoodIn wsX3_takeRun (wsV RX3 53 RX2 yX2_takeSideBySide wsX2_takeSideBySide) := goodIn_app (goodIn_of _ (by decide +kernel)) ggX3_takeRun_X2_takeSideBySide
set_option maxRecDepth 20000 in
theorem ggX3_takeRun_X3_settle : GoodIn wsX3_takeRun wsX3_settle := goodIn_r _ [68, 1, 2, 69, 70, 71, 6, 72, 8, 9, 10, 11, 12, 13, 14, 15, 16, 17, 18, 19, 20, 21, 22, 23, 24, 25, 26, 27, 28, 73, 74, 75, 76, 77, 78, 79, 80, 81, 82, 83, 84, 85, 86, 87, 88, 89, 90] (by decide +kernel) (by decide +kernel)
set_option maxRecDepth 20000 in
theorem gX3_takeRun_X3_settle : GoodIn wsX3_takeRun (wsV RX3 49 RX3 yX3_settle wsX3_settle) := goodIn_app (goodIn_of _ (by decide +kernel)) ggX3_takeRun_X3_settle
theorem dX3_takeRun_0 : decode cX3_takeRun 0 = .ok (.aload_n 0, 1) := by decide +kernel
theorem dX3_takeRun_1 : decode cX3_takeRun 1 = .ok (.getfield 22, 3) := by decide +kernel
theorem dX3_takeRun_4 : decode cX3_takeRun 4 = .ok (.aload_n 0, 1) := by decide +kernel
theorem dX3_takeRun_5 : decode cX3_takeRun 5 = .ok (.getfield 10, 3) := by decide +kernel
theorem dX3_takeRun_8 : decode cX3_takeRun 8 = .ok (.invokevirtual 41, 3) := by decide +kernel
theorem dX3_takeRun_11 : decode cX3_takeRun 11 = .ok (.aload_n 0, 1) := by decide +kernel
theorem dX3_takeRun_12 : decode cX3_takeRun 12 = .ok (.aload_n 0, 1) := by decide +kernel
theorem dX3_takeRun_13 : decode cX3_takeRun 13 = .ok (.getfield 10, 3) := by decide +kernel
theorem dX3_takeRun_16 : decode cX3_takeRun 16 = .ok (.iload_n 1, 1) := by decide +kernel
theorem dX3_takeRun_17 : decode cX3_takeRun 17 = .ok (.invokevirtual 53, 3) := by decide +kernel
theorem dX3_takeRun_20 : decode cX3_takeRun 20 = .ok (.invokevirtual 49, 3) := by decide +kernel
theorem dX3_takeRun_23 : decode cX3_takeRun 23 = .ok (.ireturn, 1) := by decide +kernel
set_option maxRecDepth 20000 in
theorem ggX3_giveBack_X0_prepare : GoodIn wsX3_giveBack wsX0_prepare := goodIn_r _ [7, 8, 9, 10, 11, 6, 12, 13, 14, 15, 16, 17, 18, 19, 20, 21, 22, 23, 24, 25, 26, 27, 28, 86, 87, 88, 89, 90, 91, 92, 93] (by decide +kernel) (by decide +kernel)
set_option maxRecDepth 20000 in
theorem gX3_giveBack_X0_prepare : GoodIn wsX3_giveBack (wsV RX3 41 RX0 yX0_prepare wsX0_prepare) := goodIn_app (goodIn_of _ (by decide +kernel)) ggX3_giveBack_X0_prepare
set_option maxRecDepth 20000 in
theorem ggX3_giveBack_X2_giveBackRange : GoodIn wsX3_giveBack wsX2_giveBackRange := goodIn_r _ [32, 20, 33, 34, 35, 36, 37, 38, 39, 40, 41, 42, 43, 44, 45, 18, 46, 25, 47, 48, 49, 50, 51, 52, 26, 53, 54, 55, 56, 27, 57, 58, 59, 60, 61, 62, 63, 64, 65, 66, 67, 89, 90, 91, 92, 93] (by decide +kernel) (by decide +kernel)
set_option maxRecDepth 20000 in
theorem gX3_giveBack_X2_giveBackRange : GoodIn wsX3_giveBack (wsV RX3 56 RX2 yX2_giveBackRange wsX2_giveBackRange) := goodIn_app (goodIn_of _ (by decide +kernel)) ggX3_giveBack_X2_giveBackRange
set_option maxRecDepth 20000 in
theorem ggX3_giveBack_X3_settle : GoodIn wsX3_giveBack wsX3_settle := goodIn_r _ [71, 1, 2, 72, 73, 74, 6, 75, 8, 9, 10, 11, 12, 13, 14, 15, 16, 17, 18, 19, 20, 21, 22, 23, 24, 25, 26, 27, 28, 76, 77, 78, 79, 80, 81, 82, 83, 84, 85, 86, 87, 88, 89, 90, 91, 92, 93] (by decide +kernel) (by decide +kernel)
set_option maxRecDepth 20000 in
theorem gX3_giveBack_X3_settle : GoodIn wsX3_giveBack (wsV RX3 49 RX3 yX3_settle wsX3_settle) := goodIn_app (goodIn_of _ (by decide +kernel)) ggX3_giveBack_X3_settle
theorem dX3_giveBack_0 : decode cX3_giveBack 0 = .ok (.aload_n 0, 1) := by decide +kernel
theorem dX3_giveBack_1 : decode cX3_giveBack 1 = .ok (.getfield 22, 3) := by decide +kernel
theorem dX3_giveBack_4 : decode cX3_giveBack 4 = .ok (.aload_n 0, 1) := by decide +kernel
theorem dX3_giveBack_5 : decode cX3_giveBack 5 = .ok (.getfield 10, 3) := by decide +kernel
theorem dX3_giveBack_8 : decode cX3_giveBack 8 = .ok (.invokevirtual 41, 3) := by decide +kernel
theorem dX3_giveBack_11 : decode cX3_giveBack 11 = .ok (.aload_n 0, 1) := by decide +kernel
theorem dX3_giveBack_12 : decode cX3_giveBack 12 = .ok (.aload_n 0, 1) := by decide +kernel
theorem dX3_giveBack_13 : decode cX3_giveBack 13 = .ok (.getfield 10, 3) := by decide +kernel
theorem dX3_giveBack_16 : decode cX3_giveBack 16 = .ok (.iload_n 1, 1) := by decide +kernel
theorem dX3_giveBack_17 : decode cX3_giveBack 17 = .ok (.iload_n 2, 1) := by decide +kernel
theorem dX3_giveBack_18 : decode cX3_giveBack 18 = .ok (.invokevirtual 56, 3) := by decide +kernel
theorem dX3_giveBack_21 : decode cX3_giveBack 21 = .ok (.invokevirtual 49, 3) := by decide +kernel
theorem dX3_giveBack_24 : decode cX3_giveBack 24 = .ok (.ireturn, 1) := by decide +kernel
set_option maxRecDepth 20000 in
theorem ggX3_clear_X0_prepare : GoodIn wsX3_clear wsX0_prepare := goodIn_r _ [7, 8, 9, 10, 11, 6, 12, 13, 14, 15, 16, 17, 18, 19, 20, 21, 22, 23, 24, 25, 26, 27, 28, 67, 68, 69, 70, 71, 72, 73, 74] (by decide +kernel) (by decide +kernel)
set_option maxRecDepth 20000 in
theorem gX3_clear_X0_prepare : GoodIn wsX3_clear (wsV RX3 41 RX0 yX0_prepare wsX0_prepare) := goodIn_app (goodIn_of _ (by decide +kernel)) ggX3_clear_X0_prepare
set_option maxRecDepth 20000 in
theorem ggX3_clear_X2_clearWords : GoodIn wsX3_clear wsX2_clearWords := goodIn_r _ [32, 20, 33, 34, 35, 18, 36, 27, 37, 38, 39, 40, 41, 42, 43, 44, 45, 46, 47, 70, 71, 72, 73, 74] (by decide +kernel) (by decide +kernel)
set_option maxRecDepth 20000 in
theorem gX3_clear_X2_clearWords : GoodIn wsX3_clear (wsV RX3 60 RX2 yX2_clearWords wsX2_clearWords) := goodIn_app (goodIn_of _ (by decide +kernel)) ggX3_clear_X2_clearWords
set_option maxRecDepth 20000 in
theorem ggX3_clear_X3_settle : GoodIn wsX3_clear wsX3_settle := goodIn_r _ [52, 1, 2, 53, 54, 55, 6, 56, 8, 9, 10, 11, 12, 13, 14, 15, 16, 17, 18, 19, 20, 21, 22, 23, 24, 25, 26, 27, 28, 57, 58, 59, 60, 61, 62, 63, 64, 65, 66, 67, 68, 69, 70, 71, 72, 73, 74] (by decide +kernel) (by decide +kernel)
set_option maxRecDepth 20000 in
theorem gX3_clear_X3_settle : GoodIn wsX3_clear (wsV RX3 49 RX3 yX3_settle wsX3_settle) := goodIn_app (goodIn_of _ (by decide +kernel)) ggX3_clear_X3_settle
theorem dX3_clear_0 : decode cX3_clear 0 = .ok (.aload_n 0, 1) := by decide +kernel
theorem dX3_clear_1 : decode cX3_clear 1 = .ok (.getfield 22, 3) := by decide +kernel
theorem dX3_clear_4 : decode cX3_clear 4 = .ok (.aload_n 0, 1) := by decide +kernel
theorem dX3_clear_5 : decode cX3_clear 5 = .ok (.getfield 10, 3) := by decide +kernel
theorem dX3_clear_8 : decode cX3_clear 8 = .ok (.invokevirtual 41, 3) := by decide +kernel
theorem dX3_clear_11 : decode cX3_clear 11 = .ok (.aload_n 0, 1) := by decide +kernel
theorem dX3_clear_12 : decode cX3_clear 12 = .ok (.aload_n 0, 1) := by decide +kernel
theorem dX3_clear_13 : decode cX3_clear 13 = .ok (.getfield 10, 3) := by decide +kernel
theorem dX3_clear_16 : decode cX3_clear 16 = .ok (.iload_n 1, 1) := by decide +kernel
theorem dX3_clear_17 : decode cX3_clear 17 = .ok (.invokevirtual 60, 3) := by decide +kernel
theorem dX3_clear_20 : decode cX3_clear 20 = .ok (.invokevirtual 49, 3) := by decide +kernel
theorem dX3_clear_23 : decode cX3_clear 23 = .ok (.ireturn, 1) := by decide +kernel
set_option maxRecDepth 20000 in
theorem ggX3_reserve_X0_prepare : GoodIn wsX3_reserve wsX0_prepare := goodIn_r _ [7, 8, 9, 10, 11, 6, 12, 13, 14, 15, 16, 17, 18, 19, 20, 21, 22, 23, 24, 25, 26, 27, 28, 89, 90, 91, 92, 93, 94, 95, 96] (by decide +kernel) (by decide +kernel)
set_option maxRecDepth 20000 in
theorem gX3_reserve_X0_prepare : GoodIn wsX3_reserve (wsV RX3 41 RX0 yX0_prepare wsX0_prepare) := goodIn_app (goodIn_of _ (by decide +kernel)) ggX3_reserve_X0_prepare
set_option maxRecDepth 20000 in
theorem ggX3_reserve_X2_reserveBlock : GoodIn wsX3_reserve wsX2_reserveBlock := goodIn_r _ [32, 25, 26, 33, 34, 35, 36, 37, 38, 18, 39, 40, 41, 42, 43, 44, 45, 46, 47, 20, 48, 49, 50, 51, 52, 53, 54, 55, 56, 57, 58, 59, 60, 61, 62, 63, 64, 65, 66, 27, 67, 68, 69, 70, 92, 93, 94, 95, 96] (by decide +kernel) (by decide +kernel)
set_option maxRecDepth 20000 in
theorem gX3_reserve_X2_reserveBlock : GoodIn wsX3_reserve (wsV RX3 63 RX2 yX2_reserveBlock wsX2_reserveBlock) := goodIn_app (goodIn_of _ (by decide +kernel)) ggX3_reserve_X2_reserveBlock
set_option maxRecDepth 20000 in
theorem ggX3_reserve_X3_settle : GoodIn wsX3_reserve wsX3_settle := goodIn_r _ [74, 1, 2, 75, 76, 77, 6, 78, 8, 9, 10, 11, 12, 13, 14, 15, 16, 17, 18, 19, 20, 21, 22, 23, 24, 25, 26, 27, 28, 79, 80, 81, 82, 83, 84, 85, 86, 87, 88, 89, 90, 91, 92, 93, 94, 95, 96] (by decide +kernel) (by decide +kernel)
set_option maxRecDepth 20000 in
theorem gX3_reserve_X3_settle : GoodIn wsX3_reserve (wsV RX3 49 RX3 yX3_settle wsX3_settle) := goodIn_app (goodIn_of _ (by decide +kernel)) ggX3_reserve_X3_settle
theorem dX3_reserve_0 : decode cX3_reserve 0 = .ok (.aload_n 0, 1) := by decide +kernel
theorem dX3_reserve_1 : decode cX3_reserve 1 = .ok (.getfield 22, 3) := by decide +kernel
theorem dX3_reserve_4 : decode cX3_reserve 4 = .ok (.aload_n 0, 1) := by decide +kernel
theorem dX3_reserve_5 : decode cX3_reserve 5 = .ok (.getfield 10, 3) := by decide +kernel
theorem dX3_reserve_8 : decode cX3_reserve 8 = .ok (.invokevirtual 41, 3) := by decide +kernel
theorem dX3_reserve_11 : decode cX3_reserve 11 = .ok (.aload_n 0, 1) := by decide +kernel
theorem dX3_reserve_12 : decode cX3_reserve 12 = .ok (.aload_n 0, 1) := by decide +kernel
theorem dX3_reserve_13 : decode cX3_reserve 13 = .ok (.getfield 10, 3) := by decide +kernel
theorem dX3_reserve_16 : decode cX3_reserve 16 = .ok (.iload_n 1, 1) := by decide +kernel
theorem dX3_reserve_17 : decode cX3_reserve 17 = .ok (.invokevirtual 63, 3) := by decide +kernel
theorem dX3_reserve_20 : decode cX3_reserve 20 = .ok (.invokevirtual 49, 3) := by decide +kernel
theorem dX3_reserve_23 : decode cX3_reserve 23 = .ok (.ireturn, 1) := by decide +kernel
set_option maxRecDepth 20000 in
theorem ggX3_takeIn_X0_prepare : GoodIn wsX3_takeIn wsX0_prepare := goodIn_r _ [7, 8, 9, 10, 11, 6, 12, 13, 14, 15, 16, 17, 18, 19, 20, 21, 22, 23, 24, 25, 26, 27, 28, 90, 91, 92, 93, 94, 95, 96, 97] (by decide +kernel) (by decide +kernel)
set_option maxRecDepth 20000 in
theorem gX3_takeIn_X0_prepare : GoodIn wsX3_takeIn (wsV RX3 41 RX0 yX0_prepare wsX0_prepare) := goodIn_app (goodIn_of _ (by decide +kernel)) ggX3_takeIn_X0_prepare
set_option maxRecDepth 20000 in
theorem ggX3_takeIn_X2_takeInBlock : GoodIn wsX3_takeIn wsX2_takeInBlock := goodIn_r _ [32, 25, 20, 33, 34, 35, 18, 36, 26, 37, 38, 39, 40, 41, 42, 43, 44, 45, 46, 47, 48, 49, 50, 51, 52, 53, 54, 55, 56, 57, 58, 59, 60, 61, 62, 63, 64, 65, 66, 67, 27, 68, 69, 70, 71, 93, 94, 95, 96, 97] (by decide +kernel) (by decide +kernel)
set_option maxRecDepth 20000 in
theorem gX3_takeIn_X2_takeInBlock : GoodIn wsX3_takeIn (wsV RX3 66 RX2 yX2_takeInBlock wsX2_takeInBlock) := goodIn_app (goodIn_of _ (by decide +kernel)) ggX3_takeIn_X2_takeInBlock
set_option maxRecDepth 20000 in
theorem ggX3_takeIn_X3_settle : GoodIn wsX3_takeIn wsX3_settle := goodIn_r _ [75, 1, 2, 76, 77, 78, 6, 79, 8, 9, 10, 11, 12, 13, 14, 15, 16, 17, 18, 19, 20, 21, 22, 23, 24, 25, 26, 27, 28, 80, 81, 82, 83, 84, 85, 86, 87, 88, 89, 90, 91, 92, 93, 94, 95, 96, 97] (by decide +kernel) (by decide +kernel)
set_option maxRecDepth 20000 in
theorem gX3_takeIn_X3_settle : GoodIn wsX3_takeIn (wsV RX3 49 RX3 yX3_settle wsX3_settle) := goodIn_app (goodIn_of _ (by decide +kernel)) ggX3_takeIn_X3_settle
theorem dX3_takeIn_0 : decode cX3_takeIn 0 = .ok (.aload_n 0, 1) := by decide +kernel
theorem dX3_takeIn_1 : decode cX3_takeIn 1 = .ok (.getfield 22, 3) := by decide +kernel
theorem dX3_takeIn_4 : decode cX3_takeIn 4 = .ok (.aload_n 0, 1) := by decide +kernel
theorem dX3_takeIn_5 : decode cX3_takeIn 5 = .ok (.getfield 10, 3) := by decide +kernel
theorem dX3_takeIn_8 : decode cX3_takeIn 8 = .ok (.invokevirtual 41, 3) := by decide +kernel
theorem dX3_takeIn_11 : decode cX3_takeIn 11 = .ok (.aload_n 0, 1) := by decide +kernel
theorem dX3_takeIn_12 : decode cX3_takeIn 12 = .ok (.aload_n 0, 1) := by decide +kernel
theorem dX3_takeIn_13 : decode cX3_takeIn 13 = .ok (.getfield 10, 3) := by decide +kernel
theorem dX3_takeIn_16 : decode cX3_takeIn 16 = .ok (.iload_n 1, 1) := by decide +kernel
theorem dX3_takeIn_17 : decode cX3_takeIn 17 = .ok (.invokevirtual 66, 3) := by decide +kernel
theorem dX3_takeIn_20 : decode cX3_takeIn 20 = .ok (.invokevirtual 49, 3) := by decide +kernel
theorem dX3_takeIn_23 : decode cX3_takeIn 23 = .ok (.ireturn, 1) := by decide +kernel
set_option maxRecDepth 20000 in
theorem ggX3_giveUp_X0_prepare : GoodIn wsX3_giveUp wsX0_prepare := goodIn_r _ [7, 8, 9, 10, 11, 6, 12, 13, 14, 15, 16, 17, 18, 19, 20, 21, 22, 23, 24, 25, 26, 27, 28, 86, 87, 88, 89, 90, 91, 92, 93] (by decide +kernel) (by decide +kernel)
set_option maxRecDepth 20000 in
theorem gX3_giveUp_X0_prepare : GoodIn wsX3_giveUp (wsV RX3 41 RX0 yX0_prepare wsX0_prepare) := goodIn_app (goodIn_of _ (by decide +kernel)) ggX3_giveUp_X0_prepare
set_option maxRecDepth 20000 in
theorem ggX3_giveUp_X2_giveUpBlock : GoodIn wsX3_giveUp wsX2_giveUpBlock := goodIn_r _ [32, 25, 20, 26, 33, 34, 35, 18, 36, 37, 38, 39, 40, 41, 42, 43, 44, 45, 46, 47, 48, 49, 50, 51, 52, 53, 54, 55, 56, 27, 57, 58, 59, 60, 61, 62, 63, 64, 65, 66, 67, 89, 90, 91, 92, 93] (by decide +kernel) (by decide +kernel)
set_option maxRecDepth 20000 in
theorem gX3_giveUp_X2_giveUpBlock : GoodIn wsX3_giveUp (wsV RX3 69 RX2 yX2_giveUpBlock wsX2_giveUpBlock) := goodIn_app (goodIn_of _ (by decide +kernel)) ggX3_giveUp_X2_giveUpBlock
set_option maxRecDepth 20000 in
theorem ggX3_giveUp_X3_settle : GoodIn wsX3_giveUp wsX3_settle := goodIn_r _ [71, 1, 2, 72, 73, 74, 6, 75, 8, 9, 10, 11, 12, 13, 14, 15, 16, 17, 18, 19, 20, 21, 22, 23, 24, 25, 26, 27, 28, 76, 77, 78, 79, 80, 81, 82, 83, 84, 85, 86, 87, 88, 89, 90, 91, 92, 93] (by decide +kernel) (by decide +kernel)
set_option maxRecDepth 20000 in
theorem gX3_giveUp_X3_settle : GoodIn wsX3_giveUp (wsV RX3 49 RX3 yX3_settle wsX3_settle) := goodIn_app (goodIn_of _ (by decide +kernel)) ggX3_giveUp_X3_settle
theorem dX3_giveUp_0 : decode cX3_giveUp 0 = .ok (.aload_n 0, 1) := by decide +kernel
theorem dX3_giveUp_1 : decode cX3_giveUp 1 = .ok (.getfield 22, 3) := by decide +kernel
theorem dX3_giveUp_4 : decode cX3_giveUp 4 = .ok (.aload_n 0, 1) := by decide +kernel
theorem dX3_giveUp_5 : decode cX3_giveUp 5 = .ok (.getfield 10, 3) := by decide +kernel
theorem dX3_giveUp_8 : decode cX3_giveUp 8 = .ok (.invokevirtual 41, 3) := by decide +kernel
theorem dX3_giveUp_11 : decode cX3_giveUp 11 = .ok (.aload_n 0, 1) := by decide +kernel
theorem dX3_giveUp_12 : decode cX3_giveUp 12 = .ok (.aload_n 0, 1) := by decide +kernel
theorem dX3_giveUp_13 : decode cX3_giveUp 13 = .ok (.getfield 10, 3) := by decide +kernel
theorem dX3_giveUp_16 : decode cX3_giveUp 16 = .ok (.iload_n 1, 1) := by decide +kernel
theorem dX3_giveUp_17 : decode cX3_giveUp 17 = .ok (.invokevirtual 69, 3) := by decide +kernel
theorem dX3_giveUp_20 : decode cX3_giveUp 20 = .ok (.invokevirtual 49, 3) := by decide +kernel
theorem dX3_giveUp_23 : decode cX3_giveUp 23 = .ok (.ireturn, 1) := by decide +kernel
set_option maxRecDepth 20000 in
theorem ggX3_damage_X0_prepare : GoodIn wsX3_damage wsX0_prepare := goodIn_r _ [7, 8, 9, 10, 11, 6, 12, 13, 14, 15, 16, 17, 18, 19, 20, 21, 22, 23, 24, 25, 26, 27, 28, 56, 57, 58, 59, 60, 61, 62, 63] (by decide +kernel) (by decide +kernel)
set_option maxRecDepth 20000 in
theorem gX3_damage_X0_prepare : GoodIn wsX3_damage (wsV RX3 41 RX0 yX0_prepare wsX0_prepare) := goodIn_app (goodIn_of _ (by decide +kernel)) ggX3_damage_X0_prepare
set_option maxRecDepth 20000 in
theorem ggX3_damage_X2_damageBit : GoodIn wsX3_damage wsX2_damageBit := goodIn_r _ [32, 27, 33, 34, 35, 18, 36, 59, 60, 61, 62, 63] (by decide +kernel) (by decide +kernel)
set_option maxRecDepth 20000 in
theorem gX3_damage_X2_damageBit : GoodIn wsX3_damage (wsV RX3 72 RX2 yX2_damageBit wsX2_damageBit) := goodIn_app (goodIn_of _ (by decide +kernel)) ggX3_damage_X2_damageBit
set_option maxRecDepth 20000 in
theorem ggX3_damage_X3_settle : GoodIn wsX3_damage wsX3_settle := goodIn_r _ [41, 1, 2, 42, 43, 44, 6, 45, 8, 9, 10, 11, 12, 13, 14, 15, 16, 17, 18, 19, 20, 21, 22, 23, 24, 25, 26, 27, 28, 46, 47, 48, 49, 50, 51, 52, 53, 54, 55, 56, 57, 58, 59, 60, 61, 62, 63] (by decide +kernel) (by decide +kernel)
set_option maxRecDepth 20000 in
theorem gX3_damage_X3_settle : GoodIn wsX3_damage (wsV RX3 49 RX3 yX3_settle wsX3_settle) := goodIn_app (goodIn_of _ (by decide +kernel)) ggX3_damage_X3_settle
theorem dX3_damage_0 : decode cX3_damage 0 = .ok (.aload_n 0, 1) := by decide +kernel
theorem dX3_damage_1 : decode cX3_damage 1 = .ok (.getfield 22, 3) := by decide +kernel
theorem dX3_damage_4 : decode cX3_damage 4 = .ok (.aload_n 0, 1) := by decide +kernel
theorem dX3_damage_5 : decode cX3_damage 5 = .ok (.getfield 10, 3) := by decide +kernel
theorem dX3_damage_8 : decode cX3_damage 8 = .ok (.invokevirtual 41, 3) := by decide +kernel
theorem dX3_damage_11 : decode cX3_damage 11 = .ok (.aload_n 0, 1) := by decide +kernel
theorem dX3_damage_12 : decode cX3_damage 12 = .ok (.aload_n 0, 1) := by decide +kernel
theorem dX3_damage_13 : decode cX3_damage 13 = .ok (.getfield 10, 3) := by decide +kernel
theorem dX3_damage_16 : decode cX3_damage 16 = .ok (.iload_n 1, 1) := by decide +kernel
theorem dX3_damage_17 : decode cX3_damage 17 = .ok (.invokevirtual 72, 3) := by decide +kernel
theorem dX3_damage_20 : decode cX3_damage 20 = .ok (.invokevirtual 49, 3) := by decide +kernel
theorem dX3_damage_23 : decode cX3_damage 23 = .ok (.ireturn, 1) := by decide +kernel
set_option maxRecDepth 20000 in
theorem ggX3_repair_X0_prepare : GoodIn wsX3_repair wsX0_prepare := goodIn_r _ [7, 8, 9, 10, 11, 6, 12, 13, 14, 15, 16, 17, 18, 19, 20, 21, 22, 23, 24, 25, 26, 27, 28, 67, 68, 69, 70, 71, 72, 73, 74] (by decide +kernel) (by decide +kernel)
set_option maxRecDepth 20000 in
theorem gX3_repair_X0_prepare : GoodIn wsX3_repair (wsV RX3 41 RX0 yX0_prepare wsX0_prepare) := goodIn_app (goodIn_of _ (by decide +kernel)) ggX3_repair_X0_prepare
set_option maxRecDepth 20000 in
theorem ggX3_repair_X2_repairBits : GoodIn wsX3_repair wsX2_repairBits := goodIn_r _ [32, 27, 33, 34, 35, 18, 36, 37, 38, 39, 40, 20, 41, 42, 43, 44, 45, 46, 47, 70, 71, 72, 73, 74] (by decide +kernel) (by decide +kernel)
set_option maxRecDepth 20000 in
theorem gX3_repair_X2_repairBits : GoodIn wsX3_repair (wsV RX3 75 RX2 yX2_repairBits wsX2_repairBits) := goodIn_app (goodIn_of _ (by decide +kernel)) ggX3_repair_X2_repairBits
set_option maxRecDepth 20000 in
theorem ggX3_repair_X3_settle : GoodIn wsX3_repair wsX3_settle := goodIn_r _ [52, 1, 2, 53, 54, 55, 6, 56, 8, 9, 10, 11, 12, 13, 14, 15, 16, 17, 18, 19, 20, 21, 22, 23, 24, 25, 26, 27, 28, 57, 58, 59, 60, 61, 62, 63, 64, 65, 66, 67, 68, 69, 70, 71, 72, 73, 74] (by decide +kernel) (by decide +kernel)
set_option maxRecDepth 20000 in
theorem gX3_repair_X3_settle : GoodIn wsX3_repair (wsV RX3 49 RX3 yX3_settle wsX3_settle) := goodIn_app (goodIn_of _ (by decide +kernel)) ggX3_repair_X3_settle
theorem dX3_repair_0 : decode cX3_repair 0 = .ok (.aload_n 0, 1) := by decide +kernel
theorem dX3_repair_1 : decode cX3_repair 1 = .ok (.getfield 22, 3) := by decide +kernel
theorem dX3_repair_4 : decode cX3_repair 4 = .ok (.aload_n 0, 1) := by decide +kernel
theorem dX3_repair_5 : decode cX3_repair 5 = .ok (.getfield 10, 3) := by decide +kernel
theorem dX3_repair_8 : decode cX3_repair 8 = .ok (.invokevirtual 41, 3) := by decide +kernel
theorem dX3_repair_11 : decode cX3_repair 11 = .ok (.aload_n 0, 1) := by decide +kernel
theorem dX3_repair_12 : decode cX3_repair 12 = .ok (.aload_n 0, 1) := by decide +kernel
theorem dX3_repair_13 : decode cX3_repair 13 = .ok (.getfield 10, 3) := by decide +kernel
theorem dX3_repair_16 : decode cX3_repair 16 = .ok (.invokevirtual 75, 3) := by decide +kernel
theorem dX3_repair_19 : decode cX3_repair 19 = .ok (.invokevirtual 49, 3) := by decide +kernel
theorem dX3_repair_22 : decode cX3_repair 22 = .ok (.ireturn, 1) := by decide +kernel
set_option maxRecDepth 20000 in
theorem ggX3_undo_X0_restoreLatest : GoodIn wsX3_undo wsX0_restoreLatest := goodIn_r _ [7, 8, 9, 10, 11, 6, 12, 13, 14, 15, 16, 17, 18, 19, 20, 21, 22, 23, 24, 25, 26, 27, 28, 29, 30, 31, 32, 39, 40, 41, 42, 43, 44, 45, 46] (by decide +kernel) (by decide +kernel)
set_option maxRecDepth 20000 in
theorem gX3_undo_X0_restoreLatest : GoodIn wsX3_undo (wsV RX3 78 RX0 yX0_restoreLatest wsX0_restoreLatest) := goodIn_app (goodIn_of _ (by decide +kernel)) ggX3_undo_X0_restoreLatest
theorem dX3_undo_0 : decode cX3_undo 0 = .ok (.aload_n 0, 1) := by decide +kernel
theorem dX3_undo_1 : decode cX3_undo 1 = .ok (.getfield 22, 3) := by decide +kernel
theorem dX3_undo_4 : decode cX3_undo 4 = .ok (.aload_n 0, 1) := by decide +kernel
theorem dX3_undo_5 : decode cX3_undo 5 = .ok (.getfield 10, 3) := by decide +kernel
theorem dX3_undo_8 : decode cX3_undo 8 = .ok (.invokevirtual 78, 3) := by decide +kernel
theorem dX3_undo_11 : decode cX3_undo 11 = .ok (.ireturn, 1) := by decide +kernel
theorem dX3_append_0 : decode cX3_append 0 = .ok (.iload_n 1, 1) := by decide +kernel
theorem dX3_append_1 : decode cX3_append 1 = .ok (.iconst 1, 1) := by decide +kernel
theorem dX3_append_2 : decode cX3_append 2 = .ok (.if_icmp .lt 10, 3) := by decide +kernel
theorem dX3_append_5 : decode cX3_append 5 = .ok (.iload_n 1, 1) := by decide +kernel
theorem dX3_append_6 : decode cX3_append 6 = .ok (.sipush 255, 3) := by decide +kernel
theorem dX3_append_9 : decode cX3_append 9 = .ok (.if_icmp .le 5, 3) := by decide +kernel
theorem dX3_append_12 : decode cX3_append 12 = .ok (.iconst (-1), 1) := by decide +kernel
theorem dX3_append_13 : decode cX3_append 13 = .ok (.ireturn, 1) := by decide +kernel
theorem dX3_append_14 : decode cX3_append 14 = .ok (.aload_n 0, 1) := by decide +kernel
theorem dX3_append_15 : decode cX3_append 15 = .ok (.getfield 37, 3) := by decide +kernel
theorem dX3_append_18 : decode cX3_append 18 = .ok (.bipush 80, 2) := by decide +kernel
theorem dX3_append_20 : decode cX3_append 20 = .ok (.if_icmp .lt 6, 3) := by decide +kernel
theorem dX3_append_23 : decode cX3_append 23 = .ok (.bipush (-3), 2) := by decide +kernel
theorem dX3_append_25 : decode cX3_append 25 = .ok (.ireturn, 1) := by decide +kernel
theorem dX3_append_26 : decode cX3_append 26 = .ok (.aload_n 0, 1) := by decide +kernel
theorem dX3_append_27 : decode cX3_append 27 = .ok (.getfield 33, 3) := by decide +kernel
theorem dX3_append_30 : decode cX3_append 30 = .ok (.aload_n 0, 1) := by decide +kernel
theorem dX3_append_31 : decode cX3_append 31 = .ok (.getfield 37, 3) := by decide +kernel
theorem dX3_append_34 : decode cX3_append 34 = .ok (.iload_n 1, 1) := by decide +kernel
theorem dX3_append_35 : decode cX3_append 35 = .ok (.i2c, 1) := by decide +kernel
theorem dX3_append_36 : decode cX3_append 36 = .ok (.castore, 1) := by decide +kernel
theorem dX3_append_37 : decode cX3_append 37 = .ok (.aload_n 0, 1) := by decide +kernel
theorem dX3_append_38 : decode cX3_append 38 = .ok (.dup, 1) := by decide +kernel
theorem dX3_append_39 : decode cX3_append 39 = .ok (.getfield 37, 3) := by decide +kernel
theorem dX3_append_42 : decode cX3_append 42 = .ok (.iconst 1, 1) := by decide +kernel
theorem dX3_append_43 : decode cX3_append 43 = .ok (.iadd, 1) := by decide +kernel
theorem dX3_append_44 : decode cX3_append 44 = .ok (.putfield 37, 3) := by decide +kernel
theorem dX3_append_47 : decode cX3_append 47 = .ok (.aload_n 0, 1) := by decide +kernel
theorem dX3_append_48 : decode cX3_append 48 = .ok (.getfield 37, 3) := by decide +kernel
theorem dX3_append_51 : decode cX3_append 51 = .ok (.ireturn, 1) := by decide +kernel
theorem dX3_clearText_0 : decode cX3_clearText 0 = .ok (.aload_n 0, 1) := by decide +kernel
theorem dX3_clearText_1 : decode cX3_clearText 1 = .ok (.getfield 37, 3) := by decide +kernel
theorem dX3_clearText_4 : decode cX3_clearText 4 = .ok (.istore_n 1, 1) := by decide +kernel
theorem dX3_clearText_5 : decode cX3_clearText 5 = .ok (.aload_n 0, 1) := by decide +kernel
theorem dX3_clearText_6 : decode cX3_clearText 6 = .ok (.iconst 0, 1) := by decide +kernel
theorem dX3_clearText_7 : decode cX3_clearText 7 = .ok (.putfield 37, 3) := by decide +kernel
theorem dX3_clearText_10 : decode cX3_clearText 10 = .ok (.iload_n 1, 1) := by decide +kernel
theorem dX3_clearText_11 : decode cX3_clearText 11 = .ok (.ireturn, 1) := by decide +kernel
set_option maxRecDepth 20000 in
theorem ggX3_run_X0_prepare : GoodIn wsX3_run wsX0_prepare := goodIn_r _ [10, 11, 12, 13, 14, 9, 15, 16, 17, 18, 19, 20, 21, 22, 23, 24, 25, 26, 27, 28, 29, 30, 31, 184, 185, 186, 187, 188, 189, 190, 191] (by decide +kernel) (by decide +kernel)
set_option maxRecDepth 20000 in
theorem gX3_run_X0_prepare : GoodIn wsX3_run (wsV RX3 41 RX0 yX0_prepare wsX0_prepare) := goodIn_app (goodIn_of _ (by decide +kernel)) ggX3_run_X0_prepare
set_option maxRecDepth 20000 in
theorem ggX3_run_X1_execute : GoodIn wsX3_run wsX1_execute := goodIn_r _ [36, 37, 38, 39, 40, 41, 35, 42, 43, 44, 45, 46, 47, 48, 49, 50, 51, 52, 53, 54, 55, 56, 57, 58, 59, 60, 61, 62, 63, 64, 65, 66, 67, 68, 69, 21, 70, 71, 72, 73, 74, 75, 76, 77, 78, 31, 23, 30, 79, 80, 81, 82, 83, 84, 85, 86, 87, 88, 89, 90, 91, 92, 93, 94, 95, 96, 97, 98, 99, 100, 101, 102, 103, 104, 105, 106, 107, 108, 109, 110, 111, 112, 113, 114, 115, 116, 117, 118, 119, 120, 121, 122, 123, 124, 28, 125, 126, 127, 128, 129, 130, 29, 131, 132, 133, 134, 135, 136, 137, 138, 139, 140, 141, 142, 143, 144, 145, 146, 147, 148, 149, 150, 151, 152, 153, 154, 155, 156, 157, 158, 159, 160, 161, 162, 163, 164, 165, 192, 193, 194, 195, 196, 197, 187, 188, 189, 190, 191] (by decide +kernel) (by decide +kernel)
set_option maxRecDepth 20000 in
theorem gX3_run_X1_execute : GoodIn wsX3_run (wsV RX3 82 RX1 yX1_execute wsX1_execute) := goodIn_app (goodIn_of _ (by decide +kernel)) ggX3_run_X1_execute
set_option maxRecDepth 20000 in
theorem ggX3_run_X3_settle : GoodIn wsX3_run wsX3_settle := goodIn_r _ [169, 1, 2, 170, 171, 172, 9, 173, 11, 12, 13, 14, 15, 16, 17, 18, 19, 20, 21, 22, 23, 24, 25, 26, 27, 28, 29, 30, 31, 174, 175, 176, 177, 178, 179, 180, 181, 182, 183, 184, 185, 186, 187, 188, 189, 190, 191] (by decide +kernel) (by decide +kernel)
set_option maxRecDepth 20000 in
theorem gX3_run_X3_settle : GoodIn wsX3_run (wsV RX3 49 RX3 yX3_settle wsX3_settle) := goodIn_app (goodIn_of _ (by decide +kernel)) ggX3_run_X3_settle
theorem dX3_run_0 : decode cX3_run 0 = .ok (.aload_n 0, 1) := by decide +kernel
theorem dX3_run_1 : decode cX3_run 1 = .ok (.getfield 22, 3) := by decide +kernel
theorem dX3_run_4 : decode cX3_run 4 = .ok (.aload_n 0, 1) := by decide +kernel
theorem dX3_run_5 : decode cX3_run 5 = .ok (.getfield 10, 3) := by decide +kernel
theorem dX3_run_8 : decode cX3_run 8 = .ok (.invokevirtual 41, 3) := by decide +kernel
theorem dX3_run_11 : decode cX3_run 11 = .ok (.aload_n 0, 1) := by decide +kernel
theorem dX3_run_12 : decode cX3_run 12 = .ok (.aload_n 0, 1) := by decide +kernel
theorem dX3_run_13 : decode cX3_run 13 = .ok (.getfield 29, 3) := by decide +kernel
theorem dX3_run_16 : decode cX3_run 16 = .ok (.aload_n 0, 1) := by decide +kernel
theorem dX3_run_17 : decode cX3_run 17 = .ok (.getfield 33, 3) := by decide +kernel
theorem dX3_run_20 : decode cX3_run 20 = .ok (.aload_n 0, 1) := by decide +kernel
theorem dX3_run_21 : decode cX3_run 21 = .ok (.getfield 37, 3) := by decide +kernel
theorem dX3_run_24 : decode cX3_run 24 = .ok (.aload_n 0, 1) := by decide +kernel
theorem dX3_run_25 : decode cX3_run 25 = .ok (.getfield 10, 3) := by decide +kernel
theorem dX3_run_28 : decode cX3_run 28 = .ok (.invokevirtual 82, 3) := by decide +kernel
theorem dX3_run_31 : decode cX3_run 31 = .ok (.invokevirtual 49, 3) := by decide +kernel
theorem dX3_run_34 : decode cX3_run 34 = .ok (.ireturn, 1) := by decide +kernel
set_option maxRecDepth 20000 in
theorem ggX3_count_X2_total : GoodIn wsX3_count wsX2_total := goodIn_r _ [8, 9, 10, 11, 12, 13, 14, 15, 16, 62, 63, 64, 65, 66] (by decide +kernel) (by decide +kernel)
set_option maxRecDepth 20000 in
theorem gX3_count_X2_total : GoodIn wsX3_count (wsV RX3 86 RX2 yX2_total wsX2_total) := goodIn_app (goodIn_of _ (by decide +kernel)) ggX3_count_X2_total
set_option maxRecDepth 20000 in
theorem ggX3_count_X2_blockTotal : GoodIn wsX3_count wsX2_blockTotal := goodIn_r _ [20, 21, 22, 23, 7, 24, 25, 62, 63, 64, 65, 66] (by decide +kernel) (by decide +kernel)
set_option maxRecDepth 20000 in
theorem gX3_count_X2_blockTotal : GoodIn wsX3_count (wsV RX3 89 RX2 yX2_blockTotal wsX2_blockTotal) := goodIn_app (goodIn_of _ (by decide +kernel)) ggX3_count_X2_blockTotal
set_option maxRecDepth 20000 in
theorem ggX3_count_J6_bitCount_0f7a4 : GoodIn wsX3_count wsJ6_bitCount_0f7a4 := goodIn_r _ [13, 14, 15, 16] (by decide +kernel) (by decide +kernel)
set_option maxRecDepth 20000 in
theorem gX3_count_J6_bitCount_0f7a4 : GoodIn wsX3_count (va_wsS RX3 98 yJ6_bitCount_0f7a4 wsJ6_bitCount_0f7a4) := goodIn_app (goodIn_of _ (by decide +kernel)) ggX3_count_J6_bitCount_0f7a4
set_option maxRecDepth 20000 in
theorem ggX3_count_X2_rightSummary : GoodIn wsX3_count wsX2_rightSummary := goodIn_r _ [30, 31, 32, 33, 7, 34, 9, 62, 63, 64, 65, 66] (by decide +kernel) (by decide +kernel)
set_option maxRecDepth 20000 in
theorem gX3_count_X2_rightSummary : GoodIn wsX3_count (wsV RX3 103 RX2 yX2_rightSummary wsX2_rightSummary) := goodIn_app (goodIn_of _ (by decide +kernel)) ggX3_count_X2_rightSummary
set_option maxRecDepth 20000 in
theorem ggX3_count_X2_freeRuns : GoodIn wsX3_count wsX2_freeRuns := goodIn_r _ [38, 39, 40, 41, 7, 42, 9, 43, 44, 45, 46, 47, 62, 63, 64, 65, 66] (by decide +kernel) (by decide +kernel)
set_option maxRecDepth 20000 in
theorem gX3_count_X2_freeRuns : GoodIn wsX3_count (wsV RX3 106 RX2 yX2_freeRuns wsX2_freeRuns) := goodIn_app (goodIn_of _ (by decide +kernel)) ggX3_count_X2_freeRuns
set_option maxRecDepth 20000 in
theorem ggX3_count_X2_longestFreeRun : GoodIn wsX3_count wsX2_longestFreeRun := goodIn_r _ [51, 52, 53, 54, 55, 39, 40, 41, 7, 42, 9, 43, 44, 45, 46, 47, 62, 63, 64, 65, 66] (by decide +kernel) (by decide +kernel)
set_option maxRecDepth 20000 in
theorem gX3_count_X2_longestFreeRun : GoodIn wsX3_count (wsV RX3 109 RX2 yX2_longestFreeRun wsX2_longestFreeRun) := goodIn_app (goodIn_of _ (by decide +kernel)) ggX3_count_X2_longestFreeRun
theorem dX3_count_0 : decode cX3_count 0 = .ok (.iload_n 1, 1) := by decide +kernel
theorem dX3_count_1 : decode cX3_count 1 = .ok (.tableswitch 139 0 11 #[63, 63, 63, 63, 72, 80, 88, 99, 110, 118, 126, 134], 63) := by decide +kernel
theorem dX3_count_64 : decode cX3_count 64 = .ok (.aload_n 0, 1) := by decide +kernel
theorem dX3_count_65 : decode cX3_count 65 = .ok (.getfield 10, 3) := by decide +kernel
theorem dX3_count_68 : decode cX3_count 68 = .ok (.iload_n 1, 1) := by decide +kernel
theorem dX3_count_69 : decode cX3_count 69 = .ok (.invokevirtual 86, 3) := by decide +kernel
theorem dX3_count_72 : decode cX3_count 72 = .ok (.ireturn, 1) := by decide +kernel
theorem dX3_count_73 : decode cX3_count 73 = .ok (.aload_n 0, 1) := by decide +kernel
theorem dX3_count_74 : decode cX3_count 74 = .ok (.getfield 10, 3) := by decide +kernel
theorem dX3_count_77 : decode cX3_count 77 = .ok (.invokevirtual 89, 3) := by decide +kernel
theorem dX3_count_80 : decode cX3_count 80 = .ok (.ireturn, 1) := by decide +kernel
theorem dX3_count_81 : decode cX3_count 81 = .ok (.aload_n 0, 1) := by decide +kernel
theorem dX3_count_82 : decode cX3_count 82 = .ok (.getfield 10, 3) := by decide +kernel
theorem dX3_count_85 : decode cX3_count 85 = .ok (.getfield 92, 3) := by decide +kernel
theorem dX3_count_88 : decode cX3_count 88 = .ok (.ireturn, 1) := by decide +kernel
theorem dX3_count_89 : decode cX3_count 89 = .ok (.aload_n 0, 1) := by decide +kernel
theorem dX3_count_90 : decode cX3_count 90 = .ok (.getfield 10, 3) := by decide +kernel
theorem dX3_count_93 : decode cX3_count 93 = .ok (.getfield 95, 3) := by decide +kernel
theorem dX3_count_96 : decode cX3_count 96 = .ok (.invokestatic 98, 3) := by decide +kernel
theorem dX3_count_99 : decode cX3_count 99 = .ok (.ireturn, 1) := by decide +kernel
theorem dX3_count_100 : decode cX3_count 100 = .ok (.aload_n 0, 1) := by decide +kernel
theorem dX3_count_101 : decode cX3_count 101 = .ok (.getfield 10, 3) := by decide +kernel
theorem dX3_count_104 : decode cX3_count 104 = .ok (.invokevirtual 103, 3) := by decide +kernel
theorem dX3_count_107 : decode cX3_count 107 = .ok (.invokestatic 98, 3) := by decide +kernel
theorem dX3_count_110 : decode cX3_count 110 = .ok (.ireturn, 1) := by decide +kernel
theorem dX3_count_111 : decode cX3_count 111 = .ok (.aload_n 0, 1) := by decide +kernel
theorem dX3_count_112 : decode cX3_count 112 = .ok (.getfield 10, 3) := by decide +kernel
theorem dX3_count_115 : decode cX3_count 115 = .ok (.invokevirtual 106, 3) := by decide +kernel
theorem dX3_count_118 : decode cX3_count 118 = .ok (.ireturn, 1) := by decide +kernel
theorem dX3_count_119 : decode cX3_count 119 = .ok (.aload_n 0, 1) := by decide +kernel
theorem dX3_count_120 : decode cX3_count 120 = .ok (.getfield 10, 3) := by decide +kernel
theorem dX3_count_123 : decode cX3_count 123 = .ok (.invokevirtual 109, 3) := by decide +kernel
theorem dX3_count_126 : decode cX3_count 126 = .ok (.ireturn, 1) := by decide +kernel
theorem dX3_count_127 : decode cX3_count 127 = .ok (.aload_n 0, 1) := by decide +kernel
theorem dX3_count_128 : decode cX3_count 128 = .ok (.getfield 22, 3) := by decide +kernel
theorem dX3_count_131 : decode cX3_count 131 = .ok (.getfield 112, 3) := by decide +kernel
theorem dX3_count_134 : decode cX3_count 134 = .ok (.ireturn, 1) := by decide +kernel
theorem dX3_count_135 : decode cX3_count 135 = .ok (.aload_n 0, 1) := by decide +kernel
theorem dX3_count_136 : decode cX3_count 136 = .ok (.getfield 37, 3) := by decide +kernel
theorem dX3_count_139 : decode cX3_count 139 = .ok (.ireturn, 1) := by decide +kernel
theorem dX3_count_140 : decode cX3_count 140 = .ok (.iconst (-1), 1) := by decide +kernel
theorem dX3_count_141 : decode cX3_count 141 = .ok (.ireturn, 1) := by decide +kernel
set_option maxRecDepth 20000 in
theorem ggX3_slot_X2_kindOf : GoodIn wsX3_slot wsX2_kindOf := goodIn_r _ [6, 7, 8, 9, 10, 11, 12, 25, 26, 27, 28, 29] (by decide +kernel) (by decide +kernel)
set_option maxRecDepth 20000 in
theorem gX3_slot_X2_kindOf : GoodIn wsX3_slot (wsV RX3 115 RX2 yX2_kindOf wsX2_kindOf) := goodIn_app (goodIn_of _ (by decide +kernel)) ggX3_slot_X2_kindOf
set_option maxRecDepth 20000 in
theorem ggX3_slot_X2_blockOf : GoodIn wsX3_slot wsX2_blockOf := goodIn_r _ [16, 17, 18, 25, 26, 27, 28, 29] (by decide +kernel) (by decide +kernel)
set_option maxRecDepth 20000 in
theorem gX3_slot_X2_blockOf : GoodIn wsX3_slot (wsV RX3 118 RX2 yX2_blockOf wsX2_blockOf) := goodIn_app (goodIn_of _ (by decide +kernel)) ggX3_slot_X2_blockOf
theorem dX3_slot_0 : decode cX3_slot 0 = .ok (.iload_n 1, 1) := by decide +kernel
theorem dX3_slot_1 : decode cX3_slot 1 = .ok (.ifCond .lt 10, 3) := by decide +kernel
theorem dX3_slot_4 : decode cX3_slot 4 = .ok (.iload_n 1, 1) := by decide +kernel
theorem dX3_slot_5 : decode cX3_slot 5 = .ok (.sipush 320, 3) := by decide +kernel
theorem dX3_slot_8 : decode cX3_slot 8 = .ok (.if_icmp .lt 5, 3) := by decide +kernel
theorem dX3_slot_11 : decode cX3_slot 11 = .ok (.iconst (-1), 1) := by decide +kernel
theorem dX3_slot_12 : decode cX3_slot 12 = .ok (.ireturn, 1) := by decide +kernel
theorem dX3_slot_13 : decode cX3_slot 13 = .ok (.iload_n 2, 1) := by decide +kernel
theorem dX3_slot_14 : decode cX3_slot 14 = .ok (.lookupswitch 44 #[(0, 26), (1, 35)], 26) := by decide +kernel
theorem dX3_slot_40 : decode cX3_slot 40 = .ok (.aload_n 0, 1) := by decide +kernel
theorem dX3_slot_41 : decode cX3_slot 41 = .ok (.getfield 10, 3) := by decide +kernel
theorem dX3_slot_44 : decode cX3_slot 44 = .ok (.iload_n 1, 1) := by decide +kernel
theorem dX3_slot_45 : decode cX3_slot 45 = .ok (.invokevirtual 115, 3) := by decide +kernel
theorem dX3_slot_48 : decode cX3_slot 48 = .ok (.ireturn, 1) := by decide +kernel
theorem dX3_slot_49 : decode cX3_slot 49 = .ok (.aload_n 0, 1) := by decide +kernel
theorem dX3_slot_50 : decode cX3_slot 50 = .ok (.getfield 10, 3) := by decide +kernel
theorem dX3_slot_53 : decode cX3_slot 53 = .ok (.iload_n 1, 1) := by decide +kernel
theorem dX3_slot_54 : decode cX3_slot 54 = .ok (.invokevirtual 118, 3) := by decide +kernel
theorem dX3_slot_57 : decode cX3_slot 57 = .ok (.ireturn, 1) := by decide +kernel
theorem dX3_slot_58 : decode cX3_slot 58 = .ok (.iconst (-1), 1) := by decide +kernel
theorem dX3_slot_59 : decode cX3_slot 59 = .ok (.ireturn, 1) := by decide +kernel
set_option maxRecDepth 20000 in
theorem ggX3_word_J6_bitCount_0f7a4 : GoodIn wsX3_word wsJ6_bitCount_0f7a4 := goodIn_r _ [5, 6, 7, 8] (by decide +kernel) (by decide +kernel)
set_option maxRecDepth 20000 in
theorem gX3_word_J6_bitCount_0f7a4 : GoodIn wsX3_word (va_wsS RX3 98 yJ6_bitCount_0f7a4 wsJ6_bitCount_0f7a4) := goodIn_app (goodIn_of _ (by decide +kernel)) ggX3_word_J6_bitCount_0f7a4
set_option maxRecDepth 20000 in
theorem ggX3_word_X2_summaryBit : GoodIn wsX3_word wsX2_summaryBit := goodIn_r _ [13, 14, 34, 35, 36, 37, 38] (by decide +kernel) (by decide +kernel)
set_option maxRecDepth 20000 in
theorem gX3_word_X2_summaryBit : GoodIn wsX3_word (wsV RX3 125 RX2 yX2_summaryBit wsX2_summaryBit) := goodIn_app (goodIn_of _ (by decide +kernel)) ggX3_word_X2_summaryBit
set_option maxRecDepth 20000 in
theorem ggX3_word_X2_isFull : GoodIn wsX3_word wsX2_isFull := goodIn_r _ [18, 19, 34, 35, 36, 37, 38] (by decide +kernel) (by decide +kernel)
set_option maxRecDepth 20000 in
theorem gX3_word_X2_isFull : GoodIn wsX3_word (wsV RX3 128 RX2 yX2_isFull wsX2_isFull) := goodIn_app (goodIn_of _ (by decide +kernel)) ggX3_word_X2_isFull
set_option maxRecDepth 20000 in
theorem ggX3_word_X2_firstFree : GoodIn wsX3_word wsX2_firstFree := goodIn_r _ [23, 19, 24, 16, 17, 12, 18, 25, 26, 27, 2, 3, 4, 5, 6, 7, 8, 34, 35, 36, 37, 38] (by decide +kernel) (by decide +kernel)
set_option maxRecDepth 20000 in
theorem gX3_word_X2_firstFree : GoodIn wsX3_word (wsV RX3 132 RX2 yX2_firstFree wsX2_firstFree) := goodIn_app (goodIn_of _ (by decide +kernel)) ggX3_word_X2_firstFree
theorem dX3_word_0 : decode cX3_word 0 = .ok (.iload_n 1, 1) := by decide +kernel
theorem dX3_word_1 : decode cX3_word 1 = .ok (.ifCond .lt 9, 3) := by decide +kernel
theorem dX3_word_4 : decode cX3_word 4 = .ok (.iload_n 1, 1) := by decide +kernel
theorem dX3_word_5 : decode cX3_word 5 = .ok (.bipush 10, 2) := by decide +kernel
theorem dX3_word_7 : decode cX3_word 7 = .ok (.if_icmp .lt 5, 3) := by decide +kernel
theorem dX3_word_10 : decode cX3_word 10 = .ok (.iconst (-1), 1) := by decide +kernel
theorem dX3_word_11 : decode cX3_word 11 = .ok (.ireturn, 1) := by decide +kernel
theorem dX3_word_12 : decode cX3_word 12 = .ok (.iload_n 2, 1) := by decide +kernel
theorem dX3_word_13 : decode cX3_word 13 = .ok (.tableswitch 93 0 6 #[43, 43, 43, 43, 58, 67, 84], 43) := by decide +kernel
theorem dX3_word_56 : decode cX3_word 56 = .ok (.aload_n 0, 1) := by decide +kernel
theorem dX3_word_57 : decode cX3_word 57 = .ok (.getfield 10, 3) := by decide +kernel
theorem dX3_word_60 : decode cX3_word 60 = .ok (.getfield 121, 3) := by decide +kernel
theorem dX3_word_63 : decode cX3_word 63 = .ok (.iload_n 2, 1) := by decide +kernel
theorem dX3_word_64 : decode cX3_word 64 = .ok (.aaload, 1) := by decide +kernel
theorem dX3_word_65 : decode cX3_word 65 = .ok (.iload_n 1, 1) := by decide +kernel
theorem dX3_word_66 : decode cX3_word 66 = .ok (.iaload, 1) := by decide +kernel
theorem dX3_word_67 : decode cX3_word 67 = .ok (.invokestatic 98, 3) := by decide +kernel
theorem dX3_word_70 : decode cX3_word 70 = .ok (.ireturn, 1) := by decide +kernel
theorem dX3_word_71 : decode cX3_word 71 = .ok (.aload_n 0, 1) := by decide +kernel
theorem dX3_word_72 : decode cX3_word 72 = .ok (.getfield 10, 3) := by decide +kernel
theorem dX3_word_75 : decode cX3_word 75 = .ok (.iload_n 1, 1) := by decide +kernel
theorem dX3_word_76 : decode cX3_word 76 = .ok (.invokevirtual 125, 3) := by decide +kernel
theorem dX3_word_79 : decode cX3_word 79 = .ok (.ireturn, 1) := by decide +kernel
theorem dX3_word_80 : decode cX3_word 80 = .ok (.aload_n 0, 1) := by decide +kernel
theorem dX3_word_81 : decode cX3_word 81 = .ok (.getfield 10, 3) := by decide +kernel
theorem dX3_word_84 : decode cX3_word 84 = .ok (.iload_n 1, 1) := by decide +kernel
theorem dX3_word_85 : decode cX3_word 85 = .ok (.invokevirtual 128, 3) := by decide +kernel
theorem dX3_word_88 : decode cX3_word 88 = .ok (.ifCond .eq 7, 3) := by decide +kernel
theorem dX3_word_91 : decode cX3_word 91 = .ok (.iconst 1, 1) := by decide +kernel
theorem dX3_word_92 : decode cX3_word 92 = .ok (.goto 4, 3) := by decide +kernel
theorem dX3_word_95 : decode cX3_word 95 = .ok (.iconst 0, 1) := by decide +kernel
theorem dX3_word_96 : decode cX3_word 96 = .ok (.ireturn, 1) := by decide +kernel
theorem dX3_word_97 : decode cX3_word 97 = .ok (.aload_n 0, 1) := by decide +kernel
theorem dX3_word_98 : decode cX3_word 98 = .ok (.getfield 10, 3) := by decide +kernel
theorem dX3_word_101 : decode cX3_word 101 = .ok (.iload_n 1, 1) := by decide +kernel
theorem dX3_word_102 : decode cX3_word 102 = .ok (.invokevirtual 132, 3) := by decide +kernel
theorem dX3_word_105 : decode cX3_word 105 = .ok (.ireturn, 1) := by decide +kernel
theorem dX3_word_106 : decode cX3_word 106 = .ok (.iconst (-1), 1) := by decide +kernel
theorem dX3_word_107 : decode cX3_word 107 = .ok (.ireturn, 1) := by decide +kernel
set_option maxRecDepth 20000 in
theorem ggX3_block_X2_hasBlock : GoodIn wsX3_block wsX2_hasBlock := goodIn_r _ [6, 7, 43, 44, 45, 46, 47] (by decide +kernel) (by decide +kernel)
set_option maxRecDepth 20000 in
theorem gX3_block_X2_hasBlock : GoodIn wsX3_block (wsV RX3 135 RX2 yX2_hasBlock wsX2_hasBlock) := goodIn_app (goodIn_of _ (by decide +kernel)) ggX3_block_X2_hasBlock
set_option maxRecDepth 20000 in
theorem ggX3_block_X2_totalInBlock : GoodIn wsX3_block wsX2_totalInBlock := goodIn_r _ [11, 12, 13, 14, 15, 16, 17, 18, 19, 5, 20, 7, 21, 22, 23, 24, 25, 26, 27, 28, 29, 30, 31, 32, 33, 34, 35, 36, 43, 44, 45, 46, 47] (by decide +kernel) (by decide +kernel)
set_option maxRecDepth 20000 in
theorem gX3_block_X2_totalInBlock : GoodIn wsX3_block (wsV RX3 145 RX2 yX2_totalInBlock wsX2_totalInBlock) := goodIn_app (goodIn_of _ (by decide +kernel)) ggX3_block_X2_totalInBlock
theorem dX3_block_0 : decode cX3_block 0 = .ok (.iload_n 1, 1) := by decide +kernel
theorem dX3_block_1 : decode cX3_block 1 = .ok (.ifCond .lt 18, 3) := by decide +kernel
theorem dX3_block_4 : decode cX3_block 4 = .ok (.iload_n 1, 1) := by decide +kernel
theorem dX3_block_5 : decode cX3_block 5 = .ok (.bipush 8, 2) := by decide +kernel
theorem dX3_block_7 : decode cX3_block 7 = .ok (.if_icmp .ge 12, 3) := by decide +kernel
theorem dX3_block_10 : decode cX3_block 10 = .ok (.iload_n 2, 1) := by decide +kernel
theorem dX3_block_11 : decode cX3_block 11 = .ok (.ifCond .lt 8, 3) := by decide +kernel
theorem dX3_block_14 : decode cX3_block 14 = .ok (.iload_n 2, 1) := by decide +kernel
theorem dX3_block_15 : decode cX3_block 15 = .ok (.iconst 3, 1) := by decide +kernel
theorem dX3_block_16 : decode cX3_block 16 = .ok (.if_icmp .le 5, 3) := by decide +kernel
theorem dX3_block_19 : decode cX3_block 19 = .ok (.iconst (-1), 1) := by decide +kernel
theorem dX3_block_20 : decode cX3_block 20 = .ok (.ireturn, 1) := by decide +kernel
theorem dX3_block_21 : decode cX3_block 21 = .ok (.aload_n 0, 1) := by decide +kernel
theorem dX3_block_22 : decode cX3_block 22 = .ok (.getfield 10, 3) := by decide +kernel
theorem dX3_block_25 : decode cX3_block 25 = .ok (.iload_n 1, 1) := by decide +kernel
theorem dX3_block_26 : decode cX3_block 26 = .ok (.invokevirtual 135, 3) := by decide +kernel
theorem dX3_block_29 : decode cX3_block 29 = .ok (.ifCond .ne 6, 3) := by decide +kernel
theorem dX3_block_32 : decode cX3_block 32 = .ok (.bipush (-9), 2) := by decide +kernel
theorem dX3_block_34 : decode cX3_block 34 = .ok (.ireturn, 1) := by decide +kernel
theorem dX3_block_35 : decode cX3_block 35 = .ok (.iload_n 2, 1) := by decide +kernel
theorem dX3_block_36 : decode cX3_block 36 = .ok (.tableswitch 58 0 2 #[28, 38, 48], 28) := by decide +kernel
theorem dX3_block_64 : decode cX3_block 64 = .ok (.aload_n 0, 1) := by decide +kernel
theorem dX3_block_65 : decode cX3_block 65 = .ok (.getfield 10, 3) := by decide +kernel
theorem dX3_block_68 : decode cX3_block 68 = .ok (.getfield 138, 3) := by decide +kernel
theorem dX3_block_71 : decode cX3_block 71 = .ok (.iload_n 1, 1) := by decide +kernel
theorem dX3_block_72 : decode cX3_block 72 = .ok (.iaload, 1) := by decide +kernel
theorem dX3_block_73 : decode cX3_block 73 = .ok (.ireturn, 1) := by decide +kernel
theorem dX3_block_74 : decode cX3_block 74 = .ok (.aload_n 0, 1) := by decide +kernel
theorem dX3_block_75 : decode cX3_block 75 = .ok (.getfield 10, 3) := by decide +kernel
theorem dX3_block_78 : decode cX3_block 78 = .ok (.getfield 142, 3) := by decide +kernel
theorem dX3_block_81 : decode cX3_block 81 = .ok (.iload_n 1, 1) := by decide +kernel
theorem dX3_block_82 : decode cX3_block 82 = .ok (.iaload, 1) := by decide +kernel
theorem dX3_block_83 : decode cX3_block 83 = .ok (.ireturn, 1) := by decide +kernel
theorem dX3_block_84 : decode cX3_block 84 = .ok (.aload_n 0, 1) := by decide +kernel
theorem dX3_block_85 : decode cX3_block 85 = .ok (.getfield 10, 3) := by decide +kernel
theorem dX3_block_88 : decode cX3_block 88 = .ok (.iload_n 1, 1) := by decide +kernel
theorem dX3_block_89 : decode cX3_block 89 = .ok (.iconst 1, 1) := by decide +kernel
theorem dX3_block_90 : decode cX3_block 90 = .ok (.invokevirtual 145, 3) := by decide +kernel
theorem dX3_block_93 : decode cX3_block 93 = .ok (.ireturn, 1) := by decide +kernel
theorem dX3_block_94 : decode cX3_block 94 = .ok (.aload_n 0, 1) := by decide +kernel
theorem dX3_block_95 : decode cX3_block 95 = .ok (.getfield 10, 3) := by decide +kernel
theorem dX3_block_98 : decode cX3_block 98 = .ok (.iload_n 1, 1) := by decide +kernel
theorem dX3_block_99 : decode cX3_block 99 = .ok (.iconst 3, 1) := by decide +kernel
theorem dX3_block_100 : decode cX3_block 100 = .ok (.invokevirtual 145, 3) := by decide +kernel
theorem dX3_block_103 : decode cX3_block 103 = .ok (.ireturn, 1) := by decide +kernel
set_option maxRecDepth 20000 in
theorem ggX3_audit_X2_rightSummary : GoodIn wsX3_audit wsX2_rightSummary := goodIn_r _ [6, 7, 8, 9, 5, 10, 11, 29, 30, 31, 32, 33] (by decide +kernel) (by decide +kernel)
set_option maxRecDepth 20000 in
theorem gX3_audit_X2_rightSummary : GoodIn wsX3_audit (wsV RX3 103 RX2 yX2_rightSummary wsX2_rightSummary) := goodIn_app (goodIn_of _ (by decide +kernel)) ggX3_audit_X2_rightSummary
set_option maxRecDepth 20000 in
theorem ggX3_audit_J6_bitCount_0f7a4 : GoodIn wsX3_audit wsJ6_bitCount_0f7a4 := goodIn_r _ [15, 16, 17, 18] (by decide +kernel) (by decide +kernel)
set_option maxRecDepth 20000 in
theorem gX3_audit_J6_bitCount_0f7a4 : GoodIn wsX3_audit (va_wsS RX3 98 yJ6_bitCount_0f7a4 wsJ6_bitCount_0f7a4) := goodIn_app (goodIn_of _ (by decide +kernel)) ggX3_audit_J6_bitCount_0f7a4
set_option maxRecDepth 20000 in
theorem ggX3_audit_X3_lowestBit : GoodIn wsX3_audit wsX3_lowestBit := goodIn_r _ [22, 12, 13, 14, 15, 16, 17, 18] (by decide +kernel) (by decide +kernel)
set_option maxRecDepth 20000 in
theorem gX3_audit_X3_lowestBit : GoodIn wsX3_audit (va_wsS RX3 148 yX3_lowestBit wsX3_lowestBit) := goodIn_app (goodIn_of _ (by decide +kernel)) ggX3_audit_X3_lowestBit
theorem dX3_audit_0 : decode cX3_audit 0 = .ok (.aload_n 0, 1) := by decide +kernel
theorem dX3_audit_1 : decode cX3_audit 1 = .ok (.getfield 10, 3) := by decide +kernel
theorem dX3_audit_4 : decode cX3_audit 4 = .ok (.getfield 95, 3) := by decide +kernel
theorem dX3_audit_7 : decode cX3_audit 7 = .ok (.aload_n 0, 1) := by decide +kernel
theorem dX3_audit_8 : decode cX3_audit 8 = .ok (.getfield 10, 3) := by decide +kernel
theorem dX3_audit_11 : decode cX3_audit 11 = .ok (.invokevirtual 103, 3) := by decide +kernel
theorem dX3_audit_14 : decode cX3_audit 14 = .ok (.ixor, 1) := by decide +kernel
theorem dX3_audit_15 : decode cX3_audit 15 = .ok (.istore_n 2, 1) := by decide +kernel
theorem dX3_audit_16 : decode cX3_audit 16 = .ok (.iload_n 1, 1) := by decide +kernel
theorem dX3_audit_17 : decode cX3_audit 17 = .ok (.tableswitch 59 0 2 #[27, 32, 46], 27) := by decide +kernel
theorem dX3_audit_44 : decode cX3_audit 44 = .ok (.iload_n 2, 1) := by decide +kernel
theorem dX3_audit_45 : decode cX3_audit 45 = .ok (.invokestatic 98, 3) := by decide +kernel
theorem dX3_audit_48 : decode cX3_audit 48 = .ok (.ireturn, 1) := by decide +kernel
theorem dX3_audit_49 : decode cX3_audit 49 = .ok (.iload_n 2, 1) := by decide +kernel
theorem dX3_audit_50 : decode cX3_audit 50 = .ok (.ifCond .ne 8, 3) := by decide +kernel
theorem dX3_audit_53 : decode cX3_audit 53 = .ok (.bipush (-9), 2) := by decide +kernel
theorem dX3_audit_55 : decode cX3_audit 55 = .ok (.goto 7, 3) := by decide +kernel
theorem dX3_audit_58 : decode cX3_audit 58 = .ok (.iload_n 2, 1) := by decide +kernel
theorem dX3_audit_59 : decode cX3_audit 59 = .ok (.invokestatic 148, 3) := by decide +kernel
theorem dX3_audit_62 : decode cX3_audit 62 = .ok (.ireturn, 1) := by decide +kernel
theorem dX3_audit_63 : decode cX3_audit 63 = .ok (.iload_n 2, 1) := by decide +kernel
theorem dX3_audit_64 : decode cX3_audit 64 = .ok (.aload_n 0, 1) := by decide +kernel
theorem dX3_audit_65 : decode cX3_audit 65 = .ok (.getfield 10, 3) := by decide +kernel
theorem dX3_audit_68 : decode cX3_audit 68 = .ok (.getfield 95, 3) := by decide +kernel
theorem dX3_audit_71 : decode cX3_audit 71 = .ok (.iand, 1) := by decide +kernel
theorem dX3_audit_72 : decode cX3_audit 72 = .ok (.invokestatic 98, 3) := by decide +kernel
theorem dX3_audit_75 : decode cX3_audit 75 = .ok (.ireturn, 1) := by decide +kernel
theorem dX3_audit_76 : decode cX3_audit 76 = .ok (.iconst (-1), 1) := by decide +kernel
theorem dX3_audit_77 : decode cX3_audit 77 = .ok (.ireturn, 1) := by decide +kernel
set_option maxRecDepth 20000 in
theorem ggX3_next_X2_copyFrom : GoodIn wsX3_next wsX2_copyFrom := goodIn_r _ [7, 8, 9, 10, 11, 12, 13, 14, 15, 16, 64, 65, 66, 67, 68] (by decide +kernel) (by decide +kernel)
set_option maxRecDepth 20000 in
theorem gX3_next_X2_copyFrom : GoodIn wsX3_next (wsV RX3 151 RX2 yX2_copyFrom wsX2_copyFrom) := goodIn_app (goodIn_of _ (by decide +kernel)) ggX3_next_X2_copyFrom
set_option maxRecDepth 20000 in
theorem ggX3_next_X2_takeOne : GoodIn wsX3_next wsX2_takeOne := goodIn_r _ [20, 21, 22, 23, 6, 24, 16, 8, 15, 25, 26, 27, 28, 29, 30, 31, 32, 33, 34, 35, 36, 37, 38, 39, 40, 41, 42, 43, 44, 45, 46, 47, 48, 49, 50, 51, 52, 53, 64, 65, 66, 67, 68] (by decide +kernel) (by decide +kernel)
set_option maxRecDepth 20000 in
theorem gX3_next_X2_takeOne : GoodIn wsX3_next (wsV RX3 45 RX2 yX2_takeOne wsX2_takeOne) := goodIn_app (goodIn_of _ (by decide +kernel)) ggX3_next_X2_takeOne
set_option maxRecDepth 20000 in
theorem ggX3_next_X2_total : GoodIn wsX3_next wsX2_total := goodIn_r _ [57, 8, 53, 37, 38, 39, 40, 41, 42, 64, 65, 66, 67, 68] (by decide +kernel) (by decide +kernel)
set_option maxRecDepth 20000 in
theorem gX3_next_X2_total : GoodIn wsX3_next (wsV RX3 86 RX2 yX2_total wsX2_total) := goodIn_app (goodIn_of _ (by decide +kernel)) ggX3_next_X2_total
theorem dX3_next_0 : decode cX3_next 0 = .ok (.iload_n 1, 1) := by decide +kernel
theorem dX3_next_1 : decode cX3_next 1 = .ok (.ifCond .lt 8, 3) := by decide +kernel
theorem dX3_next_4 : decode cX3_next 4 = .ok (.iload_n 1, 1) := by decide +kernel
theorem dX3_next_5 : decode cX3_next 5 = .ok (.iconst 2, 1) := by decide +kernel
theorem dX3_next_6 : decode cX3_next 6 = .ok (.if_icmp .le 5, 3) := by decide +kernel
theorem dX3_next_9 : decode cX3_next 9 = .ok (.iconst (-1), 1) := by decide +kernel
theorem dX3_next_10 : decode cX3_next 10 = .ok (.ireturn, 1) := by decide +kernel
theorem dX3_next_11 : decode cX3_next 11 = .ok (.aload_n 0, 1) := by decide +kernel
theorem dX3_next_12 : decode cX3_next 12 = .ok (.getfield 16, 3) := by decide +kernel
theorem dX3_next_15 : decode cX3_next 15 = .ok (.aload_n 0, 1) := by decide +kernel
theorem dX3_next_16 : decode cX3_next 16 = .ok (.getfield 10, 3) := by decide +kernel
theorem dX3_next_19 : decode cX3_next 19 = .ok (.invokevirtual 151, 3) := by decide +kernel
theorem dX3_next_22 : decode cX3_next 22 = .ok (.aload_n 0, 1) := by decide +kernel
theorem dX3_next_23 : decode cX3_next 23 = .ok (.getfield 16, 3) := by decide +kernel
theorem dX3_next_26 : decode cX3_next 26 = .ok (.invokevirtual 45, 3) := by decide +kernel
theorem dX3_next_29 : decode cX3_next 29 = .ok (.istore_n 2, 1) := by decide +kernel
theorem dX3_next_30 : decode cX3_next 30 = .ok (.iload_n 2, 1) := by decide +kernel
theorem dX3_next_31 : decode cX3_next 31 = .ok (.ifCond .ge 6, 3) := by decide +kernel
theorem dX3_next_34 : decode cX3_next 34 = .ok (.bipush (-9), 2) := by decide +kernel
theorem dX3_next_36 : decode cX3_next 36 = .ok (.ireturn, 1) := by decide +kernel
theorem dX3_next_37 : decode cX3_next 37 = .ok (.iload_n 1, 1) := by decide +kernel
theorem dX3_next_38 : decode cX3_next 38 = .ok (.lookupswitch 44 #[(0, 26), (1, 28)], 26) := by decide +kernel
theorem dX3_next_64 : decode cX3_next 64 = .ok (.iload_n 2, 1) := by decide +kernel
theorem dX3_next_65 : decode cX3_next 65 = .ok (.ireturn, 1) := by decide +kernel
theorem dX3_next_66 : decode cX3_next 66 = .ok (.aload_n 0, 1) := by decide +kernel
theorem dX3_next_67 : decode cX3_next 67 = .ok (.getfield 16, 3) := by decide +kernel
theorem dX3_next_70 : decode cX3_next 70 = .ok (.getfield 92, 3) := by decide +kernel
theorem dX3_next_73 : decode cX3_next 73 = .ok (.aload_n 0, 1) := by decide +kernel
theorem dX3_next_74 : decode cX3_next 74 = .ok (.getfield 10, 3) := by decide +kernel
theorem dX3_next_77 : decode cX3_next 77 = .ok (.getfield 92, 3) := by decide +kernel
theorem dX3_next_80 : decode cX3_next 80 = .ok (.isub, 1) := by decide +kernel
theorem dX3_next_81 : decode cX3_next 81 = .ok (.ireturn, 1) := by decide +kernel
theorem dX3_next_82 : decode cX3_next 82 = .ok (.aload_n 0, 1) := by decide +kernel
theorem dX3_next_83 : decode cX3_next 83 = .ok (.getfield 16, 3) := by decide +kernel
theorem dX3_next_86 : decode cX3_next 86 = .ok (.iconst 2, 1) := by decide +kernel
theorem dX3_next_87 : decode cX3_next 87 = .ok (.invokevirtual 86, 3) := by decide +kernel
theorem dX3_next_90 : decode cX3_next 90 = .ok (.aload_n 0, 1) := by decide +kernel
theorem dX3_next_91 : decode cX3_next 91 = .ok (.getfield 10, 3) := by decide +kernel
theorem dX3_next_94 : decode cX3_next 94 = .ok (.iconst 2, 1) := by decide +kernel
theorem dX3_next_95 : decode cX3_next 95 = .ok (.invokevirtual 86, 3) := by decide +kernel
theorem dX3_next_98 : decode cX3_next 98 = .ok (.if_icmp .ge 7, 3) := by decide +kernel
theorem dX3_next_101 : decode cX3_next 101 = .ok (.iconst 1, 1) := by decide +kernel
theorem dX3_next_102 : decode cX3_next 102 = .ok (.goto 4, 3) := by decide +kernel
theorem dX3_next_105 : decode cX3_next 105 = .ok (.iconst 0, 1) := by decide +kernel
theorem dX3_next_106 : decode cX3_next 106 = .ok (.ireturn, 1) := by decide +kernel
set_option maxRecDepth 20000 in
theorem ggX3_runAt_X3_isRunLength : GoodIn wsX3_runAt wsX3_isRunLength := goodIn_r _ [5] (by decide +kernel) (by decide +kernel)
set_option maxRecDepth 20000 in
theorem gX3_runAt_X3_isRunLength : GoodIn wsX3_runAt (va_wsS RX3 154 yX3_isRunLength wsX3_isRunLength) := goodIn_app (goodIn_of _ (by decide +kernel)) ggX3_runAt_X3_isRunLength
set_option maxRecDepth 20000 in
theorem ggX3_runAt_X2_runStart : GoodIn wsX3_runAt wsX2_runStart := goodIn_r _ [10, 11, 12, 13, 9, 14, 15, 16, 4, 17, 18, 19, 26, 27, 28, 29, 30] (by decide +kernel) (by decide +kernel)
set_option maxRecDepth 20000 in
theorem gX3_runAt_X2_runStart : GoodIn wsX3_runAt (wsV RX3 157 RX2 yX2_runStart wsX2_runStart) := goodIn_app (goodIn_of _ (by decide +kernel)) ggX3_runAt_X2_runStart
theorem dX3_runAt_0 : decode cX3_runAt 0 = .ok (.iload_n 1, 1) := by decide +kernel
theorem dX3_runAt_1 : decode cX3_runAt 1 = .ok (.invokestatic 154, 3) := by decide +kernel
theorem dX3_runAt_4 : decode cX3_runAt 4 = .ok (.ifCond .eq 14, 3) := by decide +kernel
theorem dX3_runAt_7 : decode cX3_runAt 7 = .ok (.aload_n 0, 1) := by decide +kernel
theorem dX3_runAt_8 : decode cX3_runAt 8 = .ok (.getfield 10, 3) := by decide +kernel
theorem dX3_runAt_11 : decode cX3_runAt 11 = .ok (.iload_n 1, 1) := by decide +kernel
theorem dX3_runAt_12 : decode cX3_runAt 12 = .ok (.invokevirtual 157, 3) := by decide +kernel
theorem dX3_runAt_15 : decode cX3_runAt 15 = .ok (.goto 4, 3) := by decide +kernel
theorem dX3_runAt_18 : decode cX3_runAt 18 = .ok (.iconst (-1), 1) := by decide +kernel
theorem dX3_runAt_19 : decode cX3_runAt 19 = .ok (.ireturn, 1) := by decide +kernel
set_option maxRecDepth 20000 in
theorem ggX3_placeFor_X3_isBlockSize : GoodIn wsX3_placeFor wsX3_isBlockSize := goodIn_r _ [5] (by decide +kernel) (by decide +kernel)
set_option maxRecDepth 20000 in
theorem gX3_placeFor_X3_isBlockSize : GoodIn wsX3_placeFor (va_wsS RX3 160 yX3_isBlockSize wsX3_isBlockSize) := goodIn_app (goodIn_of _ (by decide +kernel)) ggX3_placeFor_X3_isBlockSize
set_option maxRecDepth 20000 in
theorem ggX3_placeFor_X2_placeStart : GoodIn wsX3_placeFor wsX2_placeStart := goodIn_r _ [10, 11, 12, 4, 13, 14, 15, 16, 17, 18, 19, 20, 21, 22, 29, 30, 31, 32, 33] (by decide +kernel) (by decide +kernel)
set_option maxRecDepth 20000 in
theorem gX3_placeFor_X2_placeStart : GoodIn wsX3_placeFor (wsV RX3 163 RX2 yX2_placeStart wsX2_placeStart) := goodIn_app (goodIn_of _ (by decide +kernel)) ggX3_placeFor_X2_placeStart
theorem dX3_placeFor_0 : decode cX3_placeFor 0 = .ok (.iload_n 1, 1) := by decide +kernel
theorem dX3_placeFor_1 : decode cX3_placeFor 1 = .ok (.invokestatic 160, 3) := by decide +kernel
theorem dX3_placeFor_4 : decode cX3_placeFor 4 = .ok (.ifCond .eq 14, 3) := by decide +kernel
theorem dX3_placeFor_7 : decode cX3_placeFor 7 = .ok (.aload_n 0, 1) := by decide +kernel
theorem dX3_placeFor_8 : decode cX3_placeFor 8 = .ok (.getfield 10, 3) := by decide +kernel
theorem dX3_placeFor_11 : decode cX3_placeFor 11 = .ok (.iload_n 1, 1) := by decide +kernel
theorem dX3_placeFor_12 : decode cX3_placeFor 12 = .ok (.invokevirtual 163, 3) := by decide +kernel
theorem dX3_placeFor_15 : decode cX3_placeFor 15 = .ok (.goto 4, 3) := by decide +kernel
theorem dX3_placeFor_18 : decode cX3_placeFor 18 = .ok (.iconst (-1), 1) := by decide +kernel
theorem dX3_placeFor_19 : decode cX3_placeFor 19 = .ok (.ireturn, 1) := by decide +kernel
set_option maxRecDepth 20000 in
theorem ggX3_takes_X2_reachable : GoodIn wsX3_takes wsX2_reachable := goodIn_r _ [6, 7, 8, 9, 10, 5, 11, 12, 13, 14, 15, 16, 17, 18, 19, 26, 27, 28, 29, 30] (by decide +kernel) (by decide +kernel)
set_option maxRecDepth 20000 in
theorem gX3_takes_X2_reachable : GoodIn wsX3_takes (wsV RX3 166 RX2 yX2_reachable wsX2_reachable) := goodIn_app (goodIn_of _ (by decide +kernel)) ggX3_takes_X2_reachable
theorem dX3_takes_0 : decode cX3_takes 0 = .ok (.aload_n 0, 1) := by decide +kernel
theorem dX3_takes_1 : decode cX3_takes 1 = .ok (.getfield 10, 3) := by decide +kernel
theorem dX3_takes_4 : decode cX3_takes 4 = .ok (.invokevirtual 166, 3) := by decide +kernel
theorem dX3_takes_7 : decode cX3_takes 7 = .ok (.ireturn, 1) := by decide +kernel
set_option maxRecDepth 20000 in
theorem ggX3_settle_X0_takeBack : GoodIn wsX3_settle wsX0_takeBack := goodIn_r _ [7, 8, 9, 10, 11, 6, 12, 13, 14, 15, 16, 17, 18, 19, 20, 21, 22, 23, 24, 25, 26, 27, 28, 39, 40, 41, 42, 43, 44, 45, 46] (by decide +kernel) (by decide +kernel)
set_option maxRecDepth 20000 in
theorem gX3_settle_X0_takeBack : GoodIn wsX3_settle (wsV RX3 169 RX0 yX0_takeBack wsX0_takeBack) := goodIn_app (goodIn_of _ (by decide +kernel)) ggX3_settle_X0_takeBack
set_option maxRecDepth 20000 in
theorem ggX3_settle_X0_keep : GoodIn wsX3_settle wsX0_keep := goodIn_r _ [32, 14, 13, 39, 40, 41] (by decide +kernel) (by decide +kernel)
set_option maxRecDepth 20000 in
theorem gX3_settle_X0_keep : GoodIn wsX3_settle (wsV RX3 172 RX0 yX0_keep wsX0_keep) := goodIn_app (goodIn_of _ (by decide +kernel)) ggX3_settle_X0_keep
theorem dX3_settle_0 : decode cX3_settle 0 = .ok (.iload_n 1, 1) := by decide +kernel
theorem dX3_settle_1 : decode cX3_settle 1 = .ok (.ifCond .ge 17, 3) := by decide +kernel
theorem dX3_settle_4 : decode cX3_settle 4 = .ok (.aload_n 0, 1) := by decide +kernel
theorem dX3_settle_5 : decode cX3_settle 5 = .ok (.getfield 22, 3) := by decide +kernel
theorem dX3_settle_8 : decode cX3_settle 8 = .ok (.aload_n 0, 1) := by decide +kernel
theorem dX3_settle_9 : decode cX3_settle 9 = .ok (.getfield 10, 3) := by decide +kernel
theorem dX3_settle_12 : decode cX3_settle 12 = .ok (.invokevirtual 169, 3) := by decide +kernel
theorem dX3_settle_15 : decode cX3_settle 15 = .ok (.goto 10, 3) := by decide +kernel
theorem dX3_settle_18 : decode cX3_settle 18 = .ok (.aload_n 0, 1) := by decide +kernel
theorem dX3_settle_19 : decode cX3_settle 19 = .ok (.getfield 22, 3) := by decide +kernel
theorem dX3_settle_22 : decode cX3_settle 22 = .ok (.invokevirtual 172, 3) := by decide +kernel
theorem dX3_settle_25 : decode cX3_settle 25 = .ok (.iload_n 1, 1) := by decide +kernel
theorem dX3_settle_26 : decode cX3_settle 26 = .ok (.ireturn, 1) := by decide +kernel
theorem dX3_isRunLength_0 : decode cX3_isRunLength 0 = .ok (.iload_n 0, 1) := by decide +kernel
theorem dX3_isRunLength_1 : decode cX3_isRunLength 1 = .ok (.iconst 1, 1) := by decide +kernel
theorem dX3_isRunLength_2 : decode cX3_isRunLength 2 = .ok (.if_icmp .lt 13, 3) := by decide +kernel
theorem dX3_isRunLength_5 : decode cX3_isRunLength 5 = .ok (.iload_n 0, 1) := by decide +kernel
theorem dX3_isRunLength_6 : decode cX3_isRunLength 6 = .ok (.bipush 64, 2) := by decide +kernel
theorem dX3_isRunLength_8 : decode cX3_isRunLength 8 = .ok (.if_icmp .gt 7, 3) := by decide +kernel
theorem dX3_isRunLength_11 : decode cX3_isRunLength 11 = .ok (.iconst 1, 1) := by decide +kernel
theorem dX3_isRunLength_12 : decode cX3_isRunLength 12 = .ok (.goto 4, 3) := by decide +kernel
theorem dX3_isRunLength_15 : decode cX3_isRunLength 15 = .ok (.iconst 0, 1) := by decide +kernel
theorem dX3_isRunLength_16 : decode cX3_isRunLength 16 = .ok (.ireturn, 1) := by decide +kernel
theorem dX3_isBlockSize_0 : decode cX3_isBlockSize 0 = .ok (.iload_n 0, 1) := by decide +kernel
theorem dX3_isBlockSize_1 : decode cX3_isBlockSize 1 = .ok (.iconst 4, 1) := by decide +kernel
theorem dX3_isBlockSize_2 : decode cX3_isBlockSize 2 = .ok (.if_icmp .eq 21, 3) := by decide +kernel
theorem dX3_isBlockSize_5 : decode cX3_isBlockSize 5 = .ok (.iload_n 0, 1) := by decide +kernel
theorem dX3_isBlockSize_6 : decode cX3_isBlockSize 6 = .ok (.bipush 8, 2) := by decide +kernel
theorem dX3_isBlockSize_8 : decode cX3_isBlockSize 8 = .ok (.if_icmp .eq 15, 3) := by decide +kernel
theorem dX3_isBlockSize_11 : decode cX3_isBlockSize 11 = .ok (.iload_n 0, 1) := by decide +kernel
theorem dX3_isBlockSize_12 : decode cX3_isBlockSize 12 = .ok (.bipush 16, 2) := by decide +kernel
theorem dX3_isBlockSize_14 : decode cX3_isBlockSize 14 = .ok (.if_icmp .eq 9, 3) := by decide +kernel
theorem dX3_isBlockSize_17 : decode cX3_isBlockSize 17 = .ok (.iload_n 0, 1) := by decide +kernel
theorem dX3_isBlockSize_18 : decode cX3_isBlockSize 18 = .ok (.bipush 32, 2) := by decide +kernel
theorem dX3_isBlockSize_20 : decode cX3_isBlockSize 20 = .ok (.if_icmp .ne 7, 3) := by decide +kernel
theorem dX3_isBlockSize_23 : decode cX3_isBlockSize 23 = .ok (.iconst 1, 1) := by decide +kernel
theorem dX3_isBlockSize_24 : decode cX3_isBlockSize 24 = .ok (.goto 4, 3) := by decide +kernel
theorem dX3_isBlockSize_27 : decode cX3_isBlockSize 27 = .ok (.iconst 0, 1) := by decide +kernel
theorem dX3_isBlockSize_28 : decode cX3_isBlockSize 28 = .ok (.ireturn, 1) := by decide +kernel
theorem dX3_wordOf_0 : decode cX3_wordOf 0 = .ok (.iload_n 0, 1) := by decide +kernel
theorem dX3_wordOf_1 : decode cX3_wordOf 1 = .ok (.bipush 32, 2) := by decide +kernel
theorem dX3_wordOf_3 : decode cX3_wordOf 3 = .ok (.idiv, 1) := by decide +kernel
theorem dX3_wordOf_4 : decode cX3_wordOf 4 = .ok (.ireturn, 1) := by decide +kernel
theorem dX3_bitOf_0 : decode cX3_bitOf 0 = .ok (.iconst 1, 1) := by decide +kernel
theorem dX3_bitOf_1 : decode cX3_bitOf 1 = .ok (.iload_n 0, 1) := by decide +kernel
theorem dX3_bitOf_2 : decode cX3_bitOf 2 = .ok (.bipush 32, 2) := by decide +kernel
theorem dX3_bitOf_4 : decode cX3_bitOf 4 = .ok (.irem, 1) := by decide +kernel
theorem dX3_bitOf_5 : decode cX3_bitOf 5 = .ok (.ishl, 1) := by decide +kernel
theorem dX3_bitOf_6 : decode cX3_bitOf 6 = .ok (.ireturn, 1) := by decide +kernel
set_option maxRecDepth 20000 in
theorem ggX3_lowestBit_J6_bitCount_0f7a4 : GoodIn wsX3_lowestBit wsJ6_bitCount_0f7a4 := goodIn_r _ [4, 5, 6, 7] (by decide +kernel) (by decide +kernel)
set_option maxRecDepth 20000 in
theorem gX3_lowestBit_J6_bitCount_0f7a4 : GoodIn wsX3_lowestBit (va_wsS RX3 98 yJ6_bitCount_0f7a4 wsJ6_bitCount_0f7a4) := goodIn_app (goodIn_of _ (by decide +kernel)) ggX3_lowestBit_J6_bitCount_0f7a4
theorem dX3_lowestBit_0 : decode cX3_lowestBit 0 = .ok (.iload_n 0, 1) := by decide +kernel
theorem dX3_lowestBit_1 : decode cX3_lowestBit 1 = .ok (.iconst (-1), 1) := by decide +kernel
theorem dX3_lowestBit_2 : decode cX3_lowestBit 2 = .ok (.ixor, 1) := by decide +kernel
theorem dX3_lowestBit_3 : decode cX3_lowestBit 3 = .ok (.iload_n 0, 1) := by decide +kernel
theorem dX3_lowestBit_4 : decode cX3_lowestBit 4 = .ok (.iconst 1, 1) := by decide +kernel
theorem dX3_lowestBit_5 : decode cX3_lowestBit 5 = .ok (.isub, 1) := by decide +kernel
theorem dX3_lowestBit_6 : decode cX3_lowestBit 6 = .ok (.iand, 1) := by decide +kernel
theorem dX3_lowestBit_7 : decode cX3_lowestBit 7 = .ok (.invokestatic 98, 3) := by decide +kernel
theorem dX3_lowestBit_10 : decode cX3_lowestBit 10 = .ok (.ireturn, 1) := by decide +kernel
theorem dX3_rangeBits_0 : decode cX3_rangeBits 0 = .ok (.iload_n 1, 1) := by decide +kernel
theorem dX3_rangeBits_1 : decode cX3_rangeBits 1 = .ok (.iload_n 0, 1) := by decide +kernel
theorem dX3_rangeBits_2 : decode cX3_rangeBits 2 = .ok (.bipush 32, 2) := by decide +kernel
theorem dX3_rangeBits_4 : decode cX3_rangeBits 4 = .ok (.imul, 1) := by decide +kernel
theorem dX3_rangeBits_5 : decode cX3_rangeBits 5 = .ok (.isub, 1) := by decide +kernel
theorem dX3_rangeBits_6 : decode cX3_rangeBits 6 = .ok (.iconst 0, 1) := by decide +kernel
theorem dX3_rangeBits_7 : decode cX3_rangeBits 7 = .ok (.invokestatic 175, 3) := by decide +kernel
theorem dX3_rangeBits_10 : decode cX3_rangeBits 10 = .ok (.istore_n 3, 1) := by decide +kernel
theorem dX3_rangeBits_11 : decode cX3_rangeBits 11 = .ok (.iload_n 2, 1) := by decide +kernel
theorem dX3_rangeBits_12 : decode cX3_rangeBits 12 = .ok (.iload_n 0, 1) := by decide +kernel
theorem dX3_rangeBits_13 : decode cX3_rangeBits 13 = .ok (.bipush 32, 2) := by decide +kernel
theorem dX3_rangeBits_15 : decode cX3_rangeBits 15 = .ok (.imul, 1) := by decide +kernel
theorem dX3_rangeBits_16 : decode cX3_rangeBits 16 = .ok (.isub, 1) := by decide +kernel
theorem dX3_rangeBits_17 : decode cX3_rangeBits 17 = .ok (.bipush 31, 2) := by decide +kernel
theorem dX3_rangeBits_19 : decode cX3_rangeBits 19 = .ok (.invokestatic 180, 3) := by decide +kernel
theorem dX3_rangeBits_22 : decode cX3_rangeBits 22 = .ok (.istore 4, 2) := by decide +kernel
theorem dX3_rangeBits_24 : decode cX3_rangeBits 24 = .ok (.iload_n 3, 1) := by decide +kernel
theorem dX3_rangeBits_25 : decode cX3_rangeBits 25 = .ok (.iload 4, 2) := by decide +kernel
theorem dX3_rangeBits_27 : decode cX3_rangeBits 27 = .ok (.if_icmp .le 7, 3) := by decide +kernel
theorem dX3_rangeBits_30 : decode cX3_rangeBits 30 = .ok (.iconst 0, 1) := by decide +kernel
theorem dX3_rangeBits_31 : decode cX3_rangeBits 31 = .ok (.goto 14, 3) := by decide +kernel
theorem dX3_rangeBits_34 : decode cX3_rangeBits 34 = .ok (.iconst (-1), 1) := by decide +kernel
theorem dX3_rangeBits_35 : decode cX3_rangeBits 35 = .ok (.iload_n 3, 1) := by decide +kernel
theorem dX3_rangeBits_36 : decode cX3_rangeBits 36 = .ok (.ishl, 1) := by decide +kernel
theorem dX3_rangeBits_37 : decode cX3_rangeBits 37 = .ok (.iconst (-1), 1) := by decide +kernel
theorem dX3_rangeBits_38 : decode cX3_rangeBits 38 = .ok (.bipush 31, 2) := by decide +kernel
theorem dX3_rangeBits_40 : decode cX3_rangeBits 40 = .ok (.iload 4, 2) := by decide +kernel
theorem dX3_rangeBits_42 : decode cX3_rangeBits 42 = .ok (.isub, 1) := by decide +kernel
theorem dX3_rangeBits_43 : decode cX3_rangeBits 43 = .ok (.iushr, 1) := by decide +kernel
theorem dX3_rangeBits_44 : decode cX3_rangeBits 44 = .ok (.iand, 1) := by decide +kernel
theorem dX3_rangeBits_45 : decode cX3_rangeBits 45 = .ok (.ireturn, 1) := by decide +kernel
