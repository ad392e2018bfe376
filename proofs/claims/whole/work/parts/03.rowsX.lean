set_option maxRecDepth 20000 in
theorem ggX0_init_X5_init : GoodIn wsX0_init wsX5_init := goodIn_r _ [10, 11, 2, 3, 12, 13, 14, 15, 16, 17, 18, 19, 20, 21, 22, 23, 24, 27, 28, 29, 30, 31, 32, 33, 34, 35, 36, 37, 38, 39, 40, 41] (by decide +kernel) (by decide +kernel)
set_option maxRecDepth 20000 in
theorem gX0_init_X5_init : GoodIn wsX0_init (wsX5_init) := ggX0_init_X5_init
theorem dX0_init_0 : decode cX0_init 0 = .ok (.aload_n 0, 1) := by decide +kernel
theorem dX0_init_1 : decode cX0_init 1 = .ok (.invokespecial 3, 3) := by decide +kernel
theorem dX0_init_4 : decode cX0_init 4 = .ok (.aload_n 0, 1) := by decide +kernel
theorem dX0_init_5 : decode cX0_init 5 = .ok (.bipush 6, 2) := by decide +kernel
theorem dX0_init_7 : decode cX0_init 7 = .ok (.anewarray 9, 3) := by decide +kernel
theorem dX0_init_10 : decode cX0_init 10 = .ok (.putfield 11, 3) := by decide +kernel
theorem dX0_init_13 : decode cX0_init 13 = .ok (.iconst 0, 1) := by decide +kernel
theorem dX0_init_14 : decode cX0_init 14 = .ok (.istore_n 1, 1) := by decide +kernel
theorem dX0_init_15 : decode cX0_init 15 = .ok (.iload_n 1, 1) := by decide +kernel
theorem dX0_init_16 : decode cX0_init 16 = .ok (.bipush 6, 2) := by decide +kernel
theorem dX0_init_18 : decode cX0_init 18 = .ok (.if_icmp .ge 22, 3) := by decide +kernel
theorem dX0_init_21 : decode cX0_init 21 = .ok (.aload_n 0, 1) := by decide +kernel
theorem dX0_init_22 : decode cX0_init 22 = .ok (.getfield 11, 3) := by decide +kernel
theorem dX0_init_25 : decode cX0_init 25 = .ok (.iload_n 1, 1) := by decide +kernel
theorem dX0_init_26 : decode cX0_init 26 = .ok (.new 9, 3) := by decide +kernel
theorem dX0_init_29 : decode cX0_init 29 = .ok (.dup, 1) := by decide +kernel
theorem dX0_init_30 : decode cX0_init 30 = .ok (.invokespecial 17, 3) := by decide +kernel
theorem dX0_init_33 : decode cX0_init 33 = .ok (.aastore, 1) := by decide +kernel
theorem dX0_init_34 : decode cX0_init 34 = .ok (.iinc 1 1, 3) := by decide +kernel
theorem dX0_init_37 : decode cX0_init 37 = .ok (.goto (-22), 3) := by decide +kernel
theorem dX0_init_40 : decode cX0_init 40 = .ok (.return_, 1) := by decide +kernel
set_option maxRecDepth 20000 in
theorem ggX0_record_X0_dropOldest : GoodIn wsX0_record wsX0_dropOldest := goodIn_r _ [7, 2, 1, 33, 34] (by decide +kernel) (by decide +kernel)
set_option maxRecDepth 20000 in
theorem gX0_record_X0_dropOldest : GoodIn wsX0_record (wsV RX0 22 RX0 yX0_dropOldest wsX0_dropOldest) := goodIn_app (goodIn_of _ (by decide +kernel)) ggX0_record_X0_dropOldest
set_option maxRecDepth 20000 in
theorem ggX0_record_X5_copyFrom : GoodIn wsX0_record wsX5_copyFrom := goodIn_r _ [12, 13, 14, 15, 16, 17, 18, 19, 20, 21, 22, 23, 24, 25, 26, 27, 28, 29, 30, 31, 32, 35, 36, 37, 38, 39, 40, 41, 42, 43, 44, 45, 46, 47, 48, 49] (by decide +kernel) (by decide +kernel)
set_option maxRecDepth 20000 in
theorem gX0_record_X5_copyFrom : GoodIn wsX0_record (wsV RX0 25 RX5 yX5_copyFrom wsX5_copyFrom) := goodIn_app (goodIn_of _ (by decide +kernel)) ggX0_record_X5_copyFrom
theorem dX0_record_0 : decode cX0_record 0 = .ok (.aload_n 0, 1) := by decide +kernel
theorem dX0_record_1 : decode cX0_record 1 = .ok (.getfield 18, 3) := by decide +kernel
theorem dX0_record_4 : decode cX0_record 4 = .ok (.bipush 6, 2) := by decide +kernel
theorem dX0_record_6 : decode cX0_record 6 = .ok (.if_icmp .lt 7, 3) := by decide +kernel
theorem dX0_record_9 : decode cX0_record 9 = .ok (.aload_n 0, 1) := by decide +kernel
theorem dX0_record_10 : decode cX0_record 10 = .ok (.invokevirtual 22, 3) := by decide +kernel
theorem dX0_record_13 : decode cX0_record 13 = .ok (.aload_n 0, 1) := by decide +kernel
theorem dX0_record_14 : decode cX0_record 14 = .ok (.getfield 11, 3) := by decide +kernel
theorem dX0_record_17 : decode cX0_record 17 = .ok (.aload_n 0, 1) := by decide +kernel
theorem dX0_record_18 : decode cX0_record 18 = .ok (.getfield 18, 3) := by decide +kernel
theorem dX0_record_21 : decode cX0_record 21 = .ok (.aaload, 1) := by decide +kernel
theorem dX0_record_22 : decode cX0_record 22 = .ok (.aload_n 1, 1) := by decide +kernel
theorem dX0_record_23 : decode cX0_record 23 = .ok (.invokevirtual 25, 3) := by decide +kernel
theorem dX0_record_26 : decode cX0_record 26 = .ok (.aload_n 0, 1) := by decide +kernel
theorem dX0_record_27 : decode cX0_record 27 = .ok (.dup, 1) := by decide +kernel
theorem dX0_record_28 : decode cX0_record 28 = .ok (.getfield 18, 3) := by decide +kernel
theorem dX0_record_31 : decode cX0_record 31 = .ok (.iconst 1, 1) := by decide +kernel
theorem dX0_record_32 : decode cX0_record 32 = .ok (.iadd, 1) := by decide +kernel
theorem dX0_record_33 : decode cX0_record 33 = .ok (.putfield 18, 3) := by decide +kernel
theorem dX0_record_36 : decode cX0_record 36 = .ok (.return_, 1) := by decide +kernel
theorem dX0_dropOldest_0 : decode cX0_dropOldest 0 = .ok (.aload_n 0, 1) := by decide +kernel
theorem dX0_dropOldest_1 : decode cX0_dropOldest 1 = .ok (.getfield 11, 3) := by decide +kernel
theorem dX0_dropOldest_4 : decode cX0_dropOldest 4 = .ok (.iconst 0, 1) := by decide +kernel
theorem dX0_dropOldest_5 : decode cX0_dropOldest 5 = .ok (.aaload, 1) := by decide +kernel
theorem dX0_dropOldest_6 : decode cX0_dropOldest 6 = .ok (.astore_n 1, 1) := by decide +kernel
theorem dX0_dropOldest_7 : decode cX0_dropOldest 7 = .ok (.iconst 1, 1) := by decide +kernel
theorem dX0_dropOldest_8 : decode cX0_dropOldest 8 = .ok (.istore_n 2, 1) := by decide +kernel
theorem dX0_dropOldest_9 : decode cX0_dropOldest 9 = .ok (.iload_n 2, 1) := by decide +kernel
theorem dX0_dropOldest_10 : decode cX0_dropOldest 10 = .ok (.bipush 6, 2) := by decide +kernel
theorem dX0_dropOldest_12 : decode cX0_dropOldest 12 = .ok (.if_icmp .ge 23, 3) := by decide +kernel
theorem dX0_dropOldest_15 : decode cX0_dropOldest 15 = .ok (.aload_n 0, 1) := by decide +kernel
theorem dX0_dropOldest_16 : decode cX0_dropOldest 16 = .ok (.getfield 11, 3) := by decide +kernel
theorem dX0_dropOldest_19 : decode cX0_dropOldest 19 = .ok (.iload_n 2, 1) := by decide +kernel
theorem dX0_dropOldest_20 : decode cX0_dropOldest 20 = .ok (.iconst 1, 1) := by decide +kernel
theorem dX0_dropOldest_21 : decode cX0_dropOldest 21 = .ok (.isub, 1) := by decide +kernel
theorem dX0_dropOldest_22 : decode cX0_dropOldest 22 = .ok (.aload_n 0, 1) := by decide +kernel
theorem dX0_dropOldest_23 : decode cX0_dropOldest 23 = .ok (.getfield 11, 3) := by decide +kernel
theorem dX0_dropOldest_26 : decode cX0_dropOldest 26 = .ok (.iload_n 2, 1) := by decide +kernel
theorem dX0_dropOldest_27 : decode cX0_dropOldest 27 = .ok (.aaload, 1) := by decide +kernel
theorem dX0_dropOldest_28 : decode cX0_dropOldest 28 = .ok (.aastore, 1) := by decide +kernel
theorem dX0_dropOldest_29 : decode cX0_dropOldest 29 = .ok (.iinc 2 1, 3) := by decide +kernel
theorem dX0_dropOldest_32 : decode cX0_dropOldest 32 = .ok (.goto (-23), 3) := by decide +kernel
theorem dX0_dropOldest_35 : decode cX0_dropOldest 35 = .ok (.aload_n 0, 1) := by decide +kernel
theorem dX0_dropOldest_36 : decode cX0_dropOldest 36 = .ok (.getfield 11, 3) := by decide +kernel
theorem dX0_dropOldest_39 : decode cX0_dropOldest 39 = .ok (.iconst 5, 1) := by decide +kernel
theorem dX0_dropOldest_40 : decode cX0_dropOldest 40 = .ok (.aload_n 1, 1) := by decide +kernel
theorem dX0_dropOldest_41 : decode cX0_dropOldest 41 = .ok (.aastore, 1) := by decide +kernel
theorem dX0_dropOldest_42 : decode cX0_dropOldest 42 = .ok (.aload_n 0, 1) := by decide +kernel
theorem dX0_dropOldest_43 : decode cX0_dropOldest 43 = .ok (.iconst 5, 1) := by decide +kernel
theorem dX0_dropOldest_44 : decode cX0_dropOldest 44 = .ok (.putfield 18, 3) := by decide +kernel
theorem dX0_dropOldest_47 : decode cX0_dropOldest 47 = .ok (.return_, 1) := by decide +kernel
set_option maxRecDepth 20000 in
theorem ggX0_takeBack_X5_copyFrom : GoodIn wsX0_takeBack wsX5_copyFrom := goodIn_r _ [7, 8, 9, 10, 11, 12, 13, 14, 15, 16, 17, 18, 19, 20, 21, 22, 23, 24, 25, 26, 27, 30, 31, 32, 33, 34, 35, 36, 37, 38, 39, 40, 41, 42, 43, 44] (by decide +kernel) (by decide +kernel)
set_option maxRecDepth 20000 in
theorem gX0_takeBack_X5_copyFrom : GoodIn wsX0_takeBack (wsV RX0 25 RX5 yX5_copyFrom wsX5_copyFrom) := goodIn_app (goodIn_of _ (by decide +kernel)) ggX0_takeBack_X5_copyFrom
theorem dX0_takeBack_0 : decode cX0_takeBack 0 = .ok (.aload_n 0, 1) := by decide +kernel
theorem dX0_takeBack_1 : decode cX0_takeBack 1 = .ok (.getfield 18, 3) := by decide +kernel
theorem dX0_takeBack_4 : decode cX0_takeBack 4 = .ok (.ifCond .le 26, 3) := by decide +kernel
theorem dX0_takeBack_7 : decode cX0_takeBack 7 = .ok (.aload_n 0, 1) := by decide +kernel
theorem dX0_takeBack_8 : decode cX0_takeBack 8 = .ok (.dup, 1) := by decide +kernel
theorem dX0_takeBack_9 : decode cX0_takeBack 9 = .ok (.getfield 18, 3) := by decide +kernel
theorem dX0_takeBack_12 : decode cX0_takeBack 12 = .ok (.iconst 1, 1) := by decide +kernel
theorem dX0_takeBack_13 : decode cX0_takeBack 13 = .ok (.isub, 1) := by decide +kernel
theorem dX0_takeBack_14 : decode cX0_takeBack 14 = .ok (.putfield 18, 3) := by decide +kernel
theorem dX0_takeBack_17 : decode cX0_takeBack 17 = .ok (.aload_n 1, 1) := by decide +kernel
theorem dX0_takeBack_18 : decode cX0_takeBack 18 = .ok (.aload_n 0, 1) := by decide +kernel
theorem dX0_takeBack_19 : decode cX0_takeBack 19 = .ok (.getfield 11, 3) := by decide +kernel
theorem dX0_takeBack_22 : decode cX0_takeBack 22 = .ok (.aload_n 0, 1) := by decide +kernel
theorem dX0_takeBack_23 : decode cX0_takeBack 23 = .ok (.getfield 18, 3) := by decide +kernel
theorem dX0_takeBack_26 : decode cX0_takeBack 26 = .ok (.aaload, 1) := by decide +kernel
theorem dX0_takeBack_27 : decode cX0_takeBack 27 = .ok (.invokevirtual 25, 3) := by decide +kernel
theorem dX0_takeBack_30 : decode cX0_takeBack 30 = .ok (.return_, 1) := by decide +kernel
theorem dX1_init_0 : decode cX1_init 0 = .ok (.aload_n 0, 1) := by decide +kernel
theorem dX1_init_1 : decode cX1_init 1 = .ok (.invokespecial 3, 3) := by decide +kernel
theorem dX1_init_4 : decode cX1_init 4 = .ok (.aload_n 0, 1) := by decide +kernel
theorem dX1_init_5 : decode cX1_init 5 = .ok (.sipush 1024, 3) := by decide +kernel
theorem dX1_init_8 : decode cX1_init 8 = .ok (.newarray .int, 2) := by decide +kernel
theorem dX1_init_10 : decode cX1_init 10 = .ok (.putfield 9, 3) := by decide +kernel
theorem dX1_init_13 : decode cX1_init 13 = .ok (.aload_n 0, 1) := by decide +kernel
theorem dX1_init_14 : decode cX1_init 14 = .ok (.bipush 11, 2) := by decide +kernel
theorem dX1_init_16 : decode cX1_init 16 = .ok (.newarray .int, 2) := by decide +kernel
theorem dX1_init_18 : decode cX1_init 18 = .ok (.putfield 15, 3) := by decide +kernel
theorem dX1_init_21 : decode cX1_init 21 = .ok (.return_, 1) := by decide +kernel
set_option maxRecDepth 20000 in
theorem ggX1_follow_J7_fill_53178 : GoodIn wsX1_follow wsJ7_fill_53178 := goodIn_r _ [6] (by decide +kernel) (by decide +kernel)
set_option maxRecDepth 20000 in
theorem gX1_follow_J7_fill_53178 : GoodIn wsX1_follow (va_wsS RX1 18 yJ7_fill_53178 wsJ7_fill_53178) := goodIn_app (goodIn_of _ (by decide +kernel)) ggX1_follow_J7_fill_53178
set_option maxRecDepth 20000 in
theorem ggX1_follow_X5_allPiles : GoodIn wsX1_follow wsX5_allPiles := goodIn_r _ [11, 12, 95, 96, 97, 98, 99, 100, 101, 102, 103, 104] (by decide +kernel) (by decide +kernel)
set_option maxRecDepth 20000 in
theorem gX1_follow_X5_allPiles : GoodIn wsX1_follow (wsV RX1 24 RX5 yX5_allPiles wsX5_allPiles) := goodIn_app (goodIn_of _ (by decide +kernel)) ggX1_follow_X5_allPiles
set_option maxRecDepth 20000 in
theorem ggX1_follow_X1_goOnBehind : GoodIn wsX1_follow wsX1_goOnBehind := goodIn_r _ [17, 18, 19, 20, 21, 2, 1, 22, 23, 24, 10, 25, 12, 26, 27, 28, 29, 30, 31, 32, 33, 34, 35, 36, 37, 38, 39, 40, 41, 42, 43, 44, 45, 46, 47, 48, 49, 50, 51, 52, 8, 9, 11, 53, 54, 55, 56, 57, 58, 59, 60, 61, 62, 63, 64, 65, 66, 67, 68, 69, 70, 71, 72, 73, 74, 75, 76, 77, 78, 79, 80, 81, 82, 83, 84, 85, 86, 87, 88, 89, 90, 91, 92, 95, 96, 97, 98, 99, 100, 101, 102, 103, 104, 93, 94, 105, 106, 107, 108, 109] (by decide +kernel) (by decide +kernel)
set_option maxRecDepth 20000 in
theorem gX1_follow_X1_goOnBehind : GoodIn wsX1_follow (wsV RX1 30 RX1 yX1_goOnBehind wsX1_goOnBehind) := goodIn_app (goodIn_of _ (by decide +kernel)) ggX1_follow_X1_goOnBehind
theorem dX1_follow_0 : decode cX1_follow 0 = .ok (.aload_n 0, 1) := by decide +kernel
theorem dX1_follow_1 : decode cX1_follow 1 = .ok (.getfield 9, 3) := by decide +kernel
theorem dX1_follow_4 : decode cX1_follow 4 = .ok (.iconst 0, 1) := by decide +kernel
theorem dX1_follow_5 : decode cX1_follow 5 = .ok (.invokestatic 18, 3) := by decide +kernel
theorem dX1_follow_8 : decode cX1_follow 8 = .ok (.aload_n 0, 1) := by decide +kernel
theorem dX1_follow_9 : decode cX1_follow 9 = .ok (.getfield 15, 3) := by decide +kernel
theorem dX1_follow_12 : decode cX1_follow 12 = .ok (.iconst 0, 1) := by decide +kernel
theorem dX1_follow_13 : decode cX1_follow 13 = .ok (.invokestatic 18, 3) := by decide +kernel
theorem dX1_follow_16 : decode cX1_follow 16 = .ok (.aload_n 0, 1) := by decide +kernel
theorem dX1_follow_17 : decode cX1_follow 17 = .ok (.getfield 9, 3) := by decide +kernel
theorem dX1_follow_20 : decode cX1_follow 20 = .ok (.iconst 0, 1) := by decide +kernel
theorem dX1_follow_21 : decode cX1_follow 21 = .ok (.iconst 1, 1) := by decide +kernel
theorem dX1_follow_22 : decode cX1_follow 22 = .ok (.iastore, 1) := by decide +kernel
theorem dX1_follow_23 : decode cX1_follow 23 = .ok (.iconst 0, 1) := by decide +kernel
theorem dX1_follow_24 : decode cX1_follow 24 = .ok (.istore_n 2, 1) := by decide +kernel
theorem dX1_follow_25 : decode cX1_follow 25 = .ok (.iload_n 2, 1) := by decide +kernel
theorem dX1_follow_26 : decode cX1_follow 26 = .ok (.aload_n 1, 1) := by decide +kernel
theorem dX1_follow_27 : decode cX1_follow 27 = .ok (.invokevirtual 24, 3) := by decide +kernel
theorem dX1_follow_30 : decode cX1_follow 30 = .ok (.if_icmp .gt 24, 3) := by decide +kernel
theorem dX1_follow_33 : decode cX1_follow 33 = .ok (.aload_n 0, 1) := by decide +kernel
theorem dX1_follow_34 : decode cX1_follow 34 = .ok (.getfield 9, 3) := by decide +kernel
theorem dX1_follow_37 : decode cX1_follow 37 = .ok (.iload_n 2, 1) := by decide +kernel
theorem dX1_follow_38 : decode cX1_follow 38 = .ok (.iaload, 1) := by decide +kernel
theorem dX1_follow_39 : decode cX1_follow 39 = .ok (.ifCond .le 9, 3) := by decide +kernel
theorem dX1_follow_42 : decode cX1_follow 42 = .ok (.aload_n 0, 1) := by decide +kernel
theorem dX1_follow_43 : decode cX1_follow 43 = .ok (.iload_n 2, 1) := by decide +kernel
theorem dX1_follow_44 : decode cX1_follow 44 = .ok (.aload_n 1, 1) := by decide +kernel
theorem dX1_follow_45 : decode cX1_follow 45 = .ok (.invokevirtual 30, 3) := by decide +kernel
theorem dX1_follow_48 : decode cX1_follow 48 = .ok (.iinc 2 1, 3) := by decide +kernel
theorem dX1_follow_51 : decode cX1_follow 51 = .ok (.goto (-26), 3) := by decide +kernel
theorem dX1_follow_54 : decode cX1_follow 54 = .ok (.return_, 1) := by decide +kernel
set_option maxRecDepth 20000 in
theorem ggX1_goOnBehind_X5_riskBehind : GoodIn wsX1_goOnBehind wsX5_riskBehind := goodIn_r _ [11, 12, 13, 14, 15, 10, 16, 17, 18, 19, 20, 21, 22, 23, 24, 25, 26, 27, 28, 29, 30, 31, 32, 33, 34, 35, 36, 37, 38, 39, 40, 41, 42, 43, 44, 45, 46, 47, 48, 49, 50, 51, 52, 53, 54, 55, 56, 57, 58, 59, 60, 61, 62, 63, 64, 65, 66, 67, 68, 69, 70, 71, 72, 73, 74, 75, 76, 77, 78, 79, 83, 84, 85, 86, 87, 88, 89, 90, 91, 92, 95, 96, 97, 98, 99] (by decide +kernel) (by decide +kernel)
set_option maxRecDepth 20000 in
theorem gX1_goOnBehind_X5_riskBehind : GoodIn wsX1_goOnBehind (wsV RX1 38 RX5 yX5_riskBehind wsX5_riskBehind) := goodIn_app (goodIn_of _ (by decide +kernel)) ggX1_goOnBehind_X5_riskBehind
set_option maxRecDepth 20000 in
theorem ggX1_goOnBehind_J6_bitCount_0f7a4 : GoodIn wsX1_goOnBehind wsJ6_bitCount_0f7a4 := goodIn_r _ [70, 71, 72, 73] (by decide +kernel) (by decide +kernel)
set_option maxRecDepth 20000 in
theorem gX1_goOnBehind_J6_bitCount_0f7a4 : GoodIn wsX1_goOnBehind (va_wsS RX1 45 yJ6_bitCount_0f7a4 wsJ6_bitCount_0f7a4) := goodIn_app (goodIn_of _ (by decide +kernel)) ggX1_goOnBehind_J6_bitCount_0f7a4
set_option maxRecDepth 20000 in
theorem ggX1_goOnBehind_X6_factorial : GoodIn wsX1_goOnBehind wsX6_factorial := goodIn_r _ [82] (by decide +kernel) (by decide +kernel)
set_option maxRecDepth 20000 in
theorem gX1_goOnBehind_X6_factorial_n57 : GoodIn wsX1_goOnBehind (wsX6_factorial) := ggX1_goOnBehind_X6_factorial
set_option maxRecDepth 20000 in
theorem ggX1_goOnBehind_X6_has : GoodIn wsX1_goOnBehind wsX6_has := goodIn_r _ [25] (by decide +kernel) (by decide +kernel)
set_option maxRecDepth 20000 in
theorem gX1_goOnBehind_X6_has_n60 : GoodIn wsX1_goOnBehind (wsX6_has) := ggX1_goOnBehind_X6_has
theorem dX1_goOnBehind_0 : decode cX1_goOnBehind 0 = .ok (.aload_n 2, 1) := by decide +kernel
theorem dX1_goOnBehind_1 : decode cX1_goOnBehind 1 = .ok (.getfield 34, 3) := by decide +kernel
theorem dX1_goOnBehind_4 : decode cX1_goOnBehind 4 = .ok (.iload_n 1, 1) := by decide +kernel
theorem dX1_goOnBehind_5 : decode cX1_goOnBehind 5 = .ok (.ior, 1) := by decide +kernel
theorem dX1_goOnBehind_6 : decode cX1_goOnBehind 6 = .ok (.istore_n 3, 1) := by decide +kernel
theorem dX1_goOnBehind_7 : decode cX1_goOnBehind 7 = .ok (.aload_n 2, 1) := by decide +kernel
theorem dX1_goOnBehind_8 : decode cX1_goOnBehind 8 = .ok (.iload_n 3, 1) := by decide +kernel
theorem dX1_goOnBehind_9 : decode cX1_goOnBehind 9 = .ok (.iload_n 3, 1) := by decide +kernel
theorem dX1_goOnBehind_10 : decode cX1_goOnBehind 10 = .ok (.invokevirtual 38, 3) := by decide +kernel
theorem dX1_goOnBehind_13 : decode cX1_goOnBehind 13 = .ok (.aload_n 2, 1) := by decide +kernel
theorem dX1_goOnBehind_14 : decode cX1_goOnBehind 14 = .ok (.getfield 42, 3) := by decide +kernel
theorem dX1_goOnBehind_17 : decode cX1_goOnBehind 17 = .ok (.if_icmp .gt 46, 3) := by decide +kernel
theorem dX1_goOnBehind_20 : decode cX1_goOnBehind 20 = .ok (.iload_n 1, 1) := by decide +kernel
theorem dX1_goOnBehind_21 : decode cX1_goOnBehind 21 = .ok (.invokestatic 45, 3) := by decide +kernel
theorem dX1_goOnBehind_24 : decode cX1_goOnBehind 24 = .ok (.istore 4, 2) := by decide +kernel
theorem dX1_goOnBehind_26 : decode cX1_goOnBehind 26 = .ok (.aload_n 2, 1) := by decide +kernel
theorem dX1_goOnBehind_27 : decode cX1_goOnBehind 27 = .ok (.getfield 51, 3) := by decide +kernel
theorem dX1_goOnBehind_30 : decode cX1_goOnBehind 30 = .ok (.aload_n 2, 1) := by decide +kernel
theorem dX1_goOnBehind_31 : decode cX1_goOnBehind 31 = .ok (.getfield 54, 3) := by decide +kernel
theorem dX1_goOnBehind_34 : decode cX1_goOnBehind 34 = .ok (.isub, 1) := by decide +kernel
theorem dX1_goOnBehind_35 : decode cX1_goOnBehind 35 = .ok (.iload 4, 2) := by decide +kernel
theorem dX1_goOnBehind_37 : decode cX1_goOnBehind 37 = .ok (.isub, 1) := by decide +kernel
theorem dX1_goOnBehind_38 : decode cX1_goOnBehind 38 = .ok (.istore 5, 2) := by decide +kernel
theorem dX1_goOnBehind_40 : decode cX1_goOnBehind 40 = .ok (.aload_n 0, 1) := by decide +kernel
theorem dX1_goOnBehind_41 : decode cX1_goOnBehind 41 = .ok (.getfield 15, 3) := by decide +kernel
theorem dX1_goOnBehind_44 : decode cX1_goOnBehind 44 = .ok (.iload 4, 2) := by decide +kernel
theorem dX1_goOnBehind_46 : decode cX1_goOnBehind 46 = .ok (.dup2, 1) := by decide +kernel
theorem dX1_goOnBehind_47 : decode cX1_goOnBehind 47 = .ok (.iaload, 1) := by decide +kernel
theorem dX1_goOnBehind_48 : decode cX1_goOnBehind 48 = .ok (.aload_n 0, 1) := by decide +kernel
theorem dX1_goOnBehind_49 : decode cX1_goOnBehind 49 = .ok (.getfield 9, 3) := by decide +kernel
theorem dX1_goOnBehind_52 : decode cX1_goOnBehind 52 = .ok (.iload_n 1, 1) := by decide +kernel
theorem dX1_goOnBehind_53 : decode cX1_goOnBehind 53 = .ok (.iaload, 1) := by decide +kernel
theorem dX1_goOnBehind_54 : decode cX1_goOnBehind 54 = .ok (.iload 5, 2) := by decide +kernel
theorem dX1_goOnBehind_56 : decode cX1_goOnBehind 56 = .ok (.invokestatic 57, 3) := by decide +kernel
theorem dX1_goOnBehind_59 : decode cX1_goOnBehind 59 = .ok (.imul, 1) := by decide +kernel
theorem dX1_goOnBehind_60 : decode cX1_goOnBehind 60 = .ok (.iadd, 1) := by decide +kernel
theorem dX1_goOnBehind_61 : decode cX1_goOnBehind 61 = .ok (.iastore, 1) := by decide +kernel
theorem dX1_goOnBehind_62 : decode cX1_goOnBehind 62 = .ok (.return_, 1) := by decide +kernel
theorem dX1_goOnBehind_63 : decode cX1_goOnBehind 63 = .ok (.iconst 0, 1) := by decide +kernel
theorem dX1_goOnBehind_64 : decode cX1_goOnBehind 64 = .ok (.istore 4, 2) := by decide +kernel
theorem dX1_goOnBehind_66 : decode cX1_goOnBehind 66 = .ok (.iload 4, 2) := by decide +kernel
theorem dX1_goOnBehind_68 : decode cX1_goOnBehind 68 = .ok (.aload_n 2, 1) := by decide +kernel
theorem dX1_goOnBehind_69 : decode cX1_goOnBehind 69 = .ok (.getfield 51, 3) := by decide +kernel
theorem dX1_goOnBehind_72 : decode cX1_goOnBehind 72 = .ok (.if_icmp .ge 38, 3) := by decide +kernel
theorem dX1_goOnBehind_75 : decode cX1_goOnBehind 75 = .ok (.iload_n 3, 1) := by decide +kernel
theorem dX1_goOnBehind_76 : decode cX1_goOnBehind 76 = .ok (.iload 4, 2) := by decide +kernel
theorem dX1_goOnBehind_78 : decode cX1_goOnBehind 78 = .ok (.invokestatic 60, 3) := by decide +kernel
theorem dX1_goOnBehind_81 : decode cX1_goOnBehind 81 = .ok (.ifCond .ne 23, 3) := by decide +kernel
theorem dX1_goOnBehind_84 : decode cX1_goOnBehind 84 = .ok (.aload_n 0, 1) := by decide +kernel
theorem dX1_goOnBehind_85 : decode cX1_goOnBehind 85 = .ok (.getfield 9, 3) := by decide +kernel
theorem dX1_goOnBehind_88 : decode cX1_goOnBehind 88 = .ok (.iload_n 1, 1) := by decide +kernel
theorem dX1_goOnBehind_89 : decode cX1_goOnBehind 89 = .ok (.iconst 1, 1) := by decide +kernel
theorem dX1_goOnBehind_90 : decode cX1_goOnBehind 90 = .ok (.iload 4, 2) := by decide +kernel
theorem dX1_goOnBehind_92 : decode cX1_goOnBehind 92 = .ok (.ishl, 1) := by decide +kernel
theorem dX1_goOnBehind_93 : decode cX1_goOnBehind 93 = .ok (.ior, 1) := by decide +kernel
theorem dX1_goOnBehind_94 : decode cX1_goOnBehind 94 = .ok (.dup2, 1) := by decide +kernel
theorem dX1_goOnBehind_95 : decode cX1_goOnBehind 95 = .ok (.iaload, 1) := by decide +kernel
theorem dX1_goOnBehind_96 : decode cX1_goOnBehind 96 = .ok (.aload_n 0, 1) := by decide +kernel
theorem dX1_goOnBehind_97 : decode cX1_goOnBehind 97 = .ok (.getfield 9, 3) := by decide +kernel
theorem dX1_goOnBehind_100 : decode cX1_goOnBehind 100 = .ok (.iload_n 1, 1) := by decide +kernel
theorem dX1_goOnBehind_101 : decode cX1_goOnBehind 101 = .ok (.iaload, 1) := by decide +kernel
theorem dX1_goOnBehind_102 : decode cX1_goOnBehind 102 = .ok (.iadd, 1) := by decide +kernel
theorem dX1_goOnBehind_103 : decode cX1_goOnBehind 103 = .ok (.iastore, 1) := by decide +kernel
theorem dX1_goOnBehind_104 : decode cX1_goOnBehind 104 = .ok (.iinc 4 1, 3) := by decide +kernel
theorem dX1_goOnBehind_107 : decode cX1_goOnBehind 107 = .ok (.goto (-41), 3) := by decide +kernel
theorem dX1_goOnBehind_110 : decode cX1_goOnBehind 110 = .ok (.return_, 1) := by decide +kernel
theorem dX1_allStops_0 : decode cX1_allStops 0 = .ok (.iconst 0, 1) := by decide +kernel
theorem dX1_allStops_1 : decode cX1_allStops 1 = .ok (.istore_n 1, 1) := by decide +kernel
theorem dX1_allStops_2 : decode cX1_allStops 2 = .ok (.iconst 0, 1) := by decide +kernel
theorem dX1_allStops_3 : decode cX1_allStops 3 = .ok (.istore_n 2, 1) := by decide +kernel
theorem dX1_allStops_4 : decode cX1_allStops 4 = .ok (.iload_n 2, 1) := by decide +kernel
theorem dX1_allStops_5 : decode cX1_allStops 5 = .ok (.bipush 10, 2) := by decide +kernel
theorem dX1_allStops_7 : decode cX1_allStops 7 = .ok (.if_icmp .gt 18, 3) := by decide +kernel
theorem dX1_allStops_10 : decode cX1_allStops 10 = .ok (.iload_n 1, 1) := by decide +kernel
theorem dX1_allStops_11 : decode cX1_allStops 11 = .ok (.aload_n 0, 1) := by decide +kernel
theorem dX1_allStops_12 : decode cX1_allStops 12 = .ok (.getfield 15, 3) := by decide +kernel
theorem dX1_allStops_15 : decode cX1_allStops 15 = .ok (.iload_n 2, 1) := by decide +kernel
theorem dX1_allStops_16 : decode cX1_allStops 16 = .ok (.iaload, 1) := by decide +kernel
theorem dX1_allStops_17 : decode cX1_allStops 17 = .ok (.iadd, 1) := by decide +kernel
theorem dX1_allStops_18 : decode cX1_allStops 18 = .ok (.istore_n 1, 1) := by decide +kernel
theorem dX1_allStops_19 : decode cX1_allStops 19 = .ok (.iinc 2 1, 3) := by decide +kernel
theorem dX1_allStops_22 : decode cX1_allStops 22 = .ok (.goto (-18), 3) := by decide +kernel
theorem dX1_allStops_25 : decode cX1_allStops 25 = .ok (.iload_n 1, 1) := by decide +kernel
theorem dX1_allStops_26 : decode cX1_allStops 26 = .ok (.ireturn, 1) := by decide +kernel
theorem dX2_init_0 : decode cX2_init 0 = .ok (.aload_n 0, 1) := by decide +kernel
theorem dX2_init_1 : decode cX2_init 1 = .ok (.invokespecial 3, 3) := by decide +kernel
theorem dX2_init_4 : decode cX2_init 4 = .ok (.aload_n 0, 1) := by decide +kernel
theorem dX2_init_5 : decode cX2_init 5 = .ok (.bipush 80, 2) := by decide +kernel
theorem dX2_init_7 : decode cX2_init 7 = .ok (.newarray .int, 2) := by decide +kernel
theorem dX2_init_9 : decode cX2_init 9 = .ok (.putfield 9, 3) := by decide +kernel
theorem dX2_init_12 : decode cX2_init 12 = .ok (.return_, 1) := by decide +kernel
theorem dX2_append_0 : decode cX2_append 0 = .ok (.aload_n 0, 1) := by decide +kernel
theorem dX2_append_1 : decode cX2_append 1 = .ok (.getfield 15, 3) := by decide +kernel
theorem dX2_append_4 : decode cX2_append 4 = .ok (.bipush 80, 2) := by decide +kernel
theorem dX2_append_6 : decode cX2_append 6 = .ok (.if_icmp .ge 23, 3) := by decide +kernel
theorem dX2_append_9 : decode cX2_append 9 = .ok (.aload_n 0, 1) := by decide +kernel
theorem dX2_append_10 : decode cX2_append 10 = .ok (.getfield 9, 3) := by decide +kernel
theorem dX2_append_13 : decode cX2_append 13 = .ok (.aload_n 0, 1) := by decide +kernel
theorem dX2_append_14 : decode cX2_append 14 = .ok (.getfield 15, 3) := by decide +kernel
theorem dX2_append_17 : decode cX2_append 17 = .ok (.iload_n 1, 1) := by decide +kernel
theorem dX2_append_18 : decode cX2_append 18 = .ok (.iastore, 1) := by decide +kernel
theorem dX2_append_19 : decode cX2_append 19 = .ok (.aload_n 0, 1) := by decide +kernel
theorem dX2_append_20 : decode cX2_append 20 = .ok (.dup, 1) := by decide +kernel
theorem dX2_append_21 : decode cX2_append 21 = .ok (.getfield 15, 3) := by decide +kernel
theorem dX2_append_24 : decode cX2_append 24 = .ok (.iconst 1, 1) := by decide +kernel
theorem dX2_append_25 : decode cX2_append 25 = .ok (.iadd, 1) := by decide +kernel
theorem dX2_append_26 : decode cX2_append 26 = .ok (.putfield 15, 3) := by decide +kernel
theorem dX2_append_29 : decode cX2_append 29 = .ok (.return_, 1) := by decide +kernel
theorem dX3_init_0 : decode cX3_init 0 = .ok (.aload_n 0, 1) := by decide +kernel
theorem dX3_init_1 : decode cX3_init 1 = .ok (.invokespecial 1, 3) := by decide +kernel
theorem dX3_init_4 : decode cX3_init 4 = .ok (.return_, 1) := by decide +kernel
theorem dX3_size_0 : decode cX3_size 0 = .ok (.aload_n 0, 1) := by decide +kernel
theorem dX3_size_1 : decode cX3_size 1 = .ok (.getfield 7, 3) := by decide +kernel
theorem dX3_size_4 : decode cX3_size 4 = .ok (.aload_n 0, 1) := by decide +kernel
theorem dX3_size_5 : decode cX3_size 5 = .ok (.getfield 13, 3) := by decide +kernel
theorem dX3_size_8 : decode cX3_size 8 = .ok (.iadd, 1) := by decide +kernel
theorem dX3_size_9 : decode cX3_size 9 = .ok (.aload_n 0, 1) := by decide +kernel
theorem dX3_size_10 : decode cX3_size 10 = .ok (.getfield 16, 3) := by decide +kernel
theorem dX3_size_13 : decode cX3_size 13 = .ok (.iadd, 1) := by decide +kernel
theorem dX3_size_14 : decode cX3_size 14 = .ok (.ireturn, 1) := by decide +kernel
theorem dX3_reportedLead_0 : decode cX3_reportedLead 0 = .ok (.iload_n 1, 1) := by decide +kernel
theorem dX3_reportedLead_1 : decode cX3_reportedLead 1 = .ok (.ifCond .ne 15, 3) := by decide +kernel
theorem dX3_reportedLead_4 : decode cX3_reportedLead 4 = .ok (.aload_n 0, 1) := by decide +kernel
theorem dX3_reportedLead_5 : decode cX3_reportedLead 5 = .ok (.getfield 7, 3) := by decide +kernel
theorem dX3_reportedLead_8 : decode cX3_reportedLead 8 = .ok (.aload_n 0, 1) := by decide +kernel
theorem dX3_reportedLead_9 : decode cX3_reportedLead 9 = .ok (.getfield 13, 3) := by decide +kernel
theorem dX3_reportedLead_12 : decode cX3_reportedLead 12 = .ok (.isub, 1) := by decide +kernel
theorem dX3_reportedLead_13 : decode cX3_reportedLead 13 = .ok (.goto 12, 3) := by decide +kernel
theorem dX3_reportedLead_16 : decode cX3_reportedLead 16 = .ok (.aload_n 0, 1) := by decide +kernel
theorem dX3_reportedLead_17 : decode cX3_reportedLead 17 = .ok (.getfield 13, 3) := by decide +kernel
theorem dX3_reportedLead_20 : decode cX3_reportedLead 20 = .ok (.aload_n 0, 1) := by decide +kernel
theorem dX3_reportedLead_21 : decode cX3_reportedLead 21 = .ok (.getfield 7, 3) := by decide +kernel
theorem dX3_reportedLead_24 : decode cX3_reportedLead 24 = .ok (.isub, 1) := by decide +kernel
theorem dX3_reportedLead_25 : decode cX3_reportedLead 25 = .ok (.ireturn, 1) := by decide +kernel
theorem dX3_foundLead_0 : decode cX3_foundLead 0 = .ok (.iload_n 1, 1) := by decide +kernel
theorem dX3_foundLead_1 : decode cX3_foundLead 1 = .ok (.ifCond .ne 15, 3) := by decide +kernel
theorem dX3_foundLead_4 : decode cX3_foundLead 4 = .ok (.aload_n 0, 1) := by decide +kernel
theorem dX3_foundLead_5 : decode cX3_foundLead 5 = .ok (.getfield 19, 3) := by decide +kernel
theorem dX3_foundLead_8 : decode cX3_foundLead 8 = .ok (.aload_n 0, 1) := by decide +kernel
theorem dX3_foundLead_9 : decode cX3_foundLead 9 = .ok (.getfield 22, 3) := by decide +kernel
theorem dX3_foundLead_12 : decode cX3_foundLead 12 = .ok (.isub, 1) := by decide +kernel
theorem dX3_foundLead_13 : decode cX3_foundLead 13 = .ok (.goto 12, 3) := by decide +kernel
theorem dX3_foundLead_16 : decode cX3_foundLead 16 = .ok (.aload_n 0, 1) := by decide +kernel
theorem dX3_foundLead_17 : decode cX3_foundLead 17 = .ok (.getfield 22, 3) := by decide +kernel
theorem dX3_foundLead_20 : decode cX3_foundLead 20 = .ok (.aload_n 0, 1) := by decide +kernel
theorem dX3_foundLead_21 : decode cX3_foundLead 21 = .ok (.getfield 19, 3) := by decide +kernel
theorem dX3_foundLead_24 : decode cX3_foundLead 24 = .ok (.isub, 1) := by decide +kernel
theorem dX3_foundLead_25 : decode cX3_foundLead 25 = .ok (.ireturn, 1) := by decide +kernel
set_option maxRecDepth 20000 in
theorem ggX3_swing_X3_reportedLead : GoodIn wsX3_swing wsX3_reportedLead := goodIn_r _ [5, 6, 7, 13, 14, 15, 16, 17] (by decide +kernel) (by decide +kernel)
set_option maxRecDepth 20000 in
theorem gX3_swing_X3_reportedLead : GoodIn wsX3_swing (wsV RX3 25 RX3 yX3_reportedLead wsX3_reportedLead) := goodIn_app (goodIn_of _ (by decide +kernel)) ggX3_swing_X3_reportedLead
set_option maxRecDepth 20000 in
theorem ggX3_swing_X3_size : GoodIn wsX3_swing wsX3_size := goodIn_r _ [11, 6, 7, 12, 13, 14, 15, 16, 17] (by decide +kernel) (by decide +kernel)
set_option maxRecDepth 20000 in
theorem gX3_swing_X3_size : GoodIn wsX3_swing (wsV RX3 29 RX3 yX3_size wsX3_size) := goodIn_app (goodIn_of _ (by decide +kernel)) ggX3_swing_X3_size
theorem dX3_swing_0 : decode cX3_swing 0 = .ok (.aload_n 0, 1) := by decide +kernel
theorem dX3_swing_1 : decode cX3_swing 1 = .ok (.iload_n 1, 1) := by decide +kernel
theorem dX3_swing_2 : decode cX3_swing 2 = .ok (.invokevirtual 25, 3) := by decide +kernel
theorem dX3_swing_5 : decode cX3_swing 5 = .ok (.aload_n 0, 1) := by decide +kernel
theorem dX3_swing_6 : decode cX3_swing 6 = .ok (.invokevirtual 29, 3) := by decide +kernel
theorem dX3_swing_9 : decode cX3_swing 9 = .ok (.iadd, 1) := by decide +kernel
theorem dX3_swing_10 : decode cX3_swing 10 = .ok (.ireturn, 1) := by decide +kernel
set_option maxRecDepth 20000 in
theorem ggX3_isWorse_X3_foundLead : GoodIn wsX3_isWorse wsX3_foundLead := goodIn_r _ [5, 6, 7, 14, 15, 16, 17, 18] (by decide +kernel) (by decide +kernel)
set_option maxRecDepth 20000 in
theorem gX3_isWorse_X3_foundLead : GoodIn wsX3_isWorse (wsV RX3 33 RX3 yX3_foundLead wsX3_foundLead) := goodIn_app (goodIn_of _ (by decide +kernel)) ggX3_isWorse_X3_foundLead
set_option maxRecDepth 20000 in
theorem ggX3_isWorse_X3_reportedLead : GoodIn wsX3_isWorse wsX3_reportedLead := goodIn_r _ [11, 12, 13, 14, 15, 16, 17, 18] (by decide +kernel) (by decide +kernel)
set_option maxRecDepth 20000 in
theorem gX3_isWorse_X3_reportedLead : GoodIn wsX3_isWorse (wsV RX3 25 RX3 yX3_reportedLead wsX3_reportedLead) := goodIn_app (goodIn_of _ (by decide +kernel)) ggX3_isWorse_X3_reportedLead
theorem dX3_isWorse_0 : decode cX3_isWorse 0 = .ok (.aload_n 0, 1) := by decide +kernel
theorem dX3_isWorse_1 : decode cX3_isWorse 1 = .ok (.iload_n 1, 1) := by decide +kernel
theorem dX3_isWorse_2 : decode cX3_isWorse 2 = .ok (.invokevirtual 33, 3) := by decide +kernel
theorem dX3_isWorse_5 : decode cX3_isWorse 5 = .ok (.aload_n 0, 1) := by decide +kernel
theorem dX3_isWorse_6 : decode cX3_isWorse 6 = .ok (.iload_n 1, 1) := by decide +kernel
theorem dX3_isWorse_7 : decode cX3_isWorse 7 = .ok (.invokevirtual 25, 3) := by decide +kernel
theorem dX3_isWorse_10 : decode cX3_isWorse 10 = .ok (.if_icmp .ge 7, 3) := by decide +kernel
theorem dX3_isWorse_13 : decode cX3_isWorse 13 = .ok (.iconst 1, 1) := by decide +kernel
theorem dX3_isWorse_14 : decode cX3_isWorse 14 = .ok (.goto 4, 3) := by decide +kernel
theorem dX3_isWorse_17 : decode cX3_isWorse 17 = .ok (.iconst 0, 1) := by decide +kernel
theorem dX3_isWorse_18 : decode cX3_isWorse 18 = .ok (.ireturn, 1) := by decide +kernel
theorem dX3_copyFrom_0 : decode cX3_copyFrom 0 = .ok (.aload_n 0, 1) := by decide +kernel
theorem dX3_copyFrom_1 : decode cX3_copyFrom 1 = .ok (.aload_n 1, 1) := by decide +kernel
theorem dX3_copyFrom_2 : decode cX3_copyFrom 2 = .ok (.getfield 7, 3) := by decide +kernel
theorem dX3_copyFrom_5 : decode cX3_copyFrom 5 = .ok (.putfield 7, 3) := by decide +kernel
theorem dX3_copyFrom_8 : decode cX3_copyFrom 8 = .ok (.aload_n 0, 1) := by decide +kernel
theorem dX3_copyFrom_9 : decode cX3_copyFrom 9 = .ok (.aload_n 1, 1) := by decide +kernel
theorem dX3_copyFrom_10 : decode cX3_copyFrom 10 = .ok (.getfield 13, 3) := by decide +kernel
theorem dX3_copyFrom_13 : decode cX3_copyFrom 13 = .ok (.putfield 13, 3) := by decide +kernel
theorem dX3_copyFrom_16 : decode cX3_copyFrom 16 = .ok (.aload_n 0, 1) := by decide +kernel
theorem dX3_copyFrom_17 : decode cX3_copyFrom 17 = .ok (.aload_n 1, 1) := by decide +kernel
theorem dX3_copyFrom_18 : decode cX3_copyFrom 18 = .ok (.getfield 16, 3) := by decide +kernel
theorem dX3_copyFrom_21 : decode cX3_copyFrom 21 = .ok (.putfield 16, 3) := by decide +kernel
theorem dX3_copyFrom_24 : decode cX3_copyFrom 24 = .ok (.aload_n 0, 1) := by decide +kernel
theorem dX3_copyFrom_25 : decode cX3_copyFrom 25 = .ok (.aload_n 1, 1) := by decide +kernel
theorem dX3_copyFrom_26 : decode cX3_copyFrom 26 = .ok (.getfield 19, 3) := by decide +kernel
theorem dX3_copyFrom_29 : decode cX3_copyFrom 29 = .ok (.putfield 19, 3) := by decide +kernel
theorem dX3_copyFrom_32 : decode cX3_copyFrom 32 = .ok (.aload_n 0, 1) := by decide +kernel
theorem dX3_copyFrom_33 : decode cX3_copyFrom 33 = .ok (.aload_n 1, 1) := by decide +kernel
theorem dX3_copyFrom_34 : decode cX3_copyFrom 34 = .ok (.getfield 22, 3) := by decide +kernel
theorem dX3_copyFrom_37 : decode cX3_copyFrom 37 = .ok (.putfield 22, 3) := by decide +kernel
theorem dX3_copyFrom_40 : decode cX3_copyFrom 40 = .ok (.return_, 1) := by decide +kernel
theorem dX4_init_0 : decode cX4_init 0 = .ok (.aload_n 0, 1) := by decide +kernel
theorem dX4_init_1 : decode cX4_init 1 = .ok (.invokespecial 3, 3) := by decide +kernel
theorem dX4_init_4 : decode cX4_init 4 = .ok (.aload_n 0, 1) := by decide +kernel
theorem dX4_init_5 : decode cX4_init 5 = .ok (.iconst 5, 1) := by decide +kernel
theorem dX4_init_6 : decode cX4_init 6 = .ok (.newarray .int, 2) := by decide +kernel
theorem dX4_init_8 : decode cX4_init 8 = .ok (.putfield 11, 3) := by decide +kernel
theorem dX4_init_11 : decode cX4_init 11 = .ok (.return_, 1) := by decide +kernel
set_option maxRecDepth 20000 in
theorem ggX4_start_J7_fill_53178 : GoodIn wsX4_start wsJ7_fill_53178 := goodIn_r _ [7] (by decide +kernel) (by decide +kernel)
set_option maxRecDepth 20000 in
theorem gX4_start_J7_fill_53178 : GoodIn wsX4_start (va_wsS RX4 15 yJ7_fill_53178 wsJ7_fill_53178) := goodIn_app (goodIn_of _ (by decide +kernel)) ggX4_start_J7_fill_53178
theorem dX4_start_0 : decode cX4_start 0 = .ok (.aload_n 0, 1) := by decide +kernel
theorem dX4_start_1 : decode cX4_start 1 = .ok (.getfield 11, 3) := by decide +kernel
theorem dX4_start_4 : decode cX4_start 4 = .ok (.iconst 0, 1) := by decide +kernel
theorem dX4_start_5 : decode cX4_start 5 = .ok (.invokestatic 15, 3) := by decide +kernel
theorem dX4_start_8 : decode cX4_start 8 = .ok (.aload_n 0, 1) := by decide +kernel
theorem dX4_start_9 : decode cX4_start 9 = .ok (.iconst 0, 1) := by decide +kernel
theorem dX4_start_10 : decode cX4_start 10 = .ok (.putfield 21, 3) := by decide +kernel
theorem dX4_start_13 : decode cX4_start 13 = .ok (.aload_n 0, 1) := by decide +kernel
theorem dX4_start_14 : decode cX4_start 14 = .ok (.iconst 0, 1) := by decide +kernel
theorem dX4_start_15 : decode cX4_start 15 = .ok (.putfield 25, 3) := by decide +kernel
theorem dX4_start_18 : decode cX4_start 18 = .ok (.return_, 1) := by decide +kernel
set_option maxRecDepth 20000 in
theorem ggX4_faultOf_X4_start : GoodIn wsX4_faultOf wsX4_start := goodIn_r _ [9, 10, 4, 3, 11, 12, 13, 14, 36, 37, 38] (by decide +kernel) (by decide +kernel)
set_option maxRecDepth 20000 in
theorem gX4_faultOf_X4_start : GoodIn wsX4_faultOf (wsV RX4 29 RX4 yX4_start wsX4_start) := goodIn_app (goodIn_of _ (by decide +kernel)) ggX4_faultOf_X4_start
set_option maxRecDepth 20000 in
theorem ggX4_faultOf_X4_take : GoodIn wsX4_faultOf wsX4_take := goodIn_r _ [18, 19, 20, 21, 8, 22, 10, 4, 3, 23, 24, 25, 26, 27, 28, 29, 30, 31, 32, 33, 5, 6, 7, 9, 11, 12, 13, 14, 36, 37, 38] (by decide +kernel) (by decide +kernel)
set_option maxRecDepth 20000 in
theorem gX4_faultOf_X4_take : GoodIn wsX4_faultOf (wsV RX4 40 RX4 yX4_take wsX4_take) := goodIn_app (goodIn_of _ (by decide +kernel)) ggX4_faultOf_X4_take
set_option maxRecDepth 20000 in
theorem ggX4_faultOf_X4_mayEndBehind : GoodIn wsX4_faultOf wsX4_mayEndBehind := goodIn_r _ [33] (by decide +kernel) (by decide +kernel)
set_option maxRecDepth 20000 in
theorem gX4_faultOf_X4_mayEndBehind : GoodIn wsX4_faultOf (va_wsS RX4 44 yX4_mayEndBehind wsX4_mayEndBehind) := goodIn_app (goodIn_of _ (by decide +kernel)) ggX4_faultOf_X4_mayEndBehind
theorem dX4_faultOf_0 : decode cX4_faultOf 0 = .ok (.aload_n 0, 1) := by decide +kernel
theorem dX4_faultOf_1 : decode cX4_faultOf 1 = .ok (.invokevirtual 29, 3) := by decide +kernel
theorem dX4_faultOf_4 : decode cX4_faultOf 4 = .ok (.iconst 0, 1) := by decide +kernel
theorem dX4_faultOf_5 : decode cX4_faultOf 5 = .ok (.istore_n 2, 1) := by decide +kernel
theorem dX4_faultOf_6 : decode cX4_faultOf 6 = .ok (.iload_n 2, 1) := by decide +kernel
theorem dX4_faultOf_7 : decode cX4_faultOf 7 = .ok (.aload_n 1, 1) := by decide +kernel
theorem dX4_faultOf_8 : decode cX4_faultOf 8 = .ok (.getfield 32, 3) := by decide +kernel
theorem dX4_faultOf_11 : decode cX4_faultOf 11 = .ok (.if_icmp .ge 24, 3) := by decide +kernel
theorem dX4_faultOf_14 : decode cX4_faultOf 14 = .ok (.aload_n 0, 1) := by decide +kernel
theorem dX4_faultOf_15 : decode cX4_faultOf 15 = .ok (.aload_n 1, 1) := by decide +kernel
theorem dX4_faultOf_16 : decode cX4_faultOf 16 = .ok (.getfield 37, 3) := by decide +kernel
theorem dX4_faultOf_19 : decode cX4_faultOf 19 = .ok (.iload_n 2, 1) := by decide +kernel
theorem dX4_faultOf_20 : decode cX4_faultOf 20 = .ok (.iaload, 1) := by decide +kernel
theorem dX4_faultOf_21 : decode cX4_faultOf 21 = .ok (.invokevirtual 40, 3) := by decide +kernel
theorem dX4_faultOf_24 : decode cX4_faultOf 24 = .ok (.ifCond .ne 5, 3) := by decide +kernel
theorem dX4_faultOf_27 : decode cX4_faultOf 27 = .ok (.iload_n 2, 1) := by decide +kernel
theorem dX4_faultOf_28 : decode cX4_faultOf 28 = .ok (.ireturn, 1) := by decide +kernel
theorem dX4_faultOf_29 : decode cX4_faultOf 29 = .ok (.iinc 2 1, 3) := by decide +kernel
theorem dX4_faultOf_32 : decode cX4_faultOf 32 = .ok (.goto (-26), 3) := by decide +kernel
theorem dX4_faultOf_35 : decode cX4_faultOf 35 = .ok (.aload_n 0, 1) := by decide +kernel
theorem dX4_faultOf_36 : decode cX4_faultOf 36 = .ok (.getfield 25, 3) := by decide +kernel
theorem dX4_faultOf_39 : decode cX4_faultOf 39 = .ok (.ifCond .eq 18, 3) := by decide +kernel
theorem dX4_faultOf_42 : decode cX4_faultOf 42 = .ok (.aload_n 0, 1) := by decide +kernel
theorem dX4_faultOf_43 : decode cX4_faultOf 43 = .ok (.getfield 21, 3) := by decide +kernel
theorem dX4_faultOf_46 : decode cX4_faultOf 46 = .ok (.invokestatic 44, 3) := by decide +kernel
theorem dX4_faultOf_49 : decode cX4_faultOf 49 = .ok (.ifCond .eq 8, 3) := by decide +kernel
theorem dX4_faultOf_52 : decode cX4_faultOf 52 = .ok (.bipush (-6), 2) := by decide +kernel
theorem dX4_faultOf_54 : decode cX4_faultOf 54 = .ok (.goto 7, 3) := by decide +kernel
theorem dX4_faultOf_57 : decode cX4_faultOf 57 = .ok (.aload_n 1, 1) := by decide +kernel
theorem dX4_faultOf_58 : decode cX4_faultOf 58 = .ok (.getfield 32, 3) := by decide +kernel
theorem dX4_faultOf_61 : decode cX4_faultOf 61 = .ok (.ireturn, 1) := by decide +kernel
set_option maxRecDepth 20000 in
theorem ggX4_take_X4_takeDigit : GoodIn wsX4_take wsX4_takeDigit := goodIn_r _ [5, 6, 7, 8, 28, 29, 30] (by decide +kernel) (by decide +kernel)
set_option maxRecDepth 20000 in
theorem gX4_take_X4_takeDigit : GoodIn wsX4_take (wsV RX4 47 RX4 yX4_takeDigit wsX4_takeDigit) := goodIn_app (goodIn_of _ (by decide +kernel)) ggX4_take_X4_takeDigit
set_option maxRecDepth 20000 in
theorem ggX4_take_X4_takeSign : GoodIn wsX4_take wsX4_takeSign := goodIn_r _ [12, 8, 7, 13, 14, 15, 4, 16, 17, 18, 19, 20, 21, 22, 23, 6, 24, 25, 26, 27, 28, 29, 30] (by decide +kernel) (by decide +kernel)
set_option maxRecDepth 20000 in
theorem gX4_take_X4_takeSign : GoodIn wsX4_take (wsV RX4 50 RX4 yX4_takeSign wsX4_takeSign) := goodIn_app (goodIn_of _ (by decide +kernel)) ggX4_take_X4_takeSign
theorem dX4_take_0 : decode cX4_take 0 = .ok (.iload_n 1, 1) := by decide +kernel
theorem dX4_take_1 : decode cX4_take 1 = .ok (.bipush 48, 2) := by decide +kernel
theorem dX4_take_3 : decode cX4_take 3 = .ok (.if_icmp .lt 20, 3) := by decide +kernel
theorem dX4_take_6 : decode cX4_take 6 = .ok (.iload_n 1, 1) := by decide +kernel
theorem dX4_take_7 : decode cX4_take 7 = .ok (.bipush 57, 2) := by decide +kernel
theorem dX4_take_9 : decode cX4_take 9 = .ok (.if_icmp .gt 14, 3) := by decide +kernel
theorem dX4_take_12 : decode cX4_take 12 = .ok (.aload_n 0, 1) := by decide +kernel
theorem dX4_take_13 : decode cX4_take 13 = .ok (.iload_n 1, 1) := by decide +kernel
theorem dX4_take_14 : decode cX4_take 14 = .ok (.bipush 48, 2) := by decide +kernel
theorem dX4_take_16 : decode cX4_take 16 = .ok (.isub, 1) := by decide +kernel
theorem dX4_take_17 : decode cX4_take 17 = .ok (.invokevirtual 47, 3) := by decide +kernel
theorem dX4_take_20 : decode cX4_take 20 = .ok (.goto 8, 3) := by decide +kernel
theorem dX4_take_23 : decode cX4_take 23 = .ok (.aload_n 0, 1) := by decide +kernel
theorem dX4_take_24 : decode cX4_take 24 = .ok (.iload_n 1, 1) := by decide +kernel
theorem dX4_take_25 : decode cX4_take 25 = .ok (.invokevirtual 50, 3) := by decide +kernel
theorem dX4_take_28 : decode cX4_take 28 = .ok (.ireturn, 1) := by decide +kernel
theorem dX4_takeDigit_0 : decode cX4_takeDigit 0 = .ok (.aload_n 0, 1) := by decide +kernel
theorem dX4_takeDigit_1 : decode cX4_takeDigit 1 = .ok (.getfield 11, 3) := by decide +kernel
theorem dX4_takeDigit_4 : decode cX4_takeDigit 4 = .ok (.aload_n 0, 1) := by decide +kernel
theorem dX4_takeDigit_5 : decode cX4_takeDigit 5 = .ok (.getfield 21, 3) := by decide +kernel
theorem dX4_takeDigit_8 : decode cX4_takeDigit 8 = .ok (.iaload, 1) := by decide +kernel
theorem dX4_takeDigit_9 : decode cX4_takeDigit 9 = .ok (.istore_n 2, 1) := by decide +kernel
theorem dX4_takeDigit_10 : decode cX4_takeDigit 10 = .ok (.aload_n 0, 1) := by decide +kernel
theorem dX4_takeDigit_11 : decode cX4_takeDigit 11 = .ok (.getfield 25, 3) := by decide +kernel
theorem dX4_takeDigit_14 : decode cX4_takeDigit 14 = .ok (.ifCond .eq 11, 3) := by decide +kernel
theorem dX4_takeDigit_17 : decode cX4_takeDigit 17 = .ok (.iload_n 2, 1) := by decide +kernel
theorem dX4_takeDigit_18 : decode cX4_takeDigit 18 = .ok (.ifCond .ne 7, 3) := by decide +kernel
theorem dX4_takeDigit_21 : decode cX4_takeDigit 21 = .ok (.iconst 1, 1) := by decide +kernel
theorem dX4_takeDigit_22 : decode cX4_takeDigit 22 = .ok (.goto 4, 3) := by decide +kernel
theorem dX4_takeDigit_25 : decode cX4_takeDigit 25 = .ok (.iconst 0, 1) := by decide +kernel
theorem dX4_takeDigit_26 : decode cX4_takeDigit 26 = .ok (.istore_n 3, 1) := by decide +kernel
theorem dX4_takeDigit_27 : decode cX4_takeDigit 27 = .ok (.iload_n 3, 1) := by decide +kernel
theorem dX4_takeDigit_28 : decode cX4_takeDigit 28 = .ok (.ifCond .ne 15, 3) := by decide +kernel
theorem dX4_takeDigit_31 : decode cX4_takeDigit 31 = .ok (.iload_n 2, 1) := by decide +kernel
theorem dX4_takeDigit_32 : decode cX4_takeDigit 32 = .ok (.bipush 10, 2) := by decide +kernel
theorem dX4_takeDigit_34 : decode cX4_takeDigit 34 = .ok (.imul, 1) := by decide +kernel
theorem dX4_takeDigit_35 : decode cX4_takeDigit 35 = .ok (.iload_n 1, 1) := by decide +kernel
theorem dX4_takeDigit_36 : decode cX4_takeDigit 36 = .ok (.iadd, 1) := by decide +kernel
theorem dX4_takeDigit_37 : decode cX4_takeDigit 37 = .ok (.sipush 999, 3) := by decide +kernel
theorem dX4_takeDigit_40 : decode cX4_takeDigit 40 = .ok (.if_icmp .le 5, 3) := by decide +kernel
theorem dX4_takeDigit_43 : decode cX4_takeDigit 43 = .ok (.iconst 0, 1) := by decide +kernel
theorem dX4_takeDigit_44 : decode cX4_takeDigit 44 = .ok (.ireturn, 1) := by decide +kernel
theorem dX4_takeDigit_45 : decode cX4_takeDigit 45 = .ok (.aload_n 0, 1) := by decide +kernel
theorem dX4_takeDigit_46 : decode cX4_takeDigit 46 = .ok (.getfield 11, 3) := by decide +kernel
theorem dX4_takeDigit_49 : decode cX4_takeDigit 49 = .ok (.aload_n 0, 1) := by decide +kernel
theorem dX4_takeDigit_50 : decode cX4_takeDigit 50 = .ok (.getfield 21, 3) := by decide +kernel
theorem dX4_takeDigit_53 : decode cX4_takeDigit 53 = .ok (.iload_n 2, 1) := by decide +kernel
theorem dX4_takeDigit_54 : decode cX4_takeDigit 54 = .ok (.bipush 10, 2) := by decide +kernel
theorem dX4_takeDigit_56 : decode cX4_takeDigit 56 = .ok (.imul, 1) := by decide +kernel
theorem dX4_takeDigit_57 : decode cX4_takeDigit 57 = .ok (.iload_n 1, 1) := by decide +kernel
theorem dX4_takeDigit_58 : decode cX4_takeDigit 58 = .ok (.iadd, 1) := by decide +kernel
theorem dX4_takeDigit_59 : decode cX4_takeDigit 59 = .ok (.iastore, 1) := by decide +kernel
theorem dX4_takeDigit_60 : decode cX4_takeDigit 60 = .ok (.aload_n 0, 1) := by decide +kernel
theorem dX4_takeDigit_61 : decode cX4_takeDigit 61 = .ok (.iconst 1, 1) := by decide +kernel
theorem dX4_takeDigit_62 : decode cX4_takeDigit 62 = .ok (.putfield 25, 3) := by decide +kernel
theorem dX4_takeDigit_65 : decode cX4_takeDigit 65 = .ok (.iconst 1, 1) := by decide +kernel
theorem dX4_takeDigit_66 : decode cX4_takeDigit 66 = .ok (.ireturn, 1) := by decide +kernel
set_option maxRecDepth 20000 in
theorem ggX4_takeSign_X4_partBehind : GoodIn wsX4_takeSign wsX4_partBehind := goodIn_r _ [7, 2, 8, 9, 6, 10, 20, 21, 22] (by decide +kernel) (by decide +kernel)
set_option maxRecDepth 20000 in
theorem gX4_takeSign_X4_partBehind : GoodIn wsX4_takeSign (wsV RX4 53 RX4 yX4_partBehind wsX4_partBehind) := goodIn_app (goodIn_of _ (by decide +kernel)) ggX4_takeSign_X4_partBehind
set_option maxRecDepth 20000 in
theorem ggX4_takeSign_X4_start : GoodIn wsX4_takeSign wsX4_start := goodIn_r _ [14, 15, 2, 1, 16, 17, 18, 19, 20, 21, 22] (by decide +kernel) (by decide +kernel)
set_option maxRecDepth 20000 in
theorem gX4_takeSign_X4_start : GoodIn wsX4_takeSign (wsV RX4 29 RX4 yX4_start wsX4_start) := goodIn_app (goodIn_of _ (by decide +kernel)) ggX4_takeSign_X4_start
theorem dX4_takeSign_0 : decode cX4_takeSign 0 = .ok (.aload_n 0, 1) := by decide +kernel
theorem dX4_takeSign_1 : decode cX4_takeSign 1 = .ok (.iload_n 1, 1) := by decide +kernel
theorem dX4_takeSign_2 : decode cX4_takeSign 2 = .ok (.invokevirtual 53, 3) := by decide +kernel
theorem dX4_takeSign_5 : decode cX4_takeSign 5 = .ok (.istore_n 2, 1) := by decide +kernel
theorem dX4_takeSign_6 : decode cX4_takeSign 6 = .ok (.aload_n 0, 1) := by decide +kernel
theorem dX4_takeSign_7 : decode cX4_takeSign 7 = .ok (.getfield 25, 3) := by decide +kernel
theorem dX4_takeSign_10 : decode cX4_takeSign 10 = .ok (.ifCond .eq 9, 3) := by decide +kernel
theorem dX4_takeSign_13 : decode cX4_takeSign 13 = .ok (.iload_n 2, 1) := by decide +kernel
theorem dX4_takeSign_14 : decode cX4_takeSign 14 = .ok (.bipush (-6), 2) := by decide +kernel
theorem dX4_takeSign_16 : decode cX4_takeSign 16 = .ok (.if_icmp .ne 5, 3) := by decide +kernel
theorem dX4_takeSign_19 : decode cX4_takeSign 19 = .ok (.iconst 0, 1) := by decide +kernel
theorem dX4_takeSign_20 : decode cX4_takeSign 20 = .ok (.ireturn, 1) := by decide +kernel
theorem dX4_takeSign_21 : decode cX4_takeSign 21 = .ok (.iload_n 2, 1) := by decide +kernel
theorem dX4_takeSign_22 : decode cX4_takeSign 22 = .ok (.ifCond .ne 7, 3) := by decide +kernel
theorem dX4_takeSign_25 : decode cX4_takeSign 25 = .ok (.aload_n 0, 1) := by decide +kernel
theorem dX4_takeSign_26 : decode cX4_takeSign 26 = .ok (.invokevirtual 29, 3) := by decide +kernel
theorem dX4_takeSign_29 : decode cX4_takeSign 29 = .ok (.aload_n 0, 1) := by decide +kernel
theorem dX4_takeSign_30 : decode cX4_takeSign 30 = .ok (.iload_n 2, 1) := by decide +kernel
theorem dX4_takeSign_31 : decode cX4_takeSign 31 = .ok (.putfield 21, 3) := by decide +kernel
theorem dX4_takeSign_34 : decode cX4_takeSign 34 = .ok (.aload_n 0, 1) := by decide +kernel
theorem dX4_takeSign_35 : decode cX4_takeSign 35 = .ok (.iconst 0, 1) := by decide +kernel
theorem dX4_takeSign_36 : decode cX4_takeSign 36 = .ok (.putfield 25, 3) := by decide +kernel
theorem dX4_takeSign_39 : decode cX4_takeSign 39 = .ok (.iconst 1, 1) := by decide +kernel
theorem dX4_takeSign_40 : decode cX4_takeSign 40 = .ok (.ireturn, 1) := by decide +kernel
set_option maxRecDepth 20000 in
theorem ggX4_partBehind_X4_mayEndBehind : GoodIn wsX4_partBehind wsX4_mayEndBehind := goodIn_r _ [5] (by decide +kernel) (by decide +kernel)
set_option maxRecDepth 20000 in
theorem gX4_partBehind_X4_mayEndBehind : GoodIn wsX4_partBehind (va_wsS RX4 44 yX4_mayEndBehind wsX4_mayEndBehind) := goodIn_app (goodIn_of _ (by decide +kernel)) ggX4_partBehind_X4_mayEndBehind
theorem dX4_partBehind_0 : decode cX4_partBehind 0 = .ok (.iload_n 1, 1) := by decide +kernel
theorem dX4_partBehind_1 : decode cX4_partBehind 1 = .ok (.lookupswitch 103 #[(44, 35), (59, 86), (61, 63)], 35) := by decide +kernel
theorem dX4_partBehind_36 : decode cX4_partBehind 36 = .ok (.aload_n 0, 1) := by decide +kernel
theorem dX4_partBehind_37 : decode cX4_partBehind 37 = .ok (.getfield 21, 3) := by decide +kernel
theorem dX4_partBehind_40 : decode cX4_partBehind 40 = .ok (.iconst 2, 1) := by decide +kernel
theorem dX4_partBehind_41 : decode cX4_partBehind 41 = .ok (.if_icmp .eq 11, 3) := by decide +kernel
theorem dX4_partBehind_44 : decode cX4_partBehind 44 = .ok (.aload_n 0, 1) := by decide +kernel
theorem dX4_partBehind_45 : decode cX4_partBehind 45 = .ok (.getfield 21, 3) := by decide +kernel
theorem dX4_partBehind_48 : decode cX4_partBehind 48 = .ok (.iconst 4, 1) := by decide +kernel
theorem dX4_partBehind_49 : decode cX4_partBehind 49 = .ok (.if_icmp .ne 8, 3) := by decide +kernel
theorem dX4_partBehind_52 : decode cX4_partBehind 52 = .ok (.bipush (-6), 2) := by decide +kernel
theorem dX4_partBehind_54 : decode cX4_partBehind 54 = .ok (.goto 9, 3) := by decide +kernel
theorem dX4_partBehind_57 : decode cX4_partBehind 57 = .ok (.aload_n 0, 1) := by decide +kernel
theorem dX4_partBehind_58 : decode cX4_partBehind 58 = .ok (.getfield 21, 3) := by decide +kernel
theorem dX4_partBehind_61 : decode cX4_partBehind 61 = .ok (.iconst 1, 1) := by decide +kernel
theorem dX4_partBehind_62 : decode cX4_partBehind 62 = .ok (.iadd, 1) := by decide +kernel
theorem dX4_partBehind_63 : decode cX4_partBehind 63 = .ok (.ireturn, 1) := by decide +kernel
theorem dX4_partBehind_64 : decode cX4_partBehind 64 = .ok (.aload_n 0, 1) := by decide +kernel
theorem dX4_partBehind_65 : decode cX4_partBehind 65 = .ok (.getfield 21, 3) := by decide +kernel
theorem dX4_partBehind_68 : decode cX4_partBehind 68 = .ok (.iconst 1, 1) := by decide +kernel
theorem dX4_partBehind_69 : decode cX4_partBehind 69 = .ok (.if_icmp .eq 11, 3) := by decide +kernel
theorem dX4_partBehind_72 : decode cX4_partBehind 72 = .ok (.aload_n 0, 1) := by decide +kernel
theorem dX4_partBehind_73 : decode cX4_partBehind 73 = .ok (.getfield 21, 3) := by decide +kernel
theorem dX4_partBehind_76 : decode cX4_partBehind 76 = .ok (.iconst 2, 1) := by decide +kernel
theorem dX4_partBehind_77 : decode cX4_partBehind 77 = .ok (.if_icmp .ne 7, 3) := by decide +kernel
theorem dX4_partBehind_80 : decode cX4_partBehind 80 = .ok (.iconst 3, 1) := by decide +kernel
theorem dX4_partBehind_81 : decode cX4_partBehind 81 = .ok (.goto 5, 3) := by decide +kernel
theorem dX4_partBehind_84 : decode cX4_partBehind 84 = .ok (.bipush (-6), 2) := by decide +kernel
theorem dX4_partBehind_86 : decode cX4_partBehind 86 = .ok (.ireturn, 1) := by decide +kernel
theorem dX4_partBehind_87 : decode cX4_partBehind 87 = .ok (.aload_n 0, 1) := by decide +kernel
theorem dX4_partBehind_88 : decode cX4_partBehind 88 = .ok (.getfield 21, 3) := by decide +kernel
theorem dX4_partBehind_91 : decode cX4_partBehind 91 = .ok (.invokestatic 44, 3) := by decide +kernel
theorem dX4_partBehind_94 : decode cX4_partBehind 94 = .ok (.ifCond .eq 7, 3) := by decide +kernel
theorem dX4_partBehind_97 : decode cX4_partBehind 97 = .ok (.iconst 0, 1) := by decide +kernel
theorem dX4_partBehind_98 : decode cX4_partBehind 98 = .ok (.goto 5, 3) := by decide +kernel
theorem dX4_partBehind_101 : decode cX4_partBehind 101 = .ok (.bipush (-6), 2) := by decide +kernel
theorem dX4_partBehind_103 : decode cX4_partBehind 103 = .ok (.ireturn, 1) := by decide +kernel
theorem dX4_partBehind_104 : decode cX4_partBehind 104 = .ok (.bipush (-6), 2) := by decide +kernel
theorem dX4_partBehind_106 : decode cX4_partBehind 106 = .ok (.ireturn, 1) := by decide +kernel
theorem dX4_mayEndBehind_0 : decode cX4_mayEndBehind 0 = .ok (.iload_n 0, 1) := by decide +kernel
theorem dX4_mayEndBehind_1 : decode cX4_mayEndBehind 1 = .ok (.iconst 1, 1) := by decide +kernel
theorem dX4_mayEndBehind_2 : decode cX4_mayEndBehind 2 = .ok (.if_icmp .eq 13, 3) := by decide +kernel
theorem dX4_mayEndBehind_5 : decode cX4_mayEndBehind 5 = .ok (.iload_n 0, 1) := by decide +kernel
theorem dX4_mayEndBehind_6 : decode cX4_mayEndBehind 6 = .ok (.iconst 2, 1) := by decide +kernel
theorem dX4_mayEndBehind_7 : decode cX4_mayEndBehind 7 = .ok (.if_icmp .eq 8, 3) := by decide +kernel
theorem dX4_mayEndBehind_10 : decode cX4_mayEndBehind 10 = .ok (.iload_n 0, 1) := by decide +kernel
theorem dX4_mayEndBehind_11 : decode cX4_mayEndBehind 11 = .ok (.iconst 4, 1) := by decide +kernel
theorem dX4_mayEndBehind_12 : decode cX4_mayEndBehind 12 = .ok (.if_icmp .ne 7, 3) := by decide +kernel
theorem dX4_mayEndBehind_15 : decode cX4_mayEndBehind 15 = .ok (.iconst 1, 1) := by decide +kernel
theorem dX4_mayEndBehind_16 : decode cX4_mayEndBehind 16 = .ok (.goto 4, 3) := by decide +kernel
theorem dX4_mayEndBehind_19 : decode cX4_mayEndBehind 19 = .ok (.iconst 0, 1) := by decide +kernel
theorem dX4_mayEndBehind_20 : decode cX4_mayEndBehind 20 = .ok (.ireturn, 1) := by decide +kernel
set_option maxRecDepth 20000 in
theorem ggX5_init_X3_init : GoodIn wsX5_init wsX3_init := goodIn_r _ [15, 16, 2, 3] (by decide +kernel) (by decide +kernel)
set_option maxRecDepth 20000 in
theorem gX5_init_X3_init_n17 : GoodIn wsX5_init (wsX3_init) := ggX5_init_X3_init
theorem dX5_init_0 : decode cX5_init 0 = .ok (.aload_n 0, 1) := by decide +kernel
theorem dX5_init_1 : decode cX5_init 1 = .ok (.invokespecial 3, 3) := by decide +kernel
theorem dX5_init_4 : decode cX5_init 4 = .ok (.aload_n 0, 1) := by decide +kernel
theorem dX5_init_5 : decode cX5_init 5 = .ok (.bipush 10, 2) := by decide +kernel
theorem dX5_init_7 : decode cX5_init 7 = .ok (.anewarray 9, 3) := by decide +kernel
theorem dX5_init_10 : decode cX5_init 10 = .ok (.putfield 11, 3) := by decide +kernel
theorem dX5_init_13 : decode cX5_init 13 = .ok (.iconst 0, 1) := by decide +kernel
theorem dX5_init_14 : decode cX5_init 14 = .ok (.istore_n 1, 1) := by decide +kernel
theorem dX5_init_15 : decode cX5_init 15 = .ok (.iload_n 1, 1) := by decide +kernel
theorem dX5_init_16 : decode cX5_init 16 = .ok (.bipush 10, 2) := by decide +kernel
theorem dX5_init_18 : decode cX5_init 18 = .ok (.if_icmp .ge 22, 3) := by decide +kernel
theorem dX5_init_21 : decode cX5_init 21 = .ok (.aload_n 0, 1) := by decide +kernel
theorem dX5_init_22 : decode cX5_init 22 = .ok (.getfield 11, 3) := by decide +kernel
theorem dX5_init_25 : decode cX5_init 25 = .ok (.iload_n 1, 1) := by decide +kernel
theorem dX5_init_26 : decode cX5_init 26 = .ok (.new 9, 3) := by decide +kernel
theorem dX5_init_29 : decode cX5_init 29 = .ok (.dup, 1) := by decide +kernel
theorem dX5_init_30 : decode cX5_init 30 = .ok (.invokespecial 17, 3) := by decide +kernel
theorem dX5_init_33 : decode cX5_init 33 = .ok (.aastore, 1) := by decide +kernel
theorem dX5_init_34 : decode cX5_init 34 = .ok (.iinc 1 1, 3) := by decide +kernel
theorem dX5_init_37 : decode cX5_init 37 = .ok (.goto (-22), 3) := by decide +kernel
theorem dX5_init_40 : decode cX5_init 40 = .ok (.aload_n 0, 1) := by decide +kernel
theorem dX5_init_41 : decode cX5_init 41 = .ok (.bipush (-6), 2) := by decide +kernel
theorem dX5_init_43 : decode cX5_init 43 = .ok (.putfield 18, 3) := by decide +kernel
theorem dX5_init_46 : decode cX5_init 46 = .ok (.aload_n 0, 1) := by decide +kernel
theorem dX5_init_47 : decode cX5_init 47 = .ok (.bipush 10, 2) := by decide +kernel
theorem dX5_init_49 : decode cX5_init 49 = .ok (.newarray .int, 2) := by decide +kernel
theorem dX5_init_51 : decode cX5_init 51 = .ok (.putfield 22, 3) := by decide +kernel
theorem dX5_init_54 : decode cX5_init 54 = .ok (.aload_n 0, 1) := by decide +kernel
theorem dX5_init_55 : decode cX5_init 55 = .ok (.bipush 10, 2) := by decide +kernel
theorem dX5_init_57 : decode cX5_init 57 = .ok (.newarray .int, 2) := by decide +kernel
theorem dX5_init_59 : decode cX5_init 59 = .ok (.putfield 26, 3) := by decide +kernel
theorem dX5_init_62 : decode cX5_init 62 = .ok (.aload_n 0, 1) := by decide +kernel
theorem dX5_init_63 : decode cX5_init 63 = .ok (.sipush 500, 3) := by decide +kernel
theorem dX5_init_66 : decode cX5_init 66 = .ok (.putfield 29, 3) := by decide +kernel
theorem dX5_init_69 : decode cX5_init 69 = .ok (.aload_n 0, 1) := by decide +kernel
theorem dX5_init_70 : decode cX5_init 70 = .ok (.iconst 1, 1) := by decide +kernel
theorem dX5_init_71 : decode cX5_init 71 = .ok (.putfield 32, 3) := by decide +kernel
theorem dX5_init_74 : decode cX5_init 74 = .ok (.return_, 1) := by decide +kernel
set_option maxRecDepth 20000 in
theorem ggX5_copyFrom_X3_copyFrom : GoodIn wsX5_copyFrom wsX3_copyFrom := goodIn_r _ [15, 16, 17, 18, 19, 20, 31, 32, 33, 34, 35] (by decide +kernel) (by decide +kernel)
set_option maxRecDepth 20000 in
theorem gX5_copyFrom_X3_copyFrom : GoodIn wsX5_copyFrom (wsV RX5 35 RX3 yX3_copyFrom wsX3_copyFrom) := goodIn_app (goodIn_of _ (by decide +kernel)) ggX5_copyFrom_X3_copyFrom
theorem dX5_copyFrom_0 : decode cX5_copyFrom 0 = .ok (.iconst 0, 1) := by decide +kernel
theorem dX5_copyFrom_1 : decode cX5_copyFrom 1 = .ok (.istore_n 2, 1) := by decide +kernel
theorem dX5_copyFrom_2 : decode cX5_copyFrom 2 = .ok (.iload_n 2, 1) := by decide +kernel
theorem dX5_copyFrom_3 : decode cX5_copyFrom 3 = .ok (.bipush 10, 2) := by decide +kernel
theorem dX5_copyFrom_5 : decode cX5_copyFrom 5 = .ok (.if_icmp .ge 48, 3) := by decide +kernel
theorem dX5_copyFrom_8 : decode cX5_copyFrom 8 = .ok (.aload_n 0, 1) := by decide +kernel
theorem dX5_copyFrom_9 : decode cX5_copyFrom 9 = .ok (.getfield 11, 3) := by decide +kernel
theorem dX5_copyFrom_12 : decode cX5_copyFrom 12 = .ok (.iload_n 2, 1) := by decide +kernel
theorem dX5_copyFrom_13 : decode cX5_copyFrom 13 = .ok (.aaload, 1) := by decide +kernel
theorem dX5_copyFrom_14 : decode cX5_copyFrom 14 = .ok (.aload_n 1, 1) := by decide +kernel
theorem dX5_copyFrom_15 : decode cX5_copyFrom 15 = .ok (.getfield 11, 3) := by decide +kernel
theorem dX5_copyFrom_18 : decode cX5_copyFrom 18 = .ok (.iload_n 2, 1) := by decide +kernel
theorem dX5_copyFrom_19 : decode cX5_copyFrom 19 = .ok (.aaload, 1) := by decide +kernel
theorem dX5_copyFrom_20 : decode cX5_copyFrom 20 = .ok (.invokevirtual 35, 3) := by decide +kernel
theorem dX5_copyFrom_23 : decode cX5_copyFrom 23 = .ok (.aload_n 0, 1) := by decide +kernel
theorem dX5_copyFrom_24 : decode cX5_copyFrom 24 = .ok (.getfield 22, 3) := by decide +kernel
theorem dX5_copyFrom_27 : decode cX5_copyFrom 27 = .ok (.iload_n 2, 1) := by decide +kernel
theorem dX5_copyFrom_28 : decode cX5_copyFrom 28 = .ok (.aload_n 1, 1) := by decide +kernel
theorem dX5_copyFrom_29 : decode cX5_copyFrom 29 = .ok (.getfield 22, 3) := by decide +kernel
theorem dX5_copyFrom_32 : decode cX5_copyFrom 32 = .ok (.iload_n 2, 1) := by decide +kernel
theorem dX5_copyFrom_33 : decode cX5_copyFrom 33 = .ok (.iaload, 1) := by decide +kernel
theorem dX5_copyFrom_34 : decode cX5_copyFrom 34 = .ok (.iastore, 1) := by decide +kernel
theorem dX5_copyFrom_35 : decode cX5_copyFrom 35 = .ok (.aload_n 0, 1) := by decide +kernel
theorem dX5_copyFrom_36 : decode cX5_copyFrom 36 = .ok (.getfield 26, 3) := by decide +kernel
theorem dX5_copyFrom_39 : decode cX5_copyFrom 39 = .ok (.iload_n 2, 1) := by decide +kernel
theorem dX5_copyFrom_40 : decode cX5_copyFrom 40 = .ok (.aload_n 1, 1) := by decide +kernel
theorem dX5_copyFrom_41 : decode cX5_copyFrom 41 = .ok (.getfield 26, 3) := by decide +kernel
theorem dX5_copyFrom_44 : decode cX5_copyFrom 44 = .ok (.iload_n 2, 1) := by decide +kernel
theorem dX5_copyFrom_45 : decode cX5_copyFrom 45 = .ok (.iaload, 1) := by decide +kernel
theorem dX5_copyFrom_46 : decode cX5_copyFrom 46 = .ok (.iastore, 1) := by decide +kernel
theorem dX5_copyFrom_47 : decode cX5_copyFrom 47 = .ok (.iinc 2 1, 3) := by decide +kernel
theorem dX5_copyFrom_50 : decode cX5_copyFrom 50 = .ok (.goto (-48), 3) := by decide +kernel
theorem dX5_copyFrom_53 : decode cX5_copyFrom 53 = .ok (.aload_n 0, 1) := by decide +kernel
theorem dX5_copyFrom_54 : decode cX5_copyFrom 54 = .ok (.aload_n 1, 1) := by decide +kernel
theorem dX5_copyFrom_55 : decode cX5_copyFrom 55 = .ok (.getfield 39, 3) := by decide +kernel
theorem dX5_copyFrom_58 : decode cX5_copyFrom 58 = .ok (.putfield 39, 3) := by decide +kernel
theorem dX5_copyFrom_61 : decode cX5_copyFrom 61 = .ok (.aload_n 0, 1) := by decide +kernel
theorem dX5_copyFrom_62 : decode cX5_copyFrom 62 = .ok (.aload_n 1, 1) := by decide +kernel
theorem dX5_copyFrom_63 : decode cX5_copyFrom 63 = .ok (.getfield 18, 3) := by decide +kernel
theorem dX5_copyFrom_66 : decode cX5_copyFrom 66 = .ok (.putfield 18, 3) := by decide +kernel
theorem dX5_copyFrom_69 : decode cX5_copyFrom 69 = .ok (.aload_n 0, 1) := by decide +kernel
theorem dX5_copyFrom_70 : decode cX5_copyFrom 70 = .ok (.aload_n 1, 1) := by decide +kernel
theorem dX5_copyFrom_71 : decode cX5_copyFrom 71 = .ok (.getfield 42, 3) := by decide +kernel
theorem dX5_copyFrom_74 : decode cX5_copyFrom 74 = .ok (.putfield 42, 3) := by decide +kernel
theorem dX5_copyFrom_77 : decode cX5_copyFrom 77 = .ok (.aload_n 0, 1) := by decide +kernel
theorem dX5_copyFrom_78 : decode cX5_copyFrom 78 = .ok (.aload_n 1, 1) := by decide +kernel
theorem dX5_copyFrom_79 : decode cX5_copyFrom 79 = .ok (.getfield 45, 3) := by decide +kernel
theorem dX5_copyFrom_82 : decode cX5_copyFrom 82 = .ok (.putfield 45, 3) := by decide +kernel
theorem dX5_copyFrom_85 : decode cX5_copyFrom 85 = .ok (.aload_n 0, 1) := by decide +kernel
theorem dX5_copyFrom_86 : decode cX5_copyFrom 86 = .ok (.aload_n 1, 1) := by decide +kernel
theorem dX5_copyFrom_87 : decode cX5_copyFrom 87 = .ok (.getfield 29, 3) := by decide +kernel
theorem dX5_copyFrom_90 : decode cX5_copyFrom 90 = .ok (.putfield 29, 3) := by decide +kernel
theorem dX5_copyFrom_93 : decode cX5_copyFrom 93 = .ok (.aload_n 0, 1) := by decide +kernel
theorem dX5_copyFrom_94 : decode cX5_copyFrom 94 = .ok (.aload_n 1, 1) := by decide +kernel
theorem dX5_copyFrom_95 : decode cX5_copyFrom 95 = .ok (.getfield 32, 3) := by decide +kernel
theorem dX5_copyFrom_98 : decode cX5_copyFrom 98 = .ok (.putfield 32, 3) := by decide +kernel
theorem dX5_copyFrom_101 : decode cX5_copyFrom 101 = .ok (.aload_n 0, 1) := by decide +kernel
theorem dX5_copyFrom_102 : decode cX5_copyFrom 102 = .ok (.aload_n 1, 1) := by decide +kernel
theorem dX5_copyFrom_103 : decode cX5_copyFrom 103 = .ok (.getfield 48, 3) := by decide +kernel
theorem dX5_copyFrom_106 : decode cX5_copyFrom 106 = .ok (.putfield 48, 3) := by decide +kernel
theorem dX5_copyFrom_109 : decode cX5_copyFrom 109 = .ok (.return_, 1) := by decide +kernel
theorem dX5_hasPile_0 : decode cX5_hasPile 0 = .ok (.iload_n 1, 1) := by decide +kernel
theorem dX5_hasPile_1 : decode cX5_hasPile 1 = .ok (.ifCond .lt 15, 3) := by decide +kernel
theorem dX5_hasPile_4 : decode cX5_hasPile 4 = .ok (.iload_n 1, 1) := by decide +kernel
theorem dX5_hasPile_5 : decode cX5_hasPile 5 = .ok (.aload_n 0, 1) := by decide +kernel
theorem dX5_hasPile_6 : decode cX5_hasPile 6 = .ok (.getfield 39, 3) := by decide +kernel
theorem dX5_hasPile_9 : decode cX5_hasPile 9 = .ok (.if_icmp .ge 7, 3) := by decide +kernel
theorem dX5_hasPile_12 : decode cX5_hasPile 12 = .ok (.iconst 1, 1) := by decide +kernel
theorem dX5_hasPile_13 : decode cX5_hasPile 13 = .ok (.goto 4, 3) := by decide +kernel
theorem dX5_hasPile_16 : decode cX5_hasPile 16 = .ok (.iconst 0, 1) := by decide +kernel
theorem dX5_hasPile_17 : decode cX5_hasPile 17 = .ok (.ireturn, 1) := by decide +kernel
theorem dX5_hasWinner_0 : decode cX5_hasWinner 0 = .ok (.aload_n 0, 1) := by decide +kernel
theorem dX5_hasWinner_1 : decode cX5_hasWinner 1 = .ok (.getfield 18, 3) := by decide +kernel
theorem dX5_hasWinner_4 : decode cX5_hasWinner 4 = .ok (.bipush (-6), 2) := by decide +kernel
theorem dX5_hasWinner_6 : decode cX5_hasWinner 6 = .ok (.if_icmp .eq 7, 3) := by decide +kernel
theorem dX5_hasWinner_9 : decode cX5_hasWinner 9 = .ok (.iconst 1, 1) := by decide +kernel
theorem dX5_hasWinner_10 : decode cX5_hasWinner 10 = .ok (.goto 4, 3) := by decide +kernel
theorem dX5_hasWinner_13 : decode cX5_hasWinner 13 = .ok (.iconst 0, 1) := by decide +kernel
theorem dX5_hasWinner_14 : decode cX5_hasWinner 14 = .ok (.ireturn, 1) := by decide +kernel
theorem dX5_isAllCounted_0 : decode cX5_isAllCounted 0 = .ok (.aload_n 0, 1) := by decide +kernel
theorem dX5_isAllCounted_1 : decode cX5_isAllCounted 1 = .ok (.getfield 42, 3) := by decide +kernel
theorem dX5_isAllCounted_4 : decode cX5_isAllCounted 4 = .ok (.aload_n 0, 1) := by decide +kernel
theorem dX5_isAllCounted_5 : decode cX5_isAllCounted 5 = .ok (.getfield 39, 3) := by decide +kernel
theorem dX5_isAllCounted_8 : decode cX5_isAllCounted 8 = .ok (.if_icmp .ne 7, 3) := by decide +kernel
theorem dX5_isAllCounted_11 : decode cX5_isAllCounted 11 = .ok (.iconst 1, 1) := by decide +kernel
theorem dX5_isAllCounted_12 : decode cX5_isAllCounted 12 = .ok (.goto 4, 3) := by decide +kernel
theorem dX5_isAllCounted_15 : decode cX5_isAllCounted 15 = .ok (.iconst 0, 1) := by decide +kernel
theorem dX5_isAllCounted_16 : decode cX5_isAllCounted 16 = .ok (.ireturn, 1) := by decide +kernel
set_option maxRecDepth 20000 in
theorem ggX5_isOpen_X5_hasWinner : GoodIn wsX5_isOpen wsX5_hasWinner := goodIn_r _ [6, 7, 8, 9, 10, 11, 12, 13, 14, 15, 16, 17] (by decide +kernel) (by decide +kernel)
set_option maxRecDepth 20000 in
theorem gX5_isOpen_X5_hasWinner : GoodIn wsX5_isOpen (wsV RX5 52 RX5 yX5_hasWinner wsX5_hasWinner) := goodIn_app (goodIn_of _ (by decide +kernel)) ggX5_isOpen_X5_hasWinner
theorem dX5_isOpen_0 : decode cX5_isOpen 0 = .ok (.aload_n 0, 1) := by decide +kernel
theorem dX5_isOpen_1 : decode cX5_isOpen 1 = .ok (.invokevirtual 52, 3) := by decide +kernel
theorem dX5_isOpen_4 : decode cX5_isOpen 4 = .ok (.ifCond .eq 14, 3) := by decide +kernel
theorem dX5_isOpen_7 : decode cX5_isOpen 7 = .ok (.aload_n 0, 1) := by decide +kernel
theorem dX5_isOpen_8 : decode cX5_isOpen 8 = .ok (.getfield 48, 3) := by decide +kernel
theorem dX5_isOpen_11 : decode cX5_isOpen 11 = .ok (.ifCond .ne 7, 3) := by decide +kernel
theorem dX5_isOpen_14 : decode cX5_isOpen 14 = .ok (.iconst 1, 1) := by decide +kernel
theorem dX5_isOpen_15 : decode cX5_isOpen 15 = .ok (.goto 4, 3) := by decide +kernel
theorem dX5_isOpen_18 : decode cX5_isOpen 18 = .ok (.iconst 0, 1) := by decide +kernel
theorem dX5_isOpen_19 : decode cX5_isOpen 19 = .ok (.ireturn, 1) := by decide +kernel
theorem dX5_allPiles_0 : decode cX5_allPiles 0 = .ok (.iconst 1, 1) := by decide +kernel
theorem dX5_allPiles_1 : decode cX5_allPiles 1 = .ok (.aload_n 0, 1) := by decide +kernel
theorem dX5_allPiles_2 : decode cX5_allPiles 2 = .ok (.getfield 39, 3) := by decide +kernel
theorem dX5_allPiles_5 : decode cX5_allPiles 5 = .ok (.ishl, 1) := by decide +kernel
theorem dX5_allPiles_6 : decode cX5_allPiles 6 = .ok (.iconst 1, 1) := by decide +kernel
theorem dX5_allPiles_7 : decode cX5_allPiles 7 = .ok (.isub, 1) := by decide +kernel
theorem dX5_allPiles_8 : decode cX5_allPiles 8 = .ok (.ireturn, 1) := by decide +kernel
set_option maxRecDepth 20000 in
theorem ggX5_errorOfPile_X6_isVotes : GoodIn wsX5_errorOfPile wsX6_isVotes := goodIn_r _ [5] (by decide +kernel) (by decide +kernel)
set_option maxRecDepth 20000 in
theorem gX5_errorOfPile_X6_isVotes_n56 : GoodIn wsX5_errorOfPile (wsX6_isVotes) := ggX5_errorOfPile_X6_isVotes
theorem dX5_errorOfPile_0 : decode cX5_errorOfPile 0 = .ok (.iload_n 1, 1) := by decide +kernel
theorem dX5_errorOfPile_1 : decode cX5_errorOfPile 1 = .ok (.invokestatic 56, 3) := by decide +kernel
theorem dX5_errorOfPile_4 : decode cX5_errorOfPile 4 = .ok (.ifCond .eq 17, 3) := by decide +kernel
theorem dX5_errorOfPile_7 : decode cX5_errorOfPile 7 = .ok (.iload_n 2, 1) := by decide +kernel
theorem dX5_errorOfPile_8 : decode cX5_errorOfPile 8 = .ok (.invokestatic 56, 3) := by decide +kernel
theorem dX5_errorOfPile_11 : decode cX5_errorOfPile 11 = .ok (.ifCond .eq 10, 3) := by decide +kernel
theorem dX5_errorOfPile_14 : decode cX5_errorOfPile 14 = .ok (.iload_n 3, 1) := by decide +kernel
theorem dX5_errorOfPile_15 : decode cX5_errorOfPile 15 = .ok (.invokestatic 56, 3) := by decide +kernel
theorem dX5_errorOfPile_18 : decode cX5_errorOfPile 18 = .ok (.ifCond .ne 6, 3) := by decide +kernel
theorem dX5_errorOfPile_21 : decode cX5_errorOfPile 21 = .ok (.bipush (-2), 2) := by decide +kernel
theorem dX5_errorOfPile_23 : decode cX5_errorOfPile 23 = .ok (.ireturn, 1) := by decide +kernel
theorem dX5_errorOfPile_24 : decode cX5_errorOfPile 24 = .ok (.aload_n 0, 1) := by decide +kernel
theorem dX5_errorOfPile_25 : decode cX5_errorOfPile 25 = .ok (.getfield 39, 3) := by decide +kernel
theorem dX5_errorOfPile_28 : decode cX5_errorOfPile 28 = .ok (.bipush 10, 2) := by decide +kernel
theorem dX5_errorOfPile_30 : decode cX5_errorOfPile 30 = .ok (.if_icmp .lt 6, 3) := by decide +kernel
theorem dX5_errorOfPile_33 : decode cX5_errorOfPile 33 = .ok (.bipush (-4), 2) := by decide +kernel
theorem dX5_errorOfPile_35 : decode cX5_errorOfPile 35 = .ok (.ireturn, 1) := by decide +kernel
theorem dX5_errorOfPile_36 : decode cX5_errorOfPile 36 = .ok (.aload_n 0, 1) := by decide +kernel
theorem dX5_errorOfPile_37 : decode cX5_errorOfPile 37 = .ok (.getfield 42, 3) := by decide +kernel
theorem dX5_errorOfPile_40 : decode cX5_errorOfPile 40 = .ok (.ifCond .le 8, 3) := by decide +kernel
theorem dX5_errorOfPile_43 : decode cX5_errorOfPile 43 = .ok (.bipush (-5), 2) := by decide +kernel
theorem dX5_errorOfPile_45 : decode cX5_errorOfPile 45 = .ok (.goto 4, 3) := by decide +kernel
theorem dX5_errorOfPile_48 : decode cX5_errorOfPile 48 = .ok (.iconst 0, 1) := by decide +kernel
theorem dX5_errorOfPile_49 : decode cX5_errorOfPile 49 = .ok (.ireturn, 1) := by decide +kernel
set_option maxRecDepth 20000 in
theorem ggX5_addPile_X5_findWinner : GoodIn wsX5_addPile wsX5_findWinner := goodIn_r _ [12, 2, 1, 13, 14, 15, 16, 17, 18, 19, 20, 36, 37, 38, 39, 40, 41, 42, 43, 44, 45, 46, 47, 48, 49, 50] (by decide +kernel) (by decide +kernel)
set_option maxRecDepth 20000 in
theorem gX5_addPile_X5_findWinner : GoodIn wsX5_addPile (wsV RX5 75 RX5 yX5_findWinner wsX5_findWinner) := goodIn_app (goodIn_of _ (by decide +kernel)) ggX5_addPile_X5_findWinner
set_option maxRecDepth 20000 in
theorem ggX5_addPile_X5_rankSwings : GoodIn wsX5_addPile wsX5_rankSwings := goodIn_r _ [24, 2, 1, 13, 25, 26, 27, 28, 17, 29, 30, 15, 16, 18, 19, 20, 31, 32, 33, 34, 35, 36, 37, 38, 39, 40, 41, 42, 43, 44, 45, 46, 47, 48, 49, 50] (by decide +kernel) (by decide +kernel)
set_option maxRecDepth 20000 in
theorem gX5_addPile_X5_rankSwings : GoodIn wsX5_addPile (wsV RX5 78 RX5 yX5_rankSwings wsX5_rankSwings) := goodIn_app (goodIn_of _ (by decide +kernel)) ggX5_addPile_X5_rankSwings
theorem dX5_addPile_0 : decode cX5_addPile 0 = .ok (.aload_n 0, 1) := by decide +kernel
theorem dX5_addPile_1 : decode cX5_addPile 1 = .ok (.getfield 11, 3) := by decide +kernel
theorem dX5_addPile_4 : decode cX5_addPile 4 = .ok (.aload_n 0, 1) := by decide +kernel
theorem dX5_addPile_5 : decode cX5_addPile 5 = .ok (.getfield 39, 3) := by decide +kernel
theorem dX5_addPile_8 : decode cX5_addPile 8 = .ok (.aaload, 1) := by decide +kernel
theorem dX5_addPile_9 : decode cX5_addPile 9 = .ok (.astore 4, 2) := by decide +kernel
theorem dX5_addPile_11 : decode cX5_addPile 11 = .ok (.aload 4, 2) := by decide +kernel
theorem dX5_addPile_13 : decode cX5_addPile 13 = .ok (.iload_n 1, 1) := by decide +kernel
theorem dX5_addPile_14 : decode cX5_addPile 14 = .ok (.putfield 60, 3) := by decide +kernel
theorem dX5_addPile_17 : decode cX5_addPile 17 = .ok (.aload 4, 2) := by decide +kernel
theorem dX5_addPile_19 : decode cX5_addPile 19 = .ok (.iload_n 2, 1) := by decide +kernel
theorem dX5_addPile_20 : decode cX5_addPile 20 = .ok (.putfield 63, 3) := by decide +kernel
theorem dX5_addPile_23 : decode cX5_addPile 23 = .ok (.aload 4, 2) := by decide +kernel
theorem dX5_addPile_25 : decode cX5_addPile 25 = .ok (.iload_n 3, 1) := by decide +kernel
theorem dX5_addPile_26 : decode cX5_addPile 26 = .ok (.putfield 66, 3) := by decide +kernel
theorem dX5_addPile_29 : decode cX5_addPile 29 = .ok (.aload 4, 2) := by decide +kernel
theorem dX5_addPile_31 : decode cX5_addPile 31 = .ok (.iload_n 1, 1) := by decide +kernel
theorem dX5_addPile_32 : decode cX5_addPile 32 = .ok (.putfield 69, 3) := by decide +kernel
theorem dX5_addPile_35 : decode cX5_addPile 35 = .ok (.aload 4, 2) := by decide +kernel
theorem dX5_addPile_37 : decode cX5_addPile 37 = .ok (.iload_n 2, 1) := by decide +kernel
theorem dX5_addPile_38 : decode cX5_addPile 38 = .ok (.putfield 72, 3) := by decide +kernel
theorem dX5_addPile_41 : decode cX5_addPile 41 = .ok (.aload_n 0, 1) := by decide +kernel
theorem dX5_addPile_42 : decode cX5_addPile 42 = .ok (.dup, 1) := by decide +kernel
theorem dX5_addPile_43 : decode cX5_addPile 43 = .ok (.getfield 39, 3) := by decide +kernel
theorem dX5_addPile_46 : decode cX5_addPile 46 = .ok (.iconst 1, 1) := by decide +kernel
theorem dX5_addPile_47 : decode cX5_addPile 47 = .ok (.iadd, 1) := by decide +kernel
theorem dX5_addPile_48 : decode cX5_addPile 48 = .ok (.putfield 39, 3) := by decide +kernel
theorem dX5_addPile_51 : decode cX5_addPile 51 = .ok (.aload_n 0, 1) := by decide +kernel
theorem dX5_addPile_52 : decode cX5_addPile 52 = .ok (.invokevirtual 75, 3) := by decide +kernel
theorem dX5_addPile_55 : decode cX5_addPile 55 = .ok (.aload_n 0, 1) := by decide +kernel
theorem dX5_addPile_56 : decode cX5_addPile 56 = .ok (.invokevirtual 78, 3) := by decide +kernel
theorem dX5_addPile_59 : decode cX5_addPile 59 = .ok (.aload_n 0, 1) := by decide +kernel
theorem dX5_addPile_60 : decode cX5_addPile 60 = .ok (.getfield 39, 3) := by decide +kernel
theorem dX5_addPile_63 : decode cX5_addPile 63 = .ok (.iconst 1, 1) := by decide +kernel
theorem dX5_addPile_64 : decode cX5_addPile 64 = .ok (.isub, 1) := by decide +kernel
theorem dX5_addPile_65 : decode cX5_addPile 65 = .ok (.ireturn, 1) := by decide +kernel
set_option maxRecDepth 20000 in
theorem ggX5_errorOfFind_X5_hasPile : GoodIn wsX5_errorOfFind wsX5_hasPile := goodIn_r _ [7, 8, 20, 21, 22, 23, 24, 25, 26, 27, 28, 29] (by decide +kernel) (by decide +kernel)
set_option maxRecDepth 20000 in
theorem gX5_errorOfFind_X5_hasPile : GoodIn wsX5_errorOfFind (wsV RX5 81 RX5 yX5_hasPile wsX5_hasPile) := goodIn_app (goodIn_of _ (by decide +kernel)) ggX5_errorOfFind_X5_hasPile
set_option maxRecDepth 20000 in
theorem ggX5_errorOfFind_X3_size : GoodIn wsX5_errorOfFind wsX3_size := goodIn_r _ [13, 14, 15, 16, 30, 31, 32, 33, 34] (by decide +kernel) (by decide +kernel)
set_option maxRecDepth 20000 in
theorem gX5_errorOfFind_X3_size : GoodIn wsX5_errorOfFind (wsV RX5 84 RX3 yX3_size wsX3_size) := goodIn_app (goodIn_of _ (by decide +kernel)) ggX5_errorOfFind_X3_size
set_option maxRecDepth 20000 in
theorem ggX5_errorOfFind_X6_has : GoodIn wsX5_errorOfFind wsX6_has := goodIn_r _ [19] (by decide +kernel) (by decide +kernel)
set_option maxRecDepth 20000 in
theorem gX5_errorOfFind_X6_has_n88 : GoodIn wsX5_errorOfFind (wsX6_has) := ggX5_errorOfFind_X6_has
theorem dX5_errorOfFind_0 : decode cX5_errorOfFind 0 = .ok (.aload_n 0, 1) := by decide +kernel
theorem dX5_errorOfFind_1 : decode cX5_errorOfFind 1 = .ok (.iload_n 1, 1) := by decide +kernel
theorem dX5_errorOfFind_2 : decode cX5_errorOfFind 2 = .ok (.invokevirtual 81, 3) := by decide +kernel
theorem dX5_errorOfFind_5 : decode cX5_errorOfFind 5 = .ok (.ifCond .ne 5, 3) := by decide +kernel
theorem dX5_errorOfFind_8 : decode cX5_errorOfFind 8 = .ok (.iconst (-1), 1) := by decide +kernel
theorem dX5_errorOfFind_9 : decode cX5_errorOfFind 9 = .ok (.ireturn, 1) := by decide +kernel
theorem dX5_errorOfFind_10 : decode cX5_errorOfFind 10 = .ok (.aload_n 0, 1) := by decide +kernel
theorem dX5_errorOfFind_11 : decode cX5_errorOfFind 11 = .ok (.getfield 11, 3) := by decide +kernel
theorem dX5_errorOfFind_14 : decode cX5_errorOfFind 14 = .ok (.iload_n 1, 1) := by decide +kernel
theorem dX5_errorOfFind_15 : decode cX5_errorOfFind 15 = .ok (.aaload, 1) := by decide +kernel
theorem dX5_errorOfFind_16 : decode cX5_errorOfFind 16 = .ok (.invokevirtual 84, 3) := by decide +kernel
theorem dX5_errorOfFind_19 : decode cX5_errorOfFind 19 = .ok (.istore 4, 2) := by decide +kernel
theorem dX5_errorOfFind_21 : decode cX5_errorOfFind 21 = .ok (.iload_n 2, 1) := by decide +kernel
theorem dX5_errorOfFind_22 : decode cX5_errorOfFind 22 = .ok (.ifCond .lt 21, 3) := by decide +kernel
theorem dX5_errorOfFind_25 : decode cX5_errorOfFind 25 = .ok (.iload_n 3, 1) := by decide +kernel
theorem dX5_errorOfFind_26 : decode cX5_errorOfFind 26 = .ok (.ifCond .lt 17, 3) := by decide +kernel
theorem dX5_errorOfFind_29 : decode cX5_errorOfFind 29 = .ok (.iload_n 2, 1) := by decide +kernel
theorem dX5_errorOfFind_30 : decode cX5_errorOfFind 30 = .ok (.iload 4, 2) := by decide +kernel
theorem dX5_errorOfFind_32 : decode cX5_errorOfFind 32 = .ok (.if_icmp .gt 11, 3) := by decide +kernel
theorem dX5_errorOfFind_35 : decode cX5_errorOfFind 35 = .ok (.iload_n 3, 1) := by decide +kernel
theorem dX5_errorOfFind_36 : decode cX5_errorOfFind 36 = .ok (.iload 4, 2) := by decide +kernel
theorem dX5_errorOfFind_38 : decode cX5_errorOfFind 38 = .ok (.iload_n 2, 1) := by decide +kernel
theorem dX5_errorOfFind_39 : decode cX5_errorOfFind 39 = .ok (.isub, 1) := by decide +kernel
theorem dX5_errorOfFind_40 : decode cX5_errorOfFind 40 = .ok (.if_icmp .le 6, 3) := by decide +kernel
theorem dX5_errorOfFind_43 : decode cX5_errorOfFind 43 = .ok (.bipush (-2), 2) := by decide +kernel
theorem dX5_errorOfFind_45 : decode cX5_errorOfFind 45 = .ok (.ireturn, 1) := by decide +kernel
theorem dX5_errorOfFind_46 : decode cX5_errorOfFind 46 = .ok (.aload_n 0, 1) := by decide +kernel
theorem dX5_errorOfFind_47 : decode cX5_errorOfFind 47 = .ok (.getfield 45, 3) := by decide +kernel
theorem dX5_errorOfFind_50 : decode cX5_errorOfFind 50 = .ok (.iload_n 1, 1) := by decide +kernel
theorem dX5_errorOfFind_51 : decode cX5_errorOfFind 51 = .ok (.invokestatic 88, 3) := by decide +kernel
theorem dX5_errorOfFind_54 : decode cX5_errorOfFind 54 = .ok (.ifCond .eq 8, 3) := by decide +kernel
theorem dX5_errorOfFind_57 : decode cX5_errorOfFind 57 = .ok (.bipush (-5), 2) := by decide +kernel
theorem dX5_errorOfFind_59 : decode cX5_errorOfFind 59 = .ok (.goto 4, 3) := by decide +kernel
theorem dX5_errorOfFind_62 : decode cX5_errorOfFind 62 = .ok (.iconst 0, 1) := by decide +kernel
theorem dX5_errorOfFind_63 : decode cX5_errorOfFind 63 = .ok (.ireturn, 1) := by decide +kernel
set_option maxRecDepth 20000 in
theorem ggX5_setFound_X3_foundLead : GoodIn wsX5_setFound wsX3_foundLead := goodIn_r _ [8, 9, 10, 27, 28, 29, 30, 31] (by decide +kernel) (by decide +kernel)
set_option maxRecDepth 20000 in
theorem gX5_setFound_X3_foundLead : GoodIn wsX5_setFound (wsV RX5 92 RX3 yX3_foundLead wsX3_foundLead) := goodIn_app (goodIn_of _ (by decide +kernel)) ggX5_setFound_X3_foundLead
set_option maxRecDepth 20000 in
theorem ggX5_setFound_X3_reportedLead : GoodIn wsX5_setFound wsX3_reportedLead := goodIn_r _ [14, 15, 16, 27, 28, 29, 30, 31] (by decide +kernel) (by decide +kernel)
set_option maxRecDepth 20000 in
theorem gX5_setFound_X3_reportedLead : GoodIn wsX5_setFound (wsV RX5 96 RX3 yX3_reportedLead wsX3_reportedLead) := goodIn_app (goodIn_of _ (by decide +kernel)) ggX5_setFound_X3_reportedLead
theorem dX5_setFound_0 : decode cX5_setFound 0 = .ok (.aload_n 0, 1) := by decide +kernel
theorem dX5_setFound_1 : decode cX5_setFound 1 = .ok (.getfield 11, 3) := by decide +kernel
theorem dX5_setFound_4 : decode cX5_setFound 4 = .ok (.iload_n 1, 1) := by decide +kernel
theorem dX5_setFound_5 : decode cX5_setFound 5 = .ok (.aaload, 1) := by decide +kernel
theorem dX5_setFound_6 : decode cX5_setFound 6 = .ok (.astore 4, 2) := by decide +kernel
theorem dX5_setFound_8 : decode cX5_setFound 8 = .ok (.aload 4, 2) := by decide +kernel
theorem dX5_setFound_10 : decode cX5_setFound 10 = .ok (.iload_n 2, 1) := by decide +kernel
theorem dX5_setFound_11 : decode cX5_setFound 11 = .ok (.putfield 69, 3) := by decide +kernel
theorem dX5_setFound_14 : decode cX5_setFound 14 = .ok (.aload 4, 2) := by decide +kernel
theorem dX5_setFound_16 : decode cX5_setFound 16 = .ok (.iload_n 3, 1) := by decide +kernel
theorem dX5_setFound_17 : decode cX5_setFound 17 = .ok (.putfield 72, 3) := by decide +kernel
theorem dX5_setFound_20 : decode cX5_setFound 20 = .ok (.aload 4, 2) := by decide +kernel
theorem dX5_setFound_22 : decode cX5_setFound 22 = .ok (.iconst 0, 1) := by decide +kernel
theorem dX5_setFound_23 : decode cX5_setFound 23 = .ok (.invokevirtual 92, 3) := by decide +kernel
theorem dX5_setFound_26 : decode cX5_setFound 26 = .ok (.aload 4, 2) := by decide +kernel
theorem dX5_setFound_28 : decode cX5_setFound 28 = .ok (.iconst 0, 1) := by decide +kernel
theorem dX5_setFound_29 : decode cX5_setFound 29 = .ok (.invokevirtual 96, 3) := by decide +kernel
theorem dX5_setFound_32 : decode cX5_setFound 32 = .ok (.isub, 1) := by decide +kernel
theorem dX5_setFound_33 : decode cX5_setFound 33 = .ok (.ireturn, 1) := by decide +kernel
set_option maxRecDepth 20000 in
theorem ggX5_findWinner_X3_reportedLead : GoodIn wsX5_findWinner wsX3_reportedLead := goodIn_r _ [8, 9, 10, 21, 22, 23, 24, 25] (by decide +kernel) (by decide +kernel)
set_option maxRecDepth 20000 in
theorem gX5_findWinner_X3_reportedLead : GoodIn wsX5_findWinner (wsV RX5 96 RX3 yX3_reportedLead wsX3_reportedLead) := goodIn_app (goodIn_of _ (by decide +kernel)) ggX5_findWinner_X3_reportedLead
theorem dX5_findWinner_0 : decode cX5_findWinner 0 = .ok (.iconst 0, 1) := by decide +kernel
theorem dX5_findWinner_1 : decode cX5_findWinner 1 = .ok (.istore_n 1, 1) := by decide +kernel
theorem dX5_findWinner_2 : decode cX5_findWinner 2 = .ok (.iconst 0, 1) := by decide +kernel
theorem dX5_findWinner_3 : decode cX5_findWinner 3 = .ok (.istore_n 2, 1) := by decide +kernel
theorem dX5_findWinner_4 : decode cX5_findWinner 4 = .ok (.iload_n 2, 1) := by decide +kernel
theorem dX5_findWinner_5 : decode cX5_findWinner 5 = .ok (.aload_n 0, 1) := by decide +kernel
theorem dX5_findWinner_6 : decode cX5_findWinner 6 = .ok (.getfield 39, 3) := by decide +kernel
theorem dX5_findWinner_9 : decode cX5_findWinner 9 = .ok (.if_icmp .ge 22, 3) := by decide +kernel
theorem dX5_findWinner_12 : decode cX5_findWinner 12 = .ok (.iload_n 1, 1) := by decide +kernel
theorem dX5_findWinner_13 : decode cX5_findWinner 13 = .ok (.aload_n 0, 1) := by decide +kernel
theorem dX5_findWinner_14 : decode cX5_findWinner 14 = .ok (.getfield 11, 3) := by decide +kernel
theorem dX5_findWinner_17 : decode cX5_findWinner 17 = .ok (.iload_n 2, 1) := by decide +kernel
theorem dX5_findWinner_18 : decode cX5_findWinner 18 = .ok (.aaload, 1) := by decide +kernel
theorem dX5_findWinner_19 : decode cX5_findWinner 19 = .ok (.iconst 0, 1) := by decide +kernel
theorem dX5_findWinner_20 : decode cX5_findWinner 20 = .ok (.invokevirtual 96, 3) := by decide +kernel
theorem dX5_findWinner_23 : decode cX5_findWinner 23 = .ok (.iadd, 1) := by decide +kernel
theorem dX5_findWinner_24 : decode cX5_findWinner 24 = .ok (.istore_n 1, 1) := by decide +kernel
theorem dX5_findWinner_25 : decode cX5_findWinner 25 = .ok (.iinc 2 1, 3) := by decide +kernel
theorem dX5_findWinner_28 : decode cX5_findWinner 28 = .ok (.goto (-24), 3) := by decide +kernel
theorem dX5_findWinner_31 : decode cX5_findWinner 31 = .ok (.aload_n 0, 1) := by decide +kernel
theorem dX5_findWinner_32 : decode cX5_findWinner 32 = .ok (.iload_n 1, 1) := by decide +kernel
theorem dX5_findWinner_33 : decode cX5_findWinner 33 = .ok (.ifCond .le 7, 3) := by decide +kernel
theorem dX5_findWinner_36 : decode cX5_findWinner 36 = .ok (.iconst 0, 1) := by decide +kernel
theorem dX5_findWinner_37 : decode cX5_findWinner 37 = .ok (.goto 13, 3) := by decide +kernel
theorem dX5_findWinner_40 : decode cX5_findWinner 40 = .ok (.iload_n 1, 1) := by decide +kernel
theorem dX5_findWinner_41 : decode cX5_findWinner 41 = .ok (.ifCond .ge 7, 3) := by decide +kernel
theorem dX5_findWinner_44 : decode cX5_findWinner 44 = .ok (.iconst 1, 1) := by decide +kernel
theorem dX5_findWinner_45 : decode cX5_findWinner 45 = .ok (.goto 5, 3) := by decide +kernel
theorem dX5_findWinner_48 : decode cX5_findWinner 48 = .ok (.bipush (-6), 2) := by decide +kernel
theorem dX5_findWinner_50 : decode cX5_findWinner 50 = .ok (.putfield 18, 3) := by decide +kernel
theorem dX5_findWinner_53 : decode cX5_findWinner 53 = .ok (.return_, 1) := by decide +kernel
set_option maxRecDepth 20000 in
theorem ggX5_rankSwings_X3_swing : GoodIn wsX5_rankSwings wsX3_swing := goodIn_r _ [9, 10, 11, 12, 8, 13, 14, 15, 16, 17, 18, 19, 20, 31, 32, 33, 34, 35] (by decide +kernel) (by decide +kernel)
set_option maxRecDepth 20000 in
theorem gX5_rankSwings_X3_swing : GoodIn wsX5_rankSwings (wsV RX5 99 RX3 yX3_swing wsX3_swing) := goodIn_app (goodIn_of _ (by decide +kernel)) ggX5_rankSwings_X3_swing
theorem dX5_rankSwings_0 : decode cX5_rankSwings 0 = .ok (.iconst 0, 1) := by decide +kernel
theorem dX5_rankSwings_1 : decode cX5_rankSwings 1 = .ok (.istore_n 1, 1) := by decide +kernel
theorem dX5_rankSwings_2 : decode cX5_rankSwings 2 = .ok (.iload_n 1, 1) := by decide +kernel
theorem dX5_rankSwings_3 : decode cX5_rankSwings 3 = .ok (.aload_n 0, 1) := by decide +kernel
theorem dX5_rankSwings_4 : decode cX5_rankSwings 4 = .ok (.getfield 39, 3) := by decide +kernel
theorem dX5_rankSwings_7 : decode cX5_rankSwings 7 = .ok (.if_icmp .ge 80, 3) := by decide +kernel
theorem dX5_rankSwings_10 : decode cX5_rankSwings 10 = .ok (.iload_n 1, 1) := by decide +kernel
theorem dX5_rankSwings_11 : decode cX5_rankSwings 11 = .ok (.istore_n 2, 1) := by decide +kernel
theorem dX5_rankSwings_12 : decode cX5_rankSwings 12 = .ok (.aload_n 0, 1) := by decide +kernel
theorem dX5_rankSwings_13 : decode cX5_rankSwings 13 = .ok (.getfield 11, 3) := by decide +kernel
theorem dX5_rankSwings_16 : decode cX5_rankSwings 16 = .ok (.iload_n 1, 1) := by decide +kernel
theorem dX5_rankSwings_17 : decode cX5_rankSwings 17 = .ok (.aaload, 1) := by decide +kernel
theorem dX5_rankSwings_18 : decode cX5_rankSwings 18 = .ok (.aload_n 0, 1) := by decide +kernel
theorem dX5_rankSwings_19 : decode cX5_rankSwings 19 = .ok (.getfield 18, 3) := by decide +kernel
theorem dX5_rankSwings_22 : decode cX5_rankSwings 22 = .ok (.invokevirtual 99, 3) := by decide +kernel
theorem dX5_rankSwings_25 : decode cX5_rankSwings 25 = .ok (.istore_n 3, 1) := by decide +kernel
theorem dX5_rankSwings_26 : decode cX5_rankSwings 26 = .ok (.iload_n 2, 1) := by decide +kernel
theorem dX5_rankSwings_27 : decode cX5_rankSwings 27 = .ok (.ifCond .le 47, 3) := by decide +kernel
theorem dX5_rankSwings_30 : decode cX5_rankSwings 30 = .ok (.aload_n 0, 1) := by decide +kernel
theorem dX5_rankSwings_31 : decode cX5_rankSwings 31 = .ok (.getfield 11, 3) := by decide +kernel
theorem dX5_rankSwings_34 : decode cX5_rankSwings 34 = .ok (.aload_n 0, 1) := by decide +kernel
theorem dX5_rankSwings_35 : decode cX5_rankSwings 35 = .ok (.getfield 22, 3) := by decide +kernel
theorem dX5_rankSwings_38 : decode cX5_rankSwings 38 = .ok (.iload_n 2, 1) := by decide +kernel
theorem dX5_rankSwings_39 : decode cX5_rankSwings 39 = .ok (.iconst 1, 1) := by decide +kernel
theorem dX5_rankSwings_40 : decode cX5_rankSwings 40 = .ok (.isub, 1) := by decide +kernel
theorem dX5_rankSwings_41 : decode cX5_rankSwings 41 = .ok (.iaload, 1) := by decide +kernel
theorem dX5_rankSwings_42 : decode cX5_rankSwings 42 = .ok (.aaload, 1) := by decide +kernel
theorem dX5_rankSwings_43 : decode cX5_rankSwings 43 = .ok (.aload_n 0, 1) := by decide +kernel
theorem dX5_rankSwings_44 : decode cX5_rankSwings 44 = .ok (.getfield 18, 3) := by decide +kernel
theorem dX5_rankSwings_47 : decode cX5_rankSwings 47 = .ok (.invokevirtual 99, 3) := by decide +kernel
theorem dX5_rankSwings_50 : decode cX5_rankSwings 50 = .ok (.iload_n 3, 1) := by decide +kernel
theorem dX5_rankSwings_51 : decode cX5_rankSwings 51 = .ok (.if_icmp .ge 23, 3) := by decide +kernel
theorem dX5_rankSwings_54 : decode cX5_rankSwings 54 = .ok (.aload_n 0, 1) := by decide +kernel
theorem dX5_rankSwings_55 : decode cX5_rankSwings 55 = .ok (.getfield 22, 3) := by decide +kernel
theorem dX5_rankSwings_58 : decode cX5_rankSwings 58 = .ok (.iload_n 2, 1) := by decide +kernel
theorem dX5_rankSwings_59 : decode cX5_rankSwings 59 = .ok (.aload_n 0, 1) := by decide +kernel
theorem dX5_rankSwings_60 : decode cX5_rankSwings 60 = .ok (.getfield 22, 3) := by decide +kernel
theorem dX5_rankSwings_63 : decode cX5_rankSwings 63 = .ok (.iload_n 2, 1) := by decide +kernel
theorem dX5_rankSwings_64 : decode cX5_rankSwings 64 = .ok (.iconst 1, 1) := by decide +kernel
theorem dX5_rankSwings_65 : decode cX5_rankSwings 65 = .ok (.isub, 1) := by decide +kernel
theorem dX5_rankSwings_66 : decode cX5_rankSwings 66 = .ok (.iaload, 1) := by decide +kernel
theorem dX5_rankSwings_67 : decode cX5_rankSwings 67 = .ok (.iastore, 1) := by decide +kernel
theorem dX5_rankSwings_68 : decode cX5_rankSwings 68 = .ok (.iinc 2 (-1), 3) := by decide +kernel
theorem dX5_rankSwings_71 : decode cX5_rankSwings 71 = .ok (.goto (-45), 3) := by decide +kernel
theorem dX5_rankSwings_74 : decode cX5_rankSwings 74 = .ok (.aload_n 0, 1) := by decide +kernel
theorem dX5_rankSwings_75 : decode cX5_rankSwings 75 = .ok (.getfield 22, 3) := by decide +kernel
theorem dX5_rankSwings_78 : decode cX5_rankSwings 78 = .ok (.iload_n 2, 1) := by decide +kernel
theorem dX5_rankSwings_79 : decode cX5_rankSwings 79 = .ok (.iload_n 1, 1) := by decide +kernel
theorem dX5_rankSwings_80 : decode cX5_rankSwings 80 = .ok (.iastore, 1) := by decide +kernel
theorem dX5_rankSwings_81 : decode cX5_rankSwings 81 = .ok (.iinc 1 1, 3) := by decide +kernel
theorem dX5_rankSwings_84 : decode cX5_rankSwings 84 = .ok (.goto (-82), 3) := by decide +kernel
theorem dX5_rankSwings_87 : decode cX5_rankSwings 87 = .ok (.return_, 1) := by decide +kernel
theorem dX5_placeOf_0 : decode cX5_placeOf 0 = .ok (.iconst 0, 1) := by decide +kernel
theorem dX5_placeOf_1 : decode cX5_placeOf 1 = .ok (.istore_n 2, 1) := by decide +kernel
theorem dX5_placeOf_2 : decode cX5_placeOf 2 = .ok (.iload_n 2, 1) := by decide +kernel
theorem dX5_placeOf_3 : decode cX5_placeOf 3 = .ok (.aload_n 0, 1) := by decide +kernel
theorem dX5_placeOf_4 : decode cX5_placeOf 4 = .ok (.getfield 42, 3) := by decide +kernel
theorem dX5_placeOf_7 : decode cX5_placeOf 7 = .ok (.if_icmp .ge 21, 3) := by decide +kernel
theorem dX5_placeOf_10 : decode cX5_placeOf 10 = .ok (.aload_n 0, 1) := by decide +kernel
theorem dX5_placeOf_11 : decode cX5_placeOf 11 = .ok (.getfield 26, 3) := by decide +kernel
theorem dX5_placeOf_14 : decode cX5_placeOf 14 = .ok (.iload_n 2, 1) := by decide +kernel
theorem dX5_placeOf_15 : decode cX5_placeOf 15 = .ok (.iaload, 1) := by decide +kernel
theorem dX5_placeOf_16 : decode cX5_placeOf 16 = .ok (.iload_n 1, 1) := by decide +kernel
theorem dX5_placeOf_17 : decode cX5_placeOf 17 = .ok (.if_icmp .ne 5, 3) := by decide +kernel
theorem dX5_placeOf_20 : decode cX5_placeOf 20 = .ok (.iload_n 2, 1) := by decide +kernel
theorem dX5_placeOf_21 : decode cX5_placeOf 21 = .ok (.ireturn, 1) := by decide +kernel
theorem dX5_placeOf_22 : decode cX5_placeOf 22 = .ok (.iinc 2 1, 3) := by decide +kernel
theorem dX5_placeOf_25 : decode cX5_placeOf 25 = .ok (.goto (-23), 3) := by decide +kernel
theorem dX5_placeOf_28 : decode cX5_placeOf 28 = .ok (.bipush (-6), 2) := by decide +kernel
theorem dX5_placeOf_30 : decode cX5_placeOf 30 = .ok (.ireturn, 1) := by decide +kernel
set_option maxRecDepth 20000 in
theorem ggX5_leadBy_X6_has : GoodIn wsX5_leadBy wsX6_has := goodIn_r _ [6] (by decide +kernel) (by decide +kernel)
set_option maxRecDepth 20000 in
theorem gX5_leadBy_X6_has_n88 : GoodIn wsX5_leadBy (wsX6_has) := ggX5_leadBy_X6_has
set_option maxRecDepth 20000 in
theorem ggX5_leadBy_X3_foundLead : GoodIn wsX5_leadBy wsX3_foundLead := goodIn_r _ [11, 12, 13, 30, 31, 32, 33, 34] (by decide +kernel) (by decide +kernel)
set_option maxRecDepth 20000 in
theorem gX5_leadBy_X3_foundLead : GoodIn wsX5_leadBy (wsV RX5 92 RX3 yX3_foundLead wsX3_foundLead) := goodIn_app (goodIn_of _ (by decide +kernel)) ggX5_leadBy_X3_foundLead
set_option maxRecDepth 20000 in
theorem ggX5_leadBy_X3_reportedLead : GoodIn wsX5_leadBy wsX3_reportedLead := goodIn_r _ [17, 18, 19, 30, 31, 32, 33, 34] (by decide +kernel) (by decide +kernel)
set_option maxRecDepth 20000 in
theorem gX5_leadBy_X3_reportedLead : GoodIn wsX5_leadBy (wsV RX5 96 RX3 yX3_reportedLead wsX3_reportedLead) := goodIn_app (goodIn_of _ (by decide +kernel)) ggX5_leadBy_X3_reportedLead
theorem dX5_leadBy_0 : decode cX5_leadBy 0 = .ok (.iconst 0, 1) := by decide +kernel
theorem dX5_leadBy_1 : decode cX5_leadBy 1 = .ok (.istore_n 2, 1) := by decide +kernel
theorem dX5_leadBy_2 : decode cX5_leadBy 2 = .ok (.iconst 0, 1) := by decide +kernel
theorem dX5_leadBy_3 : decode cX5_leadBy 3 = .ok (.istore_n 3, 1) := by decide +kernel
theorem dX5_leadBy_4 : decode cX5_leadBy 4 = .ok (.iload_n 3, 1) := by decide +kernel
theorem dX5_leadBy_5 : decode cX5_leadBy 5 = .ok (.aload_n 0, 1) := by decide +kernel
theorem dX5_leadBy_6 : decode cX5_leadBy 6 = .ok (.getfield 39, 3) := by decide +kernel
theorem dX5_leadBy_9 : decode cX5_leadBy 9 = .ok (.if_icmp .ge 49, 3) := by decide +kernel
theorem dX5_leadBy_12 : decode cX5_leadBy 12 = .ok (.iload_n 2, 1) := by decide +kernel
theorem dX5_leadBy_13 : decode cX5_leadBy 13 = .ok (.iload_n 1, 1) := by decide +kernel
theorem dX5_leadBy_14 : decode cX5_leadBy 14 = .ok (.iload_n 3, 1) := by decide +kernel
theorem dX5_leadBy_15 : decode cX5_leadBy 15 = .ok (.invokestatic 88, 3) := by decide +kernel
theorem dX5_leadBy_18 : decode cX5_leadBy 18 = .ok (.ifCond .eq 19, 3) := by decide +kernel
theorem dX5_leadBy_21 : decode cX5_leadBy 21 = .ok (.aload_n 0, 1) := by decide +kernel
theorem dX5_leadBy_22 : decode cX5_leadBy 22 = .ok (.getfield 11, 3) := by decide +kernel
theorem dX5_leadBy_25 : decode cX5_leadBy 25 = .ok (.iload_n 3, 1) := by decide +kernel
theorem dX5_leadBy_26 : decode cX5_leadBy 26 = .ok (.aaload, 1) := by decide +kernel
theorem dX5_leadBy_27 : decode cX5_leadBy 27 = .ok (.aload_n 0, 1) := by decide +kernel
theorem dX5_leadBy_28 : decode cX5_leadBy 28 = .ok (.getfield 18, 3) := by decide +kernel
theorem dX5_leadBy_31 : decode cX5_leadBy 31 = .ok (.invokevirtual 92, 3) := by decide +kernel
theorem dX5_leadBy_34 : decode cX5_leadBy 34 = .ok (.goto 16, 3) := by decide +kernel
theorem dX5_leadBy_37 : decode cX5_leadBy 37 = .ok (.aload_n 0, 1) := by decide +kernel
theorem dX5_leadBy_38 : decode cX5_leadBy 38 = .ok (.getfield 11, 3) := by decide +kernel
theorem dX5_leadBy_41 : decode cX5_leadBy 41 = .ok (.iload_n 3, 1) := by decide +kernel
theorem dX5_leadBy_42 : decode cX5_leadBy 42 = .ok (.aaload, 1) := by decide +kernel
theorem dX5_leadBy_43 : decode cX5_leadBy 43 = .ok (.aload_n 0, 1) := by decide +kernel
theorem dX5_leadBy_44 : decode cX5_leadBy 44 = .ok (.getfield 18, 3) := by decide +kernel
theorem dX5_leadBy_47 : decode cX5_leadBy 47 = .ok (.invokevirtual 96, 3) := by decide +kernel
theorem dX5_leadBy_50 : decode cX5_leadBy 50 = .ok (.iadd, 1) := by decide +kernel
theorem dX5_leadBy_51 : decode cX5_leadBy 51 = .ok (.istore_n 2, 1) := by decide +kernel
theorem dX5_leadBy_52 : decode cX5_leadBy 52 = .ok (.iinc 3 1, 3) := by decide +kernel
theorem dX5_leadBy_55 : decode cX5_leadBy 55 = .ok (.goto (-51), 3) := by decide +kernel
theorem dX5_leadBy_58 : decode cX5_leadBy 58 = .ok (.iload_n 2, 1) := by decide +kernel
theorem dX5_leadBy_59 : decode cX5_leadBy 59 = .ok (.ireturn, 1) := by decide +kernel
set_option maxRecDepth 20000 in
theorem ggX5_isRight_X5_allPiles : GoodIn wsX5_isRight wsX5_allPiles := goodIn_r _ [5, 6, 29, 30, 31, 32, 33, 34, 35, 36, 37, 38] (by decide +kernel) (by decide +kernel)
set_option maxRecDepth 20000 in
theorem gX5_isRight_X5_allPiles : GoodIn wsX5_isRight (wsV RX5 102 RX5 yX5_allPiles wsX5_allPiles) := goodIn_app (goodIn_of _ (by decide +kernel)) ggX5_isRight_X5_allPiles
set_option maxRecDepth 20000 in
theorem ggX5_isRight_X5_leadBy : GoodIn wsX5_isRight wsX5_leadBy := goodIn_r _ [10, 6, 11, 12, 13, 14, 15, 16, 17, 18, 19, 20, 21, 22, 23, 24, 25, 26, 27, 28, 29, 30, 31, 32, 33, 34, 35, 36, 37, 38, 39, 40, 41, 42, 43] (by decide +kernel) (by decide +kernel)
set_option maxRecDepth 20000 in
theorem gX5_isRight_X5_leadBy : GoodIn wsX5_isRight (wsV RX5 105 RX5 yX5_leadBy wsX5_leadBy) := goodIn_app (goodIn_of _ (by decide +kernel)) ggX5_isRight_X5_leadBy
theorem dX5_isRight_0 : decode cX5_isRight 0 = .ok (.aload_n 0, 1) := by decide +kernel
theorem dX5_isRight_1 : decode cX5_isRight 1 = .ok (.aload_n 0, 1) := by decide +kernel
theorem dX5_isRight_2 : decode cX5_isRight 2 = .ok (.invokevirtual 102, 3) := by decide +kernel
theorem dX5_isRight_5 : decode cX5_isRight 5 = .ok (.invokevirtual 105, 3) := by decide +kernel
theorem dX5_isRight_8 : decode cX5_isRight 8 = .ok (.ifCond .le 7, 3) := by decide +kernel
theorem dX5_isRight_11 : decode cX5_isRight 11 = .ok (.iconst 1, 1) := by decide +kernel
theorem dX5_isRight_12 : decode cX5_isRight 12 = .ok (.goto 4, 3) := by decide +kernel
theorem dX5_isRight_15 : decode cX5_isRight 15 = .ok (.iconst 0, 1) := by decide +kernel
theorem dX5_isRight_16 : decode cX5_isRight 16 = .ok (.ireturn, 1) := by decide +kernel
set_option maxRecDepth 20000 in
theorem ggX5_worseOf_X6_has : GoodIn wsX5_worseOf wsX6_has := goodIn_r _ [6] (by decide +kernel) (by decide +kernel)
set_option maxRecDepth 20000 in
theorem gX5_worseOf_X6_has_n88 : GoodIn wsX5_worseOf (wsX6_has) := ggX5_worseOf_X6_has
set_option maxRecDepth 20000 in
theorem ggX5_worseOf_X3_isWorse : GoodIn wsX5_worseOf wsX3_isWorse := goodIn_r _ [11, 12, 13, 14, 10, 15, 16, 17, 18, 19, 20, 21, 22, 23, 34, 35, 36, 37, 38] (by decide +kernel) (by decide +kernel)
set_option maxRecDepth 20000 in
theorem gX5_worseOf_X3_isWorse : GoodIn wsX5_worseOf (wsV RX5 108 RX3 yX3_isWorse wsX3_isWorse) := goodIn_app (goodIn_of _ (by decide +kernel)) ggX5_worseOf_X3_isWorse
theorem dX5_worseOf_0 : decode cX5_worseOf 0 = .ok (.iconst 0, 1) := by decide +kernel
theorem dX5_worseOf_1 : decode cX5_worseOf 1 = .ok (.istore_n 2, 1) := by decide +kernel
theorem dX5_worseOf_2 : decode cX5_worseOf 2 = .ok (.iconst 0, 1) := by decide +kernel
theorem dX5_worseOf_3 : decode cX5_worseOf 3 = .ok (.istore_n 3, 1) := by decide +kernel
theorem dX5_worseOf_4 : decode cX5_worseOf 4 = .ok (.iload_n 3, 1) := by decide +kernel
theorem dX5_worseOf_5 : decode cX5_worseOf 5 = .ok (.aload_n 0, 1) := by decide +kernel
theorem dX5_worseOf_6 : decode cX5_worseOf 6 = .ok (.getfield 39, 3) := by decide +kernel
theorem dX5_worseOf_9 : decode cX5_worseOf 9 = .ok (.if_icmp .ge 36, 3) := by decide +kernel
theorem dX5_worseOf_12 : decode cX5_worseOf 12 = .ok (.iload_n 1, 1) := by decide +kernel
theorem dX5_worseOf_13 : decode cX5_worseOf 13 = .ok (.iload_n 3, 1) := by decide +kernel
theorem dX5_worseOf_14 : decode cX5_worseOf 14 = .ok (.invokestatic 88, 3) := by decide +kernel
theorem dX5_worseOf_17 : decode cX5_worseOf 17 = .ok (.ifCond .eq 22, 3) := by decide +kernel
theorem dX5_worseOf_20 : decode cX5_worseOf 20 = .ok (.aload_n 0, 1) := by decide +kernel
theorem dX5_worseOf_21 : decode cX5_worseOf 21 = .ok (.getfield 11, 3) := by decide +kernel
theorem dX5_worseOf_24 : decode cX5_worseOf 24 = .ok (.iload_n 3, 1) := by decide +kernel
theorem dX5_worseOf_25 : decode cX5_worseOf 25 = .ok (.aaload, 1) := by decide +kernel
theorem dX5_worseOf_26 : decode cX5_worseOf 26 = .ok (.aload_n 0, 1) := by decide +kernel
theorem dX5_worseOf_27 : decode cX5_worseOf 27 = .ok (.getfield 18, 3) := by decide +kernel
theorem dX5_worseOf_30 : decode cX5_worseOf 30 = .ok (.invokevirtual 108, 3) := by decide +kernel
theorem dX5_worseOf_33 : decode cX5_worseOf 33 = .ok (.ifCond .eq 6, 3) := by decide +kernel
theorem dX5_worseOf_36 : decode cX5_worseOf 36 = .ok (.iinc 2 1, 3) := by decide +kernel
theorem dX5_worseOf_39 : decode cX5_worseOf 39 = .ok (.iinc 3 1, 3) := by decide +kernel
theorem dX5_worseOf_42 : decode cX5_worseOf 42 = .ok (.goto (-38), 3) := by decide +kernel
theorem dX5_worseOf_45 : decode cX5_worseOf 45 = .ok (.iload_n 2, 1) := by decide +kernel
theorem dX5_worseOf_46 : decode cX5_worseOf 46 = .ok (.ireturn, 1) := by decide +kernel
set_option maxRecDepth 20000 in
theorem ggX5_needFor_X6_has : GoodIn wsX5_needFor wsX6_has := goodIn_r _ [7] (by decide +kernel) (by decide +kernel)
set_option maxRecDepth 20000 in
theorem gX5_needFor_X6_has_n88 : GoodIn wsX5_needFor (wsX6_has) := ggX5_needFor_X6_has
set_option maxRecDepth 20000 in
theorem ggX5_needFor_X3_swing : GoodIn wsX5_needFor wsX3_swing := goodIn_r _ [12, 13, 14, 15, 11, 16, 17, 18, 19, 20, 21, 22, 23, 34, 35, 36, 37, 38] (by decide +kernel) (by decide +kernel)
set_option maxRecDepth 20000 in
theorem gX5_needFor_X3_swing : GoodIn wsX5_needFor (wsV RX5 99 RX3 yX3_swing wsX3_swing) := goodIn_app (goodIn_of _ (by decide +kernel)) ggX5_needFor_X3_swing
theorem dX5_needFor_0 : decode cX5_needFor 0 = .ok (.iload_n 1, 1) := by decide +kernel
theorem dX5_needFor_1 : decode cX5_needFor 1 = .ok (.ifCond .gt 5, 3) := by decide +kernel
theorem dX5_needFor_4 : decode cX5_needFor 4 = .ok (.iconst 0, 1) := by decide +kernel
theorem dX5_needFor_5 : decode cX5_needFor 5 = .ok (.ireturn, 1) := by decide +kernel
theorem dX5_needFor_6 : decode cX5_needFor 6 = .ok (.iconst 0, 1) := by decide +kernel
theorem dX5_needFor_7 : decode cX5_needFor 7 = .ok (.istore_n 3, 1) := by decide +kernel
theorem dX5_needFor_8 : decode cX5_needFor 8 = .ok (.iconst 0, 1) := by decide +kernel
theorem dX5_needFor_9 : decode cX5_needFor 9 = .ok (.istore 4, 2) := by decide +kernel
theorem dX5_needFor_11 : decode cX5_needFor 11 = .ok (.iconst 0, 1) := by decide +kernel
theorem dX5_needFor_12 : decode cX5_needFor 12 = .ok (.istore 5, 2) := by decide +kernel
theorem dX5_needFor_14 : decode cX5_needFor 14 = .ok (.iload 5, 2) := by decide +kernel
theorem dX5_needFor_16 : decode cX5_needFor 16 = .ok (.aload_n 0, 1) := by decide +kernel
theorem dX5_needFor_17 : decode cX5_needFor 17 = .ok (.getfield 39, 3) := by decide +kernel
theorem dX5_needFor_20 : decode cX5_needFor 20 = .ok (.if_icmp .ge 55, 3) := by decide +kernel
theorem dX5_needFor_23 : decode cX5_needFor 23 = .ok (.aload_n 0, 1) := by decide +kernel
theorem dX5_needFor_24 : decode cX5_needFor 24 = .ok (.getfield 22, 3) := by decide +kernel
theorem dX5_needFor_27 : decode cX5_needFor 27 = .ok (.iload 5, 2) := by decide +kernel
theorem dX5_needFor_29 : decode cX5_needFor 29 = .ok (.iaload, 1) := by decide +kernel
theorem dX5_needFor_30 : decode cX5_needFor 30 = .ok (.istore 6, 2) := by decide +kernel
theorem dX5_needFor_32 : decode cX5_needFor 32 = .ok (.iload_n 2, 1) := by decide +kernel
theorem dX5_needFor_33 : decode cX5_needFor 33 = .ok (.iload 6, 2) := by decide +kernel
theorem dX5_needFor_35 : decode cX5_needFor 35 = .ok (.invokestatic 88, 3) := by decide +kernel
theorem dX5_needFor_38 : decode cX5_needFor 38 = .ok (.ifCond .ne 31, 3) := by decide +kernel
theorem dX5_needFor_41 : decode cX5_needFor 41 = .ok (.iload_n 3, 1) := by decide +kernel
theorem dX5_needFor_42 : decode cX5_needFor 42 = .ok (.aload_n 0, 1) := by decide +kernel
theorem dX5_needFor_43 : decode cX5_needFor 43 = .ok (.getfield 11, 3) := by decide +kernel
theorem dX5_needFor_46 : decode cX5_needFor 46 = .ok (.iload 6, 2) := by decide +kernel
theorem dX5_needFor_48 : decode cX5_needFor 48 = .ok (.aaload, 1) := by decide +kernel
theorem dX5_needFor_49 : decode cX5_needFor 49 = .ok (.aload_n 0, 1) := by decide +kernel
theorem dX5_needFor_50 : decode cX5_needFor 50 = .ok (.getfield 18, 3) := by decide +kernel
theorem dX5_needFor_53 : decode cX5_needFor 53 = .ok (.invokevirtual 99, 3) := by decide +kernel
theorem dX5_needFor_56 : decode cX5_needFor 56 = .ok (.iadd, 1) := by decide +kernel
theorem dX5_needFor_57 : decode cX5_needFor 57 = .ok (.istore_n 3, 1) := by decide +kernel
theorem dX5_needFor_58 : decode cX5_needFor 58 = .ok (.iinc 4 1, 3) := by decide +kernel
theorem dX5_needFor_61 : decode cX5_needFor 61 = .ok (.iload_n 3, 1) := by decide +kernel
theorem dX5_needFor_62 : decode cX5_needFor 62 = .ok (.iload_n 1, 1) := by decide +kernel
theorem dX5_needFor_63 : decode cX5_needFor 63 = .ok (.if_icmp .lt 6, 3) := by decide +kernel
theorem dX5_needFor_66 : decode cX5_needFor 66 = .ok (.iload 4, 2) := by decide +kernel
theorem dX5_needFor_68 : decode cX5_needFor 68 = .ok (.ireturn, 1) := by decide +kernel
theorem dX5_needFor_69 : decode cX5_needFor 69 = .ok (.iinc 5 1, 3) := by decide +kernel
theorem dX5_needFor_72 : decode cX5_needFor 72 = .ok (.goto (-58), 3) := by decide +kernel
theorem dX5_needFor_75 : decode cX5_needFor 75 = .ok (.bipush (-6), 2) := by decide +kernel
theorem dX5_needFor_77 : decode cX5_needFor 77 = .ok (.ireturn, 1) := by decide +kernel
set_option maxRecDepth 20000 in
theorem ggX5_needNow_X5_leadBy : GoodIn wsX5_needNow wsX5_leadBy := goodIn_r _ [6, 7, 8, 9, 10, 11, 12, 13, 14, 15, 16, 17, 18, 19, 20, 21, 22, 23, 24, 25, 41, 42, 43, 44, 45, 46, 47, 48, 49, 50, 51, 52, 53, 54, 55] (by decide +kernel) (by decide +kernel)
set_option maxRecDepth 20000 in
theorem gX5_needNow_X5_leadBy : GoodIn wsX5_needNow (wsV RX5 105 RX5 yX5_leadBy wsX5_leadBy) := goodIn_app (goodIn_of _ (by decide +kernel)) ggX5_needNow_X5_leadBy
set_option maxRecDepth 20000 in
theorem ggX5_needNow_X5_needFor : GoodIn wsX5_needNow wsX5_needFor := goodIn_r _ [29, 7, 30, 8, 9, 10, 11, 12, 31, 32, 33, 16, 34, 35, 21, 22, 23, 24, 25, 36, 37, 38, 39, 40, 41, 42, 43, 44, 45, 46, 47, 48, 49, 50, 51, 52, 53, 54, 55] (by decide +kernel) (by decide +kernel)
set_option maxRecDepth 20000 in
theorem gX5_needNow_X5_needFor : GoodIn wsX5_needNow (wsV RX5 111 RX5 yX5_needFor wsX5_needFor) := goodIn_app (goodIn_of _ (by decide +kernel)) ggX5_needNow_X5_needFor
theorem dX5_needNow_0 : decode cX5_needNow 0 = .ok (.aload_n 0, 1) := by decide +kernel
theorem dX5_needNow_1 : decode cX5_needNow 1 = .ok (.aload_n 0, 1) := by decide +kernel
theorem dX5_needNow_2 : decode cX5_needNow 2 = .ok (.aload_n 0, 1) := by decide +kernel
theorem dX5_needNow_3 : decode cX5_needNow 3 = .ok (.getfield 45, 3) := by decide +kernel
theorem dX5_needNow_6 : decode cX5_needNow 6 = .ok (.invokevirtual 105, 3) := by decide +kernel
theorem dX5_needNow_9 : decode cX5_needNow 9 = .ok (.aload_n 0, 1) := by decide +kernel
theorem dX5_needNow_10 : decode cX5_needNow 10 = .ok (.getfield 45, 3) := by decide +kernel
theorem dX5_needNow_13 : decode cX5_needNow 13 = .ok (.invokevirtual 111, 3) := by decide +kernel
theorem dX5_needNow_16 : decode cX5_needNow 16 = .ok (.ireturn, 1) := by decide +kernel
set_option maxRecDepth 20000 in
theorem ggX5_greatestSwings_X6_has : GoodIn wsX5_greatestSwings wsX6_has := goodIn_r _ [6] (by decide +kernel) (by decide +kernel)
set_option maxRecDepth 20000 in
theorem gX5_greatestSwings_X6_has_n88 : GoodIn wsX5_greatestSwings (wsX6_has) := ggX5_greatestSwings_X6_has
theorem dX5_greatestSwings_0 : decode cX5_greatestSwings 0 = .ok (.iconst 0, 1) := by decide +kernel
theorem dX5_greatestSwings_1 : decode cX5_greatestSwings 1 = .ok (.istore_n 2, 1) := by decide +kernel
theorem dX5_greatestSwings_2 : decode cX5_greatestSwings 2 = .ok (.iconst 0, 1) := by decide +kernel
theorem dX5_greatestSwings_3 : decode cX5_greatestSwings 3 = .ok (.istore_n 3, 1) := by decide +kernel
theorem dX5_greatestSwings_4 : decode cX5_greatestSwings 4 = .ok (.iconst 0, 1) := by decide +kernel
theorem dX5_greatestSwings_5 : decode cX5_greatestSwings 5 = .ok (.istore 4, 2) := by decide +kernel
theorem dX5_greatestSwings_7 : decode cX5_greatestSwings 7 = .ok (.iload 4, 2) := by decide +kernel
theorem dX5_greatestSwings_9 : decode cX5_greatestSwings 9 = .ok (.aload_n 0, 1) := by decide +kernel
theorem dX5_greatestSwings_10 : decode cX5_greatestSwings 10 = .ok (.getfield 39, 3) := by decide +kernel
theorem dX5_greatestSwings_13 : decode cX5_greatestSwings 13 = .ok (.if_icmp .ge 46, 3) := by decide +kernel
theorem dX5_greatestSwings_16 : decode cX5_greatestSwings 16 = .ok (.iload_n 3, 1) := by decide +kernel
theorem dX5_greatestSwings_17 : decode cX5_greatestSwings 17 = .ok (.iload_n 1, 1) := by decide +kernel
theorem dX5_greatestSwings_18 : decode cX5_greatestSwings 18 = .ok (.if_icmp .ge 41, 3) := by decide +kernel
theorem dX5_greatestSwings_21 : decode cX5_greatestSwings 21 = .ok (.aload_n 0, 1) := by decide +kernel
theorem dX5_greatestSwings_22 : decode cX5_greatestSwings 22 = .ok (.getfield 45, 3) := by decide +kernel
theorem dX5_greatestSwings_25 : decode cX5_greatestSwings 25 = .ok (.aload_n 0, 1) := by decide +kernel
theorem dX5_greatestSwings_26 : decode cX5_greatestSwings 26 = .ok (.getfield 22, 3) := by decide +kernel
theorem dX5_greatestSwings_29 : decode cX5_greatestSwings 29 = .ok (.iload 4, 2) := by decide +kernel
theorem dX5_greatestSwings_31 : decode cX5_greatestSwings 31 = .ok (.iaload, 1) := by decide +kernel
theorem dX5_greatestSwings_32 : decode cX5_greatestSwings 32 = .ok (.invokestatic 88, 3) := by decide +kernel
theorem dX5_greatestSwings_35 : decode cX5_greatestSwings 35 = .ok (.ifCond .ne 18, 3) := by decide +kernel
theorem dX5_greatestSwings_38 : decode cX5_greatestSwings 38 = .ok (.iload_n 2, 1) := by decide +kernel
theorem dX5_greatestSwings_39 : decode cX5_greatestSwings 39 = .ok (.iconst 1, 1) := by decide +kernel
theorem dX5_greatestSwings_40 : decode cX5_greatestSwings 40 = .ok (.aload_n 0, 1) := by decide +kernel
theorem dX5_greatestSwings_41 : decode cX5_greatestSwings 41 = .ok (.getfield 22, 3) := by decide +kernel
theorem dX5_greatestSwings_44 : decode cX5_greatestSwings 44 = .ok (.iload 4, 2) := by decide +kernel
theorem dX5_greatestSwings_46 : decode cX5_greatestSwings 46 = .ok (.iaload, 1) := by decide +kernel
theorem dX5_greatestSwings_47 : decode cX5_greatestSwings 47 = .ok (.ishl, 1) := by decide +kernel
theorem dX5_greatestSwings_48 : decode cX5_greatestSwings 48 = .ok (.ior, 1) := by decide +kernel
theorem dX5_greatestSwings_49 : decode cX5_greatestSwings 49 = .ok (.istore_n 2, 1) := by decide +kernel
theorem dX5_greatestSwings_50 : decode cX5_greatestSwings 50 = .ok (.iinc 3 1, 3) := by decide +kernel
theorem dX5_greatestSwings_53 : decode cX5_greatestSwings 53 = .ok (.iinc 4 1, 3) := by decide +kernel
theorem dX5_greatestSwings_56 : decode cX5_greatestSwings 56 = .ok (.goto (-49), 3) := by decide +kernel
theorem dX5_greatestSwings_59 : decode cX5_greatestSwings 59 = .ok (.iload_n 2, 1) := by decide +kernel
theorem dX5_greatestSwings_60 : decode cX5_greatestSwings 60 = .ok (.ireturn, 1) := by decide +kernel
set_option maxRecDepth 20000 in
theorem ggX5_riskBehind_X5_hasWinner : GoodIn wsX5_riskBehind wsX5_hasWinner := goodIn_r _ [6, 7, 70, 71, 72, 73, 74, 75, 76, 77, 78, 79] (by decide +kernel) (by decide +kernel)
set_option maxRecDepth 20000 in
theorem gX5_riskBehind_X5_hasWinner : GoodIn wsX5_riskBehind (wsV RX5 52 RX5 yX5_hasWinner wsX5_hasWinner) := goodIn_app (goodIn_of _ (by decide +kernel)) ggX5_riskBehind_X5_hasWinner
set_option maxRecDepth 20000 in
theorem ggX5_riskBehind_X5_leadBy : GoodIn wsX5_riskBehind wsX5_leadBy := goodIn_r _ [11, 1, 12, 7, 13, 14, 15, 16, 17, 18, 19, 20, 21, 22, 23, 24, 25, 26, 27, 28, 70, 71, 72, 73, 74, 75, 76, 77, 78, 79, 80, 81, 82, 83, 84] (by decide +kernel) (by decide +kernel)
set_option maxRecDepth 20000 in
theorem gX5_riskBehind_X5_leadBy : GoodIn wsX5_riskBehind (wsV RX5 105 RX5 yX5_leadBy wsX5_leadBy) := goodIn_app (goodIn_of _ (by decide +kernel)) ggX5_riskBehind_X5_leadBy
set_option maxRecDepth 20000 in
theorem ggX5_riskBehind_X5_allPiles : GoodIn wsX5_riskBehind wsX5_allPiles := goodIn_r _ [32, 1, 70, 71, 72, 73, 74, 75, 76, 77, 78, 79] (by decide +kernel) (by decide +kernel)
set_option maxRecDepth 20000 in
theorem gX5_riskBehind_X5_allPiles : GoodIn wsX5_riskBehind (wsV RX5 102 RX5 yX5_allPiles wsX5_allPiles) := goodIn_app (goodIn_of _ (by decide +kernel)) ggX5_riskBehind_X5_allPiles
set_option maxRecDepth 20000 in
theorem ggX5_riskBehind_X5_needFor : GoodIn wsX5_riskBehind wsX5_needFor := goodIn_r _ [36, 1, 37, 12, 7, 13, 14, 15, 38, 39, 40, 19, 41, 42, 24, 25, 26, 27, 28, 43, 44, 45, 46, 47, 70, 71, 72, 73, 74, 75, 76, 77, 78, 79, 80, 81, 82, 83, 84] (by decide +kernel) (by decide +kernel)
set_option maxRecDepth 20000 in
theorem gX5_riskBehind_X5_needFor : GoodIn wsX5_riskBehind (wsV RX5 111 RX5 yX5_needFor wsX5_needFor) := goodIn_app (goodIn_of _ (by decide +kernel)) ggX5_riskBehind_X5_needFor
set_option maxRecDepth 20000 in
theorem ggX5_riskBehind_X5_worseOf : GoodIn wsX5_riskBehind wsX5_worseOf := goodIn_r _ [51, 1, 12, 7, 13, 14, 15, 52, 53, 54, 19, 55, 56, 17, 18, 20, 21, 22, 42, 24, 25, 26, 27, 28, 70, 71, 72, 73, 74, 75, 76, 77, 78, 79, 80, 81, 82, 83, 84] (by decide +kernel) (by decide +kernel)
set_option maxRecDepth 20000 in
theorem gX5_riskBehind_X5_worseOf : GoodIn wsX5_riskBehind (wsV RX5 115 RX5 yX5_worseOf wsX5_worseOf) := goodIn_app (goodIn_of _ (by decide +kernel)) ggX5_riskBehind_X5_worseOf
set_option maxRecDepth 20000 in
theorem ggX5_riskBehind_J6_bitCount_0f7a4 : GoodIn wsX5_riskBehind wsJ6_bitCount_0f7a4 := goodIn_r _ [60, 61, 62, 63] (by decide +kernel) (by decide +kernel)
set_option maxRecDepth 20000 in
theorem gX5_riskBehind_J6_bitCount_0f7a4 : GoodIn wsX5_riskBehind (va_wsS RX5 118 yJ6_bitCount_0f7a4 wsJ6_bitCount_0f7a4) := goodIn_app (goodIn_of _ (by decide +kernel)) ggX5_riskBehind_J6_bitCount_0f7a4
set_option maxRecDepth 20000 in
theorem ggX5_riskBehind_X6_riskThatAllAreMissed : GoodIn wsX5_riskBehind wsX6_riskThatAllAreMissed := goodIn_r _ [65, 66, 67, 68, 14, 69] (by decide +kernel) (by decide +kernel)
set_option maxRecDepth 20000 in
theorem gX5_riskBehind_X6_riskThatAllAreMissed_n123 : GoodIn wsX5_riskBehind (wsX6_riskThatAllAreMissed) := ggX5_riskBehind_X6_riskThatAllAreMissed
theorem dX5_riskBehind_0 : decode cX5_riskBehind 0 = .ok (.aload_n 0, 1) := by decide +kernel
theorem dX5_riskBehind_1 : decode cX5_riskBehind 1 = .ok (.invokevirtual 52, 3) := by decide +kernel
theorem dX5_riskBehind_4 : decode cX5_riskBehind 4 = .ok (.ifCond .ne 7, 3) := by decide +kernel
theorem dX5_riskBehind_7 : decode cX5_riskBehind 7 = .ok (.sipush 10000, 3) := by decide +kernel
theorem dX5_riskBehind_10 : decode cX5_riskBehind 10 = .ok (.ireturn, 1) := by decide +kernel
theorem dX5_riskBehind_11 : decode cX5_riskBehind 11 = .ok (.aload_n 0, 1) := by decide +kernel
theorem dX5_riskBehind_12 : decode cX5_riskBehind 12 = .ok (.iload_n 2, 1) := by decide +kernel
theorem dX5_riskBehind_13 : decode cX5_riskBehind 13 = .ok (.invokevirtual 105, 3) := by decide +kernel
theorem dX5_riskBehind_16 : decode cX5_riskBehind 16 = .ok (.istore_n 3, 1) := by decide +kernel
theorem dX5_riskBehind_17 : decode cX5_riskBehind 17 = .ok (.iload_n 1, 1) := by decide +kernel
theorem dX5_riskBehind_18 : decode cX5_riskBehind 18 = .ok (.aload_n 0, 1) := by decide +kernel
theorem dX5_riskBehind_19 : decode cX5_riskBehind 19 = .ok (.invokevirtual 102, 3) := by decide +kernel
theorem dX5_riskBehind_22 : decode cX5_riskBehind 22 = .ok (.if_icmp .ne 15, 3) := by decide +kernel
theorem dX5_riskBehind_25 : decode cX5_riskBehind 25 = .ok (.iload_n 3, 1) := by decide +kernel
theorem dX5_riskBehind_26 : decode cX5_riskBehind 26 = .ok (.ifCond .le 7, 3) := by decide +kernel
theorem dX5_riskBehind_29 : decode cX5_riskBehind 29 = .ok (.iconst 0, 1) := by decide +kernel
theorem dX5_riskBehind_30 : decode cX5_riskBehind 30 = .ok (.goto 6, 3) := by decide +kernel
theorem dX5_riskBehind_33 : decode cX5_riskBehind 33 = .ok (.sipush 10000, 3) := by decide +kernel
theorem dX5_riskBehind_36 : decode cX5_riskBehind 36 = .ok (.ireturn, 1) := by decide +kernel
theorem dX5_riskBehind_37 : decode cX5_riskBehind 37 = .ok (.aload_n 0, 1) := by decide +kernel
theorem dX5_riskBehind_38 : decode cX5_riskBehind 38 = .ok (.iload_n 3, 1) := by decide +kernel
theorem dX5_riskBehind_39 : decode cX5_riskBehind 39 = .ok (.iload_n 1, 1) := by decide +kernel
theorem dX5_riskBehind_40 : decode cX5_riskBehind 40 = .ok (.invokevirtual 111, 3) := by decide +kernel
theorem dX5_riskBehind_43 : decode cX5_riskBehind 43 = .ok (.istore 4, 2) := by decide +kernel
theorem dX5_riskBehind_45 : decode cX5_riskBehind 45 = .ok (.iload 4, 2) := by decide +kernel
theorem dX5_riskBehind_47 : decode cX5_riskBehind 47 = .ok (.ifCond .eq 11, 3) := by decide +kernel
theorem dX5_riskBehind_50 : decode cX5_riskBehind 50 = .ok (.aload_n 0, 1) := by decide +kernel
theorem dX5_riskBehind_51 : decode cX5_riskBehind 51 = .ok (.iload_n 2, 1) := by decide +kernel
theorem dX5_riskBehind_52 : decode cX5_riskBehind 52 = .ok (.invokevirtual 115, 3) := by decide +kernel
theorem dX5_riskBehind_55 : decode cX5_riskBehind 55 = .ok (.ifCond .le 7, 3) := by decide +kernel
theorem dX5_riskBehind_58 : decode cX5_riskBehind 58 = .ok (.sipush 10000, 3) := by decide +kernel
theorem dX5_riskBehind_61 : decode cX5_riskBehind 61 = .ok (.ireturn, 1) := by decide +kernel
theorem dX5_riskBehind_62 : decode cX5_riskBehind 62 = .ok (.iload 4, 2) := by decide +kernel
theorem dX5_riskBehind_64 : decode cX5_riskBehind 64 = .ok (.bipush (-6), 2) := by decide +kernel
theorem dX5_riskBehind_66 : decode cX5_riskBehind 66 = .ok (.if_icmp .ne 5, 3) := by decide +kernel
theorem dX5_riskBehind_69 : decode cX5_riskBehind 69 = .ok (.iconst 0, 1) := by decide +kernel
theorem dX5_riskBehind_70 : decode cX5_riskBehind 70 = .ok (.ireturn, 1) := by decide +kernel
theorem dX5_riskBehind_71 : decode cX5_riskBehind 71 = .ok (.aload_n 0, 1) := by decide +kernel
theorem dX5_riskBehind_72 : decode cX5_riskBehind 72 = .ok (.getfield 39, 3) := by decide +kernel
theorem dX5_riskBehind_75 : decode cX5_riskBehind 75 = .ok (.iload_n 1, 1) := by decide +kernel
theorem dX5_riskBehind_76 : decode cX5_riskBehind 76 = .ok (.invokestatic 118, 3) := by decide +kernel
theorem dX5_riskBehind_79 : decode cX5_riskBehind 79 = .ok (.iload 4, 2) := by decide +kernel
theorem dX5_riskBehind_81 : decode cX5_riskBehind 81 = .ok (.invokestatic 123, 3) := by decide +kernel
theorem dX5_riskBehind_84 : decode cX5_riskBehind 84 = .ok (.ireturn, 1) := by decide +kernel
set_option maxRecDepth 20000 in
theorem ggX5_mayStopNow_X5_riskBehind : GoodIn wsX5_mayStopNow wsX5_riskBehind := goodIn_r _ [7, 8, 9, 10, 11, 6, 12, 13, 14, 15, 16, 17, 18, 19, 20, 21, 22, 23, 24, 25, 26, 27, 28, 29, 30, 31, 32, 33, 34, 35, 36, 37, 38, 39, 40, 41, 42, 43, 44, 45, 46, 47, 48, 49, 50, 51, 52, 53, 54, 55, 56, 57, 58, 59, 60, 61, 62, 63, 64, 65, 66, 67, 68, 69, 70, 71, 72, 73, 74, 75, 76, 77, 78, 79, 80, 81, 82, 83, 84, 85, 86, 87, 88, 89, 90] (by decide +kernel) (by decide +kernel)
set_option maxRecDepth 20000 in
theorem gX5_mayStopNow_X5_riskBehind : GoodIn wsX5_mayStopNow (wsV RX5 127 RX5 yX5_riskBehind wsX5_riskBehind) := goodIn_app (goodIn_of _ (by decide +kernel)) ggX5_mayStopNow_X5_riskBehind
theorem dX5_mayStopNow_0 : decode cX5_mayStopNow 0 = .ok (.aload_n 0, 1) := by decide +kernel
theorem dX5_mayStopNow_1 : decode cX5_mayStopNow 1 = .ok (.aload_n 0, 1) := by decide +kernel
theorem dX5_mayStopNow_2 : decode cX5_mayStopNow 2 = .ok (.getfield 45, 3) := by decide +kernel
theorem dX5_mayStopNow_5 : decode cX5_mayStopNow 5 = .ok (.aload_n 0, 1) := by decide +kernel
theorem dX5_mayStopNow_6 : decode cX5_mayStopNow 6 = .ok (.getfield 45, 3) := by decide +kernel
theorem dX5_mayStopNow_9 : decode cX5_mayStopNow 9 = .ok (.invokevirtual 127, 3) := by decide +kernel
theorem dX5_mayStopNow_12 : decode cX5_mayStopNow 12 = .ok (.aload_n 0, 1) := by decide +kernel
theorem dX5_mayStopNow_13 : decode cX5_mayStopNow 13 = .ok (.getfield 29, 3) := by decide +kernel
theorem dX5_mayStopNow_16 : decode cX5_mayStopNow 16 = .ok (.if_icmp .gt 7, 3) := by decide +kernel
theorem dX5_mayStopNow_19 : decode cX5_mayStopNow 19 = .ok (.iconst 1, 1) := by decide +kernel
theorem dX5_mayStopNow_20 : decode cX5_mayStopNow 20 = .ok (.goto 4, 3) := by decide +kernel
theorem dX5_mayStopNow_23 : decode cX5_mayStopNow 23 = .ok (.iconst 0, 1) := by decide +kernel
theorem dX5_mayStopNow_24 : decode cX5_mayStopNow 24 = .ok (.ireturn, 1) := by decide +kernel
set_option maxRecDepth 20000 in
theorem ggX5_leastToStop_X5_allPiles : GoodIn wsX5_leastToStop wsX5_allPiles := goodIn_r _ [9, 3, 77, 78, 79, 80, 81, 82, 83, 84, 85, 86] (by decide +kernel) (by decide +kernel)
set_option maxRecDepth 20000 in
theorem gX5_leastToStop_X5_allPiles : GoodIn wsX5_leastToStop (wsV RX5 102 RX5 yX5_allPiles wsX5_allPiles) := goodIn_app (goodIn_of _ (by decide +kernel)) ggX5_leastToStop_X5_allPiles
set_option maxRecDepth 20000 in
theorem ggX5_leastToStop_X5_riskBehind : GoodIn wsX5_leastToStop wsX5_riskBehind := goodIn_r _ [13, 3, 14, 15, 16, 8, 17, 18, 19, 20, 21, 22, 23, 24, 25, 26, 27, 28, 29, 30, 31, 32, 33, 34, 35, 36, 37, 38, 39, 5, 6, 7, 9, 40, 41, 42, 43, 44, 45, 46, 47, 48, 49, 50, 51, 52, 53, 54, 55, 56, 57, 58, 59, 60, 61, 62, 63, 64, 65, 66, 67, 68, 69, 70, 71, 72, 73, 74, 75, 76, 77, 78, 79, 80, 81, 82, 83, 84, 85, 86, 87, 88, 89, 90, 91] (by decide +kernel) (by decide +kernel)
set_option maxRecDepth 20000 in
theorem gX5_leastToStop_X5_riskBehind : GoodIn wsX5_leastToStop (wsV RX5 127 RX5 yX5_riskBehind wsX5_riskBehind) := goodIn_app (goodIn_of _ (by decide +kernel)) ggX5_leastToStop_X5_riskBehind
set_option maxRecDepth 20000 in
theorem ggX5_leastToStop_J6_bitCount_0f7a4 : GoodIn wsX5_leastToStop wsJ6_bitCount_0f7a4 := goodIn_r _ [67, 68, 69, 70] (by decide +kernel) (by decide +kernel)
set_option maxRecDepth 20000 in
theorem gX5_leastToStop_J6_bitCount_0f7a4 : GoodIn wsX5_leastToStop (va_wsS RX5 118 yJ6_bitCount_0f7a4 wsJ6_bitCount_0f7a4) := goodIn_app (goodIn_of _ (by decide +kernel)) ggX5_leastToStop_J6_bitCount_0f7a4
set_option maxRecDepth 20000 in
theorem ggX5_leastToStop_X6_has : GoodIn wsX5_leastToStop wsX6_has := goodIn_r _ [26] (by decide +kernel) (by decide +kernel)
set_option maxRecDepth 20000 in
theorem gX5_leastToStop_X6_has_n88 : GoodIn wsX5_leastToStop (wsX6_has) := ggX5_leastToStop_X6_has
theorem dX5_leastToStop_0 : decode cX5_leastToStop 0 = .ok (.iconst 0, 1) := by decide +kernel
theorem dX5_leastToStop_1 : decode cX5_leastToStop 1 = .ok (.istore_n 1, 1) := by decide +kernel
theorem dX5_leastToStop_2 : decode cX5_leastToStop 2 = .ok (.iconst 0, 1) := by decide +kernel
theorem dX5_leastToStop_3 : decode cX5_leastToStop 3 = .ok (.istore_n 2, 1) := by decide +kernel
theorem dX5_leastToStop_4 : decode cX5_leastToStop 4 = .ok (.iload_n 2, 1) := by decide +kernel
theorem dX5_leastToStop_5 : decode cX5_leastToStop 5 = .ok (.aload_n 0, 1) := by decide +kernel
theorem dX5_leastToStop_6 : decode cX5_leastToStop 6 = .ok (.invokevirtual 102, 3) := by decide +kernel
theorem dX5_leastToStop_9 : decode cX5_leastToStop 9 = .ok (.if_icmp .gt 58, 3) := by decide +kernel
theorem dX5_leastToStop_12 : decode cX5_leastToStop 12 = .ok (.iload_n 2, 1) := by decide +kernel
theorem dX5_leastToStop_13 : decode cX5_leastToStop 13 = .ok (.aload_n 0, 1) := by decide +kernel
theorem dX5_leastToStop_14 : decode cX5_leastToStop 14 = .ok (.getfield 45, 3) := by decide +kernel
theorem dX5_leastToStop_17 : decode cX5_leastToStop 17 = .ok (.iand, 1) := by decide +kernel
theorem dX5_leastToStop_18 : decode cX5_leastToStop 18 = .ok (.ifCond .ne 7, 3) := by decide +kernel
theorem dX5_leastToStop_21 : decode cX5_leastToStop 21 = .ok (.iconst 1, 1) := by decide +kernel
theorem dX5_leastToStop_22 : decode cX5_leastToStop 22 = .ok (.goto 4, 3) := by decide +kernel
theorem dX5_leastToStop_25 : decode cX5_leastToStop 25 = .ok (.iconst 0, 1) := by decide +kernel
theorem dX5_leastToStop_26 : decode cX5_leastToStop 26 = .ok (.istore_n 3, 1) := by decide +kernel
theorem dX5_leastToStop_27 : decode cX5_leastToStop 27 = .ok (.iload_n 3, 1) := by decide +kernel
theorem dX5_leastToStop_28 : decode cX5_leastToStop 28 = .ok (.ifCond .eq 33, 3) := by decide +kernel
theorem dX5_leastToStop_31 : decode cX5_leastToStop 31 = .ok (.aload_n 0, 1) := by decide +kernel
theorem dX5_leastToStop_32 : decode cX5_leastToStop 32 = .ok (.aload_n 0, 1) := by decide +kernel
theorem dX5_leastToStop_33 : decode cX5_leastToStop 33 = .ok (.getfield 45, 3) := by decide +kernel
theorem dX5_leastToStop_36 : decode cX5_leastToStop 36 = .ok (.iload_n 2, 1) := by decide +kernel
theorem dX5_leastToStop_37 : decode cX5_leastToStop 37 = .ok (.ior, 1) := by decide +kernel
theorem dX5_leastToStop_38 : decode cX5_leastToStop 38 = .ok (.aload_n 0, 1) := by decide +kernel
theorem dX5_leastToStop_39 : decode cX5_leastToStop 39 = .ok (.getfield 45, 3) := by decide +kernel
theorem dX5_leastToStop_42 : decode cX5_leastToStop 42 = .ok (.invokevirtual 127, 3) := by decide +kernel
theorem dX5_leastToStop_45 : decode cX5_leastToStop 45 = .ok (.aload_n 0, 1) := by decide +kernel
theorem dX5_leastToStop_46 : decode cX5_leastToStop 46 = .ok (.getfield 29, 3) := by decide +kernel
theorem dX5_leastToStop_49 : decode cX5_leastToStop 49 = .ok (.if_icmp .le 12, 3) := by decide +kernel
theorem dX5_leastToStop_52 : decode cX5_leastToStop 52 = .ok (.iload_n 1, 1) := by decide +kernel
theorem dX5_leastToStop_53 : decode cX5_leastToStop 53 = .ok (.iconst 1, 1) := by decide +kernel
theorem dX5_leastToStop_54 : decode cX5_leastToStop 54 = .ok (.iload_n 2, 1) := by decide +kernel
theorem dX5_leastToStop_55 : decode cX5_leastToStop 55 = .ok (.invokestatic 118, 3) := by decide +kernel
theorem dX5_leastToStop_58 : decode cX5_leastToStop 58 = .ok (.ishl, 1) := by decide +kernel
theorem dX5_leastToStop_59 : decode cX5_leastToStop 59 = .ok (.ior, 1) := by decide +kernel
theorem dX5_leastToStop_60 : decode cX5_leastToStop 60 = .ok (.istore_n 1, 1) := by decide +kernel
theorem dX5_leastToStop_61 : decode cX5_leastToStop 61 = .ok (.iinc 2 1, 3) := by decide +kernel
theorem dX5_leastToStop_64 : decode cX5_leastToStop 64 = .ok (.goto (-60), 3) := by decide +kernel
theorem dX5_leastToStop_67 : decode cX5_leastToStop 67 = .ok (.iconst 0, 1) := by decide +kernel
theorem dX5_leastToStop_68 : decode cX5_leastToStop 68 = .ok (.istore_n 2, 1) := by decide +kernel
theorem dX5_leastToStop_69 : decode cX5_leastToStop 69 = .ok (.iload_n 2, 1) := by decide +kernel
theorem dX5_leastToStop_70 : decode cX5_leastToStop 70 = .ok (.aload_n 0, 1) := by decide +kernel
theorem dX5_leastToStop_71 : decode cX5_leastToStop 71 = .ok (.getfield 39, 3) := by decide +kernel
theorem dX5_leastToStop_74 : decode cX5_leastToStop 74 = .ok (.aload_n 0, 1) := by decide +kernel
theorem dX5_leastToStop_75 : decode cX5_leastToStop 75 = .ok (.getfield 42, 3) := by decide +kernel
theorem dX5_leastToStop_78 : decode cX5_leastToStop 78 = .ok (.isub, 1) := by decide +kernel
theorem dX5_leastToStop_79 : decode cX5_leastToStop 79 = .ok (.if_icmp .gt 19, 3) := by decide +kernel
theorem dX5_leastToStop_82 : decode cX5_leastToStop 82 = .ok (.iload_n 1, 1) := by decide +kernel
theorem dX5_leastToStop_83 : decode cX5_leastToStop 83 = .ok (.iload_n 2, 1) := by decide +kernel
theorem dX5_leastToStop_84 : decode cX5_leastToStop 84 = .ok (.invokestatic 88, 3) := by decide +kernel
theorem dX5_leastToStop_87 : decode cX5_leastToStop 87 = .ok (.ifCond .ne 5, 3) := by decide +kernel
theorem dX5_leastToStop_90 : decode cX5_leastToStop 90 = .ok (.iload_n 2, 1) := by decide +kernel
theorem dX5_leastToStop_91 : decode cX5_leastToStop 91 = .ok (.ireturn, 1) := by decide +kernel
theorem dX5_leastToStop_92 : decode cX5_leastToStop 92 = .ok (.iinc 2 1, 3) := by decide +kernel
theorem dX5_leastToStop_95 : decode cX5_leastToStop 95 = .ok (.goto (-26), 3) := by decide +kernel
theorem dX5_leastToStop_98 : decode cX5_leastToStop 98 = .ok (.bipush (-6), 2) := by decide +kernel
theorem dX5_leastToStop_100 : decode cX5_leastToStop 100 = .ok (.ireturn, 1) := by decide +kernel
theorem dX5_countPile_0 : decode cX5_countPile 0 = .ok (.aload_n 0, 1) := by decide +kernel
theorem dX5_countPile_1 : decode cX5_countPile 1 = .ok (.getfield 26, 3) := by decide +kernel
theorem dX5_countPile_4 : decode cX5_countPile 4 = .ok (.aload_n 0, 1) := by decide +kernel
theorem dX5_countPile_5 : decode cX5_countPile 5 = .ok (.getfield 42, 3) := by decide +kernel
theorem dX5_countPile_8 : decode cX5_countPile 8 = .ok (.iload_n 1, 1) := by decide +kernel
theorem dX5_countPile_9 : decode cX5_countPile 9 = .ok (.iastore, 1) := by decide +kernel
theorem dX5_countPile_10 : decode cX5_countPile 10 = .ok (.aload_n 0, 1) := by decide +kernel
theorem dX5_countPile_11 : decode cX5_countPile 11 = .ok (.dup, 1) := by decide +kernel
theorem dX5_countPile_12 : decode cX5_countPile 12 = .ok (.getfield 42, 3) := by decide +kernel
theorem dX5_countPile_15 : decode cX5_countPile 15 = .ok (.iconst 1, 1) := by decide +kernel
theorem dX5_countPile_16 : decode cX5_countPile 16 = .ok (.iadd, 1) := by decide +kernel
theorem dX5_countPile_17 : decode cX5_countPile 17 = .ok (.putfield 42, 3) := by decide +kernel
theorem dX5_countPile_20 : decode cX5_countPile 20 = .ok (.aload_n 0, 1) := by decide +kernel
theorem dX5_countPile_21 : decode cX5_countPile 21 = .ok (.dup, 1) := by decide +kernel
theorem dX5_countPile_22 : decode cX5_countPile 22 = .ok (.getfield 45, 3) := by decide +kernel
theorem dX5_countPile_25 : decode cX5_countPile 25 = .ok (.iconst 1, 1) := by decide +kernel
theorem dX5_countPile_26 : decode cX5_countPile 26 = .ok (.iload_n 1, 1) := by decide +kernel
theorem dX5_countPile_27 : decode cX5_countPile 27 = .ok (.ishl, 1) := by decide +kernel
theorem dX5_countPile_28 : decode cX5_countPile 28 = .ok (.ior, 1) := by decide +kernel
theorem dX5_countPile_29 : decode cX5_countPile 29 = .ok (.putfield 45, 3) := by decide +kernel
theorem dX5_countPile_32 : decode cX5_countPile 32 = .ok (.return_, 1) := by decide +kernel
set_option maxRecDepth 20000 in
theorem ggX5_drawNext_X5_notCountedIn : GoodIn wsX5_drawNext wsX5_notCountedIn := goodIn_r _ [12, 1, 13, 14, 15, 16, 22, 23, 24, 25, 26, 27, 28, 29, 30, 31] (by decide +kernel) (by decide +kernel)
set_option maxRecDepth 20000 in
theorem gX5_drawNext_X5_notCountedIn : GoodIn wsX5_drawNext (wsV RX5 137 RX5 yX5_notCountedIn wsX5_notCountedIn) := goodIn_app (goodIn_of _ (by decide +kernel)) ggX5_drawNext_X5_notCountedIn
set_option maxRecDepth 20000 in
theorem ggX5_drawNext_X5_countPile : GoodIn wsX5_drawNext wsX5_countPile := goodIn_r _ [20, 21, 2, 13, 22, 23, 24, 25, 26, 27, 28, 29, 30, 31] (by decide +kernel) (by decide +kernel)
set_option maxRecDepth 20000 in
theorem gX5_drawNext_X5_countPile : GoodIn wsX5_drawNext (wsV RX5 140 RX5 yX5_countPile wsX5_countPile) := goodIn_app (goodIn_of _ (by decide +kernel)) ggX5_drawNext_X5_countPile
theorem dX5_drawNext_0 : decode cX5_drawNext 0 = .ok (.aload_n 0, 1) := by decide +kernel
theorem dX5_drawNext_1 : decode cX5_drawNext 1 = .ok (.getfield 39, 3) := by decide +kernel
theorem dX5_drawNext_4 : decode cX5_drawNext 4 = .ok (.aload_n 0, 1) := by decide +kernel
theorem dX5_drawNext_5 : decode cX5_drawNext 5 = .ok (.getfield 42, 3) := by decide +kernel
theorem dX5_drawNext_8 : decode cX5_drawNext 8 = .ok (.isub, 1) := by decide +kernel
theorem dX5_drawNext_9 : decode cX5_drawNext 9 = .ok (.istore_n 1, 1) := by decide +kernel
theorem dX5_drawNext_10 : decode cX5_drawNext 10 = .ok (.iload_n 1, 1) := by decide +kernel
theorem dX5_drawNext_11 : decode cX5_drawNext 11 = .ok (.ifCond .gt 6, 3) := by decide +kernel
theorem dX5_drawNext_14 : decode cX5_drawNext 14 = .ok (.bipush (-6), 2) := by decide +kernel
theorem dX5_drawNext_16 : decode cX5_drawNext 16 = .ok (.ireturn, 1) := by decide +kernel
theorem dX5_drawNext_17 : decode cX5_drawNext 17 = .ok (.aload_n 0, 1) := by decide +kernel
theorem dX5_drawNext_18 : decode cX5_drawNext 18 = .ok (.aload_n 0, 1) := by decide +kernel
theorem dX5_drawNext_19 : decode cX5_drawNext 19 = .ok (.getfield 32, 3) := by decide +kernel
theorem dX5_drawNext_22 : decode cX5_drawNext 22 = .ok (.i2l, 1) := by decide +kernel
theorem dX5_drawNext_23 : decode cX5_drawNext 23 = .ok (.ldc2_w 130, 3) := by decide +kernel
theorem dX5_drawNext_26 : decode cX5_drawNext 26 = .ok (.lmul, 1) := by decide +kernel
theorem dX5_drawNext_27 : decode cX5_drawNext 27 = .ok (.ldc2_w 132, 3) := by decide +kernel
theorem dX5_drawNext_30 : decode cX5_drawNext 30 = .ok (.ladd, 1) := by decide +kernel
theorem dX5_drawNext_31 : decode cX5_drawNext 31 = .ok (.ldc2_w 134, 3) := by decide +kernel
theorem dX5_drawNext_34 : decode cX5_drawNext 34 = .ok (.lrem, 1) := by decide +kernel
theorem dX5_drawNext_35 : decode cX5_drawNext 35 = .ok (.l2i, 1) := by decide +kernel
theorem dX5_drawNext_36 : decode cX5_drawNext 36 = .ok (.putfield 32, 3) := by decide +kernel
theorem dX5_drawNext_39 : decode cX5_drawNext 39 = .ok (.aload_n 0, 1) := by decide +kernel
theorem dX5_drawNext_40 : decode cX5_drawNext 40 = .ok (.aload_n 0, 1) := by decide +kernel
theorem dX5_drawNext_41 : decode cX5_drawNext 41 = .ok (.getfield 32, 3) := by decide +kernel
theorem dX5_drawNext_44 : decode cX5_drawNext 44 = .ok (.ldc 136, 2) := by decide +kernel
theorem dX5_drawNext_46 : decode cX5_drawNext 46 = .ok (.idiv, 1) := by decide +kernel
theorem dX5_drawNext_47 : decode cX5_drawNext 47 = .ok (.iload_n 1, 1) := by decide +kernel
theorem dX5_drawNext_48 : decode cX5_drawNext 48 = .ok (.irem, 1) := by decide +kernel
theorem dX5_drawNext_49 : decode cX5_drawNext 49 = .ok (.invokevirtual 137, 3) := by decide +kernel
theorem dX5_drawNext_52 : decode cX5_drawNext 52 = .ok (.istore_n 2, 1) := by decide +kernel
theorem dX5_drawNext_53 : decode cX5_drawNext 53 = .ok (.iload_n 2, 1) := by decide +kernel
theorem dX5_drawNext_54 : decode cX5_drawNext 54 = .ok (.bipush (-6), 2) := by decide +kernel
theorem dX5_drawNext_56 : decode cX5_drawNext 56 = .ok (.if_icmp .eq 8, 3) := by decide +kernel
theorem dX5_drawNext_59 : decode cX5_drawNext 59 = .ok (.aload_n 0, 1) := by decide +kernel
theorem dX5_drawNext_60 : decode cX5_drawNext 60 = .ok (.iload_n 2, 1) := by decide +kernel
theorem dX5_drawNext_61 : decode cX5_drawNext 61 = .ok (.invokevirtual 140, 3) := by decide +kernel
theorem dX5_drawNext_64 : decode cX5_drawNext 64 = .ok (.iload_n 2, 1) := by decide +kernel
theorem dX5_drawNext_65 : decode cX5_drawNext 65 = .ok (.ireturn, 1) := by decide +kernel
set_option maxRecDepth 20000 in
theorem ggX5_notCountedIn_X6_has : GoodIn wsX5_notCountedIn wsX6_has := goodIn_r _ [5] (by decide +kernel) (by decide +kernel)
set_option maxRecDepth 20000 in
theorem gX5_notCountedIn_X6_has_n88 : GoodIn wsX5_notCountedIn (wsX6_has) := ggX5_notCountedIn_X6_has
theorem dX5_notCountedIn_0 : decode cX5_notCountedIn 0 = .ok (.iconst 0, 1) := by decide +kernel
theorem dX5_notCountedIn_1 : decode cX5_notCountedIn 1 = .ok (.istore_n 2, 1) := by decide +kernel
theorem dX5_notCountedIn_2 : decode cX5_notCountedIn 2 = .ok (.iconst 0, 1) := by decide +kernel
theorem dX5_notCountedIn_3 : decode cX5_notCountedIn 3 = .ok (.istore_n 3, 1) := by decide +kernel
theorem dX5_notCountedIn_4 : decode cX5_notCountedIn 4 = .ok (.iload_n 3, 1) := by decide +kernel
theorem dX5_notCountedIn_5 : decode cX5_notCountedIn 5 = .ok (.aload_n 0, 1) := by decide +kernel
theorem dX5_notCountedIn_6 : decode cX5_notCountedIn 6 = .ok (.getfield 39, 3) := by decide +kernel
theorem dX5_notCountedIn_9 : decode cX5_notCountedIn 9 = .ok (.if_icmp .ge 30, 3) := by decide +kernel
theorem dX5_notCountedIn_12 : decode cX5_notCountedIn 12 = .ok (.aload_n 0, 1) := by decide +kernel
theorem dX5_notCountedIn_13 : decode cX5_notCountedIn 13 = .ok (.getfield 45, 3) := by decide +kernel
theorem dX5_notCountedIn_16 : decode cX5_notCountedIn 16 = .ok (.iload_n 3, 1) := by decide +kernel
theorem dX5_notCountedIn_17 : decode cX5_notCountedIn 17 = .ok (.invokestatic 88, 3) := by decide +kernel
theorem dX5_notCountedIn_20 : decode cX5_notCountedIn 20 = .ok (.ifCond .ne 13, 3) := by decide +kernel
theorem dX5_notCountedIn_23 : decode cX5_notCountedIn 23 = .ok (.iload_n 2, 1) := by decide +kernel
theorem dX5_notCountedIn_24 : decode cX5_notCountedIn 24 = .ok (.iload_n 1, 1) := by decide +kernel
theorem dX5_notCountedIn_25 : decode cX5_notCountedIn 25 = .ok (.if_icmp .ne 5, 3) := by decide +kernel
theorem dX5_notCountedIn_28 : decode cX5_notCountedIn 28 = .ok (.iload_n 3, 1) := by decide +kernel
theorem dX5_notCountedIn_29 : decode cX5_notCountedIn 29 = .ok (.ireturn, 1) := by decide +kernel
theorem dX5_notCountedIn_30 : decode cX5_notCountedIn 30 = .ok (.iinc 2 1, 3) := by decide +kernel
theorem dX5_notCountedIn_33 : decode cX5_notCountedIn 33 = .ok (.iinc 3 1, 3) := by decide +kernel
theorem dX5_notCountedIn_36 : decode cX5_notCountedIn 36 = .ok (.goto (-32), 3) := by decide +kernel
theorem dX5_notCountedIn_39 : decode cX5_notCountedIn 39 = .ok (.bipush (-6), 2) := by decide +kernel
theorem dX5_notCountedIn_41 : decode cX5_notCountedIn 41 = .ok (.ireturn, 1) := by decide +kernel
set_option maxRecDepth 20000 in
theorem ggX5_drawUntilStop_X5_mayStopNow : GoodIn wsX5_drawUntilStop wsX5_mayStopNow := goodIn_r _ [7, 8, 9, 10, 11, 12, 6, 13, 2, 14, 15, 16, 17, 18, 19, 20, 21, 22, 23, 24, 25, 26, 27, 28, 29, 30, 31, 32, 33, 34, 35, 36, 37, 38, 39, 40, 41, 42, 43, 44, 45, 46, 47, 48, 49, 50, 51, 52, 53, 54, 55, 56, 57, 58, 59, 60, 61, 62, 63, 64, 65, 66, 67, 68, 69, 70, 71, 72, 73, 74, 75, 76, 77, 78, 79, 80, 99, 100, 101, 102, 103, 104, 105, 106, 107, 108, 109, 110, 111, 112, 113] (by decide +kernel) (by decide +kernel)
set_option maxRecDepth 20000 in
theorem gX5_drawUntilStop_X5_mayStopNow : GoodIn wsX5_drawUntilStop (wsV RX5 144 RX5 yX5_mayStopNow wsX5_mayStopNow) := goodIn_app (goodIn_of _ (by decide +kernel)) ggX5_drawUntilStop_X5_mayStopNow
set_option maxRecDepth 20000 in
theorem ggX5_drawUntilStop_X5_drawNext : GoodIn wsX5_drawUntilStop wsX5_drawNext := goodIn_r _ [84, 2, 1, 85, 86, 87, 88, 89, 90, 91, 92, 6, 93, 8, 24, 25, 26, 94, 95, 96, 97, 98, 99, 100, 101, 102, 103, 104, 105, 106, 107, 108] (by decide +kernel) (by decide +kernel)
set_option maxRecDepth 20000 in
theorem gX5_drawUntilStop_X5_drawNext : GoodIn wsX5_drawUntilStop (wsV RX5 147 RX5 yX5_drawNext wsX5_drawNext) := goodIn_app (goodIn_of _ (by decide +kernel)) ggX5_drawUntilStop_X5_drawNext
theorem dX5_drawUntilStop_0 : decode cX5_drawUntilStop 0 = .ok (.iconst 0, 1) := by decide +kernel
theorem dX5_drawUntilStop_1 : decode cX5_drawUntilStop 1 = .ok (.istore_n 1, 1) := by decide +kernel
theorem dX5_drawUntilStop_2 : decode cX5_drawUntilStop 2 = .ok (.aload_n 0, 1) := by decide +kernel
theorem dX5_drawUntilStop_3 : decode cX5_drawUntilStop 3 = .ok (.getfield 42, 3) := by decide +kernel
theorem dX5_drawUntilStop_6 : decode cX5_drawUntilStop 6 = .ok (.istore_n 2, 1) := by decide +kernel
theorem dX5_drawUntilStop_7 : decode cX5_drawUntilStop 7 = .ok (.iload_n 2, 1) := by decide +kernel
theorem dX5_drawUntilStop_8 : decode cX5_drawUntilStop 8 = .ok (.aload_n 0, 1) := by decide +kernel
theorem dX5_drawUntilStop_9 : decode cX5_drawUntilStop 9 = .ok (.getfield 39, 3) := by decide +kernel
theorem dX5_drawUntilStop_12 : decode cX5_drawUntilStop 12 = .ok (.if_icmp .ge 24, 3) := by decide +kernel
theorem dX5_drawUntilStop_15 : decode cX5_drawUntilStop 15 = .ok (.aload_n 0, 1) := by decide +kernel
theorem dX5_drawUntilStop_16 : decode cX5_drawUntilStop 16 = .ok (.invokevirtual 144, 3) := by decide +kernel
theorem dX5_drawUntilStop_19 : decode cX5_drawUntilStop 19 = .ok (.ifCond .ne 17, 3) := by decide +kernel
theorem dX5_drawUntilStop_22 : decode cX5_drawUntilStop 22 = .ok (.aload_n 0, 1) := by decide +kernel
theorem dX5_drawUntilStop_23 : decode cX5_drawUntilStop 23 = .ok (.invokevirtual 147, 3) := by decide +kernel
theorem dX5_drawUntilStop_26 : decode cX5_drawUntilStop 26 = .ok (.pop, 1) := by decide +kernel
theorem dX5_drawUntilStop_27 : decode cX5_drawUntilStop 27 = .ok (.iinc 1 1, 3) := by decide +kernel
theorem dX5_drawUntilStop_30 : decode cX5_drawUntilStop 30 = .ok (.iinc 2 1, 3) := by decide +kernel
theorem dX5_drawUntilStop_33 : decode cX5_drawUntilStop 33 = .ok (.goto (-26), 3) := by decide +kernel
theorem dX5_drawUntilStop_36 : decode cX5_drawUntilStop 36 = .ok (.iload_n 1, 1) := by decide +kernel
theorem dX5_drawUntilStop_37 : decode cX5_drawUntilStop 37 = .ok (.ireturn, 1) := by decide +kernel
set_option maxRecDepth 20000 in
theorem ggX6_init_X5_init : GoodIn wsX6_init wsX5_init := goodIn_r _ [28, 29, 2, 3, 30, 31, 32, 33, 34, 35, 36, 37, 38, 39, 40, 41, 42, 63, 64, 65, 66, 67, 68, 69, 70, 71, 72, 89, 90, 91, 92, 93] (by decide +kernel) (by decide +kernel)
set_option maxRecDepth 20000 in
theorem gX6_init_X5_init : GoodIn wsX6_init (wsX5_init) := ggX6_init_X5_init
set_option maxRecDepth 20000 in
theorem ggX6_init_X0_init : GoodIn wsX6_init wsX0_init := goodIn_r _ [45, 46, 2, 3, 47, 48, 5, 6, 49, 27, 28, 29, 30, 31, 32, 33, 34, 35, 36, 37, 38, 39, 40, 41, 42, 80, 81, 63, 64, 65, 66, 67, 68, 69, 70, 71, 72, 89, 90, 91, 92, 93] (by decide +kernel) (by decide +kernel)
set_option maxRecDepth 20000 in
theorem gX6_init_X0_init : GoodIn wsX6_init (wsX0_init) := ggX6_init_X0_init
set_option maxRecDepth 20000 in
theorem ggX6_init_X2_init : GoodIn wsX6_init wsX2_init := goodIn_r _ [51, 52, 2, 3, 35, 53, 82, 83] (by decide +kernel) (by decide +kernel)
set_option maxRecDepth 20000 in
theorem gX6_init_X2_init_n32 : GoodIn wsX6_init (wsX2_init) := ggX6_init_X2_init
set_option maxRecDepth 20000 in
theorem ggX6_init_X4_init : GoodIn wsX6_init wsX4_init := goodIn_r _ [55, 56, 2, 3, 35, 57, 84, 85, 86] (by decide +kernel) (by decide +kernel)
set_option maxRecDepth 20000 in
theorem gX6_init_X4_init_n39 : GoodIn wsX6_init (wsX4_init) := ggX6_init_X4_init
set_option maxRecDepth 20000 in
theorem ggX6_init_X1_init : GoodIn wsX6_init wsX1_init := goodIn_r _ [59, 60, 2, 3, 35, 61, 62, 87, 88] (by decide +kernel) (by decide +kernel)
set_option maxRecDepth 20000 in
theorem gX6_init_X1_init_n46 : GoodIn wsX6_init (wsX1_init) := ggX6_init_X1_init
theorem dX6_init_0 : decode cX6_init 0 = .ok (.aload_n 0, 1) := by decide +kernel
theorem dX6_init_1 : decode cX6_init 1 = .ok (.invokespecial 1, 3) := by decide +kernel
theorem dX6_init_4 : decode cX6_init 4 = .ok (.aload_n 0, 1) := by decide +kernel
theorem dX6_init_5 : decode cX6_init 5 = .ok (.new 7, 3) := by decide +kernel
theorem dX6_init_8 : decode cX6_init 8 = .ok (.dup, 1) := by decide +kernel
theorem dX6_init_9 : decode cX6_init 9 = .ok (.invokespecial 9, 3) := by decide +kernel
theorem dX6_init_12 : decode cX6_init 12 = .ok (.putfield 10, 3) := by decide +kernel
theorem dX6_init_15 : decode cX6_init 15 = .ok (.aload_n 0, 1) := by decide +kernel
theorem dX6_init_16 : decode cX6_init 16 = .ok (.new 7, 3) := by decide +kernel
theorem dX6_init_19 : decode cX6_init 19 = .ok (.dup, 1) := by decide +kernel
theorem dX6_init_20 : decode cX6_init 20 = .ok (.invokespecial 9, 3) := by decide +kernel
theorem dX6_init_23 : decode cX6_init 23 = .ok (.putfield 16, 3) := by decide +kernel
theorem dX6_init_26 : decode cX6_init 26 = .ok (.aload_n 0, 1) := by decide +kernel
theorem dX6_init_27 : decode cX6_init 27 = .ok (.iconst 2, 1) := by decide +kernel
theorem dX6_init_28 : decode cX6_init 28 = .ok (.anewarray 7, 3) := by decide +kernel
theorem dX6_init_31 : decode cX6_init 31 = .ok (.putfield 19, 3) := by decide +kernel
theorem dX6_init_34 : decode cX6_init 34 = .ok (.aload_n 0, 1) := by decide +kernel
theorem dX6_init_35 : decode cX6_init 35 = .ok (.new 23, 3) := by decide +kernel
theorem dX6_init_38 : decode cX6_init 38 = .ok (.dup, 1) := by decide +kernel
theorem dX6_init_39 : decode cX6_init 39 = .ok (.invokespecial 25, 3) := by decide +kernel
theorem dX6_init_42 : decode cX6_init 42 = .ok (.putfield 26, 3) := by decide +kernel
theorem dX6_init_45 : decode cX6_init 45 = .ok (.aload_n 0, 1) := by decide +kernel
theorem dX6_init_46 : decode cX6_init 46 = .ok (.new 30, 3) := by decide +kernel
theorem dX6_init_49 : decode cX6_init 49 = .ok (.dup, 1) := by decide +kernel
theorem dX6_init_50 : decode cX6_init 50 = .ok (.invokespecial 32, 3) := by decide +kernel
theorem dX6_init_53 : decode cX6_init 53 = .ok (.putfield 33, 3) := by decide +kernel
theorem dX6_init_56 : decode cX6_init 56 = .ok (.aload_n 0, 1) := by decide +kernel
theorem dX6_init_57 : decode cX6_init 57 = .ok (.new 37, 3) := by decide +kernel
theorem dX6_init_60 : decode cX6_init 60 = .ok (.dup, 1) := by decide +kernel
theorem dX6_init_61 : decode cX6_init 61 = .ok (.invokespecial 39, 3) := by decide +kernel
theorem dX6_init_64 : decode cX6_init 64 = .ok (.putfield 40, 3) := by decide +kernel
theorem dX6_init_67 : decode cX6_init 67 = .ok (.aload_n 0, 1) := by decide +kernel
theorem dX6_init_68 : decode cX6_init 68 = .ok (.new 44, 3) := by decide +kernel
theorem dX6_init_71 : decode cX6_init 71 = .ok (.dup, 1) := by decide +kernel
theorem dX6_init_72 : decode cX6_init 72 = .ok (.invokespecial 46, 3) := by decide +kernel
theorem dX6_init_75 : decode cX6_init 75 = .ok (.putfield 47, 3) := by decide +kernel
theorem dX6_init_78 : decode cX6_init 78 = .ok (.return_, 1) := by decide +kernel
set_option maxRecDepth 20000 in
theorem ggX6_pile_X5_errorOfPile : GoodIn wsX6_pile wsX5_errorOfPile := goodIn_r _ [7, 8, 9, 10, 11, 12, 83, 84, 85, 86, 87, 88, 89, 90, 91, 92] (by decide +kernel) (by decide +kernel)
set_option maxRecDepth 20000 in
theorem gX6_pile_X5_errorOfPile : GoodIn wsX6_pile (wsV RX6 51 RX5 yX5_errorOfPile wsX5_errorOfPile) := goodIn_app (goodIn_of _ (by decide +kernel)) ggX6_pile_X5_errorOfPile
set_option maxRecDepth 20000 in
theorem ggX6_pile_X0_record : GoodIn wsX6_pile wsX0_record := goodIn_r _ [17, 18, 19, 20, 21, 22, 16, 23, 24, 25, 26, 6, 27, 28, 29, 30, 8, 31, 9, 32, 33, 34, 35, 36, 37, 38, 39, 40, 41, 42, 43, 44, 45, 93, 94, 83, 84, 85, 86, 87, 88, 89, 90, 91, 92, 95, 96, 97, 98, 99] (by decide +kernel) (by decide +kernel)
set_option maxRecDepth 20000 in
theorem gX6_pile_X0_record : GoodIn wsX6_pile (wsV RX6 55 RX0 yX0_record wsX0_record) := goodIn_app (goodIn_of _ (by decide +kernel)) ggX6_pile_X0_record
set_option maxRecDepth 20000 in
theorem ggX6_pile_X5_addPile : GoodIn wsX6_pile wsX5_addPile := goodIn_r _ [49, 28, 8, 50, 51, 52, 53, 54, 55, 56, 57, 6, 58, 31, 59, 60, 61, 39, 62, 41, 42, 63, 64, 65, 66, 29, 67, 68, 69, 70, 71, 72, 73, 74, 75, 43, 83, 84, 85, 86, 87, 88, 89, 90, 91, 92, 95, 96, 97, 98, 99] (by decide +kernel) (by decide +kernel)
set_option maxRecDepth 20000 in
theorem gX6_pile_X5_addPile : GoodIn wsX6_pile (wsV RX6 59 RX5 yX5_addPile wsX5_addPile) := goodIn_app (goodIn_of _ (by decide +kernel)) ggX6_pile_X5_addPile
theorem dX6_pile_0 : decode cX6_pile 0 = .ok (.aload_n 0, 1) := by decide +kernel
theorem dX6_pile_1 : decode cX6_pile 1 = .ok (.getfield 10, 3) := by decide +kernel
theorem dX6_pile_4 : decode cX6_pile 4 = .ok (.iload_n 1, 1) := by decide +kernel
theorem dX6_pile_5 : decode cX6_pile 5 = .ok (.iload_n 2, 1) := by decide +kernel
theorem dX6_pile_6 : decode cX6_pile 6 = .ok (.iload_n 3, 1) := by decide +kernel
theorem dX6_pile_7 : decode cX6_pile 7 = .ok (.invokevirtual 51, 3) := by decide +kernel
theorem dX6_pile_10 : decode cX6_pile 10 = .ok (.istore 4, 2) := by decide +kernel
theorem dX6_pile_12 : decode cX6_pile 12 = .ok (.iload 4, 2) := by decide +kernel
theorem dX6_pile_14 : decode cX6_pile 14 = .ok (.ifCond .eq 6, 3) := by decide +kernel
theorem dX6_pile_17 : decode cX6_pile 17 = .ok (.iload 4, 2) := by decide +kernel
theorem dX6_pile_19 : decode cX6_pile 19 = .ok (.ireturn, 1) := by decide +kernel
theorem dX6_pile_20 : decode cX6_pile 20 = .ok (.aload_n 0, 1) := by decide +kernel
theorem dX6_pile_21 : decode cX6_pile 21 = .ok (.getfield 26, 3) := by decide +kernel
theorem dX6_pile_24 : decode cX6_pile 24 = .ok (.aload_n 0, 1) := by decide +kernel
theorem dX6_pile_25 : decode cX6_pile 25 = .ok (.getfield 10, 3) := by decide +kernel
theorem dX6_pile_28 : decode cX6_pile 28 = .ok (.invokevirtual 55, 3) := by decide +kernel
theorem dX6_pile_31 : decode cX6_pile 31 = .ok (.aload_n 0, 1) := by decide +kernel
theorem dX6_pile_32 : decode cX6_pile 32 = .ok (.getfield 10, 3) := by decide +kernel
theorem dX6_pile_35 : decode cX6_pile 35 = .ok (.iload_n 1, 1) := by decide +kernel
theorem dX6_pile_36 : decode cX6_pile 36 = .ok (.iload_n 2, 1) := by decide +kernel
theorem dX6_pile_37 : decode cX6_pile 37 = .ok (.iload_n 3, 1) := by decide +kernel
theorem dX6_pile_38 : decode cX6_pile 38 = .ok (.invokevirtual 59, 3) := by decide +kernel
theorem dX6_pile_41 : decode cX6_pile 41 = .ok (.ireturn, 1) := by decide +kernel
set_option maxRecDepth 20000 in
theorem ggX6_finds_X5_errorOfFind : GoodIn wsX6_finds wsX5_errorOfFind := goodIn_r _ [8, 9, 10, 11, 12, 13, 7, 14, 15, 16, 17, 18, 19, 20, 21, 22, 23, 24, 25, 26, 76, 77, 78, 79, 80, 81, 82, 83, 84, 85, 86, 87, 88, 89, 90] (by decide +kernel) (by decide +kernel)
set_option maxRecDepth 20000 in
theorem gX6_finds_X5_errorOfFind : GoodIn wsX6_finds (wsV RX6 62 RX5 yX5_errorOfFind wsX5_errorOfFind) := goodIn_app (goodIn_of _ (by decide +kernel)) ggX6_finds_X5_errorOfFind
set_option maxRecDepth 20000 in
theorem ggX6_finds_X0_record : GoodIn wsX6_finds wsX0_record := goodIn_r _ [31, 32, 33, 34, 35, 36, 30, 37, 38, 39, 40, 7, 41, 9, 42, 43, 15, 44, 45, 10, 46, 47, 48, 49, 50, 51, 19, 52, 21, 22, 23, 53, 54, 91, 92, 76, 77, 78, 79, 80, 81, 82, 83, 84, 85, 86, 87, 88, 89, 90] (by decide +kernel) (by decide +kernel)
set_option maxRecDepth 20000 in
theorem gX6_finds_X0_record : GoodIn wsX6_finds (wsV RX6 55 RX0 yX0_record wsX0_record) := goodIn_app (goodIn_of _ (by decide +kernel)) ggX6_finds_X0_record
set_option maxRecDepth 20000 in
theorem ggX6_finds_X5_setFound : GoodIn wsX6_finds wsX5_setFound := goodIn_r _ [58, 9, 59, 60, 61, 62, 63, 19, 64, 53, 54, 65, 66, 67, 68, 21, 22, 76, 77, 78, 79, 80, 81, 82, 83, 84, 85, 86, 87, 88, 89, 90] (by decide +kernel) (by decide +kernel)
set_option maxRecDepth 20000 in
theorem gX6_finds_X5_setFound : GoodIn wsX6_finds (wsV RX6 66 RX5 yX5_setFound wsX5_setFound) := goodIn_app (goodIn_of _ (by decide +kernel)) ggX6_finds_X5_setFound
theorem dX6_finds_0 : decode cX6_finds 0 = .ok (.aload_n 0, 1) := by decide +kernel
theorem dX6_finds_1 : decode cX6_finds 1 = .ok (.getfield 10, 3) := by decide +kernel
theorem dX6_finds_4 : decode cX6_finds 4 = .ok (.iload_n 1, 1) := by decide +kernel
theorem dX6_finds_5 : decode cX6_finds 5 = .ok (.iload_n 2, 1) := by decide +kernel
theorem dX6_finds_6 : decode cX6_finds 6 = .ok (.iload_n 3, 1) := by decide +kernel
theorem dX6_finds_7 : decode cX6_finds 7 = .ok (.invokevirtual 62, 3) := by decide +kernel
theorem dX6_finds_10 : decode cX6_finds 10 = .ok (.istore 4, 2) := by decide +kernel
theorem dX6_finds_12 : decode cX6_finds 12 = .ok (.iload 4, 2) := by decide +kernel
theorem dX6_finds_14 : decode cX6_finds 14 = .ok (.ifCond .eq 6, 3) := by decide +kernel
theorem dX6_finds_17 : decode cX6_finds 17 = .ok (.iload 4, 2) := by decide +kernel
theorem dX6_finds_19 : decode cX6_finds 19 = .ok (.ireturn, 1) := by decide +kernel
theorem dX6_finds_20 : decode cX6_finds 20 = .ok (.aload_n 0, 1) := by decide +kernel
theorem dX6_finds_21 : decode cX6_finds 21 = .ok (.getfield 26, 3) := by decide +kernel
theorem dX6_finds_24 : decode cX6_finds 24 = .ok (.aload_n 0, 1) := by decide +kernel
theorem dX6_finds_25 : decode cX6_finds 25 = .ok (.getfield 10, 3) := by decide +kernel
theorem dX6_finds_28 : decode cX6_finds 28 = .ok (.invokevirtual 55, 3) := by decide +kernel
theorem dX6_finds_31 : decode cX6_finds 31 = .ok (.ldc 65, 2) := by decide +kernel
theorem dX6_finds_33 : decode cX6_finds 33 = .ok (.aload_n 0, 1) := by decide +kernel
theorem dX6_finds_34 : decode cX6_finds 34 = .ok (.getfield 10, 3) := by decide +kernel
theorem dX6_finds_37 : decode cX6_finds 37 = .ok (.iload_n 1, 1) := by decide +kernel
theorem dX6_finds_38 : decode cX6_finds 38 = .ok (.iload_n 2, 1) := by decide +kernel
theorem dX6_finds_39 : decode cX6_finds 39 = .ok (.iload_n 3, 1) := by decide +kernel
theorem dX6_finds_40 : decode cX6_finds 40 = .ok (.invokevirtual 66, 3) := by decide +kernel
theorem dX6_finds_43 : decode cX6_finds 43 = .ok (.iadd, 1) := by decide +kernel
theorem dX6_finds_44 : decode cX6_finds 44 = .ok (.ireturn, 1) := by decide +kernel
set_option maxRecDepth 20000 in
theorem ggX6_limit_X0_record : GoodIn wsX6_limit wsX0_record := goodIn_r _ [9, 10, 11, 12, 13, 14, 8, 15, 16, 17, 18, 19, 20, 21, 22, 23, 24, 25, 26, 27, 28, 29, 30, 31, 32, 33, 34, 35, 36, 37, 38, 39, 40, 58, 59, 48, 49, 50, 51, 52, 53, 54, 55, 56, 57, 60, 61, 62, 63, 64] (by decide +kernel) (by decide +kernel)
set_option maxRecDepth 20000 in
theorem gX6_limit_X0_record : GoodIn wsX6_limit (wsV RX6 55 RX0 yX0_record wsX0_record) := goodIn_app (goodIn_of _ (by decide +kernel)) ggX6_limit_X0_record
theorem dX6_limit_0 : decode cX6_limit 0 = .ok (.iload_n 1, 1) := by decide +kernel
theorem dX6_limit_1 : decode cX6_limit 1 = .ok (.iconst 1, 1) := by decide +kernel
theorem dX6_limit_2 : decode cX6_limit 2 = .ok (.if_icmp .lt 10, 3) := by decide +kernel
theorem dX6_limit_5 : decode cX6_limit 5 = .ok (.iload_n 1, 1) := by decide +kernel
theorem dX6_limit_6 : decode cX6_limit 6 = .ok (.sipush 9999, 3) := by decide +kernel
theorem dX6_limit_9 : decode cX6_limit 9 = .ok (.if_icmp .le 6, 3) := by decide +kernel
theorem dX6_limit_12 : decode cX6_limit 12 = .ok (.bipush (-2), 2) := by decide +kernel
theorem dX6_limit_14 : decode cX6_limit 14 = .ok (.ireturn, 1) := by decide +kernel
theorem dX6_limit_15 : decode cX6_limit 15 = .ok (.aload_n 0, 1) := by decide +kernel
theorem dX6_limit_16 : decode cX6_limit 16 = .ok (.getfield 10, 3) := by decide +kernel
theorem dX6_limit_19 : decode cX6_limit 19 = .ok (.getfield 69, 3) := by decide +kernel
theorem dX6_limit_22 : decode cX6_limit 22 = .ok (.ifCond .le 6, 3) := by decide +kernel
theorem dX6_limit_25 : decode cX6_limit 25 = .ok (.bipush (-5), 2) := by decide +kernel
theorem dX6_limit_27 : decode cX6_limit 27 = .ok (.ireturn, 1) := by decide +kernel
theorem dX6_limit_28 : decode cX6_limit 28 = .ok (.aload_n 0, 1) := by decide +kernel
theorem dX6_limit_29 : decode cX6_limit 29 = .ok (.getfield 26, 3) := by decide +kernel
theorem dX6_limit_32 : decode cX6_limit 32 = .ok (.aload_n 0, 1) := by decide +kernel
theorem dX6_limit_33 : decode cX6_limit 33 = .ok (.getfield 10, 3) := by decide +kernel
theorem dX6_limit_36 : decode cX6_limit 36 = .ok (.invokevirtual 55, 3) := by decide +kernel
theorem dX6_limit_39 : decode cX6_limit 39 = .ok (.aload_n 0, 1) := by decide +kernel
theorem dX6_limit_40 : decode cX6_limit 40 = .ok (.getfield 10, 3) := by decide +kernel
theorem dX6_limit_43 : decode cX6_limit 43 = .ok (.getfield 73, 3) := by decide +kernel
theorem dX6_limit_46 : decode cX6_limit 46 = .ok (.istore_n 2, 1) := by decide +kernel
theorem dX6_limit_47 : decode cX6_limit 47 = .ok (.aload_n 0, 1) := by decide +kernel
theorem dX6_limit_48 : decode cX6_limit 48 = .ok (.getfield 10, 3) := by decide +kernel
theorem dX6_limit_51 : decode cX6_limit 51 = .ok (.iload_n 1, 1) := by decide +kernel
theorem dX6_limit_52 : decode cX6_limit 52 = .ok (.putfield 73, 3) := by decide +kernel
theorem dX6_limit_55 : decode cX6_limit 55 = .ok (.iload_n 2, 1) := by decide +kernel
theorem dX6_limit_56 : decode cX6_limit 56 = .ok (.ireturn, 1) := by decide +kernel
set_option maxRecDepth 20000 in
theorem ggX6_seed_X0_record : GoodIn wsX6_seed wsX0_record := goodIn_r _ [8, 9, 10, 11, 12, 13, 7, 14, 15, 16, 17, 18, 19, 20, 21, 22, 23, 24, 25, 26, 27, 28, 29, 30, 31, 32, 33, 34, 35, 36, 37, 38, 39, 57, 58, 47, 48, 49, 50, 51, 52, 53, 54, 55, 56, 59, 60, 61, 62, 63] (by decide +kernel) (by decide +kernel)
set_option maxRecDepth 20000 in
theorem gX6_seed_X0_record : GoodIn wsX6_seed (wsV RX6 55 RX0 yX0_record wsX0_record) := goodIn_app (goodIn_of _ (by decide +kernel)) ggX6_seed_X0_record
theorem dX6_seed_0 : decode cX6_seed 0 = .ok (.iload_n 1, 1) := by decide +kernel
theorem dX6_seed_1 : decode cX6_seed 1 = .ok (.ifCond .ge 6, 3) := by decide +kernel
theorem dX6_seed_4 : decode cX6_seed 4 = .ok (.bipush (-2), 2) := by decide +kernel
theorem dX6_seed_6 : decode cX6_seed 6 = .ok (.ireturn, 1) := by decide +kernel
theorem dX6_seed_7 : decode cX6_seed 7 = .ok (.aload_n 0, 1) := by decide +kernel
theorem dX6_seed_8 : decode cX6_seed 8 = .ok (.getfield 26, 3) := by decide +kernel
theorem dX6_seed_11 : decode cX6_seed 11 = .ok (.aload_n 0, 1) := by decide +kernel
theorem dX6_seed_12 : decode cX6_seed 12 = .ok (.getfield 10, 3) := by decide +kernel
theorem dX6_seed_15 : decode cX6_seed 15 = .ok (.invokevirtual 55, 3) := by decide +kernel
theorem dX6_seed_18 : decode cX6_seed 18 = .ok (.aload_n 0, 1) := by decide +kernel
theorem dX6_seed_19 : decode cX6_seed 19 = .ok (.getfield 10, 3) := by decide +kernel
theorem dX6_seed_22 : decode cX6_seed 22 = .ok (.getfield 76, 3) := by decide +kernel
theorem dX6_seed_25 : decode cX6_seed 25 = .ok (.istore_n 2, 1) := by decide +kernel
theorem dX6_seed_26 : decode cX6_seed 26 = .ok (.aload_n 0, 1) := by decide +kernel
theorem dX6_seed_27 : decode cX6_seed 27 = .ok (.getfield 10, 3) := by decide +kernel
theorem dX6_seed_30 : decode cX6_seed 30 = .ok (.iload_n 1, 1) := by decide +kernel
theorem dX6_seed_31 : decode cX6_seed 31 = .ok (.putfield 76, 3) := by decide +kernel
theorem dX6_seed_34 : decode cX6_seed 34 = .ok (.iload_n 2, 1) := by decide +kernel
theorem dX6_seed_35 : decode cX6_seed 35 = .ok (.ireturn, 1) := by decide +kernel
set_option maxRecDepth 20000 in
theorem ggX6_draw_X5_isOpen : GoodIn wsX6_draw wsX5_isOpen := goodIn_r _ [7, 8, 9, 10, 11, 6, 12, 13, 77, 78, 79, 80, 81, 82, 83, 84, 85, 86] (by decide +kernel) (by decide +kernel)
set_option maxRecDepth 20000 in
theorem gX6_draw_X5_isOpen : GoodIn wsX6_draw (wsV RX6 79 RX5 yX5_isOpen wsX5_isOpen) := goodIn_app (goodIn_of _ (by decide +kernel)) ggX6_draw_X5_isOpen
set_option maxRecDepth 20000 in
theorem ggX6_draw_X5_isAllCounted : GoodIn wsX6_draw wsX5_isAllCounted := goodIn_r _ [17, 18, 19, 77, 78, 79, 80, 81, 82, 83, 84, 85, 86] (by decide +kernel) (by decide +kernel)
set_option maxRecDepth 20000 in
theorem gX6_draw_X5_isAllCounted : GoodIn wsX6_draw (wsV RX6 83 RX5 yX5_isAllCounted wsX5_isAllCounted) := goodIn_app (goodIn_of _ (by decide +kernel)) ggX6_draw_X5_isAllCounted
set_option maxRecDepth 20000 in
theorem ggX6_draw_X0_record : GoodIn wsX6_draw wsX0_record := goodIn_r _ [24, 25, 26, 27, 28, 29, 23, 30, 31, 32, 33, 6, 34, 35, 36, 37, 19, 13, 18, 38, 39, 40, 8, 41, 42, 43, 44, 45, 46, 47, 48, 49, 50, 87, 88, 77, 78, 79, 80, 81, 82, 83, 84, 85, 86, 89, 90, 91, 92, 93] (by decide +kernel) (by decide +kernel)
set_option maxRecDepth 20000 in
theorem gX6_draw_X0_record : GoodIn wsX6_draw (wsV RX6 55 RX0 yX0_record wsX0_record) := goodIn_app (goodIn_of _ (by decide +kernel)) ggX6_draw_X0_record
set_option maxRecDepth 20000 in
theorem ggX6_draw_X5_drawNext : GoodIn wsX6_draw wsX5_drawNext := goodIn_r _ [54, 19, 18, 40, 55, 56, 57, 58, 59, 60, 61, 6, 62, 38, 63, 64, 65, 66, 67, 68, 69, 37, 77, 78, 79, 80, 81, 82, 83, 84, 85, 86] (by decide +kernel) (by decide +kernel)
set_option maxRecDepth 20000 in
theorem gX6_draw_X5_drawNext : GoodIn wsX6_draw (wsV RX6 86 RX5 yX5_drawNext wsX5_drawNext) := goodIn_app (goodIn_of _ (by decide +kernel)) ggX6_draw_X5_drawNext
theorem dX6_draw_0 : decode cX6_draw 0 = .ok (.aload_n 0, 1) := by decide +kernel
theorem dX6_draw_1 : decode cX6_draw 1 = .ok (.getfield 10, 3) := by decide +kernel
theorem dX6_draw_4 : decode cX6_draw 4 = .ok (.invokevirtual 79, 3) := by decide +kernel
theorem dX6_draw_7 : decode cX6_draw 7 = .ok (.ifCond .eq 13, 3) := by decide +kernel
theorem dX6_draw_10 : decode cX6_draw 10 = .ok (.aload_n 0, 1) := by decide +kernel
theorem dX6_draw_11 : decode cX6_draw 11 = .ok (.getfield 10, 3) := by decide +kernel
theorem dX6_draw_14 : decode cX6_draw 14 = .ok (.invokevirtual 83, 3) := by decide +kernel
theorem dX6_draw_17 : decode cX6_draw 17 = .ok (.ifCond .eq 6, 3) := by decide +kernel
theorem dX6_draw_20 : decode cX6_draw 20 = .ok (.bipush (-5), 2) := by decide +kernel
theorem dX6_draw_22 : decode cX6_draw 22 = .ok (.ireturn, 1) := by decide +kernel
theorem dX6_draw_23 : decode cX6_draw 23 = .ok (.aload_n 0, 1) := by decide +kernel
theorem dX6_draw_24 : decode cX6_draw 24 = .ok (.getfield 26, 3) := by decide +kernel
theorem dX6_draw_27 : decode cX6_draw 27 = .ok (.aload_n 0, 1) := by decide +kernel
theorem dX6_draw_28 : decode cX6_draw 28 = .ok (.getfield 10, 3) := by decide +kernel
theorem dX6_draw_31 : decode cX6_draw 31 = .ok (.invokevirtual 55, 3) := by decide +kernel
theorem dX6_draw_34 : decode cX6_draw 34 = .ok (.aload_n 0, 1) := by decide +kernel
theorem dX6_draw_35 : decode cX6_draw 35 = .ok (.getfield 10, 3) := by decide +kernel
theorem dX6_draw_38 : decode cX6_draw 38 = .ok (.invokevirtual 86, 3) := by decide +kernel
theorem dX6_draw_41 : decode cX6_draw 41 = .ok (.ireturn, 1) := by decide +kernel
set_option maxRecDepth 20000 in
theorem ggX6_count_X5_hasPile : GoodIn wsX6_count wsX5_hasPile := goodIn_r _ [9, 10, 68, 69, 70, 71, 72, 73, 74, 75, 76, 77] (by decide +kernel) (by decide +kernel)
set_option maxRecDepth 20000 in
theorem gX6_count_X5_hasPile : GoodIn wsX6_count (wsV RX6 90 RX5 yX5_hasPile wsX5_hasPile) := goodIn_app (goodIn_of _ (by decide +kernel)) ggX6_count_X5_hasPile
set_option maxRecDepth 20000 in
theorem ggX6_count_X5_isOpen : GoodIn wsX6_count wsX5_isOpen := goodIn_r _ [14, 15, 16, 17, 18, 8, 19, 20, 68, 69, 70, 71, 72, 73, 74, 75, 76, 77] (by decide +kernel) (by decide +kernel)
set_option maxRecDepth 20000 in
theorem gX6_count_X5_isOpen : GoodIn wsX6_count (wsV RX6 79 RX5 yX5_isOpen wsX5_isOpen) := goodIn_app (goodIn_of _ (by decide +kernel)) ggX6_count_X5_isOpen
set_option maxRecDepth 20000 in
theorem ggX6_count_X6_has : GoodIn wsX6_count wsX6_has := goodIn_r _ [24] (by decide +kernel) (by decide +kernel)
set_option maxRecDepth 20000 in
theorem gX6_count_X6_has : GoodIn wsX6_count (va_wsS RX6 97 yX6_has wsX6_has) := goodIn_app (goodIn_of _ (by decide +kernel)) ggX6_count_X6_has
set_option maxRecDepth 20000 in
theorem ggX6_count_X0_record : GoodIn wsX6_count wsX0_record := goodIn_r _ [29, 30, 31, 32, 33, 34, 28, 35, 36, 37, 38, 8, 39, 40, 41, 42, 10, 20, 43, 44, 45, 46, 15, 47, 48, 49, 50, 51, 52, 53, 54, 55, 56, 78, 79, 68, 69, 70, 71, 72, 73, 74, 75, 76, 77, 80, 81, 82, 83, 84] (by decide +kernel) (by decide +kernel)
set_option maxRecDepth 20000 in
theorem gX6_count_X0_record : GoodIn wsX6_count (wsV RX6 55 RX0 yX0_record wsX0_record) := goodIn_app (goodIn_of _ (by decide +kernel)) ggX6_count_X0_record
set_option maxRecDepth 20000 in
theorem ggX6_count_X5_countPile : GoodIn wsX6_count wsX5_countPile := goodIn_r _ [60, 42, 43, 44, 68, 69, 70, 71, 72, 73, 74, 75, 76, 77] (by decide +kernel) (by decide +kernel)
set_option maxRecDepth 20000 in
theorem gX6_count_X5_countPile : GoodIn wsX6_count (wsV RX6 101 RX5 yX5_countPile wsX5_countPile) := goodIn_app (goodIn_of _ (by decide +kernel)) ggX6_count_X5_countPile
theorem dX6_count_0 : decode cX6_count 0 = .ok (.aload_n 0, 1) := by decide +kernel
theorem dX6_count_1 : decode cX6_count 1 = .ok (.getfield 10, 3) := by decide +kernel
theorem dX6_count_4 : decode cX6_count 4 = .ok (.iload_n 1, 1) := by decide +kernel
theorem dX6_count_5 : decode cX6_count 5 = .ok (.invokevirtual 90, 3) := by decide +kernel
theorem dX6_count_8 : decode cX6_count 8 = .ok (.ifCond .ne 5, 3) := by decide +kernel
theorem dX6_count_11 : decode cX6_count 11 = .ok (.iconst (-1), 1) := by decide +kernel
theorem dX6_count_12 : decode cX6_count 12 = .ok (.ireturn, 1) := by decide +kernel
theorem dX6_count_13 : decode cX6_count 13 = .ok (.aload_n 0, 1) := by decide +kernel
theorem dX6_count_14 : decode cX6_count 14 = .ok (.getfield 10, 3) := by decide +kernel
theorem dX6_count_17 : decode cX6_count 17 = .ok (.invokevirtual 79, 3) := by decide +kernel
theorem dX6_count_20 : decode cX6_count 20 = .ok (.ifCond .eq 17, 3) := by decide +kernel
theorem dX6_count_23 : decode cX6_count 23 = .ok (.aload_n 0, 1) := by decide +kernel
theorem dX6_count_24 : decode cX6_count 24 = .ok (.getfield 10, 3) := by decide +kernel
theorem dX6_count_27 : decode cX6_count 27 = .ok (.getfield 94, 3) := by decide +kernel
theorem dX6_count_30 : decode cX6_count 30 = .ok (.iload_n 1, 1) := by decide +kernel
theorem dX6_count_31 : decode cX6_count 31 = .ok (.invokestatic 97, 3) := by decide +kernel
theorem dX6_count_34 : decode cX6_count 34 = .ok (.ifCond .eq 6, 3) := by decide +kernel
theorem dX6_count_37 : decode cX6_count 37 = .ok (.bipush (-5), 2) := by decide +kernel
theorem dX6_count_39 : decode cX6_count 39 = .ok (.ireturn, 1) := by decide +kernel
theorem dX6_count_40 : decode cX6_count 40 = .ok (.aload_n 0, 1) := by decide +kernel
theorem dX6_count_41 : decode cX6_count 41 = .ok (.getfield 26, 3) := by decide +kernel
theorem dX6_count_44 : decode cX6_count 44 = .ok (.aload_n 0, 1) := by decide +kernel
theorem dX6_count_45 : decode cX6_count 45 = .ok (.getfield 10, 3) := by decide +kernel
theorem dX6_count_48 : decode cX6_count 48 = .ok (.invokevirtual 55, 3) := by decide +kernel
theorem dX6_count_51 : decode cX6_count 51 = .ok (.aload_n 0, 1) := by decide +kernel
theorem dX6_count_52 : decode cX6_count 52 = .ok (.getfield 10, 3) := by decide +kernel
theorem dX6_count_55 : decode cX6_count 55 = .ok (.iload_n 1, 1) := by decide +kernel
theorem dX6_count_56 : decode cX6_count 56 = .ok (.invokevirtual 101, 3) := by decide +kernel
theorem dX6_count_59 : decode cX6_count 59 = .ok (.aload_n 0, 1) := by decide +kernel
theorem dX6_count_60 : decode cX6_count 60 = .ok (.getfield 10, 3) := by decide +kernel
theorem dX6_count_63 : decode cX6_count 63 = .ok (.getfield 69, 3) := by decide +kernel
theorem dX6_count_66 : decode cX6_count 66 = .ok (.ireturn, 1) := by decide +kernel
set_option maxRecDepth 20000 in
theorem ggX6_finish_X5_isOpen : GoodIn wsX6_finish wsX5_isOpen := goodIn_r _ [9, 10, 11, 12, 13, 8, 14, 15, 140, 141, 142, 143, 144, 145, 146, 147, 148, 149] (by decide +kernel) (by decide +kernel)
set_option maxRecDepth 20000 in
theorem gX6_finish_X5_isOpen : GoodIn wsX6_finish (wsV RX6 79 RX5 yX5_isOpen wsX5_isOpen) := goodIn_app (goodIn_of _ (by decide +kernel)) ggX6_finish_X5_isOpen
set_option maxRecDepth 20000 in
theorem ggX6_finish_X5_copyFrom : GoodIn wsX6_finish wsX5_copyFrom := goodIn_r _ [19, 20, 21, 22, 23, 15, 24, 25, 26, 27, 10, 28, 29, 30, 31, 32, 33, 34, 35, 36, 37, 140, 141, 142, 143, 144, 145, 146, 147, 148, 149, 150, 151, 152, 153, 154] (by decide +kernel) (by decide +kernel)
set_option maxRecDepth 20000 in
theorem gX6_finish_X5_copyFrom : GoodIn wsX6_finish (wsV RX6 105 RX5 yX5_copyFrom wsX5_copyFrom) := goodIn_app (goodIn_of _ (by decide +kernel)) ggX6_finish_X5_copyFrom
set_option maxRecDepth 20000 in
theorem ggX6_finish_X5_drawUntilStop : GoodIn wsX6_finish wsX5_drawUntilStop := goodIn_r _ [41, 24, 23, 42, 43, 44, 8, 45, 25, 26, 46, 47, 48, 49, 11, 12, 13, 14, 15, 50, 51, 52, 53, 20, 54, 55, 56, 57, 58, 59, 31, 60, 36, 37, 61, 62, 63, 64, 33, 34, 65, 66, 67, 68, 69, 70, 71, 72, 21, 73, 74, 75, 76, 77, 78, 79, 80, 81, 35, 82, 83, 84, 85, 86, 87, 88, 89, 90, 91, 92, 93, 94, 95, 96, 97, 98, 99, 100, 101, 102, 103, 104, 105, 106, 107, 27, 108, 109, 110, 111, 112, 113, 114, 115, 116, 117, 118, 119, 22, 140, 141, 142, 143, 144, 145, 146, 147, 148, 149, 150, 151, 152, 153, 154] (by decide +kernel) (by decide +kernel)
set_option maxRecDepth 20000 in
theorem gX6_finish_X5_drawUntilStop : GoodIn wsX6_finish (wsV RX6 108 RX5 yX5_drawUntilStop wsX5_drawUntilStop) := goodIn_app (goodIn_of _ (by decide +kernel)) ggX6_finish_X5_drawUntilStop
set_option maxRecDepth 20000 in
theorem ggX6_finish_X5_mayStopNow : GoodIn wsX6_finish wsX5_mayStopNow := goodIn_r _ [45, 25, 26, 46, 47, 48, 8, 49, 23, 11, 12, 13, 14, 15, 50, 51, 52, 53, 20, 54, 55, 56, 57, 58, 59, 31, 60, 36, 37, 61, 62, 63, 64, 33, 34, 65, 66, 67, 68, 69, 70, 71, 72, 21, 73, 74, 75, 76, 77, 78, 79, 80, 81, 35, 82, 83, 84, 85, 86, 87, 88, 89, 90, 91, 92, 93, 94, 95, 96, 97, 98, 99, 100, 101, 102, 103, 140, 141, 142, 143, 144, 145, 146, 147, 148, 149, 150, 151, 152, 153, 154] (by decide +kernel) (by decide +kernel)
set_option maxRecDepth 20000 in
theorem gX6_finish_X5_mayStopNow : GoodIn wsX6_finish (wsV RX6 111 RX5 yX5_mayStopNow wsX5_mayStopNow) := goodIn_app (goodIn_of _ (by decide +kernel)) ggX6_finish_X5_mayStopNow
set_option maxRecDepth 20000 in
theorem ggX6_finish_X0_record : GoodIn wsX6_finish wsX0_record := goodIn_r _ [125, 126, 127, 128, 129, 130, 124, 131, 132, 17, 18, 8, 19, 20, 21, 22, 23, 15, 24, 25, 26, 27, 10, 28, 29, 30, 31, 32, 33, 34, 35, 36, 37, 155, 156, 140, 141, 142, 143, 144, 145, 146, 147, 148, 149, 150, 151, 152, 153, 154] (by decide +kernel) (by decide +kernel)
set_option maxRecDepth 20000 in
theorem gX6_finish_X0_record : GoodIn wsX6_finish (wsV RX6 55 RX0 yX0_record wsX0_record) := goodIn_app (goodIn_of _ (by decide +kernel)) ggX6_finish_X0_record
theorem dX6_finish_0 : decode cX6_finish 0 = .ok (.aload_n 0, 1) := by decide +kernel
theorem dX6_finish_1 : decode cX6_finish 1 = .ok (.getfield 10, 3) := by decide +kernel
theorem dX6_finish_4 : decode cX6_finish 4 = .ok (.invokevirtual 79, 3) := by decide +kernel
theorem dX6_finish_7 : decode cX6_finish 7 = .ok (.ifCond .ne 6, 3) := by decide +kernel
theorem dX6_finish_10 : decode cX6_finish 10 = .ok (.bipush (-5), 2) := by decide +kernel
theorem dX6_finish_12 : decode cX6_finish 12 = .ok (.ireturn, 1) := by decide +kernel
theorem dX6_finish_13 : decode cX6_finish 13 = .ok (.aload_n 0, 1) := by decide +kernel
theorem dX6_finish_14 : decode cX6_finish 14 = .ok (.getfield 16, 3) := by decide +kernel
theorem dX6_finish_17 : decode cX6_finish 17 = .ok (.aload_n 0, 1) := by decide +kernel
theorem dX6_finish_18 : decode cX6_finish 18 = .ok (.getfield 10, 3) := by decide +kernel
theorem dX6_finish_21 : decode cX6_finish 21 = .ok (.invokevirtual 105, 3) := by decide +kernel
theorem dX6_finish_24 : decode cX6_finish 24 = .ok (.aload_n 0, 1) := by decide +kernel
theorem dX6_finish_25 : decode cX6_finish 25 = .ok (.getfield 16, 3) := by decide +kernel
theorem dX6_finish_28 : decode cX6_finish 28 = .ok (.invokevirtual 108, 3) := by decide +kernel
theorem dX6_finish_31 : decode cX6_finish 31 = .ok (.istore_n 1, 1) := by decide +kernel
theorem dX6_finish_32 : decode cX6_finish 32 = .ok (.aload_n 0, 1) := by decide +kernel
theorem dX6_finish_33 : decode cX6_finish 33 = .ok (.getfield 16, 3) := by decide +kernel
theorem dX6_finish_36 : decode cX6_finish 36 = .ok (.invokevirtual 111, 3) := by decide +kernel
theorem dX6_finish_39 : decode cX6_finish 39 = .ok (.ifCond .ne 6, 3) := by decide +kernel
theorem dX6_finish_42 : decode cX6_finish 42 = .ok (.bipush (-5), 2) := by decide +kernel
theorem dX6_finish_44 : decode cX6_finish 44 = .ok (.ireturn, 1) := by decide +kernel
theorem dX6_finish_45 : decode cX6_finish 45 = .ok (.aload_n 0, 1) := by decide +kernel
theorem dX6_finish_46 : decode cX6_finish 46 = .ok (.getfield 26, 3) := by decide +kernel
theorem dX6_finish_49 : decode cX6_finish 49 = .ok (.aload_n 0, 1) := by decide +kernel
theorem dX6_finish_50 : decode cX6_finish 50 = .ok (.getfield 10, 3) := by decide +kernel
theorem dX6_finish_53 : decode cX6_finish 53 = .ok (.invokevirtual 55, 3) := by decide +kernel
theorem dX6_finish_56 : decode cX6_finish 56 = .ok (.aload_n 0, 1) := by decide +kernel
theorem dX6_finish_57 : decode cX6_finish 57 = .ok (.getfield 16, 3) := by decide +kernel
theorem dX6_finish_60 : decode cX6_finish 60 = .ok (.iconst 1, 1) := by decide +kernel
theorem dX6_finish_61 : decode cX6_finish 61 = .ok (.putfield 114, 3) := by decide +kernel
theorem dX6_finish_64 : decode cX6_finish 64 = .ok (.aload_n 0, 1) := by decide +kernel
theorem dX6_finish_65 : decode cX6_finish 65 = .ok (.getfield 10, 3) := by decide +kernel
theorem dX6_finish_68 : decode cX6_finish 68 = .ok (.aload_n 0, 1) := by decide +kernel
theorem dX6_finish_69 : decode cX6_finish 69 = .ok (.getfield 16, 3) := by decide +kernel
theorem dX6_finish_72 : decode cX6_finish 72 = .ok (.invokevirtual 105, 3) := by decide +kernel
theorem dX6_finish_75 : decode cX6_finish 75 = .ok (.iload_n 1, 1) := by decide +kernel
theorem dX6_finish_76 : decode cX6_finish 76 = .ok (.ireturn, 1) := by decide +kernel
set_option maxRecDepth 20000 in
theorem ggX6_stop_X5_isOpen : GoodIn wsX6_stop wsX5_isOpen := goodIn_r _ [8, 9, 10, 11, 12, 7, 13, 14, 121, 122, 123, 124, 125, 126, 127, 128, 129, 130] (by decide +kernel) (by decide +kernel)
set_option maxRecDepth 20000 in
theorem gX6_stop_X5_isOpen : GoodIn wsX6_stop (wsV RX6 79 RX5 yX5_isOpen wsX5_isOpen) := goodIn_app (goodIn_of _ (by decide +kernel)) ggX6_stop_X5_isOpen
set_option maxRecDepth 20000 in
theorem ggX6_stop_X5_mayStopNow : GoodIn wsX6_stop wsX5_mayStopNow := goodIn_r _ [18, 19, 20, 21, 22, 23, 7, 24, 25, 10, 11, 12, 13, 14, 26, 27, 28, 29, 30, 31, 32, 33, 34, 35, 36, 37, 38, 39, 40, 41, 42, 43, 44, 45, 46, 47, 48, 49, 50, 51, 52, 53, 54, 55, 56, 57, 58, 59, 60, 61, 62, 63, 64, 65, 66, 67, 68, 69, 70, 71, 72, 73, 74, 75, 76, 77, 78, 79, 80, 81, 82, 83, 84, 85, 86, 87, 121, 122, 123, 124, 125, 126, 127, 128, 129, 130, 131, 132, 133, 134, 135] (by decide +kernel) (by decide +kernel)
set_option maxRecDepth 20000 in
theorem gX6_stop_X5_mayStopNow : GoodIn wsX6_stop (wsV RX6 111 RX5 yX5_mayStopNow wsX5_mayStopNow) := goodIn_app (goodIn_of _ (by decide +kernel)) ggX6_stop_X5_mayStopNow
set_option maxRecDepth 20000 in
theorem ggX6_stop_X0_record : GoodIn wsX6_stop wsX0_record := goodIn_r _ [92, 93, 94, 95, 96, 97, 91, 98, 99, 100, 101, 7, 102, 30, 55, 103, 25, 14, 104, 19, 20, 105, 9, 106, 107, 108, 37, 109, 45, 46, 65, 39, 40, 136, 137, 121, 122, 123, 124, 125, 126, 127, 128, 129, 130, 131, 132, 133, 134, 135] (by decide +kernel) (by decide +kernel)
set_option maxRecDepth 20000 in
theorem gX6_stop_X0_record : GoodIn wsX6_stop (wsV RX6 55 RX0 yX0_record wsX0_record) := goodIn_app (goodIn_of _ (by decide +kernel)) ggX6_stop_X0_record
set_option maxRecDepth 20000 in
theorem ggX6_stop_X5_isRight : GoodIn wsX6_stop wsX5_isRight := goodIn_r _ [113, 47, 48, 49, 7, 50, 25, 26, 27, 28, 29, 30, 14, 31, 32, 33, 34, 35, 36, 37, 38, 39, 40, 41, 42, 43, 44, 45, 46, 121, 122, 123, 124, 125, 126, 127, 128, 129, 130, 131, 132, 133, 134, 135] (by decide +kernel) (by decide +kernel)
set_option maxRecDepth 20000 in
theorem gX6_stop_X5_isRight : GoodIn wsX6_stop (wsV RX6 118 RX5 yX5_isRight wsX5_isRight) := goodIn_app (goodIn_of _ (by decide +kernel)) ggX6_stop_X5_isRight
theorem dX6_stop_0 : decode cX6_stop 0 = .ok (.aload_n 0, 1) := by decide +kernel
theorem dX6_stop_1 : decode cX6_stop 1 = .ok (.getfield 10, 3) := by decide +kernel
theorem dX6_stop_4 : decode cX6_stop 4 = .ok (.invokevirtual 79, 3) := by decide +kernel
theorem dX6_stop_7 : decode cX6_stop 7 = .ok (.ifCond .eq 13, 3) := by decide +kernel
theorem dX6_stop_10 : decode cX6_stop 10 = .ok (.aload_n 0, 1) := by decide +kernel
theorem dX6_stop_11 : decode cX6_stop 11 = .ok (.getfield 10, 3) := by decide +kernel
theorem dX6_stop_14 : decode cX6_stop 14 = .ok (.invokevirtual 111, 3) := by decide +kernel
theorem dX6_stop_17 : decode cX6_stop 17 = .ok (.ifCond .ne 6, 3) := by decide +kernel
theorem dX6_stop_20 : decode cX6_stop 20 = .ok (.bipush (-5), 2) := by decide +kernel
theorem dX6_stop_22 : decode cX6_stop 22 = .ok (.ireturn, 1) := by decide +kernel
theorem dX6_stop_23 : decode cX6_stop 23 = .ok (.aload_n 0, 1) := by decide +kernel
theorem dX6_stop_24 : decode cX6_stop 24 = .ok (.getfield 26, 3) := by decide +kernel
theorem dX6_stop_27 : decode cX6_stop 27 = .ok (.aload_n 0, 1) := by decide +kernel
theorem dX6_stop_28 : decode cX6_stop 28 = .ok (.getfield 10, 3) := by decide +kernel
theorem dX6_stop_31 : decode cX6_stop 31 = .ok (.invokevirtual 55, 3) := by decide +kernel
theorem dX6_stop_34 : decode cX6_stop 34 = .ok (.aload_n 0, 1) := by decide +kernel
theorem dX6_stop_35 : decode cX6_stop 35 = .ok (.getfield 10, 3) := by decide +kernel
theorem dX6_stop_38 : decode cX6_stop 38 = .ok (.iconst 1, 1) := by decide +kernel
theorem dX6_stop_39 : decode cX6_stop 39 = .ok (.putfield 114, 3) := by decide +kernel
theorem dX6_stop_42 : decode cX6_stop 42 = .ok (.aload_n 0, 1) := by decide +kernel
theorem dX6_stop_43 : decode cX6_stop 43 = .ok (.getfield 10, 3) := by decide +kernel
theorem dX6_stop_46 : decode cX6_stop 46 = .ok (.invokevirtual 118, 3) := by decide +kernel
theorem dX6_stop_49 : decode cX6_stop 49 = .ok (.ifCond .eq 7, 3) := by decide +kernel
theorem dX6_stop_52 : decode cX6_stop 52 = .ok (.iconst 1, 1) := by decide +kernel
theorem dX6_stop_53 : decode cX6_stop 53 = .ok (.goto 4, 3) := by decide +kernel
theorem dX6_stop_56 : decode cX6_stop 56 = .ok (.iconst 0, 1) := by decide +kernel
theorem dX6_stop_57 : decode cX6_stop 57 = .ok (.ireturn, 1) := by decide +kernel
set_option maxRecDepth 20000 in
theorem ggX6_ofPile_X5_hasPile : GoodIn wsX6_ofPile wsX5_hasPile := goodIn_r _ [14, 15, 65, 66, 67, 68, 69, 70, 71, 72, 73, 74] (by decide +kernel) (by decide +kernel)
set_option maxRecDepth 20000 in
theorem gX6_ofPile_X5_hasPile : GoodIn wsX6_ofPile (wsV RX6 90 RX5 yX5_hasPile wsX5_hasPile) := goodIn_app (goodIn_of _ (by decide +kernel)) ggX6_ofPile_X5_hasPile
set_option maxRecDepth 20000 in
theorem ggX6_ofPile_X6_has : GoodIn wsX6_ofPile wsX6_has := goodIn_r _ [19] (by decide +kernel) (by decide +kernel)
set_option maxRecDepth 20000 in
theorem gX6_ofPile_X6_has : GoodIn wsX6_ofPile (va_wsS RX6 97 yX6_has wsX6_has) := goodIn_app (goodIn_of _ (by decide +kernel)) ggX6_ofPile_X6_has
set_option maxRecDepth 20000 in
theorem ggX6_ofPile_X3_size : GoodIn wsX6_ofPile wsX3_size := goodIn_r _ [24, 25, 26, 27, 75, 76, 77, 78, 79] (by decide +kernel) (by decide +kernel)
set_option maxRecDepth 20000 in
theorem gX6_ofPile_X3_size : GoodIn wsX6_ofPile (wsV RX6 136 RX3 yX3_size wsX3_size) := goodIn_app (goodIn_of _ (by decide +kernel)) ggX6_ofPile_X3_size
set_option maxRecDepth 20000 in
theorem ggX6_ofPile_X5_placeOf : GoodIn wsX6_ofPile wsX5_placeOf := goodIn_r _ [31, 32, 33, 65, 66, 67, 68, 69, 70, 71, 72, 73, 74] (by decide +kernel) (by decide +kernel)
set_option maxRecDepth 20000 in
theorem gX6_ofPile_X5_placeOf : GoodIn wsX6_ofPile (wsV RX6 139 RX5 yX5_placeOf wsX5_placeOf) := goodIn_app (goodIn_of _ (by decide +kernel)) ggX6_ofPile_X5_placeOf
set_option maxRecDepth 20000 in
theorem ggX6_ofPile_X3_isWorse : GoodIn wsX6_ofPile wsX3_isWorse := goodIn_r _ [37, 38, 39, 40, 23, 41, 42, 43, 44, 45, 46, 47, 25, 26, 75, 76, 77, 78, 79] (by decide +kernel) (by decide +kernel)
set_option maxRecDepth 20000 in
theorem gX6_ofPile_X3_isWorse : GoodIn wsX6_ofPile (wsV RX6 152 RX3 yX3_isWorse wsX3_isWorse) := goodIn_app (goodIn_of _ (by decide +kernel)) ggX6_ofPile_X3_isWorse
set_option maxRecDepth 20000 in
theorem ggX6_ofPile_X5_hasWinner : GoodIn wsX6_ofPile wsX5_hasWinner := goodIn_r _ [51, 52, 65, 66, 67, 68, 69, 70, 71, 72, 73, 74] (by decide +kernel) (by decide +kernel)
set_option maxRecDepth 20000 in
theorem gX6_ofPile_X5_hasWinner : GoodIn wsX6_ofPile (wsV RX6 155 RX5 yX5_hasWinner wsX5_hasWinner) := goodIn_app (goodIn_of _ (by decide +kernel)) ggX6_ofPile_X5_hasWinner
set_option maxRecDepth 20000 in
theorem ggX6_ofPile_X3_swing : GoodIn wsX6_ofPile wsX3_swing := goodIn_r _ [56, 44, 45, 46, 23, 47, 25, 26, 57, 21, 22, 24, 27, 75, 76, 77, 78, 79] (by decide +kernel) (by decide +kernel)
set_option maxRecDepth 20000 in
theorem gX6_ofPile_X3_swing : GoodIn wsX6_ofPile (wsV RX6 158 RX3 yX3_swing wsX3_swing) := goodIn_app (goodIn_of _ (by decide +kernel)) ggX6_ofPile_X3_swing
theorem dX6_ofPile_0 : decode cX6_ofPile 0 = .ok (.aload_n 0, 1) := by decide +kernel
theorem dX6_ofPile_1 : decode cX6_ofPile 1 = .ok (.getfield 10, 3) := by decide +kernel
theorem dX6_ofPile_4 : decode cX6_ofPile 4 = .ok (.iload_n 1, 1) := by decide +kernel
theorem dX6_ofPile_5 : decode cX6_ofPile 5 = .ok (.invokevirtual 90, 3) := by decide +kernel
theorem dX6_ofPile_8 : decode cX6_ofPile 8 = .ok (.ifCond .ne 5, 3) := by decide +kernel
theorem dX6_ofPile_11 : decode cX6_ofPile 11 = .ok (.iconst (-1), 1) := by decide +kernel
theorem dX6_ofPile_12 : decode cX6_ofPile 12 = .ok (.ireturn, 1) := by decide +kernel
theorem dX6_ofPile_13 : decode cX6_ofPile 13 = .ok (.aload_n 0, 1) := by decide +kernel
theorem dX6_ofPile_14 : decode cX6_ofPile 14 = .ok (.getfield 10, 3) := by decide +kernel
theorem dX6_ofPile_17 : decode cX6_ofPile 17 = .ok (.getfield 121, 3) := by decide +kernel
theorem dX6_ofPile_20 : decode cX6_ofPile 20 = .ok (.iload_n 1, 1) := by decide +kernel
theorem dX6_ofPile_21 : decode cX6_ofPile 21 = .ok (.aaload, 1) := by decide +kernel
theorem dX6_ofPile_22 : decode cX6_ofPile 22 = .ok (.astore_n 3, 1) := by decide +kernel
theorem dX6_ofPile_23 : decode cX6_ofPile 23 = .ok (.aload_n 0, 1) := by decide +kernel
theorem dX6_ofPile_24 : decode cX6_ofPile 24 = .ok (.getfield 10, 3) := by decide +kernel
theorem dX6_ofPile_27 : decode cX6_ofPile 27 = .ok (.getfield 94, 3) := by decide +kernel
theorem dX6_ofPile_30 : decode cX6_ofPile 30 = .ok (.iload_n 1, 1) := by decide +kernel
theorem dX6_ofPile_31 : decode cX6_ofPile 31 = .ok (.invokestatic 97, 3) := by decide +kernel
theorem dX6_ofPile_34 : decode cX6_ofPile 34 = .ok (.istore 4, 2) := by decide +kernel
theorem dX6_ofPile_36 : decode cX6_ofPile 36 = .ok (.iload_n 2, 1) := by decide +kernel
theorem dX6_ofPile_37 : decode cX6_ofPile 37 = .ok (.tableswitch 167 0 8 #[51, 56, 61, 66, 71, 80, 95, 110, 135], 51) := by decide +kernel
theorem dX6_ofPile_88 : decode cX6_ofPile 88 = .ok (.aload_n 3, 1) := by decide +kernel
theorem dX6_ofPile_89 : decode cX6_ofPile 89 = .ok (.getfield 125, 3) := by decide +kernel
theorem dX6_ofPile_92 : decode cX6_ofPile 92 = .ok (.ireturn, 1) := by decide +kernel
theorem dX6_ofPile_93 : decode cX6_ofPile 93 = .ok (.aload_n 3, 1) := by decide +kernel
theorem dX6_ofPile_94 : decode cX6_ofPile 94 = .ok (.getfield 130, 3) := by decide +kernel
theorem dX6_ofPile_97 : decode cX6_ofPile 97 = .ok (.ireturn, 1) := by decide +kernel
theorem dX6_ofPile_98 : decode cX6_ofPile 98 = .ok (.aload_n 3, 1) := by decide +kernel
theorem dX6_ofPile_99 : decode cX6_ofPile 99 = .ok (.getfield 133, 3) := by decide +kernel
theorem dX6_ofPile_102 : decode cX6_ofPile 102 = .ok (.ireturn, 1) := by decide +kernel
theorem dX6_ofPile_103 : decode cX6_ofPile 103 = .ok (.aload_n 3, 1) := by decide +kernel
theorem dX6_ofPile_104 : decode cX6_ofPile 104 = .ok (.invokevirtual 136, 3) := by decide +kernel
theorem dX6_ofPile_107 : decode cX6_ofPile 107 = .ok (.ireturn, 1) := by decide +kernel
theorem dX6_ofPile_108 : decode cX6_ofPile 108 = .ok (.aload_n 0, 1) := by decide +kernel
theorem dX6_ofPile_109 : decode cX6_ofPile 109 = .ok (.getfield 10, 3) := by decide +kernel
theorem dX6_ofPile_112 : decode cX6_ofPile 112 = .ok (.iload_n 1, 1) := by decide +kernel
theorem dX6_ofPile_113 : decode cX6_ofPile 113 = .ok (.invokevirtual 139, 3) := by decide +kernel
theorem dX6_ofPile_116 : decode cX6_ofPile 116 = .ok (.ireturn, 1) := by decide +kernel
theorem dX6_ofPile_117 : decode cX6_ofPile 117 = .ok (.iload 4, 2) := by decide +kernel
theorem dX6_ofPile_119 : decode cX6_ofPile 119 = .ok (.ifCond .eq 10, 3) := by decide +kernel
theorem dX6_ofPile_122 : decode cX6_ofPile 122 = .ok (.aload_n 3, 1) := by decide +kernel
theorem dX6_ofPile_123 : decode cX6_ofPile 123 = .ok (.getfield 143, 3) := by decide +kernel
theorem dX6_ofPile_126 : decode cX6_ofPile 126 = .ok (.goto 5, 3) := by decide +kernel
theorem dX6_ofPile_129 : decode cX6_ofPile 129 = .ok (.bipush (-6), 2) := by decide +kernel
theorem dX6_ofPile_131 : decode cX6_ofPile 131 = .ok (.ireturn, 1) := by decide +kernel
theorem dX6_ofPile_132 : decode cX6_ofPile 132 = .ok (.iload 4, 2) := by decide +kernel
theorem dX6_ofPile_134 : decode cX6_ofPile 134 = .ok (.ifCond .eq 10, 3) := by decide +kernel
theorem dX6_ofPile_137 : decode cX6_ofPile 137 = .ok (.aload_n 3, 1) := by decide +kernel
theorem dX6_ofPile_138 : decode cX6_ofPile 138 = .ok (.getfield 146, 3) := by decide +kernel
theorem dX6_ofPile_141 : decode cX6_ofPile 141 = .ok (.goto 5, 3) := by decide +kernel
theorem dX6_ofPile_144 : decode cX6_ofPile 144 = .ok (.bipush (-6), 2) := by decide +kernel
theorem dX6_ofPile_146 : decode cX6_ofPile 146 = .ok (.ireturn, 1) := by decide +kernel
theorem dX6_ofPile_147 : decode cX6_ofPile 147 = .ok (.iload 4, 2) := by decide +kernel
theorem dX6_ofPile_149 : decode cX6_ofPile 149 = .ok (.ifCond .eq 21, 3) := by decide +kernel
theorem dX6_ofPile_152 : decode cX6_ofPile 152 = .ok (.aload_n 3, 1) := by decide +kernel
theorem dX6_ofPile_153 : decode cX6_ofPile 153 = .ok (.aload_n 0, 1) := by decide +kernel
theorem dX6_ofPile_154 : decode cX6_ofPile 154 = .ok (.getfield 10, 3) := by decide +kernel
theorem dX6_ofPile_157 : decode cX6_ofPile 157 = .ok (.getfield 149, 3) := by decide +kernel
theorem dX6_ofPile_160 : decode cX6_ofPile 160 = .ok (.invokevirtual 152, 3) := by decide +kernel
theorem dX6_ofPile_163 : decode cX6_ofPile 163 = .ok (.ifCond .eq 7, 3) := by decide +kernel
theorem dX6_ofPile_166 : decode cX6_ofPile 166 = .ok (.iconst 1, 1) := by decide +kernel
theorem dX6_ofPile_167 : decode cX6_ofPile 167 = .ok (.goto 4, 3) := by decide +kernel
theorem dX6_ofPile_170 : decode cX6_ofPile 170 = .ok (.iconst 0, 1) := by decide +kernel
theorem dX6_ofPile_171 : decode cX6_ofPile 171 = .ok (.ireturn, 1) := by decide +kernel
theorem dX6_ofPile_172 : decode cX6_ofPile 172 = .ok (.iload 4, 2) := by decide +kernel
theorem dX6_ofPile_174 : decode cX6_ofPile 174 = .ok (.ifCond .ne 13, 3) := by decide +kernel
theorem dX6_ofPile_177 : decode cX6_ofPile 177 = .ok (.aload_n 0, 1) := by decide +kernel
theorem dX6_ofPile_178 : decode cX6_ofPile 178 = .ok (.getfield 10, 3) := by decide +kernel
theorem dX6_ofPile_181 : decode cX6_ofPile 181 = .ok (.invokevirtual 155, 3) := by decide +kernel
theorem dX6_ofPile_184 : decode cX6_ofPile 184 = .ok (.ifCond .ne 8, 3) := by decide +kernel
theorem dX6_ofPile_187 : decode cX6_ofPile 187 = .ok (.bipush (-6), 2) := by decide +kernel
theorem dX6_ofPile_189 : decode cX6_ofPile 189 = .ok (.goto 14, 3) := by decide +kernel
theorem dX6_ofPile_192 : decode cX6_ofPile 192 = .ok (.aload_n 3, 1) := by decide +kernel
theorem dX6_ofPile_193 : decode cX6_ofPile 193 = .ok (.aload_n 0, 1) := by decide +kernel
theorem dX6_ofPile_194 : decode cX6_ofPile 194 = .ok (.getfield 10, 3) := by decide +kernel
theorem dX6_ofPile_197 : decode cX6_ofPile 197 = .ok (.getfield 149, 3) := by decide +kernel
theorem dX6_ofPile_200 : decode cX6_ofPile 200 = .ok (.invokevirtual 158, 3) := by decide +kernel
theorem dX6_ofPile_203 : decode cX6_ofPile 203 = .ok (.ireturn, 1) := by decide +kernel
theorem dX6_ofPile_204 : decode cX6_ofPile 204 = .ok (.bipush (-2), 2) := by decide +kernel
theorem dX6_ofPile_206 : decode cX6_ofPile 206 = .ok (.ireturn, 1) := by decide +kernel
set_option maxRecDepth 20000 in
theorem ggX6_state_X5_hasWinner : GoodIn wsX6_state wsX5_hasWinner := goodIn_r _ [18, 19, 108, 109, 110, 111, 112, 113, 114, 115, 116, 117] (by decide +kernel) (by decide +kernel)
set_option maxRecDepth 20000 in
theorem gX6_state_X5_hasWinner : GoodIn wsX6_state (wsV RX6 155 RX5 yX5_hasWinner wsX5_hasWinner) := goodIn_app (goodIn_of _ (by decide +kernel)) ggX6_state_X5_hasWinner
set_option maxRecDepth 20000 in
theorem ggX6_state_X5_leadBy : GoodIn wsX6_state wsX5_leadBy := goodIn_r _ [23, 24, 25, 19, 26, 27, 28, 29, 30, 31, 32, 33, 34, 35, 36, 37, 38, 39, 40, 41, 108, 109, 110, 111, 112, 113, 114, 115, 116, 117, 122, 123, 124, 125, 126] (by decide +kernel) (by decide +kernel)
set_option maxRecDepth 20000 in
theorem gX6_state_X5_leadBy : GoodIn wsX6_state (wsV RX6 164 RX5 yX5_leadBy wsX5_leadBy) := goodIn_app (goodIn_of _ (by decide +kernel)) ggX6_state_X5_leadBy
set_option maxRecDepth 20000 in
theorem ggX6_state_X5_needNow : GoodIn wsX6_state wsX5_needNow := goodIn_r _ [45, 46, 47, 21, 22, 17, 23, 24, 25, 19, 26, 27, 28, 29, 30, 31, 32, 33, 34, 35, 36, 37, 38, 39, 40, 41, 48, 49, 50, 51, 52, 53, 54, 55, 56, 57, 58, 59, 60, 61, 62, 108, 109, 110, 111, 112, 113, 114, 115, 116, 117, 122, 123, 124, 125, 126] (by decide +kernel) (by decide +kernel)
set_option maxRecDepth 20000 in
theorem gX6_state_X5_needNow : GoodIn wsX6_state (wsV RX6 167 RX5 yX5_needNow wsX5_needNow) := goodIn_app (goodIn_of _ (by decide +kernel)) ggX6_state_X5_needNow
set_option maxRecDepth 20000 in
theorem ggX6_state_X5_riskBehind : GoodIn wsX6_state wsX5_riskBehind := goodIn_r _ [66, 24, 67, 15, 16, 17, 18, 19, 47, 21, 22, 23, 25, 26, 27, 28, 29, 30, 31, 32, 33, 34, 35, 36, 37, 38, 39, 40, 41, 68, 69, 70, 71, 48, 49, 50, 51, 52, 53, 54, 55, 56, 57, 58, 59, 60, 61, 62, 72, 73, 74, 75, 76, 77, 78, 79, 80, 81, 82, 83, 84, 85, 86, 87, 88, 89, 90, 91, 92, 93, 108, 109, 110, 111, 112, 113, 114, 115, 116, 117, 122, 123, 124, 125, 126] (by decide +kernel) (by decide +kernel)
set_option maxRecDepth 20000 in
theorem gX6_state_X5_riskBehind : GoodIn wsX6_state (wsV RX6 170 RX5 yX5_riskBehind wsX5_riskBehind) := goodIn_app (goodIn_of _ (by decide +kernel)) ggX6_state_X5_riskBehind
set_option maxRecDepth 20000 in
theorem ggX6_state_X5_worseOf : GoodIn wsX6_state wsX5_worseOf := goodIn_r _ [75, 24, 25, 19, 26, 27, 28, 76, 77, 78, 32, 79, 80, 30, 31, 33, 34, 35, 57, 37, 38, 39, 40, 41, 108, 109, 110, 111, 112, 113, 114, 115, 116, 117, 122, 123, 124, 125, 126] (by decide +kernel) (by decide +kernel)
set_option maxRecDepth 20000 in
theorem gX6_state_X5_worseOf : GoodIn wsX6_state (wsV RX6 174 RX5 yX5_worseOf wsX5_worseOf) := goodIn_app (goodIn_of _ (by decide +kernel)) ggX6_state_X5_worseOf
set_option maxRecDepth 20000 in
theorem ggX6_state_X5_mayStopNow : GoodIn wsX6_state wsX5_mayStopNow := goodIn_r _ [98, 46, 99, 100, 64, 65, 17, 66, 24, 67, 15, 16, 18, 19, 47, 21, 22, 23, 25, 26, 27, 28, 29, 30, 31, 32, 33, 34, 35, 36, 37, 38, 39, 40, 41, 68, 69, 70, 71, 48, 49, 50, 51, 52, 53, 54, 55, 56, 57, 58, 59, 60, 61, 62, 72, 73, 74, 75, 76, 77, 78, 79, 80, 81, 82, 83, 84, 85, 86, 87, 88, 89, 90, 91, 92, 93, 108, 109, 110, 111, 112, 113, 114, 115, 116, 117, 122, 123, 124, 125, 126] (by decide +kernel) (by decide +kernel)
set_option maxRecDepth 20000 in
theorem gX6_state_X5_mayStopNow : GoodIn wsX6_state (wsV RX6 111 RX5 yX5_mayStopNow wsX5_mayStopNow) := goodIn_app (goodIn_of _ (by decide +kernel)) ggX6_state_X5_mayStopNow
theorem dX6_state_0 : decode cX6_state 0 = .ok (.iload_n 1, 1) := by decide +kernel
theorem dX6_state_1 : decode cX6_state 1 = .ok (.tableswitch 279 0 13 #[71, 79, 87, 95, 122, 155, 178, 200, 215, 231, 247, 255, 263, 271], 71) := by decide +kernel
theorem dX6_state_72 : decode cX6_state 72 = .ok (.aload_n 0, 1) := by decide +kernel
theorem dX6_state_73 : decode cX6_state 73 = .ok (.getfield 10, 3) := by decide +kernel
theorem dX6_state_76 : decode cX6_state 76 = .ok (.getfield 161, 3) := by decide +kernel
theorem dX6_state_79 : decode cX6_state 79 = .ok (.ireturn, 1) := by decide +kernel
theorem dX6_state_80 : decode cX6_state 80 = .ok (.aload_n 0, 1) := by decide +kernel
theorem dX6_state_81 : decode cX6_state 81 = .ok (.getfield 10, 3) := by decide +kernel
theorem dX6_state_84 : decode cX6_state 84 = .ok (.getfield 69, 3) := by decide +kernel
theorem dX6_state_87 : decode cX6_state 87 = .ok (.ireturn, 1) := by decide +kernel
theorem dX6_state_88 : decode cX6_state 88 = .ok (.aload_n 0, 1) := by decide +kernel
theorem dX6_state_89 : decode cX6_state 89 = .ok (.getfield 10, 3) := by decide +kernel
theorem dX6_state_92 : decode cX6_state 92 = .ok (.getfield 149, 3) := by decide +kernel
theorem dX6_state_95 : decode cX6_state 95 = .ok (.ireturn, 1) := by decide +kernel
theorem dX6_state_96 : decode cX6_state 96 = .ok (.aload_n 0, 1) := by decide +kernel
theorem dX6_state_97 : decode cX6_state 97 = .ok (.getfield 10, 3) := by decide +kernel
theorem dX6_state_100 : decode cX6_state 100 = .ok (.invokevirtual 155, 3) := by decide +kernel
theorem dX6_state_103 : decode cX6_state 103 = .ok (.ifCond .eq 17, 3) := by decide +kernel
theorem dX6_state_106 : decode cX6_state 106 = .ok (.ldc 65, 2) := by decide +kernel
theorem dX6_state_108 : decode cX6_state 108 = .ok (.aload_n 0, 1) := by decide +kernel
theorem dX6_state_109 : decode cX6_state 109 = .ok (.getfield 10, 3) := by decide +kernel
theorem dX6_state_112 : decode cX6_state 112 = .ok (.iconst 0, 1) := by decide +kernel
theorem dX6_state_113 : decode cX6_state 113 = .ok (.invokevirtual 164, 3) := by decide +kernel
theorem dX6_state_116 : decode cX6_state 116 = .ok (.iadd, 1) := by decide +kernel
theorem dX6_state_117 : decode cX6_state 117 = .ok (.goto 5, 3) := by decide +kernel
theorem dX6_state_120 : decode cX6_state 120 = .ok (.bipush (-6), 2) := by decide +kernel
theorem dX6_state_122 : decode cX6_state 122 = .ok (.ireturn, 1) := by decide +kernel
theorem dX6_state_123 : decode cX6_state 123 = .ok (.aload_n 0, 1) := by decide +kernel
theorem dX6_state_124 : decode cX6_state 124 = .ok (.getfield 10, 3) := by decide +kernel
theorem dX6_state_127 : decode cX6_state 127 = .ok (.invokevirtual 155, 3) := by decide +kernel
theorem dX6_state_130 : decode cX6_state 130 = .ok (.ifCond .eq 23, 3) := by decide +kernel
theorem dX6_state_133 : decode cX6_state 133 = .ok (.ldc 65, 2) := by decide +kernel
theorem dX6_state_135 : decode cX6_state 135 = .ok (.aload_n 0, 1) := by decide +kernel
theorem dX6_state_136 : decode cX6_state 136 = .ok (.getfield 10, 3) := by decide +kernel
theorem dX6_state_139 : decode cX6_state 139 = .ok (.aload_n 0, 1) := by decide +kernel
theorem dX6_state_140 : decode cX6_state 140 = .ok (.getfield 10, 3) := by decide +kernel
theorem dX6_state_143 : decode cX6_state 143 = .ok (.getfield 94, 3) := by decide +kernel
theorem dX6_state_146 : decode cX6_state 146 = .ok (.invokevirtual 164, 3) := by decide +kernel
theorem dX6_state_149 : decode cX6_state 149 = .ok (.iadd, 1) := by decide +kernel
theorem dX6_state_150 : decode cX6_state 150 = .ok (.goto 5, 3) := by decide +kernel
theorem dX6_state_153 : decode cX6_state 153 = .ok (.bipush (-6), 2) := by decide +kernel
theorem dX6_state_155 : decode cX6_state 155 = .ok (.ireturn, 1) := by decide +kernel
theorem dX6_state_156 : decode cX6_state 156 = .ok (.aload_n 0, 1) := by decide +kernel
theorem dX6_state_157 : decode cX6_state 157 = .ok (.getfield 10, 3) := by decide +kernel
theorem dX6_state_160 : decode cX6_state 160 = .ok (.invokevirtual 155, 3) := by decide +kernel
theorem dX6_state_163 : decode cX6_state 163 = .ok (.ifCond .eq 13, 3) := by decide +kernel
theorem dX6_state_166 : decode cX6_state 166 = .ok (.aload_n 0, 1) := by decide +kernel
theorem dX6_state_167 : decode cX6_state 167 = .ok (.getfield 10, 3) := by decide +kernel
theorem dX6_state_170 : decode cX6_state 170 = .ok (.invokevirtual 167, 3) := by decide +kernel
theorem dX6_state_173 : decode cX6_state 173 = .ok (.goto 5, 3) := by decide +kernel
theorem dX6_state_176 : decode cX6_state 176 = .ok (.bipush (-6), 2) := by decide +kernel
theorem dX6_state_178 : decode cX6_state 178 = .ok (.ireturn, 1) := by decide +kernel
theorem dX6_state_179 : decode cX6_state 179 = .ok (.aload_n 0, 1) := by decide +kernel
theorem dX6_state_180 : decode cX6_state 180 = .ok (.getfield 10, 3) := by decide +kernel
theorem dX6_state_183 : decode cX6_state 183 = .ok (.aload_n 0, 1) := by decide +kernel
theorem dX6_state_184 : decode cX6_state 184 = .ok (.getfield 10, 3) := by decide +kernel
theorem dX6_state_187 : decode cX6_state 187 = .ok (.getfield 94, 3) := by decide +kernel
theorem dX6_state_190 : decode cX6_state 190 = .ok (.aload_n 0, 1) := by decide +kernel
theorem dX6_state_191 : decode cX6_state 191 = .ok (.getfield 10, 3) := by decide +kernel
theorem dX6_state_194 : decode cX6_state 194 = .ok (.getfield 94, 3) := by decide +kernel
theorem dX6_state_197 : decode cX6_state 197 = .ok (.invokevirtual 170, 3) := by decide +kernel
theorem dX6_state_200 : decode cX6_state 200 = .ok (.ireturn, 1) := by decide +kernel
theorem dX6_state_201 : decode cX6_state 201 = .ok (.aload_n 0, 1) := by decide +kernel
theorem dX6_state_202 : decode cX6_state 202 = .ok (.getfield 10, 3) := by decide +kernel
theorem dX6_state_205 : decode cX6_state 205 = .ok (.aload_n 0, 1) := by decide +kernel
theorem dX6_state_206 : decode cX6_state 206 = .ok (.getfield 10, 3) := by decide +kernel
theorem dX6_state_209 : decode cX6_state 209 = .ok (.getfield 94, 3) := by decide +kernel
theorem dX6_state_212 : decode cX6_state 212 = .ok (.invokevirtual 174, 3) := by decide +kernel
theorem dX6_state_215 : decode cX6_state 215 = .ok (.ireturn, 1) := by decide +kernel
theorem dX6_state_216 : decode cX6_state 216 = .ok (.aload_n 0, 1) := by decide +kernel
theorem dX6_state_217 : decode cX6_state 217 = .ok (.getfield 10, 3) := by decide +kernel
theorem dX6_state_220 : decode cX6_state 220 = .ok (.getfield 114, 3) := by decide +kernel
theorem dX6_state_223 : decode cX6_state 223 = .ok (.ifCond .eq 7, 3) := by decide +kernel
theorem dX6_state_226 : decode cX6_state 226 = .ok (.iconst 1, 1) := by decide +kernel
theorem dX6_state_227 : decode cX6_state 227 = .ok (.goto 4, 3) := by decide +kernel
theorem dX6_state_230 : decode cX6_state 230 = .ok (.iconst 0, 1) := by decide +kernel
theorem dX6_state_231 : decode cX6_state 231 = .ok (.ireturn, 1) := by decide +kernel
theorem dX6_state_232 : decode cX6_state 232 = .ok (.aload_n 0, 1) := by decide +kernel
theorem dX6_state_233 : decode cX6_state 233 = .ok (.getfield 10, 3) := by decide +kernel
theorem dX6_state_236 : decode cX6_state 236 = .ok (.invokevirtual 111, 3) := by decide +kernel
theorem dX6_state_239 : decode cX6_state 239 = .ok (.ifCond .eq 7, 3) := by decide +kernel
theorem dX6_state_242 : decode cX6_state 242 = .ok (.iconst 1, 1) := by decide +kernel
theorem dX6_state_243 : decode cX6_state 243 = .ok (.goto 4, 3) := by decide +kernel
theorem dX6_state_246 : decode cX6_state 246 = .ok (.iconst 0, 1) := by decide +kernel
theorem dX6_state_247 : decode cX6_state 247 = .ok (.ireturn, 1) := by decide +kernel
theorem dX6_state_248 : decode cX6_state 248 = .ok (.aload_n 0, 1) := by decide +kernel
theorem dX6_state_249 : decode cX6_state 249 = .ok (.getfield 10, 3) := by decide +kernel
theorem dX6_state_252 : decode cX6_state 252 = .ok (.getfield 73, 3) := by decide +kernel
theorem dX6_state_255 : decode cX6_state 255 = .ok (.ireturn, 1) := by decide +kernel
theorem dX6_state_256 : decode cX6_state 256 = .ok (.aload_n 0, 1) := by decide +kernel
theorem dX6_state_257 : decode cX6_state 257 = .ok (.getfield 10, 3) := by decide +kernel
theorem dX6_state_260 : decode cX6_state 260 = .ok (.getfield 76, 3) := by decide +kernel
theorem dX6_state_263 : decode cX6_state 263 = .ok (.ireturn, 1) := by decide +kernel
theorem dX6_state_264 : decode cX6_state 264 = .ok (.aload_n 0, 1) := by decide +kernel
theorem dX6_state_265 : decode cX6_state 265 = .ok (.getfield 33, 3) := by decide +kernel
theorem dX6_state_268 : decode cX6_state 268 = .ok (.getfield 177, 3) := by decide +kernel
theorem dX6_state_271 : decode cX6_state 271 = .ok (.ireturn, 1) := by decide +kernel
theorem dX6_state_272 : decode cX6_state 272 = .ok (.aload_n 0, 1) := by decide +kernel
theorem dX6_state_273 : decode cX6_state 273 = .ok (.getfield 26, 3) := by decide +kernel
theorem dX6_state_276 : decode cX6_state 276 = .ok (.getfield 180, 3) := by decide +kernel
theorem dX6_state_279 : decode cX6_state 279 = .ok (.ireturn, 1) := by decide +kernel
theorem dX6_state_280 : decode cX6_state 280 = .ok (.bipush (-2), 2) := by decide +kernel
theorem dX6_state_282 : decode cX6_state 282 = .ok (.ireturn, 1) := by decide +kernel
theorem dX6_counted_0 : decode cX6_counted 0 = .ok (.iload_n 1, 1) := by decide +kernel
theorem dX6_counted_1 : decode cX6_counted 1 = .ok (.ifCond .lt 14, 3) := by decide +kernel
theorem dX6_counted_4 : decode cX6_counted 4 = .ok (.iload_n 1, 1) := by decide +kernel
theorem dX6_counted_5 : decode cX6_counted 5 = .ok (.aload_n 0, 1) := by decide +kernel
theorem dX6_counted_6 : decode cX6_counted 6 = .ok (.getfield 10, 3) := by decide +kernel
theorem dX6_counted_9 : decode cX6_counted 9 = .ok (.getfield 69, 3) := by decide +kernel
theorem dX6_counted_12 : decode cX6_counted 12 = .ok (.if_icmp .lt 5, 3) := by decide +kernel
theorem dX6_counted_15 : decode cX6_counted 15 = .ok (.iconst (-1), 1) := by decide +kernel
theorem dX6_counted_16 : decode cX6_counted 16 = .ok (.ireturn, 1) := by decide +kernel
theorem dX6_counted_17 : decode cX6_counted 17 = .ok (.aload_n 0, 1) := by decide +kernel
theorem dX6_counted_18 : decode cX6_counted 18 = .ok (.getfield 10, 3) := by decide +kernel
theorem dX6_counted_21 : decode cX6_counted 21 = .ok (.getfield 181, 3) := by decide +kernel
theorem dX6_counted_24 : decode cX6_counted 24 = .ok (.iload_n 1, 1) := by decide +kernel
theorem dX6_counted_25 : decode cX6_counted 25 = .ok (.iaload, 1) := by decide +kernel
theorem dX6_counted_26 : decode cX6_counted 26 = .ok (.ireturn, 1) := by decide +kernel
set_option maxRecDepth 20000 in
theorem ggX6_riskOf_X6_riskThatAllAreMissed : GoodIn wsX6_riskOf wsX6_riskThatAllAreMissed := goodIn_r _ [4, 5, 6, 7, 3, 8] (by decide +kernel) (by decide +kernel)
set_option maxRecDepth 20000 in
theorem gX6_riskOf_X6_riskThatAllAreMissed : GoodIn wsX6_riskOf (va_wsS RX6 185 yX6_riskThatAllAreMissed wsX6_riskThatAllAreMissed) := goodIn_app (goodIn_of _ (by decide +kernel)) ggX6_riskOf_X6_riskThatAllAreMissed
theorem dX6_riskOf_0 : decode cX6_riskOf 0 = .ok (.iload_n 1, 1) := by decide +kernel
theorem dX6_riskOf_1 : decode cX6_riskOf 1 = .ok (.iconst 1, 1) := by decide +kernel
theorem dX6_riskOf_2 : decode cX6_riskOf 2 = .ok (.if_icmp .lt 9, 3) := by decide +kernel
theorem dX6_riskOf_5 : decode cX6_riskOf 5 = .ok (.iload_n 1, 1) := by decide +kernel
theorem dX6_riskOf_6 : decode cX6_riskOf 6 = .ok (.bipush 20, 2) := by decide +kernel
theorem dX6_riskOf_8 : decode cX6_riskOf 8 = .ok (.if_icmp .le 6, 3) := by decide +kernel
theorem dX6_riskOf_11 : decode cX6_riskOf 11 = .ok (.bipush (-2), 2) := by decide +kernel
theorem dX6_riskOf_13 : decode cX6_riskOf 13 = .ok (.ireturn, 1) := by decide +kernel
theorem dX6_riskOf_14 : decode cX6_riskOf 14 = .ok (.iload_n 2, 1) := by decide +kernel
theorem dX6_riskOf_15 : decode cX6_riskOf 15 = .ok (.ifCond .lt 18, 3) := by decide +kernel
theorem dX6_riskOf_18 : decode cX6_riskOf 18 = .ok (.iload_n 2, 1) := by decide +kernel
theorem dX6_riskOf_19 : decode cX6_riskOf 19 = .ok (.iload_n 1, 1) := by decide +kernel
theorem dX6_riskOf_20 : decode cX6_riskOf 20 = .ok (.if_icmp .gt 13, 3) := by decide +kernel
theorem dX6_riskOf_23 : decode cX6_riskOf 23 = .ok (.iload_n 3, 1) := by decide +kernel
theorem dX6_riskOf_24 : decode cX6_riskOf 24 = .ok (.iconst 1, 1) := by decide +kernel
theorem dX6_riskOf_25 : decode cX6_riskOf 25 = .ok (.if_icmp .lt 8, 3) := by decide +kernel
theorem dX6_riskOf_28 : decode cX6_riskOf 28 = .ok (.iload_n 3, 1) := by decide +kernel
theorem dX6_riskOf_29 : decode cX6_riskOf 29 = .ok (.iload_n 1, 1) := by decide +kernel
theorem dX6_riskOf_30 : decode cX6_riskOf 30 = .ok (.if_icmp .le 6, 3) := by decide +kernel
theorem dX6_riskOf_33 : decode cX6_riskOf 33 = .ok (.bipush (-2), 2) := by decide +kernel
theorem dX6_riskOf_35 : decode cX6_riskOf 35 = .ok (.ireturn, 1) := by decide +kernel
theorem dX6_riskOf_36 : decode cX6_riskOf 36 = .ok (.iload_n 1, 1) := by decide +kernel
theorem dX6_riskOf_37 : decode cX6_riskOf 37 = .ok (.iload_n 2, 1) := by decide +kernel
theorem dX6_riskOf_38 : decode cX6_riskOf 38 = .ok (.iload_n 3, 1) := by decide +kernel
theorem dX6_riskOf_39 : decode cX6_riskOf 39 = .ok (.invokestatic 185, 3) := by decide +kernel
theorem dX6_riskOf_42 : decode cX6_riskOf 42 = .ok (.ireturn, 1) := by decide +kernel
set_option maxRecDepth 20000 in
theorem ggX6_atLeast_X5_hasWinner : GoodIn wsX6_atLeast wsX5_hasWinner := goodIn_r _ [6, 7, 90, 91, 92, 93, 94, 95, 96, 97, 98, 99] (by decide +kernel) (by decide +kernel)
set_option maxRecDepth 20000 in
theorem gX6_atLeast_X5_hasWinner : GoodIn wsX6_atLeast (wsV RX6 155 RX5 yX5_hasWinner wsX5_hasWinner) := goodIn_app (goodIn_of _ (by decide +kernel)) ggX6_atLeast_X5_hasWinner
set_option maxRecDepth 20000 in
theorem ggX6_atLeast_X5_leastToStop : GoodIn wsX6_atLeast wsX5_leastToStop := goodIn_r _ [11, 12, 13, 14, 15, 16, 17, 18, 5, 19, 20, 21, 22, 23, 24, 3, 4, 6, 7, 25, 26, 27, 28, 29, 30, 31, 32, 33, 34, 35, 36, 37, 38, 39, 40, 41, 42, 43, 44, 45, 46, 47, 48, 49, 50, 51, 52, 53, 54, 55, 56, 57, 58, 59, 60, 61, 62, 63, 64, 65, 66, 67, 68, 69, 70, 71, 72, 73, 74, 75, 76, 77, 78, 79, 80, 81, 82, 90, 91, 92, 93, 94, 95, 96, 97, 98, 99, 100, 101, 102, 103, 104] (by decide +kernel) (by decide +kernel)
set_option maxRecDepth 20000 in
theorem gX6_atLeast_X5_leastToStop : GoodIn wsX6_atLeast (wsV RX6 188 RX5 yX5_leastToStop wsX5_leastToStop) := goodIn_app (goodIn_of _ (by decide +kernel)) ggX6_atLeast_X5_leastToStop
theorem dX6_atLeast_0 : decode cX6_atLeast 0 = .ok (.aload_n 0, 1) := by decide +kernel
theorem dX6_atLeast_1 : decode cX6_atLeast 1 = .ok (.getfield 10, 3) := by decide +kernel
theorem dX6_atLeast_4 : decode cX6_atLeast 4 = .ok (.invokevirtual 155, 3) := by decide +kernel
theorem dX6_atLeast_7 : decode cX6_atLeast 7 = .ok (.ifCond .ne 6, 3) := by decide +kernel
theorem dX6_atLeast_10 : decode cX6_atLeast 10 = .ok (.bipush (-5), 2) := by decide +kernel
theorem dX6_atLeast_12 : decode cX6_atLeast 12 = .ok (.ireturn, 1) := by decide +kernel
theorem dX6_atLeast_13 : decode cX6_atLeast 13 = .ok (.aload_n 0, 1) := by decide +kernel
theorem dX6_atLeast_14 : decode cX6_atLeast 14 = .ok (.getfield 10, 3) := by decide +kernel
theorem dX6_atLeast_17 : decode cX6_atLeast 17 = .ok (.invokevirtual 188, 3) := by decide +kernel
theorem dX6_atLeast_20 : decode cX6_atLeast 20 = .ok (.ireturn, 1) := by decide +kernel
set_option maxRecDepth 20000 in
theorem ggX6_orders_X5_hasWinner : GoodIn wsX6_orders wsX5_hasWinner := goodIn_r _ [8, 9, 110, 111, 112, 113, 114, 115, 116, 117, 118, 119] (by decide +kernel) (by decide +kernel)
set_option maxRecDepth 20000 in
theorem gX6_orders_X5_hasWinner : GoodIn wsX6_orders (wsV RX6 155 RX5 yX5_hasWinner wsX5_hasWinner) := goodIn_app (goodIn_of _ (by decide +kernel)) ggX6_orders_X5_hasWinner
set_option maxRecDepth 20000 in
theorem ggX6_orders_X1_follow : GoodIn wsX6_orders wsX1_follow := goodIn_r _ [14, 15, 16, 17, 18, 19, 20, 21, 22, 23, 7, 24, 25, 26, 27, 28, 13, 29, 30, 31, 32, 33, 34, 35, 36, 37, 38, 5, 6, 8, 9, 39, 40, 41, 42, 43, 44, 45, 46, 47, 48, 49, 50, 51, 52, 53, 54, 55, 56, 57, 58, 59, 60, 61, 62, 63, 64, 65, 66, 67, 68, 69, 70, 71, 72, 73, 74, 75, 76, 77, 78, 79, 80, 81, 82, 83, 84, 85, 86, 87, 88, 89, 90, 91, 92, 93, 94, 95, 96, 97, 98, 99, 100, 108, 109, 110, 111, 112, 113, 114, 115, 116, 117, 118, 119, 120, 121, 122, 123, 124] (by decide +kernel) (by decide +kernel)
set_option maxRecDepth 20000 in
theorem gX6_orders_X1_follow : GoodIn wsX6_orders (wsV RX6 191 RX1 yX1_follow wsX1_follow) := goodIn_app (goodIn_of _ (by decide +kernel)) ggX6_orders_X1_follow
theorem dX6_orders_0 : decode cX6_orders 0 = .ok (.iload_n 1, 1) := by decide +kernel
theorem dX6_orders_1 : decode cX6_orders 1 = .ok (.ifCond .lt 9, 3) := by decide +kernel
theorem dX6_orders_4 : decode cX6_orders 4 = .ok (.iload_n 1, 1) := by decide +kernel
theorem dX6_orders_5 : decode cX6_orders 5 = .ok (.bipush 10, 2) := by decide +kernel
theorem dX6_orders_7 : decode cX6_orders 7 = .ok (.if_icmp .le 6, 3) := by decide +kernel
theorem dX6_orders_10 : decode cX6_orders 10 = .ok (.bipush (-2), 2) := by decide +kernel
theorem dX6_orders_12 : decode cX6_orders 12 = .ok (.ireturn, 1) := by decide +kernel
theorem dX6_orders_13 : decode cX6_orders 13 = .ok (.aload_n 0, 1) := by decide +kernel
theorem dX6_orders_14 : decode cX6_orders 14 = .ok (.getfield 10, 3) := by decide +kernel
theorem dX6_orders_17 : decode cX6_orders 17 = .ok (.invokevirtual 155, 3) := by decide +kernel
theorem dX6_orders_20 : decode cX6_orders 20 = .ok (.ifCond .ne 6, 3) := by decide +kernel
theorem dX6_orders_23 : decode cX6_orders 23 = .ok (.bipush (-5), 2) := by decide +kernel
theorem dX6_orders_25 : decode cX6_orders 25 = .ok (.ireturn, 1) := by decide +kernel
theorem dX6_orders_26 : decode cX6_orders 26 = .ok (.aload_n 0, 1) := by decide +kernel
theorem dX6_orders_27 : decode cX6_orders 27 = .ok (.getfield 47, 3) := by decide +kernel
theorem dX6_orders_30 : decode cX6_orders 30 = .ok (.aload_n 0, 1) := by decide +kernel
theorem dX6_orders_31 : decode cX6_orders 31 = .ok (.getfield 10, 3) := by decide +kernel
theorem dX6_orders_34 : decode cX6_orders 34 = .ok (.invokevirtual 191, 3) := by decide +kernel
theorem dX6_orders_37 : decode cX6_orders 37 = .ok (.aload_n 0, 1) := by decide +kernel
theorem dX6_orders_38 : decode cX6_orders 38 = .ok (.getfield 47, 3) := by decide +kernel
theorem dX6_orders_41 : decode cX6_orders 41 = .ok (.getfield 194, 3) := by decide +kernel
theorem dX6_orders_44 : decode cX6_orders 44 = .ok (.iload_n 1, 1) := by decide +kernel
theorem dX6_orders_45 : decode cX6_orders 45 = .ok (.iaload, 1) := by decide +kernel
theorem dX6_orders_46 : decode cX6_orders 46 = .ok (.ireturn, 1) := by decide +kernel
set_option maxRecDepth 20000 in
theorem ggX6_wrongOrders_X5_hasWinner : GoodIn wsX6_wrongOrders wsX5_hasWinner := goodIn_r _ [7, 8, 115, 116, 117, 118, 119, 120, 121, 122, 123, 124] (by decide +kernel) (by decide +kernel)
set_option maxRecDepth 20000 in
theorem gX6_wrongOrders_X5_hasWinner : GoodIn wsX6_wrongOrders (wsV RX6 155 RX5 yX5_hasWinner wsX5_hasWinner) := goodIn_app (goodIn_of _ (by decide +kernel)) ggX6_wrongOrders_X5_hasWinner
set_option maxRecDepth 20000 in
theorem ggX6_wrongOrders_X5_isRight : GoodIn wsX6_wrongOrders wsX5_isRight := goodIn_r _ [12, 13, 14, 15, 6, 16, 17, 18, 19, 20, 21, 22, 8, 23, 24, 25, 26, 27, 28, 29, 30, 31, 32, 33, 34, 35, 36, 37, 38, 115, 116, 117, 118, 119, 120, 121, 122, 123, 124, 125, 126, 127, 128, 129] (by decide +kernel) (by decide +kernel)
set_option maxRecDepth 20000 in
theorem gX6_wrongOrders_X5_isRight : GoodIn wsX6_wrongOrders (wsV RX6 118 RX5 yX5_isRight wsX5_isRight) := goodIn_app (goodIn_of _ (by decide +kernel)) ggX6_wrongOrders_X5_isRight
set_option maxRecDepth 20000 in
theorem ggX6_wrongOrders_X1_follow : GoodIn wsX6_wrongOrders wsX1_follow := goodIn_r _ [43, 44, 45, 46, 47, 48, 49, 50, 14, 15, 6, 16, 17, 51, 52, 53, 42, 54, 55, 56, 57, 58, 59, 60, 61, 62, 63, 4, 5, 7, 8, 18, 19, 20, 21, 22, 23, 24, 25, 26, 27, 28, 29, 30, 31, 32, 33, 34, 35, 36, 37, 38, 13, 64, 65, 66, 67, 68, 69, 70, 71, 72, 73, 74, 75, 76, 77, 78, 79, 80, 81, 82, 83, 84, 85, 86, 87, 88, 89, 90, 91, 92, 93, 94, 95, 96, 97, 98, 99, 100, 101, 102, 103, 130, 131, 115, 116, 117, 118, 119, 120, 121, 122, 123, 124, 125, 126, 127, 128, 129] (by decide +kernel) (by decide +kernel)
set_option maxRecDepth 20000 in
theorem gX6_wrongOrders_X1_follow : GoodIn wsX6_wrongOrders (wsV RX6 191 RX1 yX1_follow wsX1_follow) := goodIn_app (goodIn_of _ (by decide +kernel)) ggX6_wrongOrders_X1_follow
set_option maxRecDepth 20000 in
theorem ggX6_wrongOrders_X1_allStops : GoodIn wsX6_wrongOrders wsX1_allStops := goodIn_r _ [107, 45, 130, 131] (by decide +kernel) (by decide +kernel)
set_option maxRecDepth 20000 in
theorem gX6_wrongOrders_X1_allStops : GoodIn wsX6_wrongOrders (wsV RX6 197 RX1 yX1_allStops wsX1_allStops) := goodIn_app (goodIn_of _ (by decide +kernel)) ggX6_wrongOrders_X1_allStops
theorem dX6_wrongOrders_0 : decode cX6_wrongOrders 0 = .ok (.aload_n 0, 1) := by decide +kernel
theorem dX6_wrongOrders_1 : decode cX6_wrongOrders 1 = .ok (.getfield 10, 3) := by decide +kernel
theorem dX6_wrongOrders_4 : decode cX6_wrongOrders 4 = .ok (.invokevirtual 155, 3) := by decide +kernel
theorem dX6_wrongOrders_7 : decode cX6_wrongOrders 7 = .ok (.ifCond .ne 6, 3) := by decide +kernel
theorem dX6_wrongOrders_10 : decode cX6_wrongOrders 10 = .ok (.bipush (-5), 2) := by decide +kernel
theorem dX6_wrongOrders_12 : decode cX6_wrongOrders 12 = .ok (.ireturn, 1) := by decide +kernel
theorem dX6_wrongOrders_13 : decode cX6_wrongOrders 13 = .ok (.aload_n 0, 1) := by decide +kernel
theorem dX6_wrongOrders_14 : decode cX6_wrongOrders 14 = .ok (.getfield 10, 3) := by decide +kernel
theorem dX6_wrongOrders_17 : decode cX6_wrongOrders 17 = .ok (.invokevirtual 118, 3) := by decide +kernel
theorem dX6_wrongOrders_20 : decode cX6_wrongOrders 20 = .ok (.ifCond .eq 5, 3) := by decide +kernel
theorem dX6_wrongOrders_23 : decode cX6_wrongOrders 23 = .ok (.iconst 0, 1) := by decide +kernel
theorem dX6_wrongOrders_24 : decode cX6_wrongOrders 24 = .ok (.ireturn, 1) := by decide +kernel
theorem dX6_wrongOrders_25 : decode cX6_wrongOrders 25 = .ok (.aload_n 0, 1) := by decide +kernel
theorem dX6_wrongOrders_26 : decode cX6_wrongOrders 26 = .ok (.getfield 47, 3) := by decide +kernel
theorem dX6_wrongOrders_29 : decode cX6_wrongOrders 29 = .ok (.aload_n 0, 1) := by decide +kernel
theorem dX6_wrongOrders_30 : decode cX6_wrongOrders 30 = .ok (.getfield 10, 3) := by decide +kernel
theorem dX6_wrongOrders_33 : decode cX6_wrongOrders 33 = .ok (.invokevirtual 191, 3) := by decide +kernel
theorem dX6_wrongOrders_36 : decode cX6_wrongOrders 36 = .ok (.aload_n 0, 1) := by decide +kernel
theorem dX6_wrongOrders_37 : decode cX6_wrongOrders 37 = .ok (.getfield 47, 3) := by decide +kernel
theorem dX6_wrongOrders_40 : decode cX6_wrongOrders 40 = .ok (.invokevirtual 197, 3) := by decide +kernel
theorem dX6_wrongOrders_43 : decode cX6_wrongOrders 43 = .ok (.ireturn, 1) := by decide +kernel
set_option maxRecDepth 20000 in
theorem ggX6_suspects_X5_hasWinner : GoodIn wsX6_suspects wsX5_hasWinner := goodIn_r _ [6, 7, 61, 62, 63, 64, 65, 66, 67, 68, 69, 70] (by decide +kernel) (by decide +kernel)
set_option maxRecDepth 20000 in
theorem gX6_suspects_X5_hasWinner : GoodIn wsX6_suspects (wsV RX6 155 RX5 yX5_hasWinner wsX5_hasWinner) := goodIn_app (goodIn_of _ (by decide +kernel)) ggX6_suspects_X5_hasWinner
set_option maxRecDepth 20000 in
theorem ggX6_suspects_X5_needNow : GoodIn wsX6_suspects wsX5_needNow := goodIn_r _ [11, 12, 13, 14, 15, 5, 16, 17, 18, 7, 19, 20, 21, 22, 23, 24, 25, 26, 27, 28, 29, 30, 31, 32, 33, 34, 35, 36, 37, 38, 39, 40, 41, 42, 43, 44, 45, 46, 47, 48, 49, 61, 62, 63, 64, 65, 66, 67, 68, 69, 70, 71, 72, 73, 74, 75] (by decide +kernel) (by decide +kernel)
set_option maxRecDepth 20000 in
theorem gX6_suspects_X5_needNow : GoodIn wsX6_suspects (wsV RX6 167 RX5 yX5_needNow wsX5_needNow) := goodIn_app (goodIn_of _ (by decide +kernel)) ggX6_suspects_X5_needNow
set_option maxRecDepth 20000 in
theorem ggX6_suspects_X5_greatestSwings : GoodIn wsX6_suspects wsX5_greatestSwings := goodIn_r _ [53, 17, 12, 39, 19, 20, 21, 61, 62, 63, 64, 65, 66, 67, 68, 69, 70] (by decide +kernel) (by decide +kernel)
set_option maxRecDepth 20000 in
theorem gX6_suspects_X5_greatestSwings : GoodIn wsX6_suspects (wsV RX6 200 RX5 yX5_greatestSwings wsX5_greatestSwings) := goodIn_app (goodIn_of _ (by decide +kernel)) ggX6_suspects_X5_greatestSwings
theorem dX6_suspects_0 : decode cX6_suspects 0 = .ok (.aload_n 0, 1) := by decide +kernel
theorem dX6_suspects_1 : decode cX6_suspects 1 = .ok (.getfield 10, 3) := by decide +kernel
theorem dX6_suspects_4 : decode cX6_suspects 4 = .ok (.invokevirtual 155, 3) := by decide +kernel
theorem dX6_suspects_7 : decode cX6_suspects 7 = .ok (.ifCond .ne 6, 3) := by decide +kernel
theorem dX6_suspects_10 : decode cX6_suspects 10 = .ok (.bipush (-5), 2) := by decide +kernel
theorem dX6_suspects_12 : decode cX6_suspects 12 = .ok (.ireturn, 1) := by decide +kernel
theorem dX6_suspects_13 : decode cX6_suspects 13 = .ok (.aload_n 0, 1) := by decide +kernel
theorem dX6_suspects_14 : decode cX6_suspects 14 = .ok (.getfield 10, 3) := by decide +kernel
theorem dX6_suspects_17 : decode cX6_suspects 17 = .ok (.invokevirtual 167, 3) := by decide +kernel
theorem dX6_suspects_20 : decode cX6_suspects 20 = .ok (.istore_n 1, 1) := by decide +kernel
theorem dX6_suspects_21 : decode cX6_suspects 21 = .ok (.iload_n 1, 1) := by decide +kernel
theorem dX6_suspects_22 : decode cX6_suspects 22 = .ok (.bipush (-6), 2) := by decide +kernel
theorem dX6_suspects_24 : decode cX6_suspects 24 = .ok (.if_icmp .ne 8, 3) := by decide +kernel
theorem dX6_suspects_27 : decode cX6_suspects 27 = .ok (.bipush (-6), 2) := by decide +kernel
theorem dX6_suspects_29 : decode cX6_suspects 29 = .ok (.goto 11, 3) := by decide +kernel
theorem dX6_suspects_32 : decode cX6_suspects 32 = .ok (.aload_n 0, 1) := by decide +kernel
theorem dX6_suspects_33 : decode cX6_suspects 33 = .ok (.getfield 10, 3) := by decide +kernel
theorem dX6_suspects_36 : decode cX6_suspects 36 = .ok (.iload_n 1, 1) := by decide +kernel
theorem dX6_suspects_37 : decode cX6_suspects 37 = .ok (.invokevirtual 200, 3) := by decide +kernel
theorem dX6_suspects_40 : decode cX6_suspects 40 = .ok (.ireturn, 1) := by decide +kernel
set_option maxRecDepth 20000 in
theorem ggX6_put_X6_charactersIn : GoodIn wsX6_put wsX6_charactersIn := goodIn_r _ [6, 7, 8, 5, 9, 10] (by decide +kernel) (by decide +kernel)
set_option maxRecDepth 20000 in
theorem gX6_put_X6_charactersIn : GoodIn wsX6_put (va_wsS RX6 203 yX6_charactersIn wsX6_charactersIn) := goodIn_app (goodIn_of _ (by decide +kernel)) ggX6_put_X6_charactersIn
set_option maxRecDepth 20000 in
theorem ggX6_put_X6_codeIn : GoodIn wsX6_put wsX6_codeIn := goodIn_r _ [9, 10] (by decide +kernel) (by decide +kernel)
set_option maxRecDepth 20000 in
theorem gX6_put_X6_codeIn : GoodIn wsX6_put (va_wsS RX6 207 yX6_codeIn wsX6_codeIn) := goodIn_app (goodIn_of _ (by decide +kernel)) ggX6_put_X6_codeIn
set_option maxRecDepth 20000 in
theorem ggX6_put_X2_append : GoodIn wsX6_put wsX2_append := goodIn_r _ [15, 16, 17, 25, 26] (by decide +kernel) (by decide +kernel)
set_option maxRecDepth 20000 in
theorem gX6_put_X2_append : GoodIn wsX6_put (wsV RX6 211 RX2 yX2_append wsX2_append) := goodIn_app (goodIn_of _ (by decide +kernel)) ggX6_put_X2_append
theorem dX6_put_0 : decode cX6_put 0 = .ok (.lload_n 1, 1) := by decide +kernel
theorem dX6_put_1 : decode cX6_put 1 = .ok (.invokestatic 203, 3) := by decide +kernel
theorem dX6_put_4 : decode cX6_put 4 = .ok (.istore_n 3, 1) := by decide +kernel
theorem dX6_put_5 : decode cX6_put 5 = .ok (.iload_n 3, 1) := by decide +kernel
theorem dX6_put_6 : decode cX6_put 6 = .ok (.ifCond .ne 6, 3) := by decide +kernel
theorem dX6_put_9 : decode cX6_put 9 = .ok (.bipush (-2), 2) := by decide +kernel
theorem dX6_put_11 : decode cX6_put 11 = .ok (.ireturn, 1) := by decide +kernel
theorem dX6_put_12 : decode cX6_put 12 = .ok (.aload_n 0, 1) := by decide +kernel
theorem dX6_put_13 : decode cX6_put 13 = .ok (.getfield 33, 3) := by decide +kernel
theorem dX6_put_16 : decode cX6_put 16 = .ok (.getfield 177, 3) := by decide +kernel
theorem dX6_put_19 : decode cX6_put 19 = .ok (.iload_n 3, 1) := by decide +kernel
theorem dX6_put_20 : decode cX6_put 20 = .ok (.iadd, 1) := by decide +kernel
theorem dX6_put_21 : decode cX6_put 21 = .ok (.bipush 80, 2) := by decide +kernel
theorem dX6_put_23 : decode cX6_put 23 = .ok (.if_icmp .le 6, 3) := by decide +kernel
theorem dX6_put_26 : decode cX6_put 26 = .ok (.bipush (-4), 2) := by decide +kernel
theorem dX6_put_28 : decode cX6_put 28 = .ok (.ireturn, 1) := by decide +kernel
theorem dX6_put_29 : decode cX6_put 29 = .ok (.iload_n 3, 1) := by decide +kernel
theorem dX6_put_30 : decode cX6_put 30 = .ok (.iconst 1, 1) := by decide +kernel
theorem dX6_put_31 : decode cX6_put 31 = .ok (.isub, 1) := by decide +kernel
theorem dX6_put_32 : decode cX6_put 32 = .ok (.istore 4, 2) := by decide +kernel
theorem dX6_put_34 : decode cX6_put 34 = .ok (.iload 4, 2) := by decide +kernel
theorem dX6_put_36 : decode cX6_put 36 = .ok (.ifCond .lt 22, 3) := by decide +kernel
theorem dX6_put_39 : decode cX6_put 39 = .ok (.aload_n 0, 1) := by decide +kernel
theorem dX6_put_40 : decode cX6_put 40 = .ok (.getfield 33, 3) := by decide +kernel
theorem dX6_put_43 : decode cX6_put 43 = .ok (.lload_n 1, 1) := by decide +kernel
theorem dX6_put_44 : decode cX6_put 44 = .ok (.iload 4, 2) := by decide +kernel
theorem dX6_put_46 : decode cX6_put 46 = .ok (.invokestatic 207, 3) := by decide +kernel
theorem dX6_put_49 : decode cX6_put 49 = .ok (.invokevirtual 211, 3) := by decide +kernel
theorem dX6_put_52 : decode cX6_put 52 = .ok (.iinc 4 (-1), 3) := by decide +kernel
theorem dX6_put_55 : decode cX6_put 55 = .ok (.goto (-21), 3) := by decide +kernel
theorem dX6_put_58 : decode cX6_put 58 = .ok (.aload_n 0, 1) := by decide +kernel
theorem dX6_put_59 : decode cX6_put 59 = .ok (.getfield 33, 3) := by decide +kernel
theorem dX6_put_62 : decode cX6_put 62 = .ok (.getfield 177, 3) := by decide +kernel
theorem dX6_put_65 : decode cX6_put 65 = .ok (.ireturn, 1) := by decide +kernel
theorem dX6_wipe_0 : decode cX6_wipe 0 = .ok (.aload_n 0, 1) := by decide +kernel
theorem dX6_wipe_1 : decode cX6_wipe 1 = .ok (.getfield 33, 3) := by decide +kernel
theorem dX6_wipe_4 : decode cX6_wipe 4 = .ok (.getfield 177, 3) := by decide +kernel
theorem dX6_wipe_7 : decode cX6_wipe 7 = .ok (.istore_n 1, 1) := by decide +kernel
theorem dX6_wipe_8 : decode cX6_wipe 8 = .ok (.aload_n 0, 1) := by decide +kernel
theorem dX6_wipe_9 : decode cX6_wipe 9 = .ok (.getfield 33, 3) := by decide +kernel
theorem dX6_wipe_12 : decode cX6_wipe 12 = .ok (.iconst 0, 1) := by decide +kernel
theorem dX6_wipe_13 : decode cX6_wipe 13 = .ok (.putfield 177, 3) := by decide +kernel
theorem dX6_wipe_16 : decode cX6_wipe 16 = .ok (.iload_n 1, 1) := by decide +kernel
theorem dX6_wipe_17 : decode cX6_wipe 17 = .ok (.ireturn, 1) := by decide +kernel
set_option maxRecDepth 20000 in
theorem ggX6_fault_X4_faultOf : GoodIn wsX6_fault wsX4_faultOf := goodIn_r _ [7, 8, 9, 10, 11, 12, 13, 14, 6, 15, 16, 17, 18, 19, 20, 21, 22, 23, 24, 25, 26, 27, 28, 29, 30, 31, 32, 33, 34, 35, 36, 37, 38, 39, 47, 48, 49, 50, 51] (by decide +kernel) (by decide +kernel)
set_option maxRecDepth 20000 in
theorem gX6_fault_X4_faultOf : GoodIn wsX6_fault (wsV RX6 214 RX4 yX4_faultOf wsX4_faultOf) := goodIn_app (goodIn_of _ (by decide +kernel)) ggX6_fault_X4_faultOf
theorem dX6_fault_0 : decode cX6_fault 0 = .ok (.aload_n 0, 1) := by decide +kernel
theorem dX6_fault_1 : decode cX6_fault 1 = .ok (.getfield 40, 3) := by decide +kernel
theorem dX6_fault_4 : decode cX6_fault 4 = .ok (.aload_n 0, 1) := by decide +kernel
theorem dX6_fault_5 : decode cX6_fault 5 = .ok (.getfield 33, 3) := by decide +kernel
theorem dX6_fault_8 : decode cX6_fault 8 = .ok (.invokevirtual 214, 3) := by decide +kernel
theorem dX6_fault_11 : decode cX6_fault 11 = .ok (.ireturn, 1) := by decide +kernel
set_option maxRecDepth 20000 in
theorem ggX6_make_X4_faultOf : GoodIn wsX6_make wsX4_faultOf := goodIn_r _ [10, 11, 12, 13, 14, 15, 16, 17, 9, 18, 19, 20, 21, 22, 23, 24, 25, 26, 27, 28, 29, 30, 31, 32, 33, 34, 35, 36, 37, 38, 39, 40, 41, 42, 155, 156, 157, 158, 159] (by decide +kernel) (by decide +kernel)
set_option maxRecDepth 20000 in
theorem gX6_make_X4_faultOf : GoodIn wsX6_make (wsV RX6 214 RX4 yX4_faultOf wsX4_faultOf) := goodIn_app (goodIn_of _ (by decide +kernel)) ggX6_make_X4_faultOf
set_option maxRecDepth 20000 in
theorem ggX6_make_X0_record : GoodIn wsX6_make wsX0_record := goodIn_r _ [47, 48, 49, 50, 51, 52, 46, 53, 54, 55, 56, 57, 58, 59, 60, 61, 62, 63, 64, 65, 66, 67, 68, 69, 70, 71, 72, 73, 74, 75, 76, 77, 78, 160, 161, 162, 163, 164, 165, 166, 167, 168, 169, 170, 171, 172, 173, 174, 175, 176] (by decide +kernel) (by decide +kernel)
set_option maxRecDepth 20000 in
theorem gX6_make_X0_record : GoodIn wsX6_make (wsV RX6 55 RX0 yX0_record wsX0_record) := goodIn_app (goodIn_of _ (by decide +kernel)) ggX6_make_X0_record
set_option maxRecDepth 20000 in
theorem ggX6_make_X6_makePiles : GoodIn wsX6_make wsX6_makePiles := goodIn_r _ [83, 1, 2, 5, 84, 85, 16, 17, 9, 18, 19, 14, 13, 20, 21, 22, 23, 86, 87, 88, 82, 89, 90, 4, 91, 92, 93, 94, 57, 95, 62, 64, 96, 97, 98, 99, 100, 101, 59, 102, 103, 104, 105, 106, 107, 108, 109, 110, 63, 111, 112, 113, 72, 114, 74, 75, 115, 116, 117, 118, 60, 119, 120, 121, 122, 123, 124, 125, 126, 127, 76, 128, 129, 130, 131, 65, 132, 133, 134, 135, 136, 137, 138, 139, 140, 141, 142, 143, 144, 145, 146, 77, 78, 147, 25, 26, 27, 28, 29, 30, 31, 32, 33, 34, 35, 36, 37, 38, 39, 40, 41, 42, 15, 148, 149, 150, 151, 152, 153, 154, 155, 156, 157, 158, 159, 162, 163, 164, 165, 166, 167, 168, 169, 170, 171, 172, 173, 174, 175, 176] (by decide +kernel) (by decide +kernel)
set_option maxRecDepth 20000 in
theorem gX6_make_X6_makePiles : GoodIn wsX6_make (wsV RX6 218 RX6 yX6_makePiles wsX6_makePiles) := goodIn_app (goodIn_of _ (by decide +kernel)) ggX6_make_X6_makePiles
theorem dX6_make_0 : decode cX6_make 0 = .ok (.aload_n 0, 1) := by decide +kernel
theorem dX6_make_1 : decode cX6_make 1 = .ok (.getfield 40, 3) := by decide +kernel
theorem dX6_make_4 : decode cX6_make 4 = .ok (.aload_n 0, 1) := by decide +kernel
theorem dX6_make_5 : decode cX6_make 5 = .ok (.getfield 33, 3) := by decide +kernel
theorem dX6_make_8 : decode cX6_make 8 = .ok (.invokevirtual 214, 3) := by decide +kernel
theorem dX6_make_11 : decode cX6_make 11 = .ok (.bipush (-6), 2) := by decide +kernel
theorem dX6_make_13 : decode cX6_make 13 = .ok (.if_icmp .eq 6, 3) := by decide +kernel
theorem dX6_make_16 : decode cX6_make 16 = .ok (.bipush (-3), 2) := by decide +kernel
theorem dX6_make_18 : decode cX6_make 18 = .ok (.ireturn, 1) := by decide +kernel
theorem dX6_make_19 : decode cX6_make 19 = .ok (.aload_n 0, 1) := by decide +kernel
theorem dX6_make_20 : decode cX6_make 20 = .ok (.getfield 26, 3) := by decide +kernel
theorem dX6_make_23 : decode cX6_make 23 = .ok (.aload_n 0, 1) := by decide +kernel
theorem dX6_make_24 : decode cX6_make 24 = .ok (.getfield 10, 3) := by decide +kernel
theorem dX6_make_27 : decode cX6_make 27 = .ok (.invokevirtual 55, 3) := by decide +kernel
theorem dX6_make_30 : decode cX6_make 30 = .ok (.aload_n 0, 1) := by decide +kernel
theorem dX6_make_31 : decode cX6_make 31 = .ok (.invokevirtual 218, 3) := by decide +kernel
theorem dX6_make_34 : decode cX6_make 34 = .ok (.istore_n 1, 1) := by decide +kernel
theorem dX6_make_35 : decode cX6_make 35 = .ok (.aload_n 0, 1) := by decide +kernel
theorem dX6_make_36 : decode cX6_make 36 = .ok (.getfield 33, 3) := by decide +kernel
theorem dX6_make_39 : decode cX6_make 39 = .ok (.iconst 0, 1) := by decide +kernel
theorem dX6_make_40 : decode cX6_make 40 = .ok (.putfield 177, 3) := by decide +kernel
theorem dX6_make_43 : decode cX6_make 43 = .ok (.iload_n 1, 1) := by decide +kernel
theorem dX6_make_44 : decode cX6_make 44 = .ok (.ireturn, 1) := by decide +kernel
set_option maxRecDepth 20000 in
theorem ggX6_undo_X0_takeBack : GoodIn wsX6_undo wsX0_takeBack := goodIn_r _ [8, 9, 10, 11, 12, 13, 14, 15, 16, 17, 18, 19, 20, 21, 22, 23, 24, 25, 26, 27, 28, 29, 30, 31, 32, 33, 34, 35, 43, 44, 45, 46, 47, 48, 49, 50, 51, 52, 53, 54, 55, 56, 57, 58, 59] (by decide +kernel) (by decide +kernel)
set_option maxRecDepth 20000 in
theorem gX6_undo_X0_takeBack : GoodIn wsX6_undo (wsV RX6 221 RX0 yX0_takeBack wsX0_takeBack) := goodIn_app (goodIn_of _ (by decide +kernel)) ggX6_undo_X0_takeBack
theorem dX6_undo_0 : decode cX6_undo 0 = .ok (.aload_n 0, 1) := by decide +kernel
theorem dX6_undo_1 : decode cX6_undo 1 = .ok (.getfield 26, 3) := by decide +kernel
theorem dX6_undo_4 : decode cX6_undo 4 = .ok (.getfield 180, 3) := by decide +kernel
theorem dX6_undo_7 : decode cX6_undo 7 = .ok (.ifCond .ne 6, 3) := by decide +kernel
theorem dX6_undo_10 : decode cX6_undo 10 = .ok (.bipush (-5), 2) := by decide +kernel
theorem dX6_undo_12 : decode cX6_undo 12 = .ok (.ireturn, 1) := by decide +kernel
theorem dX6_undo_13 : decode cX6_undo 13 = .ok (.aload_n 0, 1) := by decide +kernel
theorem dX6_undo_14 : decode cX6_undo 14 = .ok (.getfield 26, 3) := by decide +kernel
theorem dX6_undo_17 : decode cX6_undo 17 = .ok (.aload_n 0, 1) := by decide +kernel
theorem dX6_undo_18 : decode cX6_undo 18 = .ok (.getfield 10, 3) := by decide +kernel
theorem dX6_undo_21 : decode cX6_undo 21 = .ok (.invokevirtual 221, 3) := by decide +kernel
theorem dX6_undo_24 : decode cX6_undo 24 = .ok (.aload_n 0, 1) := by decide +kernel
theorem dX6_undo_25 : decode cX6_undo 25 = .ok (.getfield 26, 3) := by decide +kernel
theorem dX6_undo_28 : decode cX6_undo 28 = .ok (.getfield 180, 3) := by decide +kernel
theorem dX6_undo_31 : decode cX6_undo 31 = .ok (.ireturn, 1) := by decide +kernel
set_option maxRecDepth 20000 in
theorem ggX6_save_X5_init : GoodIn wsX6_save wsX5_init := goodIn_r _ [9, 10, 11, 12, 13, 14, 15, 16, 17, 18, 19, 20, 21, 22, 23, 24, 25, 50, 51, 52, 53, 54, 55, 56, 57, 58, 59, 60, 61, 62, 63, 64] (by decide +kernel) (by decide +kernel)
set_option maxRecDepth 20000 in
theorem gX6_save_X5_init : GoodIn wsX6_save (wsX5_init) := ggX6_save_X5_init
set_option maxRecDepth 20000 in
theorem ggX6_save_X5_copyFrom : GoodIn wsX6_save wsX5_copyFrom := goodIn_r _ [29, 14, 19, 20, 30, 17, 31, 32, 21, 22, 33, 34, 35, 36, 16, 37, 38, 39, 40, 41, 42, 50, 51, 52, 53, 54, 55, 56, 57, 58, 59, 60, 61, 62, 63, 64] (by decide +kernel) (by decide +kernel)
set_option maxRecDepth 20000 in
theorem gX6_save_X5_copyFrom : GoodIn wsX6_save (wsV RX6 105 RX5 yX5_copyFrom wsX5_copyFrom) := goodIn_app (goodIn_of _ (by decide +kernel)) ggX6_save_X5_copyFrom
theorem dX6_save_0 : decode cX6_save 0 = .ok (.iload_n 1, 1) := by decide +kernel
theorem dX6_save_1 : decode cX6_save 1 = .ok (.ifCond .lt 8, 3) := by decide +kernel
theorem dX6_save_4 : decode cX6_save 4 = .ok (.iload_n 1, 1) := by decide +kernel
theorem dX6_save_5 : decode cX6_save 5 = .ok (.iconst 2, 1) := by decide +kernel
theorem dX6_save_6 : decode cX6_save 6 = .ok (.if_icmp .lt 6, 3) := by decide +kernel
theorem dX6_save_9 : decode cX6_save 9 = .ok (.bipush (-2), 2) := by decide +kernel
theorem dX6_save_11 : decode cX6_save 11 = .ok (.ireturn, 1) := by decide +kernel
theorem dX6_save_12 : decode cX6_save 12 = .ok (.aload_n 0, 1) := by decide +kernel
theorem dX6_save_13 : decode cX6_save 13 = .ok (.getfield 19, 3) := by decide +kernel
theorem dX6_save_16 : decode cX6_save 16 = .ok (.iload_n 1, 1) := by decide +kernel
theorem dX6_save_17 : decode cX6_save 17 = .ok (.aaload, 1) := by decide +kernel
theorem dX6_save_18 : decode cX6_save 18 = .ok (.ifnonnull 16, 3) := by decide +kernel
theorem dX6_save_21 : decode cX6_save 21 = .ok (.aload_n 0, 1) := by decide +kernel
theorem dX6_save_22 : decode cX6_save 22 = .ok (.getfield 19, 3) := by decide +kernel
theorem dX6_save_25 : decode cX6_save 25 = .ok (.iload_n 1, 1) := by decide +kernel
theorem dX6_save_26 : decode cX6_save 26 = .ok (.new 7, 3) := by decide +kernel
theorem dX6_save_29 : decode cX6_save 29 = .ok (.dup, 1) := by decide +kernel
theorem dX6_save_30 : decode cX6_save 30 = .ok (.invokespecial 9, 3) := by decide +kernel
theorem dX6_save_33 : decode cX6_save 33 = .ok (.aastore, 1) := by decide +kernel
theorem dX6_save_34 : decode cX6_save 34 = .ok (.aload_n 0, 1) := by decide +kernel
theorem dX6_save_35 : decode cX6_save 35 = .ok (.getfield 19, 3) := by decide +kernel
theorem dX6_save_38 : decode cX6_save 38 = .ok (.iload_n 1, 1) := by decide +kernel
theorem dX6_save_39 : decode cX6_save 39 = .ok (.aaload, 1) := by decide +kernel
theorem dX6_save_40 : decode cX6_save 40 = .ok (.aload_n 0, 1) := by decide +kernel
theorem dX6_save_41 : decode cX6_save 41 = .ok (.getfield 10, 3) := by decide +kernel
theorem dX6_save_44 : decode cX6_save 44 = .ok (.invokevirtual 105, 3) := by decide +kernel
theorem dX6_save_47 : decode cX6_save 47 = .ok (.aload_n 0, 1) := by decide +kernel
theorem dX6_save_48 : decode cX6_save 48 = .ok (.getfield 10, 3) := by decide +kernel
theorem dX6_save_51 : decode cX6_save 51 = .ok (.getfield 69, 3) := by decide +kernel
theorem dX6_save_54 : decode cX6_save 54 = .ok (.ireturn, 1) := by decide +kernel
set_option maxRecDepth 20000 in
theorem ggX6_restore_X0_record : GoodIn wsX6_restore wsX0_record := goodIn_r _ [9, 10, 11, 12, 13, 14, 8, 15, 16, 17, 18, 19, 20, 21, 22, 23, 24, 25, 26, 27, 28, 29, 30, 31, 32, 33, 34, 35, 36, 37, 38, 39, 40, 59, 60, 49, 50, 51, 52, 53, 54, 55, 56, 57, 58, 61, 62, 63, 64, 65] (by decide +kernel) (by decide +kernel)
set_option maxRecDepth 20000 in
theorem gX6_restore_X0_record : GoodIn wsX6_restore (wsV RX6 55 RX0 yX0_record wsX0_record) := goodIn_app (goodIn_of _ (by decide +kernel)) ggX6_restore_X0_record
set_option maxRecDepth 20000 in
theorem ggX6_restore_X5_copyFrom : GoodIn wsX6_restore wsX5_copyFrom := goodIn_r _ [20, 21, 22, 23, 24, 25, 26, 27, 28, 29, 30, 31, 32, 33, 34, 35, 36, 37, 38, 39, 40, 49, 50, 51, 52, 53, 54, 55, 56, 57, 58, 61, 62, 63, 64, 65] (by decide +kernel) (by decide +kernel)
set_option maxRecDepth 20000 in
theorem gX6_restore_X5_copyFrom : GoodIn wsX6_restore (wsV RX6 105 RX5 yX5_copyFrom wsX5_copyFrom) := goodIn_app (goodIn_of _ (by decide +kernel)) ggX6_restore_X5_copyFrom
theorem dX6_restore_0 : decode cX6_restore 0 = .ok (.iload_n 1, 1) := by decide +kernel
theorem dX6_restore_1 : decode cX6_restore 1 = .ok (.ifCond .lt 8, 3) := by decide +kernel
theorem dX6_restore_4 : decode cX6_restore 4 = .ok (.iload_n 1, 1) := by decide +kernel
theorem dX6_restore_5 : decode cX6_restore 5 = .ok (.iconst 2, 1) := by decide +kernel
theorem dX6_restore_6 : decode cX6_restore 6 = .ok (.if_icmp .lt 6, 3) := by decide +kernel
theorem dX6_restore_9 : decode cX6_restore 9 = .ok (.bipush (-2), 2) := by decide +kernel
theorem dX6_restore_11 : decode cX6_restore 11 = .ok (.ireturn, 1) := by decide +kernel
theorem dX6_restore_12 : decode cX6_restore 12 = .ok (.aload_n 0, 1) := by decide +kernel
theorem dX6_restore_13 : decode cX6_restore 13 = .ok (.getfield 19, 3) := by decide +kernel
theorem dX6_restore_16 : decode cX6_restore 16 = .ok (.iload_n 1, 1) := by decide +kernel
theorem dX6_restore_17 : decode cX6_restore 17 = .ok (.aaload, 1) := by decide +kernel
theorem dX6_restore_18 : decode cX6_restore 18 = .ok (.ifnonnull 6, 3) := by decide +kernel
theorem dX6_restore_21 : decode cX6_restore 21 = .ok (.bipush (-5), 2) := by decide +kernel
theorem dX6_restore_23 : decode cX6_restore 23 = .ok (.ireturn, 1) := by decide +kernel
theorem dX6_restore_24 : decode cX6_restore 24 = .ok (.aload_n 0, 1) := by decide +kernel
theorem dX6_restore_25 : decode cX6_restore 25 = .ok (.getfield 26, 3) := by decide +kernel
theorem dX6_restore_28 : decode cX6_restore 28 = .ok (.aload_n 0, 1) := by decide +kernel
theorem dX6_restore_29 : decode cX6_restore 29 = .ok (.getfield 10, 3) := by decide +kernel
theorem dX6_restore_32 : decode cX6_restore 32 = .ok (.invokevirtual 55, 3) := by decide +kernel
theorem dX6_restore_35 : decode cX6_restore 35 = .ok (.aload_n 0, 1) := by decide +kernel
theorem dX6_restore_36 : decode cX6_restore 36 = .ok (.getfield 10, 3) := by decide +kernel
theorem dX6_restore_39 : decode cX6_restore 39 = .ok (.aload_n 0, 1) := by decide +kernel
theorem dX6_restore_40 : decode cX6_restore 40 = .ok (.getfield 19, 3) := by decide +kernel
theorem dX6_restore_43 : decode cX6_restore 43 = .ok (.iload_n 1, 1) := by decide +kernel
theorem dX6_restore_44 : decode cX6_restore 44 = .ok (.aaload, 1) := by decide +kernel
theorem dX6_restore_45 : decode cX6_restore 45 = .ok (.invokevirtual 105, 3) := by decide +kernel
theorem dX6_restore_48 : decode cX6_restore 48 = .ok (.aload_n 0, 1) := by decide +kernel
theorem dX6_restore_49 : decode cX6_restore 49 = .ok (.getfield 10, 3) := by decide +kernel
theorem dX6_restore_52 : decode cX6_restore 52 = .ok (.getfield 69, 3) := by decide +kernel
theorem dX6_restore_55 : decode cX6_restore 55 = .ok (.ireturn, 1) := by decide +kernel
set_option maxRecDepth 20000 in
theorem ggX6_makePiles_X4_start : GoodIn wsX6_makePiles wsX4_start := goodIn_r _ [9, 10, 11, 12, 13, 14, 15, 16, 122, 123, 124] (by decide +kernel) (by decide +kernel)
set_option maxRecDepth 20000 in
theorem gX6_makePiles_X4_start : GoodIn wsX6_makePiles (wsV RX6 224 RX4 yX4_start wsX4_start) := goodIn_app (goodIn_of _ (by decide +kernel)) ggX6_makePiles_X4_start
set_option maxRecDepth 20000 in
theorem ggX6_makePiles_X6_makeReadPile : GoodIn wsX6_makePiles wsX6_makeReadPile := goodIn_r _ [21, 1, 22, 23, 24, 25, 26, 27, 28, 29, 30, 31, 32, 20, 33, 34, 35, 36, 37, 38, 39, 40, 41, 42, 43, 44, 45, 46, 47, 48, 49, 50, 51, 52, 53, 54, 55, 56, 57, 58, 59, 60, 61, 62, 63, 64, 65, 66, 67, 68, 69, 70, 71, 72, 73, 74, 75, 76, 77, 78, 79, 80, 81, 82, 83, 84, 85, 86, 87, 88, 89, 90, 91, 92, 113, 114, 115, 116, 117, 118, 119, 122, 123, 124, 125, 126, 127, 128, 129, 130, 131, 132, 133, 134, 135, 136, 137, 138, 139] (by decide +kernel) (by decide +kernel)
set_option maxRecDepth 20000 in
theorem gX6_makePiles_X6_makeReadPile : GoodIn wsX6_makePiles (wsV RX6 230 RX6 yX6_makeReadPile wsX6_makeReadPile) := goodIn_app (goodIn_of _ (by decide +kernel)) ggX6_makePiles_X6_makeReadPile
set_option maxRecDepth 20000 in
theorem ggX6_makePiles_X4_take : GoodIn wsX6_makePiles wsX4_take := goodIn_r _ [96, 97, 98, 99, 8, 100, 10, 11, 12, 101, 102, 103, 104, 105, 106, 107, 108, 109, 110, 111, 112, 6, 7, 9, 13, 14, 15, 16, 122, 123, 124] (by decide +kernel) (by decide +kernel)
set_option maxRecDepth 20000 in
theorem gX6_makePiles_X4_take : GoodIn wsX6_makePiles (wsV RX6 233 RX4 yX4_take wsX4_take) := goodIn_app (goodIn_of _ (by decide +kernel)) ggX6_makePiles_X4_take
theorem dX6_makePiles_0 : decode cX6_makePiles 0 = .ok (.aload_n 0, 1) := by decide +kernel
theorem dX6_makePiles_1 : decode cX6_makePiles 1 = .ok (.getfield 40, 3) := by decide +kernel
theorem dX6_makePiles_4 : decode cX6_makePiles 4 = .ok (.invokevirtual 224, 3) := by decide +kernel
theorem dX6_makePiles_7 : decode cX6_makePiles 7 = .ok (.iconst 0, 1) := by decide +kernel
theorem dX6_makePiles_8 : decode cX6_makePiles 8 = .ok (.istore_n 1, 1) := by decide +kernel
theorem dX6_makePiles_9 : decode cX6_makePiles 9 = .ok (.iconst 0, 1) := by decide +kernel
theorem dX6_makePiles_10 : decode cX6_makePiles 10 = .ok (.istore_n 2, 1) := by decide +kernel
theorem dX6_makePiles_11 : decode cX6_makePiles 11 = .ok (.iload_n 2, 1) := by decide +kernel
theorem dX6_makePiles_12 : decode cX6_makePiles 12 = .ok (.aload_n 0, 1) := by decide +kernel
theorem dX6_makePiles_13 : decode cX6_makePiles 13 = .ok (.getfield 33, 3) := by decide +kernel
theorem dX6_makePiles_16 : decode cX6_makePiles 16 = .ok (.getfield 177, 3) := by decide +kernel
theorem dX6_makePiles_19 : decode cX6_makePiles 19 = .ok (.if_icmp .gt 77, 3) := by decide +kernel
theorem dX6_makePiles_22 : decode cX6_makePiles 22 = .ok (.iload_n 2, 1) := by decide +kernel
theorem dX6_makePiles_23 : decode cX6_makePiles 23 = .ok (.aload_n 0, 1) := by decide +kernel
theorem dX6_makePiles_24 : decode cX6_makePiles 24 = .ok (.getfield 33, 3) := by decide +kernel
theorem dX6_makePiles_27 : decode cX6_makePiles 27 = .ok (.getfield 177, 3) := by decide +kernel
theorem dX6_makePiles_30 : decode cX6_makePiles 30 = .ok (.if_icmp .ne 7, 3) := by decide +kernel
theorem dX6_makePiles_33 : decode cX6_makePiles 33 = .ok (.iconst 1, 1) := by decide +kernel
theorem dX6_makePiles_34 : decode cX6_makePiles 34 = .ok (.goto 4, 3) := by decide +kernel
theorem dX6_makePiles_37 : decode cX6_makePiles 37 = .ok (.iconst 0, 1) := by decide +kernel
theorem dX6_makePiles_38 : decode cX6_makePiles 38 = .ok (.istore_n 3, 1) := by decide +kernel
theorem dX6_makePiles_39 : decode cX6_makePiles 39 = .ok (.iload_n 3, 1) := by decide +kernel
theorem dX6_makePiles_40 : decode cX6_makePiles 40 = .ok (.ifCond .ne 17, 3) := by decide +kernel
theorem dX6_makePiles_43 : decode cX6_makePiles 43 = .ok (.aload_n 0, 1) := by decide +kernel
theorem dX6_makePiles_44 : decode cX6_makePiles 44 = .ok (.getfield 33, 3) := by decide +kernel
theorem dX6_makePiles_47 : decode cX6_makePiles 47 = .ok (.getfield 227, 3) := by decide +kernel
theorem dX6_makePiles_50 : decode cX6_makePiles 50 = .ok (.iload_n 2, 1) := by decide +kernel
theorem dX6_makePiles_51 : decode cX6_makePiles 51 = .ok (.iaload, 1) := by decide +kernel
theorem dX6_makePiles_52 : decode cX6_makePiles 52 = .ok (.bipush 59, 2) := by decide +kernel
theorem dX6_makePiles_54 : decode cX6_makePiles 54 = .ok (.if_icmp .ne 15, 3) := by decide +kernel
theorem dX6_makePiles_57 : decode cX6_makePiles 57 = .ok (.aload_n 0, 1) := by decide +kernel
theorem dX6_makePiles_58 : decode cX6_makePiles 58 = .ok (.invokevirtual 230, 3) := by decide +kernel
theorem dX6_makePiles_61 : decode cX6_makePiles 61 = .ok (.ifCond .ne 5, 3) := by decide +kernel
theorem dX6_makePiles_64 : decode cX6_makePiles 64 = .ok (.iload_n 1, 1) := by decide +kernel
theorem dX6_makePiles_65 : decode cX6_makePiles 65 = .ok (.ireturn, 1) := by decide +kernel
theorem dX6_makePiles_66 : decode cX6_makePiles 66 = .ok (.iinc 1 1, 3) := by decide +kernel
theorem dX6_makePiles_69 : decode cX6_makePiles 69 = .ok (.iload_n 3, 1) := by decide +kernel
theorem dX6_makePiles_70 : decode cX6_makePiles 70 = .ok (.ifCond .ne 20, 3) := by decide +kernel
theorem dX6_makePiles_73 : decode cX6_makePiles 73 = .ok (.aload_n 0, 1) := by decide +kernel
theorem dX6_makePiles_74 : decode cX6_makePiles 74 = .ok (.getfield 40, 3) := by decide +kernel
theorem dX6_makePiles_77 : decode cX6_makePiles 77 = .ok (.aload_n 0, 1) := by decide +kernel
theorem dX6_makePiles_78 : decode cX6_makePiles 78 = .ok (.getfield 33, 3) := by decide +kernel
theorem dX6_makePiles_81 : decode cX6_makePiles 81 = .ok (.getfield 227, 3) := by decide +kernel
theorem dX6_makePiles_84 : decode cX6_makePiles 84 = .ok (.iload_n 2, 1) := by decide +kernel
theorem dX6_makePiles_85 : decode cX6_makePiles 85 = .ok (.iaload, 1) := by decide +kernel
theorem dX6_makePiles_86 : decode cX6_makePiles 86 = .ok (.invokevirtual 233, 3) := by decide +kernel
theorem dX6_makePiles_89 : decode cX6_makePiles 89 = .ok (.pop, 1) := by decide +kernel
theorem dX6_makePiles_90 : decode cX6_makePiles 90 = .ok (.iinc 2 1, 3) := by decide +kernel
theorem dX6_makePiles_93 : decode cX6_makePiles 93 = .ok (.goto (-82), 3) := by decide +kernel
theorem dX6_makePiles_96 : decode cX6_makePiles 96 = .ok (.iload_n 1, 1) := by decide +kernel
theorem dX6_makePiles_97 : decode cX6_makePiles 97 = .ok (.ireturn, 1) := by decide +kernel
set_option maxRecDepth 20000 in
theorem ggX6_makeReadPile_X5_errorOfPile : GoodIn wsX6_makeReadPile wsX5_errorOfPile := goodIn_r _ [9, 10, 11, 12, 13, 14, 84, 85, 86, 87, 88, 89, 90, 91, 92, 93] (by decide +kernel) (by decide +kernel)
set_option maxRecDepth 20000 in
theorem gX6_makeReadPile_X5_errorOfPile : GoodIn wsX6_makeReadPile (wsV RX6 51 RX5 yX5_errorOfPile wsX5_errorOfPile) := goodIn_app (goodIn_of _ (by decide +kernel)) ggX6_makeReadPile_X5_errorOfPile
set_option maxRecDepth 20000 in
theorem ggX6_makeReadPile_X5_addPile : GoodIn wsX6_makeReadPile wsX5_addPile := goodIn_r _ [18, 19, 10, 20, 21, 22, 23, 24, 25, 26, 27, 8, 28, 29, 30, 31, 32, 33, 34, 35, 36, 37, 38, 39, 40, 41, 42, 43, 44, 45, 46, 47, 48, 49, 50, 51, 84, 85, 86, 87, 88, 89, 90, 91, 92, 93, 94, 95, 96, 97, 98] (by decide +kernel) (by decide +kernel)
set_option maxRecDepth 20000 in
theorem gX6_makeReadPile_X5_addPile : GoodIn wsX6_makeReadPile (wsV RX6 59 RX5 yX5_addPile wsX5_addPile) := goodIn_app (goodIn_of _ (by decide +kernel)) ggX6_makeReadPile_X5_addPile
set_option maxRecDepth 20000 in
theorem ggX6_makeReadPile_X5_errorOfFind : GoodIn wsX6_makeReadPile wsX5_errorOfFind := goodIn_r _ [55, 19, 56, 57, 58, 59, 8, 60, 10, 61, 48, 49, 33, 50, 35, 36, 51, 62, 13, 63, 84, 85, 86, 87, 88, 89, 90, 91, 92, 93, 94, 95, 96, 97, 98] (by decide +kernel) (by decide +kernel)
set_option maxRecDepth 20000 in
theorem gX6_makeReadPile_X5_errorOfFind : GoodIn wsX6_makeReadPile (wsV RX6 62 RX5 yX5_errorOfFind wsX5_errorOfFind) := goodIn_app (goodIn_of _ (by decide +kernel)) ggX6_makeReadPile_X5_errorOfFind
set_option maxRecDepth 20000 in
theorem ggX6_makeReadPile_X5_setFound : GoodIn wsX6_makeReadPile wsX5_setFound := goodIn_r _ [67, 19, 23, 24, 68, 69, 70, 33, 71, 72, 73, 30, 31, 32, 34, 35, 36, 84, 85, 86, 87, 88, 89, 90, 91, 92, 93, 94, 95, 96, 97, 98] (by decide +kernel) (by decide +kernel)
set_option maxRecDepth 20000 in
theorem gX6_makeReadPile_X5_setFound : GoodIn wsX6_makeReadPile (wsV RX6 66 RX5 yX5_setFound wsX5_setFound) := goodIn_app (goodIn_of _ (by decide +kernel)) ggX6_makeReadPile_X5_setFound
theorem dX6_makeReadPile_0 : decode cX6_makeReadPile 0 = .ok (.aload_n 0, 1) := by decide +kernel
theorem dX6_makeReadPile_1 : decode cX6_makeReadPile 1 = .ok (.getfield 40, 3) := by decide +kernel
theorem dX6_makeReadPile_4 : decode cX6_makeReadPile 4 = .ok (.getfield 236, 3) := by decide +kernel
theorem dX6_makeReadPile_7 : decode cX6_makeReadPile 7 = .ok (.iconst 0, 1) := by decide +kernel
theorem dX6_makeReadPile_8 : decode cX6_makeReadPile 8 = .ok (.iaload, 1) := by decide +kernel
theorem dX6_makeReadPile_9 : decode cX6_makeReadPile 9 = .ok (.istore_n 1, 1) := by decide +kernel
theorem dX6_makeReadPile_10 : decode cX6_makeReadPile 10 = .ok (.aload_n 0, 1) := by decide +kernel
theorem dX6_makeReadPile_11 : decode cX6_makeReadPile 11 = .ok (.getfield 40, 3) := by decide +kernel
theorem dX6_makeReadPile_14 : decode cX6_makeReadPile 14 = .ok (.getfield 236, 3) := by decide +kernel
theorem dX6_makeReadPile_17 : decode cX6_makeReadPile 17 = .ok (.iconst 1, 1) := by decide +kernel
theorem dX6_makeReadPile_18 : decode cX6_makeReadPile 18 = .ok (.iaload, 1) := by decide +kernel
theorem dX6_makeReadPile_19 : decode cX6_makeReadPile 19 = .ok (.istore_n 2, 1) := by decide +kernel
theorem dX6_makeReadPile_20 : decode cX6_makeReadPile 20 = .ok (.aload_n 0, 1) := by decide +kernel
theorem dX6_makeReadPile_21 : decode cX6_makeReadPile 21 = .ok (.getfield 40, 3) := by decide +kernel
theorem dX6_makeReadPile_24 : decode cX6_makeReadPile 24 = .ok (.getfield 236, 3) := by decide +kernel
theorem dX6_makeReadPile_27 : decode cX6_makeReadPile 27 = .ok (.iconst 2, 1) := by decide +kernel
theorem dX6_makeReadPile_28 : decode cX6_makeReadPile 28 = .ok (.iaload, 1) := by decide +kernel
theorem dX6_makeReadPile_29 : decode cX6_makeReadPile 29 = .ok (.istore_n 3, 1) := by decide +kernel
theorem dX6_makeReadPile_30 : decode cX6_makeReadPile 30 = .ok (.aload_n 0, 1) := by decide +kernel
theorem dX6_makeReadPile_31 : decode cX6_makeReadPile 31 = .ok (.getfield 10, 3) := by decide +kernel
theorem dX6_makeReadPile_34 : decode cX6_makeReadPile 34 = .ok (.iload_n 1, 1) := by decide +kernel
theorem dX6_makeReadPile_35 : decode cX6_makeReadPile 35 = .ok (.iload_n 2, 1) := by decide +kernel
theorem dX6_makeReadPile_36 : decode cX6_makeReadPile 36 = .ok (.iload_n 3, 1) := by decide +kernel
theorem dX6_makeReadPile_37 : decode cX6_makeReadPile 37 = .ok (.invokevirtual 51, 3) := by decide +kernel
theorem dX6_makeReadPile_40 : decode cX6_makeReadPile 40 = .ok (.ifCond .eq 5, 3) := by decide +kernel
theorem dX6_makeReadPile_43 : decode cX6_makeReadPile 43 = .ok (.iconst 0, 1) := by decide +kernel
theorem dX6_makeReadPile_44 : decode cX6_makeReadPile 44 = .ok (.ireturn, 1) := by decide +kernel
theorem dX6_makeReadPile_45 : decode cX6_makeReadPile 45 = .ok (.aload_n 0, 1) := by decide +kernel
theorem dX6_makeReadPile_46 : decode cX6_makeReadPile 46 = .ok (.getfield 10, 3) := by decide +kernel
theorem dX6_makeReadPile_49 : decode cX6_makeReadPile 49 = .ok (.iload_n 1, 1) := by decide +kernel
theorem dX6_makeReadPile_50 : decode cX6_makeReadPile 50 = .ok (.iload_n 2, 1) := by decide +kernel
theorem dX6_makeReadPile_51 : decode cX6_makeReadPile 51 = .ok (.iload_n 3, 1) := by decide +kernel
theorem dX6_makeReadPile_52 : decode cX6_makeReadPile 52 = .ok (.invokevirtual 59, 3) := by decide +kernel
theorem dX6_makeReadPile_55 : decode cX6_makeReadPile 55 = .ok (.istore 4, 2) := by decide +kernel
theorem dX6_makeReadPile_57 : decode cX6_makeReadPile 57 = .ok (.aload_n 0, 1) := by decide +kernel
theorem dX6_makeReadPile_58 : decode cX6_makeReadPile 58 = .ok (.getfield 40, 3) := by decide +kernel
theorem dX6_makeReadPile_61 : decode cX6_makeReadPile 61 = .ok (.getfield 239, 3) := by decide +kernel
theorem dX6_makeReadPile_64 : decode cX6_makeReadPile 64 = .ok (.iconst 4, 1) := by decide +kernel
theorem dX6_makeReadPile_65 : decode cX6_makeReadPile 65 = .ok (.if_icmp .eq 5, 3) := by decide +kernel
theorem dX6_makeReadPile_68 : decode cX6_makeReadPile 68 = .ok (.iconst 1, 1) := by decide +kernel
theorem dX6_makeReadPile_69 : decode cX6_makeReadPile 69 = .ok (.ireturn, 1) := by decide +kernel
theorem dX6_makeReadPile_70 : decode cX6_makeReadPile 70 = .ok (.aload_n 0, 1) := by decide +kernel
theorem dX6_makeReadPile_71 : decode cX6_makeReadPile 71 = .ok (.getfield 40, 3) := by decide +kernel
theorem dX6_makeReadPile_74 : decode cX6_makeReadPile 74 = .ok (.getfield 236, 3) := by decide +kernel
theorem dX6_makeReadPile_77 : decode cX6_makeReadPile 77 = .ok (.iconst 3, 1) := by decide +kernel
theorem dX6_makeReadPile_78 : decode cX6_makeReadPile 78 = .ok (.iaload, 1) := by decide +kernel
theorem dX6_makeReadPile_79 : decode cX6_makeReadPile 79 = .ok (.istore 5, 2) := by decide +kernel
theorem dX6_makeReadPile_81 : decode cX6_makeReadPile 81 = .ok (.aload_n 0, 1) := by decide +kernel
theorem dX6_makeReadPile_82 : decode cX6_makeReadPile 82 = .ok (.getfield 40, 3) := by decide +kernel
theorem dX6_makeReadPile_85 : decode cX6_makeReadPile 85 = .ok (.getfield 236, 3) := by decide +kernel
theorem dX6_makeReadPile_88 : decode cX6_makeReadPile 88 = .ok (.iconst 4, 1) := by decide +kernel
theorem dX6_makeReadPile_89 : decode cX6_makeReadPile 89 = .ok (.iaload, 1) := by decide +kernel
theorem dX6_makeReadPile_90 : decode cX6_makeReadPile 90 = .ok (.istore 6, 2) := by decide +kernel
theorem dX6_makeReadPile_92 : decode cX6_makeReadPile 92 = .ok (.aload_n 0, 1) := by decide +kernel
theorem dX6_makeReadPile_93 : decode cX6_makeReadPile 93 = .ok (.getfield 10, 3) := by decide +kernel
theorem dX6_makeReadPile_96 : decode cX6_makeReadPile 96 = .ok (.iload 4, 2) := by decide +kernel
theorem dX6_makeReadPile_98 : decode cX6_makeReadPile 98 = .ok (.iload 5, 2) := by decide +kernel
theorem dX6_makeReadPile_100 : decode cX6_makeReadPile 100 = .ok (.iload 6, 2) := by decide +kernel
theorem dX6_makeReadPile_102 : decode cX6_makeReadPile 102 = .ok (.invokevirtual 62, 3) := by decide +kernel
theorem dX6_makeReadPile_105 : decode cX6_makeReadPile 105 = .ok (.ifCond .eq 5, 3) := by decide +kernel
theorem dX6_makeReadPile_108 : decode cX6_makeReadPile 108 = .ok (.iconst 0, 1) := by decide +kernel
theorem dX6_makeReadPile_109 : decode cX6_makeReadPile 109 = .ok (.ireturn, 1) := by decide +kernel
theorem dX6_makeReadPile_110 : decode cX6_makeReadPile 110 = .ok (.aload_n 0, 1) := by decide +kernel
theorem dX6_makeReadPile_111 : decode cX6_makeReadPile 111 = .ok (.getfield 10, 3) := by decide +kernel
theorem dX6_makeReadPile_114 : decode cX6_makeReadPile 114 = .ok (.iload 4, 2) := by decide +kernel
theorem dX6_makeReadPile_116 : decode cX6_makeReadPile 116 = .ok (.iload 5, 2) := by decide +kernel
theorem dX6_makeReadPile_118 : decode cX6_makeReadPile 118 = .ok (.iload 6, 2) := by decide +kernel
theorem dX6_makeReadPile_120 : decode cX6_makeReadPile 120 = .ok (.invokevirtual 66, 3) := by decide +kernel
theorem dX6_makeReadPile_123 : decode cX6_makeReadPile 123 = .ok (.pop, 1) := by decide +kernel
theorem dX6_makeReadPile_124 : decode cX6_makeReadPile 124 = .ok (.iconst 1, 1) := by decide +kernel
theorem dX6_makeReadPile_125 : decode cX6_makeReadPile 125 = .ok (.ireturn, 1) := by decide +kernel
theorem dX6_has_0 : decode cX6_has 0 = .ok (.iload_n 0, 1) := by decide +kernel
theorem dX6_has_1 : decode cX6_has 1 = .ok (.iload_n 1, 1) := by decide +kernel
theorem dX6_has_2 : decode cX6_has 2 = .ok (.ishr, 1) := by decide +kernel
theorem dX6_has_3 : decode cX6_has 3 = .ok (.iconst 1, 1) := by decide +kernel
theorem dX6_has_4 : decode cX6_has 4 = .ok (.iand, 1) := by decide +kernel
theorem dX6_has_5 : decode cX6_has 5 = .ok (.iconst 1, 1) := by decide +kernel
theorem dX6_has_6 : decode cX6_has 6 = .ok (.if_icmp .ne 7, 3) := by decide +kernel
theorem dX6_has_9 : decode cX6_has 9 = .ok (.iconst 1, 1) := by decide +kernel
theorem dX6_has_10 : decode cX6_has 10 = .ok (.goto 4, 3) := by decide +kernel
theorem dX6_has_13 : decode cX6_has 13 = .ok (.iconst 0, 1) := by decide +kernel
theorem dX6_has_14 : decode cX6_has 14 = .ok (.ireturn, 1) := by decide +kernel
theorem dX6_isVotes_0 : decode cX6_isVotes 0 = .ok (.iload_n 0, 1) := by decide +kernel
theorem dX6_isVotes_1 : decode cX6_isVotes 1 = .ok (.ifCond .lt 14, 3) := by decide +kernel
theorem dX6_isVotes_4 : decode cX6_isVotes 4 = .ok (.iload_n 0, 1) := by decide +kernel
theorem dX6_isVotes_5 : decode cX6_isVotes 5 = .ok (.sipush 200, 3) := by decide +kernel
theorem dX6_isVotes_8 : decode cX6_isVotes 8 = .ok (.if_icmp .gt 7, 3) := by decide +kernel
theorem dX6_isVotes_11 : decode cX6_isVotes 11 = .ok (.iconst 1, 1) := by decide +kernel
theorem dX6_isVotes_12 : decode cX6_isVotes 12 = .ok (.goto 4, 3) := by decide +kernel
theorem dX6_isVotes_15 : decode cX6_isVotes 15 = .ok (.iconst 0, 1) := by decide +kernel
theorem dX6_isVotes_16 : decode cX6_isVotes 16 = .ok (.ireturn, 1) := by decide +kernel
theorem dX6_codeIn_0 : decode cX6_codeIn 0 = .ok (.lload_n 0, 1) := by decide +kernel
theorem dX6_codeIn_1 : decode cX6_codeIn 1 = .ok (.bipush 8, 2) := by decide +kernel
theorem dX6_codeIn_3 : decode cX6_codeIn 3 = .ok (.iload_n 2, 1) := by decide +kernel
theorem dX6_codeIn_4 : decode cX6_codeIn 4 = .ok (.imul, 1) := by decide +kernel
theorem dX6_codeIn_5 : decode cX6_codeIn 5 = .ok (.lushr, 1) := by decide +kernel
theorem dX6_codeIn_6 : decode cX6_codeIn 6 = .ok (.ldc2_w 242, 3) := by decide +kernel
theorem dX6_codeIn_9 : decode cX6_codeIn 9 = .ok (.land, 1) := by decide +kernel
theorem dX6_codeIn_10 : decode cX6_codeIn 10 = .ok (.l2i, 1) := by decide +kernel
theorem dX6_codeIn_11 : decode cX6_codeIn 11 = .ok (.ireturn, 1) := by decide +kernel
set_option maxRecDepth 20000 in
theorem ggX6_charactersIn_X6_codeIn : GoodIn wsX6_charactersIn wsX6_codeIn := goodIn_r _ [4, 5] (by decide +kernel) (by decide +kernel)
set_option maxRecDepth 20000 in
theorem gX6_charactersIn_X6_codeIn : GoodIn wsX6_charactersIn (va_wsS RX6 207 yX6_codeIn wsX6_codeIn) := goodIn_app (goodIn_of _ (by decide +kernel)) ggX6_charactersIn_X6_codeIn
theorem dX6_charactersIn_0 : decode cX6_charactersIn 0 = .ok (.iconst 0, 1) := by decide +kernel
theorem dX6_charactersIn_1 : decode cX6_charactersIn 1 = .ok (.istore_n 2, 1) := by decide +kernel
theorem dX6_charactersIn_2 : decode cX6_charactersIn 2 = .ok (.iload_n 2, 1) := by decide +kernel
theorem dX6_charactersIn_3 : decode cX6_charactersIn 3 = .ok (.bipush 8, 2) := by decide +kernel
theorem dX6_charactersIn_5 : decode cX6_charactersIn 5 = .ok (.if_icmp .ge 37, 3) := by decide +kernel
theorem dX6_charactersIn_8 : decode cX6_charactersIn 8 = .ok (.lload_n 0, 1) := by decide +kernel
theorem dX6_charactersIn_9 : decode cX6_charactersIn 9 = .ok (.iload_n 2, 1) := by decide +kernel
theorem dX6_charactersIn_10 : decode cX6_charactersIn 10 = .ok (.invokestatic 207, 3) := by decide +kernel
theorem dX6_charactersIn_13 : decode cX6_charactersIn 13 = .ok (.ifCond .eq 29, 3) := by decide +kernel
theorem dX6_charactersIn_16 : decode cX6_charactersIn 16 = .ok (.lload_n 0, 1) := by decide +kernel
theorem dX6_charactersIn_17 : decode cX6_charactersIn 17 = .ok (.iload_n 2, 1) := by decide +kernel
theorem dX6_charactersIn_18 : decode cX6_charactersIn 18 = .ok (.invokestatic 207, 3) := by decide +kernel
theorem dX6_charactersIn_21 : decode cX6_charactersIn 21 = .ok (.istore_n 3, 1) := by decide +kernel
theorem dX6_charactersIn_22 : decode cX6_charactersIn 22 = .ok (.iload_n 3, 1) := by decide +kernel
theorem dX6_charactersIn_23 : decode cX6_charactersIn 23 = .ok (.bipush 33, 2) := by decide +kernel
theorem dX6_charactersIn_25 : decode cX6_charactersIn 25 = .ok (.if_icmp .lt 9, 3) := by decide +kernel
theorem dX6_charactersIn_28 : decode cX6_charactersIn 28 = .ok (.iload_n 3, 1) := by decide +kernel
theorem dX6_charactersIn_29 : decode cX6_charactersIn 29 = .ok (.bipush 126, 2) := by decide +kernel
theorem dX6_charactersIn_31 : decode cX6_charactersIn 31 = .ok (.if_icmp .le 5, 3) := by decide +kernel
theorem dX6_charactersIn_34 : decode cX6_charactersIn 34 = .ok (.iconst 0, 1) := by decide +kernel
theorem dX6_charactersIn_35 : decode cX6_charactersIn 35 = .ok (.ireturn, 1) := by decide +kernel
theorem dX6_charactersIn_36 : decode cX6_charactersIn 36 = .ok (.iinc 2 1, 3) := by decide +kernel
theorem dX6_charactersIn_39 : decode cX6_charactersIn 39 = .ok (.goto (-37), 3) := by decide +kernel
theorem dX6_charactersIn_42 : decode cX6_charactersIn 42 = .ok (.iload_n 2, 1) := by decide +kernel
theorem dX6_charactersIn_43 : decode cX6_charactersIn 43 = .ok (.bipush 8, 2) := by decide +kernel
theorem dX6_charactersIn_45 : decode cX6_charactersIn 45 = .ok (.if_icmp .eq 14, 3) := by decide +kernel
theorem dX6_charactersIn_48 : decode cX6_charactersIn 48 = .ok (.lload_n 0, 1) := by decide +kernel
theorem dX6_charactersIn_49 : decode cX6_charactersIn 49 = .ok (.bipush 8, 2) := by decide +kernel
theorem dX6_charactersIn_51 : decode cX6_charactersIn 51 = .ok (.iload_n 2, 1) := by decide +kernel
theorem dX6_charactersIn_52 : decode cX6_charactersIn 52 = .ok (.imul, 1) := by decide +kernel
theorem dX6_charactersIn_53 : decode cX6_charactersIn 53 = .ok (.lushr, 1) := by decide +kernel
theorem dX6_charactersIn_54 : decode cX6_charactersIn 54 = .ok (.lconst 0, 1) := by decide +kernel
theorem dX6_charactersIn_55 : decode cX6_charactersIn 55 = .ok (.lcmp, 1) := by decide +kernel
theorem dX6_charactersIn_56 : decode cX6_charactersIn 56 = .ok (.ifCond .ne 7, 3) := by decide +kernel
theorem dX6_charactersIn_59 : decode cX6_charactersIn 59 = .ok (.iconst 1, 1) := by decide +kernel
theorem dX6_charactersIn_60 : decode cX6_charactersIn 60 = .ok (.goto 4, 3) := by decide +kernel
theorem dX6_charactersIn_63 : decode cX6_charactersIn 63 = .ok (.iconst 0, 1) := by decide +kernel
theorem dX6_charactersIn_64 : decode cX6_charactersIn 64 = .ok (.istore_n 3, 1) := by decide +kernel
theorem dX6_charactersIn_65 : decode cX6_charactersIn 65 = .ok (.iload_n 3, 1) := by decide +kernel
theorem dX6_charactersIn_66 : decode cX6_charactersIn 66 = .ok (.ifCond .eq 7, 3) := by decide +kernel
theorem dX6_charactersIn_69 : decode cX6_charactersIn 69 = .ok (.iload_n 2, 1) := by decide +kernel
theorem dX6_charactersIn_70 : decode cX6_charactersIn 70 = .ok (.goto 4, 3) := by decide +kernel
theorem dX6_charactersIn_73 : decode cX6_charactersIn 73 = .ok (.iconst 0, 1) := by decide +kernel
theorem dX6_charactersIn_74 : decode cX6_charactersIn 74 = .ok (.ireturn, 1) := by decide +kernel
theorem dX6_choices_0 : decode cX6_choices 0 = .ok (.iload_n 1, 1) := by decide +kernel
theorem dX6_choices_1 : decode cX6_choices 1 = .ok (.iload_n 0, 1) := by decide +kernel
theorem dX6_choices_2 : decode cX6_choices 2 = .ok (.if_icmp .le 5, 3) := by decide +kernel
theorem dX6_choices_5 : decode cX6_choices 5 = .ok (.lconst 0, 1) := by decide +kernel
theorem dX6_choices_6 : decode cX6_choices 6 = .ok (.lreturn, 1) := by decide +kernel
theorem dX6_choices_7 : decode cX6_choices 7 = .ok (.lconst 1, 1) := by decide +kernel
theorem dX6_choices_8 : decode cX6_choices 8 = .ok (.lstore_n 2, 1) := by decide +kernel
theorem dX6_choices_9 : decode cX6_choices 9 = .ok (.iconst 1, 1) := by decide +kernel
theorem dX6_choices_10 : decode cX6_choices 10 = .ok (.istore 4, 2) := by decide +kernel
theorem dX6_choices_12 : decode cX6_choices 12 = .ok (.iload 4, 2) := by decide +kernel
theorem dX6_choices_14 : decode cX6_choices 14 = .ok (.iload_n 1, 1) := by decide +kernel
theorem dX6_choices_15 : decode cX6_choices 15 = .ok (.if_icmp .gt 23, 3) := by decide +kernel
theorem dX6_choices_18 : decode cX6_choices 18 = .ok (.lload_n 2, 1) := by decide +kernel
theorem dX6_choices_19 : decode cX6_choices 19 = .ok (.iload_n 0, 1) := by decide +kernel
theorem dX6_choices_20 : decode cX6_choices 20 = .ok (.iload_n 1, 1) := by decide +kernel
theorem dX6_choices_21 : decode cX6_choices 21 = .ok (.isub, 1) := by decide +kernel
theorem dX6_choices_22 : decode cX6_choices 22 = .ok (.iload 4, 2) := by decide +kernel
theorem dX6_choices_24 : decode cX6_choices 24 = .ok (.iadd, 1) := by decide +kernel
theorem dX6_choices_25 : decode cX6_choices 25 = .ok (.i2l, 1) := by decide +kernel
theorem dX6_choices_26 : decode cX6_choices 26 = .ok (.lmul, 1) := by decide +kernel
theorem dX6_choices_27 : decode cX6_choices 27 = .ok (.iload 4, 2) := by decide +kernel
theorem dX6_choices_29 : decode cX6_choices 29 = .ok (.i2l, 1) := by decide +kernel
theorem dX6_choices_30 : decode cX6_choices 30 = .ok (.ldiv, 1) := by decide +kernel
theorem dX6_choices_31 : decode cX6_choices 31 = .ok (.lstore_n 2, 1) := by decide +kernel
theorem dX6_choices_32 : decode cX6_choices 32 = .ok (.iinc 4 1, 3) := by decide +kernel
theorem dX6_choices_35 : decode cX6_choices 35 = .ok (.goto (-23), 3) := by decide +kernel
theorem dX6_choices_38 : decode cX6_choices 38 = .ok (.lload_n 2, 1) := by decide +kernel
theorem dX6_choices_39 : decode cX6_choices 39 = .ok (.lreturn, 1) := by decide +kernel
set_option maxRecDepth 20000 in
theorem ggX6_riskThatAllAreMissed_X6_choices : GoodIn wsX6_riskThatAllAreMissed wsX6_choices := goodIn_r _ [5] (by decide +kernel) (by decide +kernel)
set_option maxRecDepth 20000 in
theorem gX6_riskThatAllAreMissed_X6_choices : GoodIn wsX6_riskThatAllAreMissed (va_wsS RX6 244 yX6_choices wsX6_choices) := goodIn_app (goodIn_of _ (by decide +kernel)) ggX6_riskThatAllAreMissed_X6_choices
theorem dX6_riskThatAllAreMissed_0 : decode cX6_riskThatAllAreMissed 0 = .ok (.iload_n 0, 1) := by decide +kernel
theorem dX6_riskThatAllAreMissed_1 : decode cX6_riskThatAllAreMissed 1 = .ok (.iload_n 1, 1) := by decide +kernel
theorem dX6_riskThatAllAreMissed_2 : decode cX6_riskThatAllAreMissed 2 = .ok (.invokestatic 244, 3) := by decide +kernel
theorem dX6_riskThatAllAreMissed_5 : decode cX6_riskThatAllAreMissed 5 = .ok (.lstore_n 3, 1) := by decide +kernel
theorem dX6_riskThatAllAreMissed_6 : decode cX6_riskThatAllAreMissed 6 = .ok (.lload_n 3, 1) := by decide +kernel
theorem dX6_riskThatAllAreMissed_7 : decode cX6_riskThatAllAreMissed 7 = .ok (.lconst 0, 1) := by decide +kernel
theorem dX6_riskThatAllAreMissed_8 : decode cX6_riskThatAllAreMissed 8 = .ok (.lcmp, 1) := by decide +kernel
theorem dX6_riskThatAllAreMissed_9 : decode cX6_riskThatAllAreMissed 9 = .ok (.ifCond .gt 7, 3) := by decide +kernel
theorem dX6_riskThatAllAreMissed_12 : decode cX6_riskThatAllAreMissed 12 = .ok (.sipush 10000, 3) := by decide +kernel
theorem dX6_riskThatAllAreMissed_15 : decode cX6_riskThatAllAreMissed 15 = .ok (.ireturn, 1) := by decide +kernel
theorem dX6_riskThatAllAreMissed_16 : decode cX6_riskThatAllAreMissed 16 = .ok (.ldc2_w 248, 3) := by decide +kernel
theorem dX6_riskThatAllAreMissed_19 : decode cX6_riskThatAllAreMissed 19 = .ok (.iload_n 0, 1) := by decide +kernel
theorem dX6_riskThatAllAreMissed_20 : decode cX6_riskThatAllAreMissed 20 = .ok (.iload_n 2, 1) := by decide +kernel
theorem dX6_riskThatAllAreMissed_21 : decode cX6_riskThatAllAreMissed 21 = .ok (.isub, 1) := by decide +kernel
theorem dX6_riskThatAllAreMissed_22 : decode cX6_riskThatAllAreMissed 22 = .ok (.iload_n 1, 1) := by decide +kernel
theorem dX6_riskThatAllAreMissed_23 : decode cX6_riskThatAllAreMissed 23 = .ok (.invokestatic 244, 3) := by decide +kernel
theorem dX6_riskThatAllAreMissed_26 : decode cX6_riskThatAllAreMissed 26 = .ok (.lmul, 1) := by decide +kernel
theorem dX6_riskThatAllAreMissed_27 : decode cX6_riskThatAllAreMissed 27 = .ok (.lstore 5, 2) := by decide +kernel
theorem dX6_riskThatAllAreMissed_29 : decode cX6_riskThatAllAreMissed 29 = .ok (.lload 5, 2) := by decide +kernel
theorem dX6_riskThatAllAreMissed_31 : decode cX6_riskThatAllAreMissed 31 = .ok (.lload_n 3, 1) := by decide +kernel
theorem dX6_riskThatAllAreMissed_32 : decode cX6_riskThatAllAreMissed 32 = .ok (.ladd, 1) := by decide +kernel
theorem dX6_riskThatAllAreMissed_33 : decode cX6_riskThatAllAreMissed 33 = .ok (.lconst 1, 1) := by decide +kernel
theorem dX6_riskThatAllAreMissed_34 : decode cX6_riskThatAllAreMissed 34 = .ok (.lsub, 1) := by decide +kernel
theorem dX6_riskThatAllAreMissed_35 : decode cX6_riskThatAllAreMissed 35 = .ok (.lload_n 3, 1) := by decide +kernel
theorem dX6_riskThatAllAreMissed_36 : decode cX6_riskThatAllAreMissed 36 = .ok (.ldiv, 1) := by decide +kernel
theorem dX6_riskThatAllAreMissed_37 : decode cX6_riskThatAllAreMissed 37 = .ok (.l2i, 1) := by decide +kernel
theorem dX6_riskThatAllAreMissed_38 : decode cX6_riskThatAllAreMissed 38 = .ok (.ireturn, 1) := by decide +kernel
theorem dX6_factorial_0 : decode cX6_factorial 0 = .ok (.iconst 1, 1) := by decide +kernel
theorem dX6_factorial_1 : decode cX6_factorial 1 = .ok (.istore_n 1, 1) := by decide +kernel
theorem dX6_factorial_2 : decode cX6_factorial 2 = .ok (.iconst 2, 1) := by decide +kernel
theorem dX6_factorial_3 : decode cX6_factorial 3 = .ok (.istore_n 2, 1) := by decide +kernel
theorem dX6_factorial_4 : decode cX6_factorial 4 = .ok (.iload_n 2, 1) := by decide +kernel
theorem dX6_factorial_5 : decode cX6_factorial 5 = .ok (.iload_n 0, 1) := by decide +kernel
theorem dX6_factorial_6 : decode cX6_factorial 6 = .ok (.if_icmp .gt 13, 3) := by decide +kernel
theorem dX6_factorial_9 : decode cX6_factorial 9 = .ok (.iload_n 1, 1) := by decide +kernel
theorem dX6_factorial_10 : decode cX6_factorial 10 = .ok (.iload_n 2, 1) := by decide +kernel
theorem dX6_factorial_11 : decode cX6_factorial 11 = .ok (.imul, 1) := by decide +kernel
theorem dX6_factorial_12 : decode cX6_factorial 12 = .ok (.istore_n 1, 1) := by decide +kernel
theorem dX6_factorial_13 : decode cX6_factorial 13 = .ok (.iinc 2 1, 3) := by decide +kernel
theorem dX6_factorial_16 : decode cX6_factorial 16 = .ok (.goto (-12), 3) := by decide +kernel
theorem dX6_factorial_19 : decode cX6_factorial 19 = .ok (.iload_n 1, 1) := by decide +kernel
theorem dX6_factorial_20 : decode cX6_factorial 20 = .ok (.ireturn, 1) := by decide +kernel
theorem dJ6_bitCount_0f7a4_0 : decode cJ6_bitCount_0f7a4 0 = .ok (.iload_n 0, 1) := by decide +kernel
theorem dJ6_bitCount_0f7a4_1 : decode cJ6_bitCount_0f7a4 1 = .ok (.iload_n 0, 1) := by decide +kernel
theorem dJ6_bitCount_0f7a4_2 : decode cJ6_bitCount_0f7a4 2 = .ok (.iconst 1, 1) := by decide +kernel
theorem dJ6_bitCount_0f7a4_3 : decode cJ6_bitCount_0f7a4 3 = .ok (.iushr, 1) := by decide +kernel
theorem dJ6_bitCount_0f7a4_4 : decode cJ6_bitCount_0f7a4 4 = .ok (.ldc_w 265, 3) := by decide +kernel
theorem dJ6_bitCount_0f7a4_7 : decode cJ6_bitCount_0f7a4 7 = .ok (.iand, 1) := by decide +kernel
theorem dJ6_bitCount_0f7a4_8 : decode cJ6_bitCount_0f7a4 8 = .ok (.isub, 1) := by decide +kernel
theorem dJ6_bitCount_0f7a4_9 : decode cJ6_bitCount_0f7a4 9 = .ok (.istore_n 0, 1) := by decide +kernel
theorem dJ6_bitCount_0f7a4_10 : decode cJ6_bitCount_0f7a4 10 = .ok (.iload_n 0, 1) := by decide +kernel
theorem dJ6_bitCount_0f7a4_11 : decode cJ6_bitCount_0f7a4 11 = .ok (.ldc_w 266, 3) := by decide +kernel
theorem dJ6_bitCount_0f7a4_14 : decode cJ6_bitCount_0f7a4 14 = .ok (.iand, 1) := by decide +kernel
theorem dJ6_bitCount_0f7a4_15 : decode cJ6_bitCount_0f7a4 15 = .ok (.iload_n 0, 1) := by decide +kernel
theorem dJ6_bitCount_0f7a4_16 : decode cJ6_bitCount_0f7a4 16 = .ok (.iconst 2, 1) := by decide +kernel
theorem dJ6_bitCount_0f7a4_17 : decode cJ6_bitCount_0f7a4 17 = .ok (.iushr, 1) := by decide +kernel
theorem dJ6_bitCount_0f7a4_18 : decode cJ6_bitCount_0f7a4 18 = .ok (.ldc_w 266, 3) := by decide +kernel
theorem dJ6_bitCount_0f7a4_21 : decode cJ6_bitCount_0f7a4 21 = .ok (.iand, 1) := by decide +kernel
theorem dJ6_bitCount_0f7a4_22 : decode cJ6_bitCount_0f7a4 22 = .ok (.iadd, 1) := by decide +kernel
theorem dJ6_bitCount_0f7a4_23 : decode cJ6_bitCount_0f7a4 23 = .ok (.istore_n 0, 1) := by decide +kernel
theorem dJ6_bitCount_0f7a4_24 : decode cJ6_bitCount_0f7a4 24 = .ok (.iload_n 0, 1) := by decide +kernel
theorem dJ6_bitCount_0f7a4_25 : decode cJ6_bitCount_0f7a4 25 = .ok (.iload_n 0, 1) := by decide +kernel
theorem dJ6_bitCount_0f7a4_26 : decode cJ6_bitCount_0f7a4 26 = .ok (.iconst 4, 1) := by decide +kernel
theorem dJ6_bitCount_0f7a4_27 : decode cJ6_bitCount_0f7a4 27 = .ok (.iushr, 1) := by decide +kernel
theorem dJ6_bitCount_0f7a4_28 : decode cJ6_bitCount_0f7a4 28 = .ok (.iadd, 1) := by decide +kernel
theorem dJ6_bitCount_0f7a4_29 : decode cJ6_bitCount_0f7a4 29 = .ok (.ldc_w 267, 3) := by decide +kernel
theorem dJ6_bitCount_0f7a4_32 : decode cJ6_bitCount_0f7a4 32 = .ok (.iand, 1) := by decide +kernel
theorem dJ6_bitCount_0f7a4_33 : decode cJ6_bitCount_0f7a4 33 = .ok (.istore_n 0, 1) := by decide +kernel
theorem dJ6_bitCount_0f7a4_34 : decode cJ6_bitCount_0f7a4 34 = .ok (.iload_n 0, 1) := by decide +kernel
theorem dJ6_bitCount_0f7a4_35 : decode cJ6_bitCount_0f7a4 35 = .ok (.iload_n 0, 1) := by decide +kernel
theorem dJ6_bitCount_0f7a4_36 : decode cJ6_bitCount_0f7a4 36 = .ok (.bipush 8, 2) := by decide +kernel
theorem dJ6_bitCount_0f7a4_38 : decode cJ6_bitCount_0f7a4 38 = .ok (.iushr, 1) := by decide +kernel
theorem dJ6_bitCount_0f7a4_39 : decode cJ6_bitCount_0f7a4 39 = .ok (.iadd, 1) := by decide +kernel
theorem dJ6_bitCount_0f7a4_40 : decode cJ6_bitCount_0f7a4 40 = .ok (.istore_n 0, 1) := by decide +kernel
theorem dJ6_bitCount_0f7a4_41 : decode cJ6_bitCount_0f7a4 41 = .ok (.iload_n 0, 1) := by decide +kernel
theorem dJ6_bitCount_0f7a4_42 : decode cJ6_bitCount_0f7a4 42 = .ok (.iload_n 0, 1) := by decide +kernel
theorem dJ6_bitCount_0f7a4_43 : decode cJ6_bitCount_0f7a4 43 = .ok (.bipush 16, 2) := by decide +kernel
theorem dJ6_bitCount_0f7a4_45 : decode cJ6_bitCount_0f7a4 45 = .ok (.iushr, 1) := by decide +kernel
theorem dJ6_bitCount_0f7a4_46 : decode cJ6_bitCount_0f7a4 46 = .ok (.iadd, 1) := by decide +kernel
theorem dJ6_bitCount_0f7a4_47 : decode cJ6_bitCount_0f7a4 47 = .ok (.istore_n 0, 1) := by decide +kernel
theorem dJ6_bitCount_0f7a4_48 : decode cJ6_bitCount_0f7a4 48 = .ok (.iload_n 0, 1) := by decide +kernel
theorem dJ6_bitCount_0f7a4_49 : decode cJ6_bitCount_0f7a4 49 = .ok (.bipush 63, 2) := by decide +kernel
theorem dJ6_bitCount_0f7a4_51 : decode cJ6_bitCount_0f7a4 51 = .ok (.iand, 1) := by decide +kernel
theorem dJ6_bitCount_0f7a4_52 : decode cJ6_bitCount_0f7a4 52 = .ok (.ireturn, 1) := by decide +kernel
theorem dJ7_fill_53178_0 : decode cJ7_fill_53178 0 = .ok (.iconst 0, 1) := by decide +kernel
theorem dJ7_fill_53178_1 : decode cJ7_fill_53178 1 = .ok (.istore_n 2, 1) := by decide +kernel
theorem dJ7_fill_53178_2 : decode cJ7_fill_53178 2 = .ok (.aload_n 0, 1) := by decide +kernel
theorem dJ7_fill_53178_3 : decode cJ7_fill_53178 3 = .ok (.arraylength, 1) := by decide +kernel
theorem dJ7_fill_53178_4 : decode cJ7_fill_53178 4 = .ok (.istore_n 3, 1) := by decide +kernel
theorem dJ7_fill_53178_5 : decode cJ7_fill_53178 5 = .ok (.iload_n 2, 1) := by decide +kernel
theorem dJ7_fill_53178_6 : decode cJ7_fill_53178 6 = .ok (.iload_n 3, 1) := by decide +kernel
theorem dJ7_fill_53178_7 : decode cJ7_fill_53178 7 = .ok (.if_icmp .ge 13, 3) := by decide +kernel
theorem dJ7_fill_53178_10 : decode cJ7_fill_53178 10 = .ok (.aload_n 0, 1) := by decide +kernel
theorem dJ7_fill_53178_11 : decode cJ7_fill_53178 11 = .ok (.iload_n 2, 1) := by decide +kernel
theorem dJ7_fill_53178_12 : decode cJ7_fill_53178 12 = .ok (.iload_n 1, 1) := by decide +kernel
theorem dJ7_fill_53178_13 : decode cJ7_fill_53178 13 = .ok (.iastore, 1) := by decide +kernel
theorem dJ7_fill_53178_14 : decode cJ7_fill_53178 14 = .ok (.iinc 2 1, 3) := by decide +kernel
theorem dJ7_fill_53178_17 : decode cJ7_fill_53178 17 = .ok (.goto (-12), 3) := by decide +kernel
theorem dJ7_fill_53178_20 : decode cJ7_fill_53178 20 = .ok (.return_, 1) := by decide +kernel
