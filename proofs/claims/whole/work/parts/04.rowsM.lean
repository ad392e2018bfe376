theorem dX7_init_0 : decode cX7_init 0 = .ok (.aload_n 0, 1) := by decide +kernel
theorem dX7_init_1 : decode cX7_init 1 = .ok (.invokespecial 1, 3) := by decide +kernel
theorem dX7_init_4 : decode cX7_init 4 = .ok (.aload_n 0, 1) := by decide +kernel
theorem dX7_init_5 : decode cX7_init 5 = .ok (.bipush 65, 2) := by decide +kernel
theorem dX7_init_7 : decode cX7_init 7 = .ok (.newarray .int, 2) := by decide +kernel
theorem dX7_init_9 : decode cX7_init 9 = .ok (.putfield 7, 3) := by decide +kernel
theorem dX7_init_12 : decode cX7_init 12 = .ok (.aload_n 0, 1) := by decide +kernel
theorem dX7_init_13 : decode cX7_init 13 = .ok (.sipush 390, 3) := by decide +kernel
theorem dX7_init_16 : decode cX7_init 16 = .ok (.newarray .int, 2) := by decide +kernel
theorem dX7_init_18 : decode cX7_init 18 = .ok (.putfield 13, 3) := by decide +kernel
theorem dX7_init_21 : decode cX7_init 21 = .ok (.aload_n 0, 1) := by decide +kernel
theorem dX7_init_22 : decode cX7_init 22 = .ok (.sipush 130, 3) := by decide +kernel
theorem dX7_init_25 : decode cX7_init 25 = .ok (.newarray .int, 2) := by decide +kernel
theorem dX7_init_27 : decode cX7_init 27 = .ok (.putfield 16, 3) := by decide +kernel
theorem dX7_init_30 : decode cX7_init 30 = .ok (.aload_n 0, 1) := by decide +kernel
theorem dX7_init_31 : decode cX7_init 31 = .ok (.iconst 2, 1) := by decide +kernel
theorem dX7_init_32 : decode cX7_init 32 = .ok (.newarray .boolean, 2) := by decide +kernel
theorem dX7_init_34 : decode cX7_init 34 = .ok (.putfield 19, 3) := by decide +kernel
theorem dX7_init_37 : decode cX7_init 37 = .ok (.aload_n 0, 1) := by decide +kernel
theorem dX7_init_38 : decode cX7_init 38 = .ok (.bipush 65, 2) := by decide +kernel
theorem dX7_init_40 : decode cX7_init 40 = .ok (.newarray .int, 2) := by decide +kernel
theorem dX7_init_42 : decode cX7_init 42 = .ok (.putfield 23, 3) := by decide +kernel
theorem dX7_init_45 : decode cX7_init 45 = .ok (.aload_n 0, 1) := by decide +kernel
theorem dX7_init_46 : decode cX7_init 46 = .ok (.sipush 1024, 3) := by decide +kernel
theorem dX7_init_49 : decode cX7_init 49 = .ok (.newarray .int, 2) := by decide +kernel
theorem dX7_init_51 : decode cX7_init 51 = .ok (.putfield 26, 3) := by decide +kernel
theorem dX7_init_54 : decode cX7_init 54 = .ok (.aload_n 0, 1) := by decide +kernel
theorem dX7_init_55 : decode cX7_init 55 = .ok (.bipush 80, 2) := by decide +kernel
theorem dX7_init_57 : decode cX7_init 57 = .ok (.newarray .int, 2) := by decide +kernel
theorem dX7_init_59 : decode cX7_init 59 = .ok (.putfield 29, 3) := by decide +kernel
theorem dX7_init_62 : decode cX7_init 62 = .ok (.aload_n 0, 1) := by decide +kernel
theorem dX7_init_63 : decode cX7_init 63 = .ok (.sipush 132, 3) := by decide +kernel
theorem dX7_init_66 : decode cX7_init 66 = .ok (.newarray .int, 2) := by decide +kernel
theorem dX7_init_68 : decode cX7_init 68 = .ok (.putfield 32, 3) := by decide +kernel
theorem dX7_init_71 : decode cX7_init 71 = .ok (.aload_n 0, 1) := by decide +kernel
theorem dX7_init_72 : decode cX7_init 72 = .ok (.getfield 7, 3) := by decide +kernel
theorem dX7_init_75 : decode cX7_init 75 = .ok (.iconst 1, 1) := by decide +kernel
theorem dX7_init_76 : decode cX7_init 76 = .ok (.sipush 500, 3) := by decide +kernel
theorem dX7_init_79 : decode cX7_init 79 = .ok (.iastore, 1) := by decide +kernel
theorem dX7_init_80 : decode cX7_init 80 = .ok (.aload_n 0, 1) := by decide +kernel
theorem dX7_init_81 : decode cX7_init 81 = .ok (.getfield 7, 3) := by decide +kernel
theorem dX7_init_84 : decode cX7_init 84 = .ok (.iconst 2, 1) := by decide +kernel
theorem dX7_init_85 : decode cX7_init 85 = .ok (.iconst 1, 1) := by decide +kernel
theorem dX7_init_86 : decode cX7_init 86 = .ok (.iastore, 1) := by decide +kernel
theorem dX7_init_87 : decode cX7_init 87 = .ok (.return_, 1) := by decide +kernel
theorem dX7_in_0 : decode cX7_in 0 = .ok (.iload_n 0, 1) := by decide +kernel
theorem dX7_in_1 : decode cX7_in 1 = .ok (.iload_n 1, 1) := by decide +kernel
theorem dX7_in_2 : decode cX7_in 2 = .ok (.if_icmp .lt 12, 3) := by decide +kernel
theorem dX7_in_5 : decode cX7_in 5 = .ok (.iload_n 0, 1) := by decide +kernel
theorem dX7_in_6 : decode cX7_in 6 = .ok (.iload_n 2, 1) := by decide +kernel
theorem dX7_in_7 : decode cX7_in 7 = .ok (.if_icmp .gt 7, 3) := by decide +kernel
theorem dX7_in_10 : decode cX7_in 10 = .ok (.iconst 1, 1) := by decide +kernel
theorem dX7_in_11 : decode cX7_in 11 = .ok (.goto 4, 3) := by decide +kernel
theorem dX7_in_14 : decode cX7_in 14 = .ok (.iconst 0, 1) := by decide +kernel
theorem dX7_in_15 : decode cX7_in 15 = .ok (.ireturn, 1) := by decide +kernel
theorem dX7_has_0 : decode cX7_has 0 = .ok (.iload_n 0, 1) := by decide +kernel
theorem dX7_has_1 : decode cX7_has 1 = .ok (.iload_n 1, 1) := by decide +kernel
theorem dX7_has_2 : decode cX7_has 2 = .ok (.ishr, 1) := by decide +kernel
theorem dX7_has_3 : decode cX7_has 3 = .ok (.iconst 1, 1) := by decide +kernel
theorem dX7_has_4 : decode cX7_has 4 = .ok (.iand, 1) := by decide +kernel
theorem dX7_has_5 : decode cX7_has 5 = .ok (.iconst 1, 1) := by decide +kernel
theorem dX7_has_6 : decode cX7_has 6 = .ok (.if_icmp .ne 7, 3) := by decide +kernel
theorem dX7_has_9 : decode cX7_has 9 = .ok (.iconst 1, 1) := by decide +kernel
theorem dX7_has_10 : decode cX7_has 10 = .ok (.goto 4, 3) := by decide +kernel
theorem dX7_has_13 : decode cX7_has 13 = .ok (.iconst 0, 1) := by decide +kernel
theorem dX7_has_14 : decode cX7_has 14 = .ok (.ireturn, 1) := by decide +kernel
theorem dX7_many_0 : decode cX7_many 0 = .ok (.iconst 0, 1) := by decide +kernel
theorem dX7_many_1 : decode cX7_many 1 = .ok (.istore_n 1, 1) := by decide +kernel
theorem dX7_many_2 : decode cX7_many 2 = .ok (.iconst 0, 1) := by decide +kernel
theorem dX7_many_3 : decode cX7_many 3 = .ok (.istore_n 2, 1) := by decide +kernel
theorem dX7_many_4 : decode cX7_many 4 = .ok (.iload_n 2, 1) := by decide +kernel
theorem dX7_many_5 : decode cX7_many 5 = .ok (.bipush 10, 2) := by decide +kernel
theorem dX7_many_7 : decode cX7_many 7 = .ok (.if_icmp .ge 17, 3) := by decide +kernel
theorem dX7_many_10 : decode cX7_many 10 = .ok (.iload_n 1, 1) := by decide +kernel
theorem dX7_many_11 : decode cX7_many 11 = .ok (.iload_n 0, 1) := by decide +kernel
theorem dX7_many_12 : decode cX7_many 12 = .ok (.iload_n 2, 1) := by decide +kernel
theorem dX7_many_13 : decode cX7_many 13 = .ok (.ishr, 1) := by decide +kernel
theorem dX7_many_14 : decode cX7_many 14 = .ok (.iconst 1, 1) := by decide +kernel
theorem dX7_many_15 : decode cX7_many 15 = .ok (.iand, 1) := by decide +kernel
theorem dX7_many_16 : decode cX7_many 16 = .ok (.iadd, 1) := by decide +kernel
theorem dX7_many_17 : decode cX7_many 17 = .ok (.istore_n 1, 1) := by decide +kernel
theorem dX7_many_18 : decode cX7_many 18 = .ok (.iinc 2 1, 3) := by decide +kernel
theorem dX7_many_21 : decode cX7_many 21 = .ok (.goto (-17), 3) := by decide +kernel
theorem dX7_many_24 : decode cX7_many 24 = .ok (.iload_n 1, 1) := by decide +kernel
theorem dX7_many_25 : decode cX7_many 25 = .ok (.ireturn, 1) := by decide +kernel
theorem dX7_of_0 : decode cX7_of 0 = .ok (.aload_n 0, 1) := by decide +kernel
theorem dX7_of_1 : decode cX7_of 1 = .ok (.getfield 7, 3) := by decide +kernel
theorem dX7_of_4 : decode cX7_of 4 = .ok (.iconst 5, 1) := by decide +kernel
theorem dX7_of_5 : decode cX7_of 5 = .ok (.bipush 6, 2) := by decide +kernel
theorem dX7_of_7 : decode cX7_of 7 = .ok (.iload_n 1, 1) := by decide +kernel
theorem dX7_of_8 : decode cX7_of 8 = .ok (.imul, 1) := by decide +kernel
theorem dX7_of_9 : decode cX7_of 9 = .ok (.iadd, 1) := by decide +kernel
theorem dX7_of_10 : decode cX7_of 10 = .ok (.iload_n 2, 1) := by decide +kernel
theorem dX7_of_11 : decode cX7_of 11 = .ok (.iadd, 1) := by decide +kernel
theorem dX7_of_12 : decode cX7_of 12 = .ok (.iaload, 1) := by decide +kernel
theorem dX7_of_13 : decode cX7_of 13 = .ok (.ireturn, 1) := by decide +kernel
set_option maxRecDepth 20000 in
theorem ggX7_isPile_X7_in : GoodIn wsX7_isPile wsX7_in := goodIn_r _ [5] (by decide +kernel) (by decide +kernel)
set_option maxRecDepth 20000 in
theorem gX7_isPile_X7_in : GoodIn wsX7_isPile (va_wsS RX7 35 yX7_in wsX7_in) := goodIn_app (goodIn_of _ (by decide +kernel)) ggX7_isPile_X7_in
theorem dX7_isPile_0 : decode cX7_isPile 0 = .ok (.iload_n 1, 1) := by decide +kernel
theorem dX7_isPile_1 : decode cX7_isPile 1 = .ok (.iconst 0, 1) := by decide +kernel
theorem dX7_isPile_2 : decode cX7_isPile 2 = .ok (.aload_n 0, 1) := by decide +kernel
theorem dX7_isPile_3 : decode cX7_isPile 3 = .ok (.getfield 7, 3) := by decide +kernel
theorem dX7_isPile_6 : decode cX7_isPile 6 = .ok (.iconst 0, 1) := by decide +kernel
theorem dX7_isPile_7 : decode cX7_isPile 7 = .ok (.iaload, 1) := by decide +kernel
theorem dX7_isPile_8 : decode cX7_isPile 8 = .ok (.iconst 1, 1) := by decide +kernel
theorem dX7_isPile_9 : decode cX7_isPile 9 = .ok (.isub, 1) := by decide +kernel
theorem dX7_isPile_10 : decode cX7_isPile 10 = .ok (.invokestatic 35, 3) := by decide +kernel
theorem dX7_isPile_13 : decode cX7_isPile 13 = .ok (.ireturn, 1) := by decide +kernel
set_option maxRecDepth 20000 in
theorem ggX7_isCounted_X7_of : GoodIn wsX7_isCounted wsX7_of := goodIn_r _ [5, 6, 7, 8, 9, 10, 11, 12, 13, 14, 15, 16, 17, 18, 19, 20] (by decide +kernel) (by decide +kernel)
set_option maxRecDepth 20000 in
theorem gX7_isCounted_X7_of : GoodIn wsX7_isCounted (wsV RX7 39 RX7 yX7_of wsX7_of) := goodIn_app (goodIn_of _ (by decide +kernel)) ggX7_isCounted_X7_of
theorem dX7_isCounted_0 : decode cX7_isCounted 0 = .ok (.aload_n 0, 1) := by decide +kernel
theorem dX7_isCounted_1 : decode cX7_isCounted 1 = .ok (.iload_n 1, 1) := by decide +kernel
theorem dX7_isCounted_2 : decode cX7_isCounted 2 = .ok (.iconst 5, 1) := by decide +kernel
theorem dX7_isCounted_3 : decode cX7_isCounted 3 = .ok (.invokevirtual 39, 3) := by decide +kernel
theorem dX7_isCounted_6 : decode cX7_isCounted 6 = .ok (.ifCond .lt 7, 3) := by decide +kernel
theorem dX7_isCounted_9 : decode cX7_isCounted 9 = .ok (.iconst 1, 1) := by decide +kernel
theorem dX7_isCounted_10 : decode cX7_isCounted 10 = .ok (.goto 4, 3) := by decide +kernel
theorem dX7_isCounted_13 : decode cX7_isCounted 13 = .ok (.iconst 0, 1) := by decide +kernel
theorem dX7_isCounted_14 : decode cX7_isCounted 14 = .ok (.ireturn, 1) := by decide +kernel
set_option maxRecDepth 20000 in
theorem ggX7_countedSet_X7_isCounted : GoodIn wsX7_countedSet wsX7_isCounted := goodIn_r _ [6, 7, 8, 9, 5, 10, 1, 11, 12, 13, 14, 15, 16, 17, 18, 19, 20, 21, 22, 23, 24] (by decide +kernel) (by decide +kernel)
set_option maxRecDepth 20000 in
theorem gX7_countedSet_X7_isCounted : GoodIn wsX7_countedSet (wsV RX7 43 RX7 yX7_isCounted wsX7_isCounted) := goodIn_app (goodIn_of _ (by decide +kernel)) ggX7_countedSet_X7_isCounted
theorem dX7_countedSet_0 : decode cX7_countedSet 0 = .ok (.iconst 0, 1) := by decide +kernel
theorem dX7_countedSet_1 : decode cX7_countedSet 1 = .ok (.istore_n 1, 1) := by decide +kernel
theorem dX7_countedSet_2 : decode cX7_countedSet 2 = .ok (.iconst 0, 1) := by decide +kernel
theorem dX7_countedSet_3 : decode cX7_countedSet 3 = .ok (.istore_n 2, 1) := by decide +kernel
theorem dX7_countedSet_4 : decode cX7_countedSet 4 = .ok (.iload_n 2, 1) := by decide +kernel
theorem dX7_countedSet_5 : decode cX7_countedSet 5 = .ok (.aload_n 0, 1) := by decide +kernel
theorem dX7_countedSet_6 : decode cX7_countedSet 6 = .ok (.getfield 7, 3) := by decide +kernel
theorem dX7_countedSet_9 : decode cX7_countedSet 9 = .ok (.iconst 0, 1) := by decide +kernel
theorem dX7_countedSet_10 : decode cX7_countedSet 10 = .ok (.iaload, 1) := by decide +kernel
theorem dX7_countedSet_11 : decode cX7_countedSet 11 = .ok (.if_icmp .ge 27, 3) := by decide +kernel
theorem dX7_countedSet_14 : decode cX7_countedSet 14 = .ok (.iload_n 1, 1) := by decide +kernel
theorem dX7_countedSet_15 : decode cX7_countedSet 15 = .ok (.aload_n 0, 1) := by decide +kernel
theorem dX7_countedSet_16 : decode cX7_countedSet 16 = .ok (.iload_n 2, 1) := by decide +kernel
theorem dX7_countedSet_17 : decode cX7_countedSet 17 = .ok (.invokevirtual 43, 3) := by decide +kernel
theorem dX7_countedSet_20 : decode cX7_countedSet 20 = .ok (.ifCond .eq 9, 3) := by decide +kernel
theorem dX7_countedSet_23 : decode cX7_countedSet 23 = .ok (.iconst 1, 1) := by decide +kernel
theorem dX7_countedSet_24 : decode cX7_countedSet 24 = .ok (.iload_n 2, 1) := by decide +kernel
theorem dX7_countedSet_25 : decode cX7_countedSet 25 = .ok (.ishl, 1) := by decide +kernel
theorem dX7_countedSet_26 : decode cX7_countedSet 26 = .ok (.goto 4, 3) := by decide +kernel
theorem dX7_countedSet_29 : decode cX7_countedSet 29 = .ok (.iconst 0, 1) := by decide +kernel
theorem dX7_countedSet_30 : decode cX7_countedSet 30 = .ok (.ior, 1) := by decide +kernel
theorem dX7_countedSet_31 : decode cX7_countedSet 31 = .ok (.istore_n 1, 1) := by decide +kernel
theorem dX7_countedSet_32 : decode cX7_countedSet 32 = .ok (.iinc 2 1, 3) := by decide +kernel
theorem dX7_countedSet_35 : decode cX7_countedSet 35 = .ok (.goto (-31), 3) := by decide +kernel
theorem dX7_countedSet_38 : decode cX7_countedSet 38 = .ok (.iload_n 1, 1) := by decide +kernel
theorem dX7_countedSet_39 : decode cX7_countedSet 39 = .ok (.ireturn, 1) := by decide +kernel
theorem dX7_allSet_0 : decode cX7_allSet 0 = .ok (.iconst 1, 1) := by decide +kernel
theorem dX7_allSet_1 : decode cX7_allSet 1 = .ok (.aload_n 0, 1) := by decide +kernel
theorem dX7_allSet_2 : decode cX7_allSet 2 = .ok (.getfield 7, 3) := by decide +kernel
theorem dX7_allSet_5 : decode cX7_allSet 5 = .ok (.iconst 0, 1) := by decide +kernel
theorem dX7_allSet_6 : decode cX7_allSet 6 = .ok (.iaload, 1) := by decide +kernel
theorem dX7_allSet_7 : decode cX7_allSet 7 = .ok (.ishl, 1) := by decide +kernel
theorem dX7_allSet_8 : decode cX7_allSet 8 = .ok (.iconst 1, 1) := by decide +kernel
theorem dX7_allSet_9 : decode cX7_allSet 9 = .ok (.isub, 1) := by decide +kernel
theorem dX7_allSet_10 : decode cX7_allSet 10 = .ok (.ireturn, 1) := by decide +kernel
theorem dX7_keep_0 : decode cX7_keep 0 = .ok (.aload_n 0, 1) := by decide +kernel
theorem dX7_keep_1 : decode cX7_keep 1 = .ok (.getfield 47, 3) := by decide +kernel
theorem dX7_keep_4 : decode cX7_keep 4 = .ok (.bipush 6, 2) := by decide +kernel
theorem dX7_keep_6 : decode cX7_keep 6 = .ok (.if_icmp .ne 26, 3) := by decide +kernel
theorem dX7_keep_9 : decode cX7_keep 9 = .ok (.aload_n 0, 1) := by decide +kernel
theorem dX7_keep_10 : decode cX7_keep 10 = .ok (.aload_n 0, 1) := by decide +kernel
theorem dX7_keep_11 : decode cX7_keep 11 = .ok (.getfield 51, 3) := by decide +kernel
theorem dX7_keep_14 : decode cX7_keep 14 = .ok (.iconst 1, 1) := by decide +kernel
theorem dX7_keep_15 : decode cX7_keep 15 = .ok (.iadd, 1) := by decide +kernel
theorem dX7_keep_16 : decode cX7_keep 16 = .ok (.bipush 6, 2) := by decide +kernel
theorem dX7_keep_18 : decode cX7_keep 18 = .ok (.irem, 1) := by decide +kernel
theorem dX7_keep_19 : decode cX7_keep 19 = .ok (.putfield 51, 3) := by decide +kernel
theorem dX7_keep_22 : decode cX7_keep 22 = .ok (.aload_n 0, 1) := by decide +kernel
theorem dX7_keep_23 : decode cX7_keep 23 = .ok (.dup, 1) := by decide +kernel
theorem dX7_keep_24 : decode cX7_keep 24 = .ok (.getfield 47, 3) := by decide +kernel
theorem dX7_keep_27 : decode cX7_keep 27 = .ok (.iconst 1, 1) := by decide +kernel
theorem dX7_keep_28 : decode cX7_keep 28 = .ok (.isub, 1) := by decide +kernel
theorem dX7_keep_29 : decode cX7_keep 29 = .ok (.putfield 47, 3) := by decide +kernel
theorem dX7_keep_32 : decode cX7_keep 32 = .ok (.aload_n 0, 1) := by decide +kernel
theorem dX7_keep_33 : decode cX7_keep 33 = .ok (.getfield 51, 3) := by decide +kernel
theorem dX7_keep_36 : decode cX7_keep 36 = .ok (.aload_n 0, 1) := by decide +kernel
theorem dX7_keep_37 : decode cX7_keep 37 = .ok (.getfield 47, 3) := by decide +kernel
theorem dX7_keep_40 : decode cX7_keep 40 = .ok (.iadd, 1) := by decide +kernel
theorem dX7_keep_41 : decode cX7_keep 41 = .ok (.bipush 6, 2) := by decide +kernel
theorem dX7_keep_43 : decode cX7_keep 43 = .ok (.irem, 1) := by decide +kernel
theorem dX7_keep_44 : decode cX7_keep 44 = .ok (.istore_n 1, 1) := by decide +kernel
theorem dX7_keep_45 : decode cX7_keep 45 = .ok (.iconst 0, 1) := by decide +kernel
theorem dX7_keep_46 : decode cX7_keep 46 = .ok (.istore_n 2, 1) := by decide +kernel
theorem dX7_keep_47 : decode cX7_keep 47 = .ok (.iload_n 2, 1) := by decide +kernel
theorem dX7_keep_48 : decode cX7_keep 48 = .ok (.bipush 65, 2) := by decide +kernel
theorem dX7_keep_50 : decode cX7_keep 50 = .ok (.if_icmp .ge 26, 3) := by decide +kernel
theorem dX7_keep_53 : decode cX7_keep 53 = .ok (.aload_n 0, 1) := by decide +kernel
theorem dX7_keep_54 : decode cX7_keep 54 = .ok (.getfield 13, 3) := by decide +kernel
theorem dX7_keep_57 : decode cX7_keep 57 = .ok (.bipush 65, 2) := by decide +kernel
theorem dX7_keep_59 : decode cX7_keep 59 = .ok (.iload_n 1, 1) := by decide +kernel
theorem dX7_keep_60 : decode cX7_keep 60 = .ok (.imul, 1) := by decide +kernel
theorem dX7_keep_61 : decode cX7_keep 61 = .ok (.iload_n 2, 1) := by decide +kernel
theorem dX7_keep_62 : decode cX7_keep 62 = .ok (.iadd, 1) := by decide +kernel
theorem dX7_keep_63 : decode cX7_keep 63 = .ok (.aload_n 0, 1) := by decide +kernel
theorem dX7_keep_64 : decode cX7_keep 64 = .ok (.getfield 7, 3) := by decide +kernel
theorem dX7_keep_67 : decode cX7_keep 67 = .ok (.iload_n 2, 1) := by decide +kernel
theorem dX7_keep_68 : decode cX7_keep 68 = .ok (.iaload, 1) := by decide +kernel
theorem dX7_keep_69 : decode cX7_keep 69 = .ok (.iastore, 1) := by decide +kernel
theorem dX7_keep_70 : decode cX7_keep 70 = .ok (.iinc 2 1, 3) := by decide +kernel
theorem dX7_keep_73 : decode cX7_keep 73 = .ok (.goto (-26), 3) := by decide +kernel
theorem dX7_keep_76 : decode cX7_keep 76 = .ok (.aload_n 0, 1) := by decide +kernel
theorem dX7_keep_77 : decode cX7_keep 77 = .ok (.dup, 1) := by decide +kernel
theorem dX7_keep_78 : decode cX7_keep 78 = .ok (.getfield 47, 3) := by decide +kernel
theorem dX7_keep_81 : decode cX7_keep 81 = .ok (.iconst 1, 1) := by decide +kernel
theorem dX7_keep_82 : decode cX7_keep 82 = .ok (.iadd, 1) := by decide +kernel
theorem dX7_keep_83 : decode cX7_keep 83 = .ok (.putfield 47, 3) := by decide +kernel
theorem dX7_keep_86 : decode cX7_keep 86 = .ok (.return_, 1) := by decide +kernel
set_option maxRecDepth 20000 in
theorem ggX7_keepIf_X7_keep : GoodIn wsX7_keepIf wsX7_keep := goodIn_r _ [5, 6, 7, 8, 9, 10, 11, 12, 13, 14, 15, 16, 17, 18, 19, 20, 21, 22, 23] (by decide +kernel) (by decide +kernel)
set_option maxRecDepth 20000 in
theorem gX7_keepIf_X7_keep : GoodIn wsX7_keepIf (wsV RX7 54 RX7 yX7_keep wsX7_keep) := goodIn_app (goodIn_of _ (by decide +kernel)) ggX7_keepIf_X7_keep
theorem dX7_keepIf_0 : decode cX7_keepIf 0 = .ok (.iload_n 1, 1) := by decide +kernel
theorem dX7_keepIf_1 : decode cX7_keepIf 1 = .ok (.ifCond .eq 7, 3) := by decide +kernel
theorem dX7_keepIf_4 : decode cX7_keepIf 4 = .ok (.aload_n 0, 1) := by decide +kernel
theorem dX7_keepIf_5 : decode cX7_keepIf 5 = .ok (.invokevirtual 54, 3) := by decide +kernel
theorem dX7_keepIf_8 : decode cX7_keepIf 8 = .ok (.return_, 1) := by decide +kernel
theorem dX7_layAside_0 : decode cX7_layAside 0 = .ok (.iconst 0, 1) := by decide +kernel
theorem dX7_layAside_1 : decode cX7_layAside 1 = .ok (.istore_n 1, 1) := by decide +kernel
theorem dX7_layAside_2 : decode cX7_layAside 2 = .ok (.iload_n 1, 1) := by decide +kernel
theorem dX7_layAside_3 : decode cX7_layAside 3 = .ok (.bipush 65, 2) := by decide +kernel
theorem dX7_layAside_5 : decode cX7_layAside 5 = .ok (.if_icmp .ge 21, 3) := by decide +kernel
theorem dX7_layAside_8 : decode cX7_layAside 8 = .ok (.aload_n 0, 1) := by decide +kernel
theorem dX7_layAside_9 : decode cX7_layAside 9 = .ok (.getfield 23, 3) := by decide +kernel
theorem dX7_layAside_12 : decode cX7_layAside 12 = .ok (.iload_n 1, 1) := by decide +kernel
theorem dX7_layAside_13 : decode cX7_layAside 13 = .ok (.aload_n 0, 1) := by decide +kernel
theorem dX7_layAside_14 : decode cX7_layAside 14 = .ok (.getfield 7, 3) := by decide +kernel
theorem dX7_layAside_17 : decode cX7_layAside 17 = .ok (.iload_n 1, 1) := by decide +kernel
theorem dX7_layAside_18 : decode cX7_layAside 18 = .ok (.iaload, 1) := by decide +kernel
theorem dX7_layAside_19 : decode cX7_layAside 19 = .ok (.iastore, 1) := by decide +kernel
theorem dX7_layAside_20 : decode cX7_layAside 20 = .ok (.iinc 1 1, 3) := by decide +kernel
theorem dX7_layAside_23 : decode cX7_layAside 23 = .ok (.goto (-21), 3) := by decide +kernel
theorem dX7_layAside_26 : decode cX7_layAside 26 = .ok (.return_, 1) := by decide +kernel
theorem dX7_layBack_0 : decode cX7_layBack 0 = .ok (.iconst 0, 1) := by decide +kernel
theorem dX7_layBack_1 : decode cX7_layBack 1 = .ok (.istore_n 1, 1) := by decide +kernel
theorem dX7_layBack_2 : decode cX7_layBack 2 = .ok (.iload_n 1, 1) := by decide +kernel
theorem dX7_layBack_3 : decode cX7_layBack 3 = .ok (.bipush 65, 2) := by decide +kernel
theorem dX7_layBack_5 : decode cX7_layBack 5 = .ok (.if_icmp .ge 21, 3) := by decide +kernel
theorem dX7_layBack_8 : decode cX7_layBack 8 = .ok (.aload_n 0, 1) := by decide +kernel
theorem dX7_layBack_9 : decode cX7_layBack 9 = .ok (.getfield 7, 3) := by decide +kernel
theorem dX7_layBack_12 : decode cX7_layBack 12 = .ok (.iload_n 1, 1) := by decide +kernel
theorem dX7_layBack_13 : decode cX7_layBack 13 = .ok (.aload_n 0, 1) := by decide +kernel
theorem dX7_layBack_14 : decode cX7_layBack 14 = .ok (.getfield 23, 3) := by decide +kernel
theorem dX7_layBack_17 : decode cX7_layBack 17 = .ok (.iload_n 1, 1) := by decide +kernel
theorem dX7_layBack_18 : decode cX7_layBack 18 = .ok (.iaload, 1) := by decide +kernel
theorem dX7_layBack_19 : decode cX7_layBack 19 = .ok (.iastore, 1) := by decide +kernel
theorem dX7_layBack_20 : decode cX7_layBack 20 = .ok (.iinc 1 1, 3) := by decide +kernel
theorem dX7_layBack_23 : decode cX7_layBack 23 = .ok (.goto (-21), 3) := by decide +kernel
theorem dX7_layBack_26 : decode cX7_layBack 26 = .ok (.return_, 1) := by decide +kernel
set_option maxRecDepth 20000 in
theorem ggX7_winner_X7_of : GoodIn wsX7_winner wsX7_of := goodIn_r _ [6, 1, 7, 8, 9, 10, 11, 12, 13, 14, 15, 16, 17, 18, 19, 20] (by decide +kernel) (by decide +kernel)
set_option maxRecDepth 20000 in
theorem gX7_winner_X7_of : GoodIn wsX7_winner (wsV RX7 39 RX7 yX7_of wsX7_of) := goodIn_app (goodIn_of _ (by decide +kernel)) ggX7_winner_X7_of
theorem dX7_winner_0 : decode cX7_winner 0 = .ok (.iconst 0, 1) := by decide +kernel
theorem dX7_winner_1 : decode cX7_winner 1 = .ok (.istore_n 1, 1) := by decide +kernel
theorem dX7_winner_2 : decode cX7_winner 2 = .ok (.iconst 0, 1) := by decide +kernel
theorem dX7_winner_3 : decode cX7_winner 3 = .ok (.istore_n 2, 1) := by decide +kernel
theorem dX7_winner_4 : decode cX7_winner 4 = .ok (.iload_n 2, 1) := by decide +kernel
theorem dX7_winner_5 : decode cX7_winner 5 = .ok (.aload_n 0, 1) := by decide +kernel
theorem dX7_winner_6 : decode cX7_winner 6 = .ok (.getfield 7, 3) := by decide +kernel
theorem dX7_winner_9 : decode cX7_winner 9 = .ok (.iconst 0, 1) := by decide +kernel
theorem dX7_winner_10 : decode cX7_winner 10 = .ok (.iaload, 1) := by decide +kernel
theorem dX7_winner_11 : decode cX7_winner 11 = .ok (.if_icmp .ge 25, 3) := by decide +kernel
theorem dX7_winner_14 : decode cX7_winner 14 = .ok (.iload_n 1, 1) := by decide +kernel
theorem dX7_winner_15 : decode cX7_winner 15 = .ok (.aload_n 0, 1) := by decide +kernel
theorem dX7_winner_16 : decode cX7_winner 16 = .ok (.iload_n 2, 1) := by decide +kernel
theorem dX7_winner_17 : decode cX7_winner 17 = .ok (.iconst 0, 1) := by decide +kernel
theorem dX7_winner_18 : decode cX7_winner 18 = .ok (.invokevirtual 39, 3) := by decide +kernel
theorem dX7_winner_21 : decode cX7_winner 21 = .ok (.aload_n 0, 1) := by decide +kernel
theorem dX7_winner_22 : decode cX7_winner 22 = .ok (.iload_n 2, 1) := by decide +kernel
theorem dX7_winner_23 : decode cX7_winner 23 = .ok (.iconst 1, 1) := by decide +kernel
theorem dX7_winner_24 : decode cX7_winner 24 = .ok (.invokevirtual 39, 3) := by decide +kernel
theorem dX7_winner_27 : decode cX7_winner 27 = .ok (.isub, 1) := by decide +kernel
theorem dX7_winner_28 : decode cX7_winner 28 = .ok (.iadd, 1) := by decide +kernel
theorem dX7_winner_29 : decode cX7_winner 29 = .ok (.istore_n 1, 1) := by decide +kernel
theorem dX7_winner_30 : decode cX7_winner 30 = .ok (.iinc 2 1, 3) := by decide +kernel
theorem dX7_winner_33 : decode cX7_winner 33 = .ok (.goto (-29), 3) := by decide +kernel
theorem dX7_winner_36 : decode cX7_winner 36 = .ok (.iload_n 1, 1) := by decide +kernel
theorem dX7_winner_37 : decode cX7_winner 37 = .ok (.ifCond .le 7, 3) := by decide +kernel
theorem dX7_winner_40 : decode cX7_winner 40 = .ok (.iconst 0, 1) := by decide +kernel
theorem dX7_winner_41 : decode cX7_winner 41 = .ok (.goto 13, 3) := by decide +kernel
theorem dX7_winner_44 : decode cX7_winner 44 = .ok (.iload_n 1, 1) := by decide +kernel
theorem dX7_winner_45 : decode cX7_winner 45 = .ok (.ifCond .ge 7, 3) := by decide +kernel
theorem dX7_winner_48 : decode cX7_winner 48 = .ok (.iconst 1, 1) := by decide +kernel
theorem dX7_winner_49 : decode cX7_winner 49 = .ok (.goto 5, 3) := by decide +kernel
theorem dX7_winner_52 : decode cX7_winner 52 = .ok (.bipush (-6), 2) := by decide +kernel
theorem dX7_winner_54 : decode cX7_winner 54 = .ok (.ireturn, 1) := by decide +kernel
set_option maxRecDepth 20000 in
theorem ggX7_size_X7_of : GoodIn wsX7_size wsX7_of := goodIn_r _ [5, 6, 7, 8, 9, 10, 11, 12, 13, 14, 15, 16, 17, 18, 19, 20] (by decide +kernel) (by decide +kernel)
set_option maxRecDepth 20000 in
theorem gX7_size_X7_of : GoodIn wsX7_size (wsV RX7 39 RX7 yX7_of wsX7_of) := goodIn_app (goodIn_of _ (by decide +kernel)) ggX7_size_X7_of
theorem dX7_size_0 : decode cX7_size 0 = .ok (.aload_n 0, 1) := by decide +kernel
theorem dX7_size_1 : decode cX7_size 1 = .ok (.iload_n 1, 1) := by decide +kernel
theorem dX7_size_2 : decode cX7_size 2 = .ok (.iconst 0, 1) := by decide +kernel
theorem dX7_size_3 : decode cX7_size 3 = .ok (.invokevirtual 39, 3) := by decide +kernel
theorem dX7_size_6 : decode cX7_size 6 = .ok (.aload_n 0, 1) := by decide +kernel
theorem dX7_size_7 : decode cX7_size 7 = .ok (.iload_n 1, 1) := by decide +kernel
theorem dX7_size_8 : decode cX7_size 8 = .ok (.iconst 1, 1) := by decide +kernel
theorem dX7_size_9 : decode cX7_size 9 = .ok (.invokevirtual 39, 3) := by decide +kernel
theorem dX7_size_12 : decode cX7_size 12 = .ok (.iadd, 1) := by decide +kernel
theorem dX7_size_13 : decode cX7_size 13 = .ok (.aload_n 0, 1) := by decide +kernel
theorem dX7_size_14 : decode cX7_size 14 = .ok (.iload_n 1, 1) := by decide +kernel
theorem dX7_size_15 : decode cX7_size 15 = .ok (.iconst 2, 1) := by decide +kernel
theorem dX7_size_16 : decode cX7_size 16 = .ok (.invokevirtual 39, 3) := by decide +kernel
theorem dX7_size_19 : decode cX7_size 19 = .ok (.iadd, 1) := by decide +kernel
theorem dX7_size_20 : decode cX7_size 20 = .ok (.ireturn, 1) := by decide +kernel
set_option maxRecDepth 20000 in
theorem ggX7_forWinner_X7_winner : GoodIn wsX7_forWinner wsX7_winner := goodIn_r _ [5, 6, 7, 8, 9, 4, 10, 11, 12, 13, 14, 15, 16, 17, 18, 19, 20, 21, 22, 23, 24] (by decide +kernel) (by decide +kernel)
set_option maxRecDepth 20000 in
theorem gX7_forWinner_X7_winner : GoodIn wsX7_forWinner (wsV RX7 57 RX7 yX7_winner wsX7_winner) := goodIn_app (goodIn_of _ (by decide +kernel)) ggX7_forWinner_X7_winner
theorem dX7_forWinner_0 : decode cX7_forWinner 0 = .ok (.aload_n 0, 1) := by decide +kernel
theorem dX7_forWinner_1 : decode cX7_forWinner 1 = .ok (.invokevirtual 57, 3) := by decide +kernel
theorem dX7_forWinner_4 : decode cX7_forWinner 4 = .ok (.ifCond .ne 7, 3) := by decide +kernel
theorem dX7_forWinner_7 : decode cX7_forWinner 7 = .ok (.iload_n 1, 1) := by decide +kernel
theorem dX7_forWinner_8 : decode cX7_forWinner 8 = .ok (.goto 5, 3) := by decide +kernel
theorem dX7_forWinner_11 : decode cX7_forWinner 11 = .ok (.iload_n 1, 1) := by decide +kernel
theorem dX7_forWinner_12 : decode cX7_forWinner 12 = .ok (.ineg, 1) := by decide +kernel
theorem dX7_forWinner_13 : decode cX7_forWinner 13 = .ok (.ireturn, 1) := by decide +kernel
set_option maxRecDepth 20000 in
theorem ggX7_reported_X7_of : GoodIn wsX7_reported wsX7_of := goodIn_r _ [5, 6, 15, 16, 17, 18, 19, 20, 21, 22, 23, 24, 25, 26, 27, 28] (by decide +kernel) (by decide +kernel)
set_option maxRecDepth 20000 in
theorem gX7_reported_X7_of : GoodIn wsX7_reported (wsV RX7 39 RX7 yX7_of wsX7_of) := goodIn_app (goodIn_of _ (by decide +kernel)) ggX7_reported_X7_of
set_option maxRecDepth 20000 in
theorem ggX7_reported_X7_forWinner : GoodIn wsX7_reported wsX7_forWinner := goodIn_r _ [10, 11, 12, 13, 4, 14, 6, 1, 2, 3, 5, 15, 16, 17, 18, 19, 20, 21, 22, 23, 24, 25, 26, 27, 28] (by decide +kernel) (by decide +kernel)
set_option maxRecDepth 20000 in
theorem gX7_reported_X7_forWinner : GoodIn wsX7_reported (wsV RX7 61 RX7 yX7_forWinner wsX7_forWinner) := goodIn_app (goodIn_of _ (by decide +kernel)) ggX7_reported_X7_forWinner
theorem dX7_reported_0 : decode cX7_reported 0 = .ok (.aload_n 0, 1) := by decide +kernel
theorem dX7_reported_1 : decode cX7_reported 1 = .ok (.aload_n 0, 1) := by decide +kernel
theorem dX7_reported_2 : decode cX7_reported 2 = .ok (.iload_n 1, 1) := by decide +kernel
theorem dX7_reported_3 : decode cX7_reported 3 = .ok (.iconst 0, 1) := by decide +kernel
theorem dX7_reported_4 : decode cX7_reported 4 = .ok (.invokevirtual 39, 3) := by decide +kernel
theorem dX7_reported_7 : decode cX7_reported 7 = .ok (.aload_n 0, 1) := by decide +kernel
theorem dX7_reported_8 : decode cX7_reported 8 = .ok (.iload_n 1, 1) := by decide +kernel
theorem dX7_reported_9 : decode cX7_reported 9 = .ok (.iconst 1, 1) := by decide +kernel
theorem dX7_reported_10 : decode cX7_reported 10 = .ok (.invokevirtual 39, 3) := by decide +kernel
theorem dX7_reported_13 : decode cX7_reported 13 = .ok (.isub, 1) := by decide +kernel
theorem dX7_reported_14 : decode cX7_reported 14 = .ok (.invokevirtual 61, 3) := by decide +kernel
theorem dX7_reported_17 : decode cX7_reported 17 = .ok (.ireturn, 1) := by decide +kernel
set_option maxRecDepth 20000 in
theorem ggX7_found_X7_of : GoodIn wsX7_found wsX7_of := goodIn_r _ [5, 6, 15, 16, 17, 18, 19, 20, 21, 22, 23, 24, 25, 26, 27, 28] (by decide +kernel) (by decide +kernel)
set_option maxRecDepth 20000 in
theorem gX7_found_X7_of : GoodIn wsX7_found (wsV RX7 39 RX7 yX7_of wsX7_of) := goodIn_app (goodIn_of _ (by decide +kernel)) ggX7_found_X7_of
set_option maxRecDepth 20000 in
theorem ggX7_found_X7_forWinner : GoodIn wsX7_found wsX7_forWinner := goodIn_r _ [10, 11, 12, 13, 4, 14, 6, 1, 2, 3, 5, 15, 16, 17, 18, 19, 20, 21, 22, 23, 24, 25, 26, 27, 28] (by decide +kernel) (by decide +kernel)
set_option maxRecDepth 20000 in
theorem gX7_found_X7_forWinner : GoodIn wsX7_found (wsV RX7 61 RX7 yX7_forWinner wsX7_forWinner) := goodIn_app (goodIn_of _ (by decide +kernel)) ggX7_found_X7_forWinner
theorem dX7_found_0 : decode cX7_found 0 = .ok (.aload_n 0, 1) := by decide +kernel
theorem dX7_found_1 : decode cX7_found 1 = .ok (.aload_n 0, 1) := by decide +kernel
theorem dX7_found_2 : decode cX7_found 2 = .ok (.iload_n 1, 1) := by decide +kernel
theorem dX7_found_3 : decode cX7_found 3 = .ok (.iconst 3, 1) := by decide +kernel
theorem dX7_found_4 : decode cX7_found 4 = .ok (.invokevirtual 39, 3) := by decide +kernel
theorem dX7_found_7 : decode cX7_found 7 = .ok (.aload_n 0, 1) := by decide +kernel
theorem dX7_found_8 : decode cX7_found 8 = .ok (.iload_n 1, 1) := by decide +kernel
theorem dX7_found_9 : decode cX7_found 9 = .ok (.iconst 4, 1) := by decide +kernel
theorem dX7_found_10 : decode cX7_found 10 = .ok (.invokevirtual 39, 3) := by decide +kernel
theorem dX7_found_13 : decode cX7_found 13 = .ok (.isub, 1) := by decide +kernel
theorem dX7_found_14 : decode cX7_found 14 = .ok (.invokevirtual 61, 3) := by decide +kernel
theorem dX7_found_17 : decode cX7_found 17 = .ok (.ireturn, 1) := by decide +kernel
set_option maxRecDepth 20000 in
theorem ggX7_swing_X7_reported : GoodIn wsX7_swing wsX7_reported := goodIn_r _ [5, 6, 7, 8, 4, 9, 10, 11, 12, 13, 14, 15, 16, 17, 18, 23, 24, 25, 26, 27, 28, 29, 30, 31, 32, 33, 34, 35, 36] (by decide +kernel) (by decide +kernel)
set_option maxRecDepth 20000 in
theorem gX7_swing_X7_reported : GoodIn wsX7_swing (wsV RX7 65 RX7 yX7_reported wsX7_reported) := goodIn_app (goodIn_of _ (by decide +kernel)) ggX7_swing_X7_reported
set_option maxRecDepth 20000 in
theorem ggX7_swing_X7_size : GoodIn wsX7_swing wsX7_size := goodIn_r _ [22, 6, 7, 8, 4, 9, 10, 23, 24, 25, 26, 27, 28, 29, 30, 31, 32, 33, 34, 35, 36] (by decide +kernel) (by decide +kernel)
set_option maxRecDepth 20000 in
theorem gX7_swing_X7_size : GoodIn wsX7_swing (wsV RX7 68 RX7 yX7_size wsX7_size) := goodIn_app (goodIn_of _ (by decide +kernel)) ggX7_swing_X7_size
theorem dX7_swing_0 : decode cX7_swing 0 = .ok (.aload_n 0, 1) := by decide +kernel
theorem dX7_swing_1 : decode cX7_swing 1 = .ok (.iload_n 1, 1) := by decide +kernel
theorem dX7_swing_2 : decode cX7_swing 2 = .ok (.invokevirtual 65, 3) := by decide +kernel
theorem dX7_swing_5 : decode cX7_swing 5 = .ok (.aload_n 0, 1) := by decide +kernel
theorem dX7_swing_6 : decode cX7_swing 6 = .ok (.iload_n 1, 1) := by decide +kernel
theorem dX7_swing_7 : decode cX7_swing 7 = .ok (.invokevirtual 68, 3) := by decide +kernel
theorem dX7_swing_10 : decode cX7_swing 10 = .ok (.iadd, 1) := by decide +kernel
theorem dX7_swing_11 : decode cX7_swing 11 = .ok (.ireturn, 1) := by decide +kernel
set_option maxRecDepth 20000 in
theorem ggX7_seen_X7_isCounted : GoodIn wsX7_seen wsX7_isCounted := goodIn_r _ [5, 6, 7, 8, 4, 9, 10, 27, 28, 29, 30, 31, 32, 33, 34, 35, 36, 37, 38, 39, 40] (by decide +kernel) (by decide +kernel)
set_option maxRecDepth 20000 in
theorem gX7_seen_X7_isCounted : GoodIn wsX7_seen (wsV RX7 43 RX7 yX7_isCounted wsX7_isCounted) := goodIn_app (goodIn_of _ (by decide +kernel)) ggX7_seen_X7_isCounted
set_option maxRecDepth 20000 in
theorem ggX7_seen_X7_reported : GoodIn wsX7_seen wsX7_reported := goodIn_r _ [14, 6, 7, 8, 4, 9, 10, 15, 16, 17, 18, 19, 20, 21, 22, 27, 28, 29, 30, 31, 32, 33, 34, 35, 36, 37, 38, 39, 40] (by decide +kernel) (by decide +kernel)
set_option maxRecDepth 20000 in
theorem gX7_seen_X7_reported : GoodIn wsX7_seen (wsV RX7 65 RX7 yX7_reported wsX7_reported) := goodIn_app (goodIn_of _ (by decide +kernel)) ggX7_seen_X7_reported
set_option maxRecDepth 20000 in
theorem ggX7_seen_X7_found : GoodIn wsX7_seen wsX7_found := goodIn_r _ [26, 6, 7, 8, 4, 9, 10, 15, 16, 17, 18, 19, 20, 21, 22, 27, 28, 29, 30, 31, 32, 33, 34, 35, 36, 37, 38, 39, 40] (by decide +kernel) (by decide +kernel)
set_option maxRecDepth 20000 in
theorem gX7_seen_X7_found : GoodIn wsX7_seen (wsV RX7 71 RX7 yX7_found wsX7_found) := goodIn_app (goodIn_of _ (by decide +kernel)) ggX7_seen_X7_found
theorem dX7_seen_0 : decode cX7_seen 0 = .ok (.iload_n 2, 1) := by decide +kernel
theorem dX7_seen_1 : decode cX7_seen 1 = .ok (.ifCond .eq 19, 3) := by decide +kernel
theorem dX7_seen_4 : decode cX7_seen 4 = .ok (.aload_n 0, 1) := by decide +kernel
theorem dX7_seen_5 : decode cX7_seen 5 = .ok (.iload_n 1, 1) := by decide +kernel
theorem dX7_seen_6 : decode cX7_seen 6 = .ok (.invokevirtual 43, 3) := by decide +kernel
theorem dX7_seen_9 : decode cX7_seen 9 = .ok (.ifCond .ne 11, 3) := by decide +kernel
theorem dX7_seen_12 : decode cX7_seen 12 = .ok (.aload_n 0, 1) := by decide +kernel
theorem dX7_seen_13 : decode cX7_seen 13 = .ok (.iload_n 1, 1) := by decide +kernel
theorem dX7_seen_14 : decode cX7_seen 14 = .ok (.invokevirtual 65, 3) := by decide +kernel
theorem dX7_seen_17 : decode cX7_seen 17 = .ok (.goto 8, 3) := by decide +kernel
theorem dX7_seen_20 : decode cX7_seen 20 = .ok (.aload_n 0, 1) := by decide +kernel
theorem dX7_seen_21 : decode cX7_seen 21 = .ok (.iload_n 1, 1) := by decide +kernel
theorem dX7_seen_22 : decode cX7_seen 22 = .ok (.invokevirtual 71, 3) := by decide +kernel
theorem dX7_seen_25 : decode cX7_seen 25 = .ok (.ireturn, 1) := by decide +kernel
set_option maxRecDepth 20000 in
theorem ggX7_lead_X7_has : GoodIn wsX7_lead wsX7_has := goodIn_r _ [5] (by decide +kernel) (by decide +kernel)
set_option maxRecDepth 20000 in
theorem gX7_lead_X7_has : GoodIn wsX7_lead (va_wsS RX7 74 yX7_has wsX7_has) := goodIn_app (goodIn_of _ (by decide +kernel)) ggX7_lead_X7_has
set_option maxRecDepth 20000 in
theorem ggX7_lead_X7_seen : GoodIn wsX7_lead wsX7_seen := goodIn_r _ [9, 10, 11, 12, 4, 13, 14, 15, 16, 17, 1, 18, 19, 20, 21, 22, 23, 24, 25, 26, 27, 28, 29, 30, 31, 32, 33, 34, 35, 36, 37, 38, 39, 40, 41, 42, 43, 44, 45, 46, 47] (by decide +kernel) (by decide +kernel)
set_option maxRecDepth 20000 in
theorem gX7_lead_X7_seen : GoodIn wsX7_lead (wsV RX7 78 RX7 yX7_seen wsX7_seen) := goodIn_app (goodIn_of _ (by decide +kernel)) ggX7_lead_X7_seen
set_option maxRecDepth 20000 in
theorem ggX7_lead_X7_reported : GoodIn wsX7_lead wsX7_reported := goodIn_r _ [21, 14, 15, 16, 4, 17, 1, 22, 23, 24, 25, 26, 27, 28, 29, 34, 35, 36, 37, 38, 39, 40, 41, 42, 43, 44, 45, 46, 47] (by decide +kernel) (by decide +kernel)
set_option maxRecDepth 20000 in
theorem gX7_lead_X7_reported : GoodIn wsX7_lead (wsV RX7 65 RX7 yX7_reported wsX7_reported) := goodIn_app (goodIn_of _ (by decide +kernel)) ggX7_lead_X7_reported
theorem dX7_lead_0 : decode cX7_lead 0 = .ok (.iconst 0, 1) := by decide +kernel
theorem dX7_lead_1 : decode cX7_lead 1 = .ok (.istore_n 3, 1) := by decide +kernel
theorem dX7_lead_2 : decode cX7_lead 2 = .ok (.iconst 0, 1) := by decide +kernel
theorem dX7_lead_3 : decode cX7_lead 3 = .ok (.istore 4, 2) := by decide +kernel
theorem dX7_lead_5 : decode cX7_lead 5 = .ok (.iload 4, 2) := by decide +kernel
theorem dX7_lead_7 : decode cX7_lead 7 = .ok (.aload_n 0, 1) := by decide +kernel
theorem dX7_lead_8 : decode cX7_lead 8 = .ok (.getfield 7, 3) := by decide +kernel
theorem dX7_lead_11 : decode cX7_lead 11 = .ok (.iconst 0, 1) := by decide +kernel
theorem dX7_lead_12 : decode cX7_lead 12 = .ok (.iaload, 1) := by decide +kernel
theorem dX7_lead_13 : decode cX7_lead 13 = .ok (.if_icmp .ge 37, 3) := by decide +kernel
theorem dX7_lead_16 : decode cX7_lead 16 = .ok (.iload_n 3, 1) := by decide +kernel
theorem dX7_lead_17 : decode cX7_lead 17 = .ok (.iload_n 1, 1) := by decide +kernel
theorem dX7_lead_18 : decode cX7_lead 18 = .ok (.iload 4, 2) := by decide +kernel
theorem dX7_lead_20 : decode cX7_lead 20 = .ok (.invokestatic 74, 3) := by decide +kernel
theorem dX7_lead_23 : decode cX7_lead 23 = .ok (.ifCond .eq 13, 3) := by decide +kernel
theorem dX7_lead_26 : decode cX7_lead 26 = .ok (.aload_n 0, 1) := by decide +kernel
theorem dX7_lead_27 : decode cX7_lead 27 = .ok (.iload 4, 2) := by decide +kernel
theorem dX7_lead_29 : decode cX7_lead 29 = .ok (.iload_n 2, 1) := by decide +kernel
theorem dX7_lead_30 : decode cX7_lead 30 = .ok (.invokevirtual 78, 3) := by decide +kernel
theorem dX7_lead_33 : decode cX7_lead 33 = .ok (.goto 9, 3) := by decide +kernel
theorem dX7_lead_36 : decode cX7_lead 36 = .ok (.aload_n 0, 1) := by decide +kernel
theorem dX7_lead_37 : decode cX7_lead 37 = .ok (.iload 4, 2) := by decide +kernel
theorem dX7_lead_39 : decode cX7_lead 39 = .ok (.invokevirtual 65, 3) := by decide +kernel
theorem dX7_lead_42 : decode cX7_lead 42 = .ok (.iadd, 1) := by decide +kernel
theorem dX7_lead_43 : decode cX7_lead 43 = .ok (.istore_n 3, 1) := by decide +kernel
theorem dX7_lead_44 : decode cX7_lead 44 = .ok (.iinc 4 1, 3) := by decide +kernel
theorem dX7_lead_47 : decode cX7_lead 47 = .ok (.goto (-42), 3) := by decide +kernel
theorem dX7_lead_50 : decode cX7_lead 50 = .ok (.iload_n 3, 1) := by decide +kernel
theorem dX7_lead_51 : decode cX7_lead 51 = .ok (.ireturn, 1) := by decide +kernel
set_option maxRecDepth 20000 in
theorem ggX7_worse_X7_has : GoodIn wsX7_worse wsX7_has := goodIn_r _ [5] (by decide +kernel) (by decide +kernel)
set_option maxRecDepth 20000 in
theorem gX7_worse_X7_has : GoodIn wsX7_worse (va_wsS RX7 74 yX7_has wsX7_has) := goodIn_app (goodIn_of _ (by decide +kernel)) ggX7_worse_X7_has
set_option maxRecDepth 20000 in
theorem ggX7_worse_X7_seen : GoodIn wsX7_worse wsX7_seen := goodIn_r _ [9, 10, 11, 12, 4, 13, 14, 15, 16, 17, 1, 18, 19, 20, 21, 22, 23, 24, 25, 26, 27, 28, 29, 30, 31, 32, 33, 34, 35, 36, 37, 38, 39, 40, 41, 42, 43, 44, 45, 46, 47] (by decide +kernel) (by decide +kernel)
set_option maxRecDepth 20000 in
theorem gX7_worse_X7_seen : GoodIn wsX7_worse (wsV RX7 78 RX7 yX7_seen wsX7_seen) := goodIn_app (goodIn_of _ (by decide +kernel)) ggX7_worse_X7_seen
set_option maxRecDepth 20000 in
theorem ggX7_worse_X7_reported : GoodIn wsX7_worse wsX7_reported := goodIn_r _ [21, 14, 15, 16, 4, 17, 1, 22, 23, 24, 25, 26, 27, 28, 29, 34, 35, 36, 37, 38, 39, 40, 41, 42, 43, 44, 45, 46, 47] (by decide +kernel) (by decide +kernel)
set_option maxRecDepth 20000 in
theorem gX7_worse_X7_reported : GoodIn wsX7_worse (wsV RX7 65 RX7 yX7_reported wsX7_reported) := goodIn_app (goodIn_of _ (by decide +kernel)) ggX7_worse_X7_reported
theorem dX7_worse_0 : decode cX7_worse 0 = .ok (.iconst 0, 1) := by decide +kernel
theorem dX7_worse_1 : decode cX7_worse 1 = .ok (.istore_n 3, 1) := by decide +kernel
theorem dX7_worse_2 : decode cX7_worse 2 = .ok (.iconst 0, 1) := by decide +kernel
theorem dX7_worse_3 : decode cX7_worse 3 = .ok (.istore 4, 2) := by decide +kernel
theorem dX7_worse_5 : decode cX7_worse 5 = .ok (.iload 4, 2) := by decide +kernel
theorem dX7_worse_7 : decode cX7_worse 7 = .ok (.aload_n 0, 1) := by decide +kernel
theorem dX7_worse_8 : decode cX7_worse 8 = .ok (.getfield 7, 3) := by decide +kernel
theorem dX7_worse_11 : decode cX7_worse 11 = .ok (.iconst 0, 1) := by decide +kernel
theorem dX7_worse_12 : decode cX7_worse 12 = .ok (.iaload, 1) := by decide +kernel
theorem dX7_worse_13 : decode cX7_worse 13 = .ok (.if_icmp .ge 42, 3) := by decide +kernel
theorem dX7_worse_16 : decode cX7_worse 16 = .ok (.iload_n 3, 1) := by decide +kernel
theorem dX7_worse_17 : decode cX7_worse 17 = .ok (.iload_n 1, 1) := by decide +kernel
theorem dX7_worse_18 : decode cX7_worse 18 = .ok (.iload 4, 2) := by decide +kernel
theorem dX7_worse_20 : decode cX7_worse 20 = .ok (.invokestatic 74, 3) := by decide +kernel
theorem dX7_worse_23 : decode cX7_worse 23 = .ok (.ifCond .eq 23, 3) := by decide +kernel
theorem dX7_worse_26 : decode cX7_worse 26 = .ok (.aload_n 0, 1) := by decide +kernel
theorem dX7_worse_27 : decode cX7_worse 27 = .ok (.iload 4, 2) := by decide +kernel
theorem dX7_worse_29 : decode cX7_worse 29 = .ok (.iload_n 2, 1) := by decide +kernel
theorem dX7_worse_30 : decode cX7_worse 30 = .ok (.invokevirtual 78, 3) := by decide +kernel
theorem dX7_worse_33 : decode cX7_worse 33 = .ok (.aload_n 0, 1) := by decide +kernel
theorem dX7_worse_34 : decode cX7_worse 34 = .ok (.iload 4, 2) := by decide +kernel
theorem dX7_worse_36 : decode cX7_worse 36 = .ok (.invokevirtual 65, 3) := by decide +kernel
theorem dX7_worse_39 : decode cX7_worse 39 = .ok (.if_icmp .ge 7, 3) := by decide +kernel
theorem dX7_worse_42 : decode cX7_worse 42 = .ok (.iconst 1, 1) := by decide +kernel
theorem dX7_worse_43 : decode cX7_worse 43 = .ok (.goto 4, 3) := by decide +kernel
theorem dX7_worse_46 : decode cX7_worse 46 = .ok (.iconst 0, 1) := by decide +kernel
theorem dX7_worse_47 : decode cX7_worse 47 = .ok (.iadd, 1) := by decide +kernel
theorem dX7_worse_48 : decode cX7_worse 48 = .ok (.istore_n 3, 1) := by decide +kernel
theorem dX7_worse_49 : decode cX7_worse 49 = .ok (.iinc 4 1, 3) := by decide +kernel
theorem dX7_worse_52 : decode cX7_worse 52 = .ok (.goto (-47), 3) := by decide +kernel
theorem dX7_worse_55 : decode cX7_worse 55 = .ok (.iload_n 3, 1) := by decide +kernel
theorem dX7_worse_56 : decode cX7_worse 56 = .ok (.ireturn, 1) := by decide +kernel
set_option maxRecDepth 20000 in
theorem ggX7_greatest_X7_has : GoodIn wsX7_greatest wsX7_has := goodIn_r _ [5] (by decide +kernel) (by decide +kernel)
set_option maxRecDepth 20000 in
theorem gX7_greatest_X7_has : GoodIn wsX7_greatest (va_wsS RX7 74 yX7_has wsX7_has) := goodIn_app (goodIn_of _ (by decide +kernel)) ggX7_greatest_X7_has
set_option maxRecDepth 20000 in
theorem ggX7_greatest_X7_swing : GoodIn wsX7_greatest wsX7_swing := goodIn_r _ [9, 10, 11, 12, 4, 13, 14, 15, 16, 17, 1, 18, 19, 20, 21, 22, 23, 24, 25, 26, 27, 28, 29, 30, 31, 32, 33, 34, 35, 36, 37, 38, 39, 40, 41, 42, 43] (by decide +kernel) (by decide +kernel)
set_option maxRecDepth 20000 in
theorem gX7_greatest_X7_swing : GoodIn wsX7_greatest (wsV RX7 82 RX7 yX7_swing wsX7_swing) := goodIn_app (goodIn_of _ (by decide +kernel)) ggX7_greatest_X7_swing
theorem dX7_greatest_0 : decode cX7_greatest 0 = .ok (.bipush (-6), 2) := by decide +kernel
theorem dX7_greatest_2 : decode cX7_greatest 2 = .ok (.istore_n 3, 1) := by decide +kernel
theorem dX7_greatest_3 : decode cX7_greatest 3 = .ok (.iconst 0, 1) := by decide +kernel
theorem dX7_greatest_4 : decode cX7_greatest 4 = .ok (.istore 4, 2) := by decide +kernel
theorem dX7_greatest_6 : decode cX7_greatest 6 = .ok (.iload 4, 2) := by decide +kernel
theorem dX7_greatest_8 : decode cX7_greatest 8 = .ok (.aload_n 0, 1) := by decide +kernel
theorem dX7_greatest_9 : decode cX7_greatest 9 = .ok (.getfield 7, 3) := by decide +kernel
theorem dX7_greatest_12 : decode cX7_greatest 12 = .ok (.iconst 0, 1) := by decide +kernel
theorem dX7_greatest_13 : decode cX7_greatest 13 = .ok (.iaload, 1) := by decide +kernel
theorem dX7_greatest_14 : decode cX7_greatest 14 = .ok (.if_icmp .ge 64, 3) := by decide +kernel
theorem dX7_greatest_17 : decode cX7_greatest 17 = .ok (.iload_n 1, 1) := by decide +kernel
theorem dX7_greatest_18 : decode cX7_greatest 18 = .ok (.iload 4, 2) := by decide +kernel
theorem dX7_greatest_20 : decode cX7_greatest 20 = .ok (.invokestatic 74, 3) := by decide +kernel
theorem dX7_greatest_23 : decode cX7_greatest 23 = .ok (.ifCond .ne 16, 3) := by decide +kernel
theorem dX7_greatest_26 : decode cX7_greatest 26 = .ok (.iload_n 2, 1) := by decide +kernel
theorem dX7_greatest_27 : decode cX7_greatest 27 = .ok (.iload 4, 2) := by decide +kernel
theorem dX7_greatest_29 : decode cX7_greatest 29 = .ok (.invokestatic 74, 3) := by decide +kernel
theorem dX7_greatest_32 : decode cX7_greatest 32 = .ok (.ifCond .ne 7, 3) := by decide +kernel
theorem dX7_greatest_35 : decode cX7_greatest 35 = .ok (.iconst 1, 1) := by decide +kernel
theorem dX7_greatest_36 : decode cX7_greatest 36 = .ok (.goto 4, 3) := by decide +kernel
theorem dX7_greatest_39 : decode cX7_greatest 39 = .ok (.iconst 0, 1) := by decide +kernel
theorem dX7_greatest_40 : decode cX7_greatest 40 = .ok (.istore 5, 2) := by decide +kernel
theorem dX7_greatest_42 : decode cX7_greatest 42 = .ok (.iload 5, 2) := by decide +kernel
theorem dX7_greatest_44 : decode cX7_greatest 44 = .ok (.ifCond .eq 26, 3) := by decide +kernel
theorem dX7_greatest_47 : decode cX7_greatest 47 = .ok (.iload_n 3, 1) := by decide +kernel
theorem dX7_greatest_48 : decode cX7_greatest 48 = .ok (.ifCond .lt 17, 3) := by decide +kernel
theorem dX7_greatest_51 : decode cX7_greatest 51 = .ok (.aload_n 0, 1) := by decide +kernel
theorem dX7_greatest_52 : decode cX7_greatest 52 = .ok (.iload 4, 2) := by decide +kernel
theorem dX7_greatest_54 : decode cX7_greatest 54 = .ok (.invokevirtual 82, 3) := by decide +kernel
theorem dX7_greatest_57 : decode cX7_greatest 57 = .ok (.aload_n 0, 1) := by decide +kernel
theorem dX7_greatest_58 : decode cX7_greatest 58 = .ok (.iload_n 3, 1) := by decide +kernel
theorem dX7_greatest_59 : decode cX7_greatest 59 = .ok (.invokevirtual 82, 3) := by decide +kernel
theorem dX7_greatest_62 : decode cX7_greatest 62 = .ok (.if_icmp .le 8, 3) := by decide +kernel
theorem dX7_greatest_65 : decode cX7_greatest 65 = .ok (.iload 4, 2) := by decide +kernel
theorem dX7_greatest_67 : decode cX7_greatest 67 = .ok (.goto 4, 3) := by decide +kernel
theorem dX7_greatest_70 : decode cX7_greatest 70 = .ok (.iload_n 3, 1) := by decide +kernel
theorem dX7_greatest_71 : decode cX7_greatest 71 = .ok (.istore_n 3, 1) := by decide +kernel
theorem dX7_greatest_72 : decode cX7_greatest 72 = .ok (.iinc 4 1, 3) := by decide +kernel
theorem dX7_greatest_75 : decode cX7_greatest 75 = .ok (.goto (-69), 3) := by decide +kernel
theorem dX7_greatest_78 : decode cX7_greatest 78 = .ok (.iload_n 3, 1) := by decide +kernel
theorem dX7_greatest_79 : decode cX7_greatest 79 = .ok (.ireturn, 1) := by decide +kernel
set_option maxRecDepth 20000 in
theorem ggX7_wrongFor_X7_greatest : GoodIn wsX7_wrongFor wsX7_greatest := goodIn_r _ [5, 6, 7, 8, 4, 9, 10, 11, 12, 13, 14, 15, 16, 17, 18, 19, 20, 21, 22, 23, 24, 25, 26, 27, 28, 29, 30, 31, 32, 33, 34, 35, 36, 37, 38, 39, 40, 41, 42, 43, 44, 45, 46, 47] (by decide +kernel) (by decide +kernel)
set_option maxRecDepth 20000 in
theorem gX7_wrongFor_X7_greatest : GoodIn wsX7_wrongFor (wsV RX7 85 RX7 yX7_greatest wsX7_greatest) := goodIn_app (goodIn_of _ (by decide +kernel)) ggX7_wrongFor_X7_greatest
set_option maxRecDepth 20000 in
theorem ggX7_wrongFor_X7_swing : GoodIn wsX7_wrongFor wsX7_swing := goodIn_r _ [13, 14, 15, 16, 4, 17, 18, 19, 20, 21, 6, 22, 23, 24, 25, 26, 27, 28, 29, 30, 31, 32, 33, 34, 35, 36, 37, 38, 39, 40, 41, 42, 43, 44, 45, 46, 47] (by decide +kernel) (by decide +kernel)
set_option maxRecDepth 20000 in
theorem gX7_wrongFor_X7_swing : GoodIn wsX7_wrongFor (wsV RX7 82 RX7 yX7_swing wsX7_swing) := goodIn_app (goodIn_of _ (by decide +kernel)) ggX7_wrongFor_X7_swing
theorem dX7_wrongFor_0 : decode cX7_wrongFor 0 = .ok (.iconst 0, 1) := by decide +kernel
theorem dX7_wrongFor_1 : decode cX7_wrongFor 1 = .ok (.istore_n 3, 1) := by decide +kernel
theorem dX7_wrongFor_2 : decode cX7_wrongFor 2 = .ok (.iconst 0, 1) := by decide +kernel
theorem dX7_wrongFor_3 : decode cX7_wrongFor 3 = .ok (.istore 4, 2) := by decide +kernel
theorem dX7_wrongFor_5 : decode cX7_wrongFor 5 = .ok (.iload 4, 2) := by decide +kernel
theorem dX7_wrongFor_7 : decode cX7_wrongFor 7 = .ok (.iload_n 2, 1) := by decide +kernel
theorem dX7_wrongFor_8 : decode cX7_wrongFor 8 = .ok (.if_icmp .ge 40, 3) := by decide +kernel
theorem dX7_wrongFor_11 : decode cX7_wrongFor 11 = .ok (.aload_n 0, 1) := by decide +kernel
theorem dX7_wrongFor_12 : decode cX7_wrongFor 12 = .ok (.iload_n 1, 1) := by decide +kernel
theorem dX7_wrongFor_13 : decode cX7_wrongFor 13 = .ok (.iload_n 3, 1) := by decide +kernel
theorem dX7_wrongFor_14 : decode cX7_wrongFor 14 = .ok (.invokevirtual 85, 3) := by decide +kernel
theorem dX7_wrongFor_17 : decode cX7_wrongFor 17 = .ok (.istore 5, 2) := by decide +kernel
theorem dX7_wrongFor_19 : decode cX7_wrongFor 19 = .ok (.iload 5, 2) := by decide +kernel
theorem dX7_wrongFor_21 : decode cX7_wrongFor 21 = .ok (.ifCond .ge 6, 3) := by decide +kernel
theorem dX7_wrongFor_24 : decode cX7_wrongFor 24 = .ok (.bipush (-6), 2) := by decide +kernel
theorem dX7_wrongFor_26 : decode cX7_wrongFor 26 = .ok (.ireturn, 1) := by decide +kernel
theorem dX7_wrongFor_27 : decode cX7_wrongFor 27 = .ok (.iload_n 3, 1) := by decide +kernel
theorem dX7_wrongFor_28 : decode cX7_wrongFor 28 = .ok (.iconst 1, 1) := by decide +kernel
theorem dX7_wrongFor_29 : decode cX7_wrongFor 29 = .ok (.iload 5, 2) := by decide +kernel
theorem dX7_wrongFor_31 : decode cX7_wrongFor 31 = .ok (.ishl, 1) := by decide +kernel
theorem dX7_wrongFor_32 : decode cX7_wrongFor 32 = .ok (.ior, 1) := by decide +kernel
theorem dX7_wrongFor_33 : decode cX7_wrongFor 33 = .ok (.istore_n 3, 1) := by decide +kernel
theorem dX7_wrongFor_34 : decode cX7_wrongFor 34 = .ok (.iload 4, 2) := by decide +kernel
theorem dX7_wrongFor_36 : decode cX7_wrongFor 36 = .ok (.aload_n 0, 1) := by decide +kernel
theorem dX7_wrongFor_37 : decode cX7_wrongFor 37 = .ok (.iload 5, 2) := by decide +kernel
theorem dX7_wrongFor_39 : decode cX7_wrongFor 39 = .ok (.invokevirtual 82, 3) := by decide +kernel
theorem dX7_wrongFor_42 : decode cX7_wrongFor 42 = .ok (.iadd, 1) := by decide +kernel
theorem dX7_wrongFor_43 : decode cX7_wrongFor 43 = .ok (.istore 4, 2) := by decide +kernel
theorem dX7_wrongFor_45 : decode cX7_wrongFor 45 = .ok (.goto (-40), 3) := by decide +kernel
theorem dX7_wrongFor_48 : decode cX7_wrongFor 48 = .ok (.iload_n 3, 1) := by decide +kernel
theorem dX7_wrongFor_49 : decode cX7_wrongFor 49 = .ok (.ireturn, 1) := by decide +kernel
theorem dX7_choose_0 : decode cX7_choose 0 = .ok (.iload_n 1, 1) := by decide +kernel
theorem dX7_choose_1 : decode cX7_choose 1 = .ok (.iload_n 0, 1) := by decide +kernel
theorem dX7_choose_2 : decode cX7_choose 2 = .ok (.if_icmp .le 5, 3) := by decide +kernel
theorem dX7_choose_5 : decode cX7_choose 5 = .ok (.lconst 0, 1) := by decide +kernel
theorem dX7_choose_6 : decode cX7_choose 6 = .ok (.lreturn, 1) := by decide +kernel
theorem dX7_choose_7 : decode cX7_choose 7 = .ok (.lconst 1, 1) := by decide +kernel
theorem dX7_choose_8 : decode cX7_choose 8 = .ok (.lstore_n 2, 1) := by decide +kernel
theorem dX7_choose_9 : decode cX7_choose 9 = .ok (.iconst 1, 1) := by decide +kernel
theorem dX7_choose_10 : decode cX7_choose 10 = .ok (.istore 4, 2) := by decide +kernel
theorem dX7_choose_12 : decode cX7_choose 12 = .ok (.iload 4, 2) := by decide +kernel
theorem dX7_choose_14 : decode cX7_choose 14 = .ok (.iload_n 1, 1) := by decide +kernel
theorem dX7_choose_15 : decode cX7_choose 15 = .ok (.if_icmp .gt 23, 3) := by decide +kernel
theorem dX7_choose_18 : decode cX7_choose 18 = .ok (.lload_n 2, 1) := by decide +kernel
theorem dX7_choose_19 : decode cX7_choose 19 = .ok (.iload_n 0, 1) := by decide +kernel
theorem dX7_choose_20 : decode cX7_choose 20 = .ok (.iload_n 1, 1) := by decide +kernel
theorem dX7_choose_21 : decode cX7_choose 21 = .ok (.isub, 1) := by decide +kernel
theorem dX7_choose_22 : decode cX7_choose 22 = .ok (.iload 4, 2) := by decide +kernel
theorem dX7_choose_24 : decode cX7_choose 24 = .ok (.iadd, 1) := by decide +kernel
theorem dX7_choose_25 : decode cX7_choose 25 = .ok (.i2l, 1) := by decide +kernel
theorem dX7_choose_26 : decode cX7_choose 26 = .ok (.lmul, 1) := by decide +kernel
theorem dX7_choose_27 : decode cX7_choose 27 = .ok (.iload 4, 2) := by decide +kernel
theorem dX7_choose_29 : decode cX7_choose 29 = .ok (.i2l, 1) := by decide +kernel
theorem dX7_choose_30 : decode cX7_choose 30 = .ok (.ldiv, 1) := by decide +kernel
theorem dX7_choose_31 : decode cX7_choose 31 = .ok (.lstore_n 2, 1) := by decide +kernel
theorem dX7_choose_32 : decode cX7_choose 32 = .ok (.iinc 4 1, 3) := by decide +kernel
theorem dX7_choose_35 : decode cX7_choose 35 = .ok (.goto (-23), 3) := by decide +kernel
theorem dX7_choose_38 : decode cX7_choose 38 = .ok (.lload_n 2, 1) := by decide +kernel
theorem dX7_choose_39 : decode cX7_choose 39 = .ok (.lreturn, 1) := by decide +kernel
set_option maxRecDepth 20000 in
theorem ggX7_byNumbers_X7_choose : GoodIn wsX7_byNumbers wsX7_choose := goodIn_r _ [5] (by decide +kernel) (by decide +kernel)
set_option maxRecDepth 20000 in
theorem gX7_byNumbers_X7_choose : GoodIn wsX7_byNumbers (va_wsS RX7 88 yX7_choose wsX7_choose) := goodIn_app (goodIn_of _ (by decide +kernel)) ggX7_byNumbers_X7_choose
theorem dX7_byNumbers_0 : decode cX7_byNumbers 0 = .ok (.iload_n 0, 1) := by decide +kernel
theorem dX7_byNumbers_1 : decode cX7_byNumbers 1 = .ok (.iload_n 1, 1) := by decide +kernel
theorem dX7_byNumbers_2 : decode cX7_byNumbers 2 = .ok (.invokestatic 88, 3) := by decide +kernel
theorem dX7_byNumbers_5 : decode cX7_byNumbers 5 = .ok (.lstore_n 3, 1) := by decide +kernel
theorem dX7_byNumbers_6 : decode cX7_byNumbers 6 = .ok (.ldc2_w 92, 3) := by decide +kernel
theorem dX7_byNumbers_9 : decode cX7_byNumbers 9 = .ok (.iload_n 0, 1) := by decide +kernel
theorem dX7_byNumbers_10 : decode cX7_byNumbers 10 = .ok (.iload_n 2, 1) := by decide +kernel
theorem dX7_byNumbers_11 : decode cX7_byNumbers 11 = .ok (.isub, 1) := by decide +kernel
theorem dX7_byNumbers_12 : decode cX7_byNumbers 12 = .ok (.iload_n 1, 1) := by decide +kernel
theorem dX7_byNumbers_13 : decode cX7_byNumbers 13 = .ok (.invokestatic 88, 3) := by decide +kernel
theorem dX7_byNumbers_16 : decode cX7_byNumbers 16 = .ok (.lmul, 1) := by decide +kernel
theorem dX7_byNumbers_17 : decode cX7_byNumbers 17 = .ok (.lload_n 3, 1) := by decide +kernel
theorem dX7_byNumbers_18 : decode cX7_byNumbers 18 = .ok (.ladd, 1) := by decide +kernel
theorem dX7_byNumbers_19 : decode cX7_byNumbers 19 = .ok (.lconst 1, 1) := by decide +kernel
theorem dX7_byNumbers_20 : decode cX7_byNumbers 20 = .ok (.lsub, 1) := by decide +kernel
theorem dX7_byNumbers_21 : decode cX7_byNumbers 21 = .ok (.lload_n 3, 1) := by decide +kernel
theorem dX7_byNumbers_22 : decode cX7_byNumbers 22 = .ok (.ldiv, 1) := by decide +kernel
theorem dX7_byNumbers_23 : decode cX7_byNumbers 23 = .ok (.l2i, 1) := by decide +kernel
theorem dX7_byNumbers_24 : decode cX7_byNumbers 24 = .ok (.ireturn, 1) := by decide +kernel
set_option maxRecDepth 20000 in
theorem ggX7_risk_X7_lead : GoodIn wsX7_risk wsX7_lead := goodIn_r _ [6, 1, 7, 8, 5, 9, 10, 11, 12, 13, 14, 15, 16, 17, 18, 19, 20, 21, 22, 23, 24, 25, 26, 27, 28, 29, 30, 31, 32, 33, 34, 35, 36, 37, 72, 73, 74, 75, 76, 77, 78, 79, 80, 81, 82, 83, 84, 85] (by decide +kernel) (by decide +kernel)
set_option maxRecDepth 20000 in
theorem gX7_risk_X7_lead : GoodIn wsX7_risk (wsV RX7 94 RX7 yX7_lead wsX7_lead) := goodIn_app (goodIn_of _ (by decide +kernel)) ggX7_risk_X7_lead
set_option maxRecDepth 20000 in
theorem ggX7_risk_X7_allSet : GoodIn wsX7_risk wsX7_allSet := goodIn_r _ [41, 1, 72, 73, 74, 75, 76, 77, 78, 79, 80, 81, 82, 83, 84, 85] (by decide +kernel) (by decide +kernel)
set_option maxRecDepth 20000 in
theorem gX7_risk_X7_allSet : GoodIn wsX7_risk (wsV RX7 97 RX7 yX7_allSet wsX7_allSet) := goodIn_app (goodIn_of _ (by decide +kernel)) ggX7_risk_X7_allSet
set_option maxRecDepth 20000 in
theorem ggX7_risk_X7_worse : GoodIn wsX7_risk wsX7_worse := goodIn_r _ [45, 1, 7, 8, 5, 9, 10, 11, 12, 13, 14, 15, 16, 17, 18, 19, 20, 21, 22, 23, 24, 25, 26, 27, 28, 29, 30, 31, 32, 33, 34, 35, 36, 37, 72, 73, 74, 75, 76, 77, 78, 79, 80, 81, 82, 83, 84, 85] (by decide +kernel) (by decide +kernel)
set_option maxRecDepth 20000 in
theorem gX7_risk_X7_worse : GoodIn wsX7_risk (wsV RX7 100 RX7 yX7_worse wsX7_worse) := goodIn_app (goodIn_of _ (by decide +kernel)) ggX7_risk_X7_worse
set_option maxRecDepth 20000 in
theorem ggX7_risk_X7_wrongFor : GoodIn wsX7_risk wsX7_wrongFor := goodIn_r _ [49, 50, 51, 52, 5, 53, 1, 7, 8, 9, 54, 55, 56, 57, 22, 23, 24, 25, 18, 19, 20, 21, 26, 27, 28, 29, 30, 31, 32, 33, 58, 59, 60, 61, 72, 73, 74, 75, 76, 77, 78, 79, 80, 81, 82, 83, 84, 85] (by decide +kernel) (by decide +kernel)
set_option maxRecDepth 20000 in
theorem gX7_risk_X7_wrongFor : GoodIn wsX7_risk (wsV RX7 103 RX7 yX7_wrongFor wsX7_wrongFor) := goodIn_app (goodIn_of _ (by decide +kernel)) ggX7_risk_X7_wrongFor
set_option maxRecDepth 20000 in
theorem ggX7_risk_X7_many : GoodIn wsX7_risk wsX7_many := goodIn_r _ [64] (by decide +kernel) (by decide +kernel)
set_option maxRecDepth 20000 in
theorem gX7_risk_X7_many : GoodIn wsX7_risk (va_wsS RX7 106 yX7_many wsX7_many) := goodIn_app (goodIn_of _ (by decide +kernel)) ggX7_risk_X7_many
set_option maxRecDepth 20000 in
theorem ggX7_risk_X7_byNumbers : GoodIn wsX7_risk wsX7_byNumbers := goodIn_r _ [67, 68, 69, 70, 5, 71] (by decide +kernel) (by decide +kernel)
set_option maxRecDepth 20000 in
theorem gX7_risk_X7_byNumbers : GoodIn wsX7_risk (va_wsS RX7 109 yX7_byNumbers wsX7_byNumbers) := goodIn_app (goodIn_of _ (by decide +kernel)) ggX7_risk_X7_byNumbers
theorem dX7_risk_0 : decode cX7_risk 0 = .ok (.aload_n 0, 1) := by decide +kernel
theorem dX7_risk_1 : decode cX7_risk 1 = .ok (.iload_n 1, 1) := by decide +kernel
theorem dX7_risk_2 : decode cX7_risk 2 = .ok (.iload_n 2, 1) := by decide +kernel
theorem dX7_risk_3 : decode cX7_risk 3 = .ok (.invokevirtual 94, 3) := by decide +kernel
theorem dX7_risk_6 : decode cX7_risk 6 = .ok (.istore_n 3, 1) := by decide +kernel
theorem dX7_risk_7 : decode cX7_risk 7 = .ok (.iload_n 1, 1) := by decide +kernel
theorem dX7_risk_8 : decode cX7_risk 8 = .ok (.aload_n 0, 1) := by decide +kernel
theorem dX7_risk_9 : decode cX7_risk 9 = .ok (.invokevirtual 97, 3) := by decide +kernel
theorem dX7_risk_12 : decode cX7_risk 12 = .ok (.if_icmp .ne 15, 3) := by decide +kernel
theorem dX7_risk_15 : decode cX7_risk 15 = .ok (.iload_n 3, 1) := by decide +kernel
theorem dX7_risk_16 : decode cX7_risk 16 = .ok (.ifCond .le 7, 3) := by decide +kernel
theorem dX7_risk_19 : decode cX7_risk 19 = .ok (.iconst 0, 1) := by decide +kernel
theorem dX7_risk_20 : decode cX7_risk 20 = .ok (.goto 6, 3) := by decide +kernel
theorem dX7_risk_23 : decode cX7_risk 23 = .ok (.sipush 10000, 3) := by decide +kernel
theorem dX7_risk_26 : decode cX7_risk 26 = .ok (.ireturn, 1) := by decide +kernel
theorem dX7_risk_27 : decode cX7_risk 27 = .ok (.iload_n 3, 1) := by decide +kernel
theorem dX7_risk_28 : decode cX7_risk 28 = .ok (.ifCond .le 12, 3) := by decide +kernel
theorem dX7_risk_31 : decode cX7_risk 31 = .ok (.aload_n 0, 1) := by decide +kernel
theorem dX7_risk_32 : decode cX7_risk 32 = .ok (.iload_n 1, 1) := by decide +kernel
theorem dX7_risk_33 : decode cX7_risk 33 = .ok (.iload_n 2, 1) := by decide +kernel
theorem dX7_risk_34 : decode cX7_risk 34 = .ok (.invokevirtual 100, 3) := by decide +kernel
theorem dX7_risk_37 : decode cX7_risk 37 = .ok (.ifCond .le 7, 3) := by decide +kernel
theorem dX7_risk_40 : decode cX7_risk 40 = .ok (.sipush 10000, 3) := by decide +kernel
theorem dX7_risk_43 : decode cX7_risk 43 = .ok (.ireturn, 1) := by decide +kernel
theorem dX7_risk_44 : decode cX7_risk 44 = .ok (.aload_n 0, 1) := by decide +kernel
theorem dX7_risk_45 : decode cX7_risk 45 = .ok (.iload_n 1, 1) := by decide +kernel
theorem dX7_risk_46 : decode cX7_risk 46 = .ok (.iload_n 3, 1) := by decide +kernel
theorem dX7_risk_47 : decode cX7_risk 47 = .ok (.invokevirtual 103, 3) := by decide +kernel
theorem dX7_risk_50 : decode cX7_risk 50 = .ok (.istore 4, 2) := by decide +kernel
theorem dX7_risk_52 : decode cX7_risk 52 = .ok (.iload 4, 2) := by decide +kernel
theorem dX7_risk_54 : decode cX7_risk 54 = .ok (.ifCond .ge 7, 3) := by decide +kernel
theorem dX7_risk_57 : decode cX7_risk 57 = .ok (.iconst 0, 1) := by decide +kernel
theorem dX7_risk_58 : decode cX7_risk 58 = .ok (.goto 21, 3) := by decide +kernel
theorem dX7_risk_61 : decode cX7_risk 61 = .ok (.aload_n 0, 1) := by decide +kernel
theorem dX7_risk_62 : decode cX7_risk 62 = .ok (.getfield 7, 3) := by decide +kernel
theorem dX7_risk_65 : decode cX7_risk 65 = .ok (.iconst 0, 1) := by decide +kernel
theorem dX7_risk_66 : decode cX7_risk 66 = .ok (.iaload, 1) := by decide +kernel
theorem dX7_risk_67 : decode cX7_risk 67 = .ok (.iload_n 1, 1) := by decide +kernel
theorem dX7_risk_68 : decode cX7_risk 68 = .ok (.invokestatic 106, 3) := by decide +kernel
theorem dX7_risk_71 : decode cX7_risk 71 = .ok (.iload 4, 2) := by decide +kernel
theorem dX7_risk_73 : decode cX7_risk 73 = .ok (.invokestatic 106, 3) := by decide +kernel
theorem dX7_risk_76 : decode cX7_risk 76 = .ok (.invokestatic 109, 3) := by decide +kernel
theorem dX7_risk_79 : decode cX7_risk 79 = .ok (.ireturn, 1) := by decide +kernel
set_option maxRecDepth 20000 in
theorem ggX7_riskNow_X7_winner : GoodIn wsX7_riskNow wsX7_winner := goodIn_r _ [5, 6, 7, 8, 9, 4, 10, 80, 81, 82, 83, 84, 85, 86, 87, 88, 89, 90, 91, 92, 93] (by decide +kernel) (by decide +kernel)
set_option maxRecDepth 20000 in
theorem gX7_riskNow_X7_winner : GoodIn wsX7_riskNow (wsV RX7 57 RX7 yX7_winner wsX7_winner) := goodIn_app (goodIn_of _ (by decide +kernel)) ggX7_riskNow_X7_winner
set_option maxRecDepth 20000 in
theorem ggX7_riskNow_X7_countedSet : GoodIn wsX7_riskNow wsX7_countedSet := goodIn_r _ [14, 6, 15, 16, 17, 4, 18, 7, 8, 9, 10, 80, 81, 82, 83, 84, 85, 86, 87, 88, 89, 90, 91, 92, 93] (by decide +kernel) (by decide +kernel)
set_option maxRecDepth 20000 in
theorem gX7_riskNow_X7_countedSet : GoodIn wsX7_riskNow (wsV RX7 113 RX7 yX7_countedSet wsX7_countedSet) := goodIn_app (goodIn_of _ (by decide +kernel)) ggX7_riskNow_X7_countedSet
set_option maxRecDepth 20000 in
theorem ggX7_riskNow_X7_risk : GoodIn wsX7_riskNow wsX7_risk := goodIn_r _ [22, 6, 23, 24, 25, 4, 26, 27, 28, 29, 30, 31, 32, 33, 15, 16, 17, 18, 7, 8, 9, 10, 34, 35, 36, 37, 38, 39, 40, 41, 1, 2, 3, 5, 42, 43, 44, 45, 46, 47, 48, 49, 50, 51, 52, 53, 54, 55, 56, 57, 58, 59, 60, 61, 62, 63, 64, 65, 66, 67, 68, 69, 70, 71, 72, 73, 74, 75, 76, 77, 78, 79, 80, 81, 82, 83, 84, 85, 86, 87, 88, 89, 90, 91, 92, 93] (by decide +kernel) (by decide +kernel)
set_option maxRecDepth 20000 in
theorem gX7_riskNow_X7_risk : GoodIn wsX7_riskNow (wsV RX7 116 RX7 yX7_risk wsX7_risk) := goodIn_app (goodIn_of _ (by decide +kernel)) ggX7_riskNow_X7_risk
theorem dX7_riskNow_0 : decode cX7_riskNow 0 = .ok (.aload_n 0, 1) := by decide +kernel
theorem dX7_riskNow_1 : decode cX7_riskNow 1 = .ok (.invokevirtual 57, 3) := by decide +kernel
theorem dX7_riskNow_4 : decode cX7_riskNow 4 = .ok (.ifCond .ge 9, 3) := by decide +kernel
theorem dX7_riskNow_7 : decode cX7_riskNow 7 = .ok (.sipush 10000, 3) := by decide +kernel
theorem dX7_riskNow_10 : decode cX7_riskNow 10 = .ok (.goto 12, 3) := by decide +kernel
theorem dX7_riskNow_13 : decode cX7_riskNow 13 = .ok (.aload_n 0, 1) := by decide +kernel
theorem dX7_riskNow_14 : decode cX7_riskNow 14 = .ok (.aload_n 0, 1) := by decide +kernel
theorem dX7_riskNow_15 : decode cX7_riskNow 15 = .ok (.invokevirtual 113, 3) := by decide +kernel
theorem dX7_riskNow_18 : decode cX7_riskNow 18 = .ok (.iconst 0, 1) := by decide +kernel
theorem dX7_riskNow_19 : decode cX7_riskNow 19 = .ok (.invokevirtual 116, 3) := by decide +kernel
theorem dX7_riskNow_22 : decode cX7_riskNow 22 = .ok (.ireturn, 1) := by decide +kernel
set_option maxRecDepth 20000 in
theorem ggX7_mayStop_X7_winner : GoodIn wsX7_mayStop wsX7_winner := goodIn_r _ [6, 1, 7, 8, 9, 5, 10, 84, 85, 86, 87, 88, 89, 90, 91, 92, 93, 94, 95, 96, 97] (by decide +kernel) (by decide +kernel)
set_option maxRecDepth 20000 in
theorem gX7_mayStop_X7_winner : GoodIn wsX7_mayStop (wsV RX7 57 RX7 yX7_winner wsX7_winner) := goodIn_app (goodIn_of _ (by decide +kernel)) ggX7_mayStop_X7_winner
set_option maxRecDepth 20000 in
theorem ggX7_mayStop_X7_riskNow : GoodIn wsX7_mayStop wsX7_riskNow := goodIn_r _ [14, 2, 3, 4, 5, 6, 1, 7, 8, 9, 10, 15, 16, 17, 18, 19, 20, 21, 22, 23, 24, 25, 26, 27, 28, 29, 30, 31, 32, 33, 34, 35, 36, 37, 38, 39, 40, 41, 42, 43, 44, 45, 46, 47, 48, 49, 50, 51, 52, 53, 54, 55, 56, 57, 58, 59, 60, 61, 62, 63, 64, 65, 66, 67, 68, 69, 70, 71, 72, 73, 74, 75, 76, 77, 78, 79, 80, 81, 82, 83, 84, 85, 86, 87, 88, 89, 90, 91, 92, 93, 94, 95, 96, 97] (by decide +kernel) (by decide +kernel)
set_option maxRecDepth 20000 in
theorem gX7_mayStop_X7_riskNow : GoodIn wsX7_mayStop (wsV RX7 119 RX7 yX7_riskNow wsX7_riskNow) := goodIn_app (goodIn_of _ (by decide +kernel)) ggX7_mayStop_X7_riskNow
theorem dX7_mayStop_0 : decode cX7_mayStop 0 = .ok (.aload_n 0, 1) := by decide +kernel
theorem dX7_mayStop_1 : decode cX7_mayStop 1 = .ok (.invokevirtual 57, 3) := by decide +kernel
theorem dX7_mayStop_4 : decode cX7_mayStop 4 = .ok (.ifCond .lt 20, 3) := by decide +kernel
theorem dX7_mayStop_7 : decode cX7_mayStop 7 = .ok (.aload_n 0, 1) := by decide +kernel
theorem dX7_mayStop_8 : decode cX7_mayStop 8 = .ok (.invokevirtual 119, 3) := by decide +kernel
theorem dX7_mayStop_11 : decode cX7_mayStop 11 = .ok (.aload_n 0, 1) := by decide +kernel
theorem dX7_mayStop_12 : decode cX7_mayStop 12 = .ok (.getfield 7, 3) := by decide +kernel
theorem dX7_mayStop_15 : decode cX7_mayStop 15 = .ok (.iconst 1, 1) := by decide +kernel
theorem dX7_mayStop_16 : decode cX7_mayStop 16 = .ok (.iaload, 1) := by decide +kernel
theorem dX7_mayStop_17 : decode cX7_mayStop 17 = .ok (.if_icmp .gt 7, 3) := by decide +kernel
theorem dX7_mayStop_20 : decode cX7_mayStop 20 = .ok (.iconst 1, 1) := by decide +kernel
theorem dX7_mayStop_21 : decode cX7_mayStop 21 = .ok (.goto 4, 3) := by decide +kernel
theorem dX7_mayStop_24 : decode cX7_mayStop 24 = .ok (.iconst 0, 1) := by decide +kernel
theorem dX7_mayStop_25 : decode cX7_mayStop 25 = .ok (.ireturn, 1) := by decide +kernel
set_option maxRecDepth 20000 in
theorem ggX7_isRight_X7_allSet : GoodIn wsX7_isRight wsX7_allSet := goodIn_r _ [5, 6, 42, 43, 44, 45, 46, 47, 48, 49, 50, 51, 52, 53, 54, 55] (by decide +kernel) (by decide +kernel)
set_option maxRecDepth 20000 in
theorem gX7_isRight_X7_allSet : GoodIn wsX7_isRight (wsV RX7 97 RX7 yX7_allSet wsX7_allSet) := goodIn_app (goodIn_of _ (by decide +kernel)) ggX7_isRight_X7_allSet
set_option maxRecDepth 20000 in
theorem ggX7_isRight_X7_lead : GoodIn wsX7_isRight wsX7_lead := goodIn_r _ [10, 6, 11, 12, 4, 13, 14, 15, 16, 17, 18, 19, 20, 21, 22, 23, 24, 25, 26, 27, 28, 29, 30, 31, 32, 33, 34, 35, 36, 37, 38, 39, 40, 41, 42, 43, 44, 45, 46, 47, 48, 49, 50, 51, 52, 53, 54, 55] (by decide +kernel) (by decide +kernel)
set_option maxRecDepth 20000 in
theorem gX7_isRight_X7_lead : GoodIn wsX7_isRight (wsV RX7 94 RX7 yX7_lead wsX7_lead) := goodIn_app (goodIn_of _ (by decide +kernel)) ggX7_isRight_X7_lead
theorem dX7_isRight_0 : decode cX7_isRight 0 = .ok (.aload_n 0, 1) := by decide +kernel
theorem dX7_isRight_1 : decode cX7_isRight 1 = .ok (.aload_n 0, 1) := by decide +kernel
theorem dX7_isRight_2 : decode cX7_isRight 2 = .ok (.invokevirtual 97, 3) := by decide +kernel
theorem dX7_isRight_5 : decode cX7_isRight 5 = .ok (.iconst 0, 1) := by decide +kernel
theorem dX7_isRight_6 : decode cX7_isRight 6 = .ok (.invokevirtual 94, 3) := by decide +kernel
theorem dX7_isRight_9 : decode cX7_isRight 9 = .ok (.ifCond .le 7, 3) := by decide +kernel
theorem dX7_isRight_12 : decode cX7_isRight 12 = .ok (.iconst 1, 1) := by decide +kernel
theorem dX7_isRight_13 : decode cX7_isRight 13 = .ok (.goto 4, 3) := by decide +kernel
theorem dX7_isRight_16 : decode cX7_isRight 16 = .ok (.iconst 0, 1) := by decide +kernel
theorem dX7_isRight_17 : decode cX7_isRight 17 = .ok (.ireturn, 1) := by decide +kernel
set_option maxRecDepth 20000 in
theorem ggX7_tryPile_X7_in : GoodIn wsX7_tryPile wsX7_in := goodIn_r _ [5] (by decide +kernel) (by decide +kernel)
set_option maxRecDepth 20000 in
theorem gX7_tryPile_X7_in : GoodIn wsX7_tryPile (va_wsS RX7 35 yX7_in wsX7_in) := goodIn_app (goodIn_of _ (by decide +kernel)) ggX7_tryPile_X7_in
set_option maxRecDepth 20000 in
theorem ggX7_tryPile_X7_keepIf : GoodIn wsX7_tryPile wsX7_keepIf := goodIn_r _ [9, 10, 11, 12, 4, 13, 14, 15, 16, 1, 17, 18, 19, 20, 21, 22, 23, 24, 25, 26, 27, 28, 29, 30] (by decide +kernel) (by decide +kernel)
set_option maxRecDepth 20000 in
theorem gX7_tryPile_X7_keepIf : GoodIn wsX7_tryPile (wsV RX7 122 RX7 yX7_keepIf wsX7_keepIf) := goodIn_app (goodIn_of _ (by decide +kernel)) ggX7_tryPile_X7_keepIf
theorem dX7_tryPile_0 : decode cX7_tryPile 0 = .ok (.iload_n 1, 1) := by decide +kernel
theorem dX7_tryPile_1 : decode cX7_tryPile 1 = .ok (.iconst 0, 1) := by decide +kernel
theorem dX7_tryPile_2 : decode cX7_tryPile 2 = .ok (.sipush 200, 3) := by decide +kernel
theorem dX7_tryPile_5 : decode cX7_tryPile 5 = .ok (.invokestatic 35, 3) := by decide +kernel
theorem dX7_tryPile_8 : decode cX7_tryPile 8 = .ok (.ifCond .eq 25, 3) := by decide +kernel
theorem dX7_tryPile_11 : decode cX7_tryPile 11 = .ok (.iload_n 2, 1) := by decide +kernel
theorem dX7_tryPile_12 : decode cX7_tryPile 12 = .ok (.iconst 0, 1) := by decide +kernel
theorem dX7_tryPile_13 : decode cX7_tryPile 13 = .ok (.sipush 200, 3) := by decide +kernel
theorem dX7_tryPile_16 : decode cX7_tryPile 16 = .ok (.invokestatic 35, 3) := by decide +kernel
theorem dX7_tryPile_19 : decode cX7_tryPile 19 = .ok (.ifCond .eq 14, 3) := by decide +kernel
theorem dX7_tryPile_22 : decode cX7_tryPile 22 = .ok (.iload_n 3, 1) := by decide +kernel
theorem dX7_tryPile_23 : decode cX7_tryPile 23 = .ok (.iconst 0, 1) := by decide +kernel
theorem dX7_tryPile_24 : decode cX7_tryPile 24 = .ok (.sipush 200, 3) := by decide +kernel
theorem dX7_tryPile_27 : decode cX7_tryPile 27 = .ok (.invokestatic 35, 3) := by decide +kernel
theorem dX7_tryPile_30 : decode cX7_tryPile 30 = .ok (.ifCond .ne 6, 3) := by decide +kernel
theorem dX7_tryPile_33 : decode cX7_tryPile 33 = .ok (.bipush (-2), 2) := by decide +kernel
theorem dX7_tryPile_35 : decode cX7_tryPile 35 = .ok (.ireturn, 1) := by decide +kernel
theorem dX7_tryPile_36 : decode cX7_tryPile 36 = .ok (.aload_n 0, 1) := by decide +kernel
theorem dX7_tryPile_37 : decode cX7_tryPile 37 = .ok (.getfield 7, 3) := by decide +kernel
theorem dX7_tryPile_40 : decode cX7_tryPile 40 = .ok (.iconst 0, 1) := by decide +kernel
theorem dX7_tryPile_41 : decode cX7_tryPile 41 = .ok (.iaload, 1) := by decide +kernel
theorem dX7_tryPile_42 : decode cX7_tryPile 42 = .ok (.bipush 10, 2) := by decide +kernel
theorem dX7_tryPile_44 : decode cX7_tryPile 44 = .ok (.if_icmp .ne 6, 3) := by decide +kernel
theorem dX7_tryPile_47 : decode cX7_tryPile 47 = .ok (.bipush (-4), 2) := by decide +kernel
theorem dX7_tryPile_49 : decode cX7_tryPile 49 = .ok (.ireturn, 1) := by decide +kernel
theorem dX7_tryPile_50 : decode cX7_tryPile 50 = .ok (.aload_n 0, 1) := by decide +kernel
theorem dX7_tryPile_51 : decode cX7_tryPile 51 = .ok (.getfield 7, 3) := by decide +kernel
theorem dX7_tryPile_54 : decode cX7_tryPile 54 = .ok (.iconst 4, 1) := by decide +kernel
theorem dX7_tryPile_55 : decode cX7_tryPile 55 = .ok (.iaload, 1) := by decide +kernel
theorem dX7_tryPile_56 : decode cX7_tryPile 56 = .ok (.ifCond .le 6, 3) := by decide +kernel
theorem dX7_tryPile_59 : decode cX7_tryPile 59 = .ok (.bipush (-5), 2) := by decide +kernel
theorem dX7_tryPile_61 : decode cX7_tryPile 61 = .ok (.ireturn, 1) := by decide +kernel
theorem dX7_tryPile_62 : decode cX7_tryPile 62 = .ok (.aload_n 0, 1) := by decide +kernel
theorem dX7_tryPile_63 : decode cX7_tryPile 63 = .ok (.iload 4, 2) := by decide +kernel
theorem dX7_tryPile_65 : decode cX7_tryPile 65 = .ok (.invokevirtual 122, 3) := by decide +kernel
theorem dX7_tryPile_68 : decode cX7_tryPile 68 = .ok (.iconst 5, 1) := by decide +kernel
theorem dX7_tryPile_69 : decode cX7_tryPile 69 = .ok (.bipush 6, 2) := by decide +kernel
theorem dX7_tryPile_71 : decode cX7_tryPile 71 = .ok (.aload_n 0, 1) := by decide +kernel
theorem dX7_tryPile_72 : decode cX7_tryPile 72 = .ok (.getfield 7, 3) := by decide +kernel
theorem dX7_tryPile_75 : decode cX7_tryPile 75 = .ok (.iconst 0, 1) := by decide +kernel
theorem dX7_tryPile_76 : decode cX7_tryPile 76 = .ok (.iaload, 1) := by decide +kernel
theorem dX7_tryPile_77 : decode cX7_tryPile 77 = .ok (.imul, 1) := by decide +kernel
theorem dX7_tryPile_78 : decode cX7_tryPile 78 = .ok (.iadd, 1) := by decide +kernel
theorem dX7_tryPile_79 : decode cX7_tryPile 79 = .ok (.istore 5, 2) := by decide +kernel
theorem dX7_tryPile_81 : decode cX7_tryPile 81 = .ok (.aload_n 0, 1) := by decide +kernel
theorem dX7_tryPile_82 : decode cX7_tryPile 82 = .ok (.getfield 7, 3) := by decide +kernel
theorem dX7_tryPile_85 : decode cX7_tryPile 85 = .ok (.iload 5, 2) := by decide +kernel
theorem dX7_tryPile_87 : decode cX7_tryPile 87 = .ok (.iconst 0, 1) := by decide +kernel
theorem dX7_tryPile_88 : decode cX7_tryPile 88 = .ok (.iadd, 1) := by decide +kernel
theorem dX7_tryPile_89 : decode cX7_tryPile 89 = .ok (.iload_n 1, 1) := by decide +kernel
theorem dX7_tryPile_90 : decode cX7_tryPile 90 = .ok (.iastore, 1) := by decide +kernel
theorem dX7_tryPile_91 : decode cX7_tryPile 91 = .ok (.aload_n 0, 1) := by decide +kernel
theorem dX7_tryPile_92 : decode cX7_tryPile 92 = .ok (.getfield 7, 3) := by decide +kernel
theorem dX7_tryPile_95 : decode cX7_tryPile 95 = .ok (.iload 5, 2) := by decide +kernel
theorem dX7_tryPile_97 : decode cX7_tryPile 97 = .ok (.iconst 1, 1) := by decide +kernel
theorem dX7_tryPile_98 : decode cX7_tryPile 98 = .ok (.iadd, 1) := by decide +kernel
theorem dX7_tryPile_99 : decode cX7_tryPile 99 = .ok (.iload_n 2, 1) := by decide +kernel
theorem dX7_tryPile_100 : decode cX7_tryPile 100 = .ok (.iastore, 1) := by decide +kernel
theorem dX7_tryPile_101 : decode cX7_tryPile 101 = .ok (.aload_n 0, 1) := by decide +kernel
theorem dX7_tryPile_102 : decode cX7_tryPile 102 = .ok (.getfield 7, 3) := by decide +kernel
theorem dX7_tryPile_105 : decode cX7_tryPile 105 = .ok (.iload 5, 2) := by decide +kernel
theorem dX7_tryPile_107 : decode cX7_tryPile 107 = .ok (.iconst 2, 1) := by decide +kernel
theorem dX7_tryPile_108 : decode cX7_tryPile 108 = .ok (.iadd, 1) := by decide +kernel
theorem dX7_tryPile_109 : decode cX7_tryPile 109 = .ok (.iload_n 3, 1) := by decide +kernel
theorem dX7_tryPile_110 : decode cX7_tryPile 110 = .ok (.iastore, 1) := by decide +kernel
theorem dX7_tryPile_111 : decode cX7_tryPile 111 = .ok (.aload_n 0, 1) := by decide +kernel
theorem dX7_tryPile_112 : decode cX7_tryPile 112 = .ok (.getfield 7, 3) := by decide +kernel
theorem dX7_tryPile_115 : decode cX7_tryPile 115 = .ok (.iload 5, 2) := by decide +kernel
theorem dX7_tryPile_117 : decode cX7_tryPile 117 = .ok (.iconst 3, 1) := by decide +kernel
theorem dX7_tryPile_118 : decode cX7_tryPile 118 = .ok (.iadd, 1) := by decide +kernel
theorem dX7_tryPile_119 : decode cX7_tryPile 119 = .ok (.iload_n 1, 1) := by decide +kernel
theorem dX7_tryPile_120 : decode cX7_tryPile 120 = .ok (.iastore, 1) := by decide +kernel
theorem dX7_tryPile_121 : decode cX7_tryPile 121 = .ok (.aload_n 0, 1) := by decide +kernel
theorem dX7_tryPile_122 : decode cX7_tryPile 122 = .ok (.getfield 7, 3) := by decide +kernel
theorem dX7_tryPile_125 : decode cX7_tryPile 125 = .ok (.iload 5, 2) := by decide +kernel
theorem dX7_tryPile_127 : decode cX7_tryPile 127 = .ok (.iconst 4, 1) := by decide +kernel
theorem dX7_tryPile_128 : decode cX7_tryPile 128 = .ok (.iadd, 1) := by decide +kernel
theorem dX7_tryPile_129 : decode cX7_tryPile 129 = .ok (.iload_n 2, 1) := by decide +kernel
theorem dX7_tryPile_130 : decode cX7_tryPile 130 = .ok (.iastore, 1) := by decide +kernel
theorem dX7_tryPile_131 : decode cX7_tryPile 131 = .ok (.aload_n 0, 1) := by decide +kernel
theorem dX7_tryPile_132 : decode cX7_tryPile 132 = .ok (.getfield 7, 3) := by decide +kernel
theorem dX7_tryPile_135 : decode cX7_tryPile 135 = .ok (.iload 5, 2) := by decide +kernel
theorem dX7_tryPile_137 : decode cX7_tryPile 137 = .ok (.iconst 5, 1) := by decide +kernel
theorem dX7_tryPile_138 : decode cX7_tryPile 138 = .ok (.iadd, 1) := by decide +kernel
theorem dX7_tryPile_139 : decode cX7_tryPile 139 = .ok (.bipush (-6), 2) := by decide +kernel
theorem dX7_tryPile_141 : decode cX7_tryPile 141 = .ok (.iastore, 1) := by decide +kernel
theorem dX7_tryPile_142 : decode cX7_tryPile 142 = .ok (.aload_n 0, 1) := by decide +kernel
theorem dX7_tryPile_143 : decode cX7_tryPile 143 = .ok (.getfield 7, 3) := by decide +kernel
theorem dX7_tryPile_146 : decode cX7_tryPile 146 = .ok (.iconst 0, 1) := by decide +kernel
theorem dX7_tryPile_147 : decode cX7_tryPile 147 = .ok (.dup2, 1) := by decide +kernel
theorem dX7_tryPile_148 : decode cX7_tryPile 148 = .ok (.iaload, 1) := by decide +kernel
theorem dX7_tryPile_149 : decode cX7_tryPile 149 = .ok (.iconst 1, 1) := by decide +kernel
theorem dX7_tryPile_150 : decode cX7_tryPile 150 = .ok (.iadd, 1) := by decide +kernel
theorem dX7_tryPile_151 : decode cX7_tryPile 151 = .ok (.iastore, 1) := by decide +kernel
theorem dX7_tryPile_152 : decode cX7_tryPile 152 = .ok (.aload_n 0, 1) := by decide +kernel
theorem dX7_tryPile_153 : decode cX7_tryPile 153 = .ok (.getfield 7, 3) := by decide +kernel
theorem dX7_tryPile_156 : decode cX7_tryPile 156 = .ok (.iconst 0, 1) := by decide +kernel
theorem dX7_tryPile_157 : decode cX7_tryPile 157 = .ok (.iaload, 1) := by decide +kernel
theorem dX7_tryPile_158 : decode cX7_tryPile 158 = .ok (.iconst 1, 1) := by decide +kernel
theorem dX7_tryPile_159 : decode cX7_tryPile 159 = .ok (.isub, 1) := by decide +kernel
theorem dX7_tryPile_160 : decode cX7_tryPile 160 = .ok (.ireturn, 1) := by decide +kernel
set_option maxRecDepth 20000 in
theorem ggX7_pile_X7_tryPile : GoodIn wsX7_pile wsX7_tryPile := goodIn_r _ [5, 6, 7, 8, 4, 9, 10, 11, 12, 13, 14, 15, 16, 17, 18, 19, 20, 21, 22, 23, 24, 25, 26, 27, 28, 29, 30, 31, 32, 33, 34] (by decide +kernel) (by decide +kernel)
set_option maxRecDepth 20000 in
theorem gX7_pile_X7_tryPile : GoodIn wsX7_pile (wsV RX7 126 RX7 yX7_tryPile wsX7_tryPile) := goodIn_app (goodIn_of _ (by decide +kernel)) ggX7_pile_X7_tryPile
theorem dX7_pile_0 : decode cX7_pile 0 = .ok (.aload_n 0, 1) := by decide +kernel
theorem dX7_pile_1 : decode cX7_pile 1 = .ok (.iload_n 1, 1) := by decide +kernel
theorem dX7_pile_2 : decode cX7_pile 2 = .ok (.iload_n 2, 1) := by decide +kernel
theorem dX7_pile_3 : decode cX7_pile 3 = .ok (.iload_n 3, 1) := by decide +kernel
theorem dX7_pile_4 : decode cX7_pile 4 = .ok (.iconst 1, 1) := by decide +kernel
theorem dX7_pile_5 : decode cX7_pile 5 = .ok (.invokevirtual 126, 3) := by decide +kernel
theorem dX7_pile_8 : decode cX7_pile 8 = .ok (.ireturn, 1) := by decide +kernel
set_option maxRecDepth 20000 in
theorem ggX7_tryFinds_X7_isPile : GoodIn wsX7_tryFinds wsX7_isPile := goodIn_r _ [7, 1, 8, 9, 6, 10, 34, 35, 36, 37, 38, 39, 40, 41, 42, 43, 44, 45, 46, 47] (by decide +kernel) (by decide +kernel)
set_option maxRecDepth 20000 in
theorem gX7_tryFinds_X7_isPile : GoodIn wsX7_tryFinds (wsV RX7 130 RX7 yX7_isPile wsX7_isPile) := goodIn_app (goodIn_of _ (by decide +kernel)) ggX7_tryFinds_X7_isPile
set_option maxRecDepth 20000 in
theorem ggX7_tryFinds_X7_size : GoodIn wsX7_tryFinds wsX7_size := goodIn_r _ [14, 15, 16, 17, 6, 18, 1, 34, 35, 36, 37, 38, 39, 40, 41, 42, 43, 44, 45, 46, 47] (by decide +kernel) (by decide +kernel)
set_option maxRecDepth 20000 in
theorem gX7_tryFinds_X7_size : GoodIn wsX7_tryFinds (wsV RX7 68 RX7 yX7_size wsX7_size) := goodIn_app (goodIn_of _ (by decide +kernel)) ggX7_tryFinds_X7_size
set_option maxRecDepth 20000 in
theorem ggX7_tryFinds_X7_in : GoodIn wsX7_tryFinds wsX7_in := goodIn_r _ [10] (by decide +kernel) (by decide +kernel)
set_option maxRecDepth 20000 in
theorem gX7_tryFinds_X7_in : GoodIn wsX7_tryFinds (va_wsS RX7 35 yX7_in wsX7_in) := goodIn_app (goodIn_of _ (by decide +kernel)) ggX7_tryFinds_X7_in
set_option maxRecDepth 20000 in
theorem ggX7_tryFinds_X7_isCounted : GoodIn wsX7_tryFinds wsX7_isCounted := goodIn_r _ [22, 15, 16, 17, 6, 18, 1, 34, 35, 36, 37, 38, 39, 40, 41, 42, 43, 44, 45, 46, 47] (by decide +kernel) (by decide +kernel)
set_option maxRecDepth 20000 in
theorem gX7_tryFinds_X7_isCounted : GoodIn wsX7_tryFinds (wsV RX7 43 RX7 yX7_isCounted wsX7_isCounted) := goodIn_app (goodIn_of _ (by decide +kernel)) ggX7_tryFinds_X7_isCounted
set_option maxRecDepth 20000 in
theorem ggX7_tryFinds_X7_keepIf : GoodIn wsX7_tryFinds wsX7_keepIf := goodIn_r _ [26, 27, 28, 29, 6, 30, 31, 32, 33, 1, 34, 35, 36, 37, 38, 39, 40, 41, 42, 43, 44, 45, 46, 47] (by decide +kernel) (by decide +kernel)
set_option maxRecDepth 20000 in
theorem gX7_tryFinds_X7_keepIf : GoodIn wsX7_tryFinds (wsV RX7 122 RX7 yX7_keepIf wsX7_keepIf) := goodIn_app (goodIn_of _ (by decide +kernel)) ggX7_tryFinds_X7_keepIf
set_option maxRecDepth 20000 in
theorem ggX7_tryFinds_X7_of : GoodIn wsX7_tryFinds wsX7_of := goodIn_r _ [18, 1, 34, 35, 36, 37, 38, 39, 40, 41, 42, 43, 44, 45, 46, 47] (by decide +kernel) (by decide +kernel)
set_option maxRecDepth 20000 in
theorem gX7_tryFinds_X7_of : GoodIn wsX7_tryFinds (wsV RX7 39 RX7 yX7_of wsX7_of) := goodIn_app (goodIn_of _ (by decide +kernel)) ggX7_tryFinds_X7_of
theorem dX7_tryFinds_0 : decode cX7_tryFinds 0 = .ok (.aload_n 0, 1) := by decide +kernel
theorem dX7_tryFinds_1 : decode cX7_tryFinds 1 = .ok (.iload_n 1, 1) := by decide +kernel
theorem dX7_tryFinds_2 : decode cX7_tryFinds 2 = .ok (.invokevirtual 130, 3) := by decide +kernel
theorem dX7_tryFinds_5 : decode cX7_tryFinds 5 = .ok (.ifCond .ne 5, 3) := by decide +kernel
theorem dX7_tryFinds_8 : decode cX7_tryFinds 8 = .ok (.iconst (-1), 1) := by decide +kernel
theorem dX7_tryFinds_9 : decode cX7_tryFinds 9 = .ok (.ireturn, 1) := by decide +kernel
theorem dX7_tryFinds_10 : decode cX7_tryFinds 10 = .ok (.iload_n 2, 1) := by decide +kernel
theorem dX7_tryFinds_11 : decode cX7_tryFinds 11 = .ok (.iconst 0, 1) := by decide +kernel
theorem dX7_tryFinds_12 : decode cX7_tryFinds 12 = .ok (.aload_n 0, 1) := by decide +kernel
theorem dX7_tryFinds_13 : decode cX7_tryFinds 13 = .ok (.iload_n 1, 1) := by decide +kernel
theorem dX7_tryFinds_14 : decode cX7_tryFinds 14 = .ok (.invokevirtual 68, 3) := by decide +kernel
theorem dX7_tryFinds_17 : decode cX7_tryFinds 17 = .ok (.invokestatic 35, 3) := by decide +kernel
theorem dX7_tryFinds_20 : decode cX7_tryFinds 20 = .ok (.ifCond .eq 18, 3) := by decide +kernel
theorem dX7_tryFinds_23 : decode cX7_tryFinds 23 = .ok (.iload_n 3, 1) := by decide +kernel
theorem dX7_tryFinds_24 : decode cX7_tryFinds 24 = .ok (.iconst 0, 1) := by decide +kernel
theorem dX7_tryFinds_25 : decode cX7_tryFinds 25 = .ok (.aload_n 0, 1) := by decide +kernel
theorem dX7_tryFinds_26 : decode cX7_tryFinds 26 = .ok (.iload_n 1, 1) := by decide +kernel
theorem dX7_tryFinds_27 : decode cX7_tryFinds 27 = .ok (.invokevirtual 68, 3) := by decide +kernel
theorem dX7_tryFinds_30 : decode cX7_tryFinds 30 = .ok (.iload_n 2, 1) := by decide +kernel
theorem dX7_tryFinds_31 : decode cX7_tryFinds 31 = .ok (.isub, 1) := by decide +kernel
theorem dX7_tryFinds_32 : decode cX7_tryFinds 32 = .ok (.invokestatic 35, 3) := by decide +kernel
theorem dX7_tryFinds_35 : decode cX7_tryFinds 35 = .ok (.ifCond .ne 6, 3) := by decide +kernel
theorem dX7_tryFinds_38 : decode cX7_tryFinds 38 = .ok (.bipush (-2), 2) := by decide +kernel
theorem dX7_tryFinds_40 : decode cX7_tryFinds 40 = .ok (.ireturn, 1) := by decide +kernel
theorem dX7_tryFinds_41 : decode cX7_tryFinds 41 = .ok (.aload_n 0, 1) := by decide +kernel
theorem dX7_tryFinds_42 : decode cX7_tryFinds 42 = .ok (.iload_n 1, 1) := by decide +kernel
theorem dX7_tryFinds_43 : decode cX7_tryFinds 43 = .ok (.invokevirtual 43, 3) := by decide +kernel
theorem dX7_tryFinds_46 : decode cX7_tryFinds 46 = .ok (.ifCond .eq 6, 3) := by decide +kernel
theorem dX7_tryFinds_49 : decode cX7_tryFinds 49 = .ok (.bipush (-5), 2) := by decide +kernel
theorem dX7_tryFinds_51 : decode cX7_tryFinds 51 = .ok (.ireturn, 1) := by decide +kernel
theorem dX7_tryFinds_52 : decode cX7_tryFinds 52 = .ok (.aload_n 0, 1) := by decide +kernel
theorem dX7_tryFinds_53 : decode cX7_tryFinds 53 = .ok (.iload 4, 2) := by decide +kernel
theorem dX7_tryFinds_55 : decode cX7_tryFinds 55 = .ok (.invokevirtual 122, 3) := by decide +kernel
theorem dX7_tryFinds_58 : decode cX7_tryFinds 58 = .ok (.aload_n 0, 1) := by decide +kernel
theorem dX7_tryFinds_59 : decode cX7_tryFinds 59 = .ok (.getfield 7, 3) := by decide +kernel
theorem dX7_tryFinds_62 : decode cX7_tryFinds 62 = .ok (.iconst 5, 1) := by decide +kernel
theorem dX7_tryFinds_63 : decode cX7_tryFinds 63 = .ok (.bipush 6, 2) := by decide +kernel
theorem dX7_tryFinds_65 : decode cX7_tryFinds 65 = .ok (.iload_n 1, 1) := by decide +kernel
theorem dX7_tryFinds_66 : decode cX7_tryFinds 66 = .ok (.imul, 1) := by decide +kernel
theorem dX7_tryFinds_67 : decode cX7_tryFinds 67 = .ok (.iadd, 1) := by decide +kernel
theorem dX7_tryFinds_68 : decode cX7_tryFinds 68 = .ok (.iconst 3, 1) := by decide +kernel
theorem dX7_tryFinds_69 : decode cX7_tryFinds 69 = .ok (.iadd, 1) := by decide +kernel
theorem dX7_tryFinds_70 : decode cX7_tryFinds 70 = .ok (.iload_n 2, 1) := by decide +kernel
theorem dX7_tryFinds_71 : decode cX7_tryFinds 71 = .ok (.iastore, 1) := by decide +kernel
theorem dX7_tryFinds_72 : decode cX7_tryFinds 72 = .ok (.aload_n 0, 1) := by decide +kernel
theorem dX7_tryFinds_73 : decode cX7_tryFinds 73 = .ok (.getfield 7, 3) := by decide +kernel
theorem dX7_tryFinds_76 : decode cX7_tryFinds 76 = .ok (.iconst 5, 1) := by decide +kernel
theorem dX7_tryFinds_77 : decode cX7_tryFinds 77 = .ok (.bipush 6, 2) := by decide +kernel
theorem dX7_tryFinds_79 : decode cX7_tryFinds 79 = .ok (.iload_n 1, 1) := by decide +kernel
theorem dX7_tryFinds_80 : decode cX7_tryFinds 80 = .ok (.imul, 1) := by decide +kernel
theorem dX7_tryFinds_81 : decode cX7_tryFinds 81 = .ok (.iadd, 1) := by decide +kernel
theorem dX7_tryFinds_82 : decode cX7_tryFinds 82 = .ok (.iconst 4, 1) := by decide +kernel
theorem dX7_tryFinds_83 : decode cX7_tryFinds 83 = .ok (.iadd, 1) := by decide +kernel
theorem dX7_tryFinds_84 : decode cX7_tryFinds 84 = .ok (.iload_n 3, 1) := by decide +kernel
theorem dX7_tryFinds_85 : decode cX7_tryFinds 85 = .ok (.iastore, 1) := by decide +kernel
theorem dX7_tryFinds_86 : decode cX7_tryFinds 86 = .ok (.ldc 133, 2) := by decide +kernel
theorem dX7_tryFinds_88 : decode cX7_tryFinds 88 = .ok (.iload_n 2, 1) := by decide +kernel
theorem dX7_tryFinds_89 : decode cX7_tryFinds 89 = .ok (.iadd, 1) := by decide +kernel
theorem dX7_tryFinds_90 : decode cX7_tryFinds 90 = .ok (.iload_n 3, 1) := by decide +kernel
theorem dX7_tryFinds_91 : decode cX7_tryFinds 91 = .ok (.isub, 1) := by decide +kernel
theorem dX7_tryFinds_92 : decode cX7_tryFinds 92 = .ok (.aload_n 0, 1) := by decide +kernel
theorem dX7_tryFinds_93 : decode cX7_tryFinds 93 = .ok (.iload_n 1, 1) := by decide +kernel
theorem dX7_tryFinds_94 : decode cX7_tryFinds 94 = .ok (.iconst 0, 1) := by decide +kernel
theorem dX7_tryFinds_95 : decode cX7_tryFinds 95 = .ok (.invokevirtual 39, 3) := by decide +kernel
theorem dX7_tryFinds_98 : decode cX7_tryFinds 98 = .ok (.isub, 1) := by decide +kernel
theorem dX7_tryFinds_99 : decode cX7_tryFinds 99 = .ok (.aload_n 0, 1) := by decide +kernel
theorem dX7_tryFinds_100 : decode cX7_tryFinds 100 = .ok (.iload_n 1, 1) := by decide +kernel
theorem dX7_tryFinds_101 : decode cX7_tryFinds 101 = .ok (.iconst 1, 1) := by decide +kernel
theorem dX7_tryFinds_102 : decode cX7_tryFinds 102 = .ok (.invokevirtual 39, 3) := by decide +kernel
theorem dX7_tryFinds_105 : decode cX7_tryFinds 105 = .ok (.iadd, 1) := by decide +kernel
theorem dX7_tryFinds_106 : decode cX7_tryFinds 106 = .ok (.ireturn, 1) := by decide +kernel
set_option maxRecDepth 20000 in
theorem ggX7_finds_X7_tryFinds : GoodIn wsX7_finds wsX7_tryFinds := goodIn_r _ [5, 6, 7, 8, 9, 10, 4, 11, 12, 13, 14, 15, 16, 17, 18, 19, 20, 21, 22, 23, 24, 25, 26, 27, 28, 29, 30, 31, 32, 33, 34, 35, 36, 37, 38, 39, 40, 41, 42, 43, 44, 45, 46, 47, 48, 49, 50, 51] (by decide +kernel) (by decide +kernel)
set_option maxRecDepth 20000 in
theorem gX7_finds_X7_tryFinds : GoodIn wsX7_finds (wsV RX7 134 RX7 yX7_tryFinds wsX7_tryFinds) := goodIn_app (goodIn_of _ (by decide +kernel)) ggX7_finds_X7_tryFinds
theorem dX7_finds_0 : decode cX7_finds 0 = .ok (.aload_n 0, 1) := by decide +kernel
theorem dX7_finds_1 : decode cX7_finds 1 = .ok (.iload_n 1, 1) := by decide +kernel
theorem dX7_finds_2 : decode cX7_finds 2 = .ok (.iload_n 2, 1) := by decide +kernel
theorem dX7_finds_3 : decode cX7_finds 3 = .ok (.iload_n 3, 1) := by decide +kernel
theorem dX7_finds_4 : decode cX7_finds 4 = .ok (.iconst 1, 1) := by decide +kernel
theorem dX7_finds_5 : decode cX7_finds 5 = .ok (.invokevirtual 134, 3) := by decide +kernel
theorem dX7_finds_8 : decode cX7_finds 8 = .ok (.ireturn, 1) := by decide +kernel
set_option maxRecDepth 20000 in
theorem ggX7_limit_X7_in : GoodIn wsX7_limit wsX7_in := goodIn_r _ [5] (by decide +kernel) (by decide +kernel)
set_option maxRecDepth 20000 in
theorem gX7_limit_X7_in : GoodIn wsX7_limit (va_wsS RX7 35 yX7_in wsX7_in) := goodIn_app (goodIn_of _ (by decide +kernel)) ggX7_limit_X7_in
set_option maxRecDepth 20000 in
theorem ggX7_limit_X7_keep : GoodIn wsX7_limit wsX7_keep := goodIn_r _ [9, 10, 11, 12, 1, 13, 14, 15, 16, 17, 18, 19, 20, 21, 22, 23, 24, 25, 26] (by decide +kernel) (by decide +kernel)
set_option maxRecDepth 20000 in
theorem gX7_limit_X7_keep : GoodIn wsX7_limit (wsV RX7 54 RX7 yX7_keep wsX7_keep) := goodIn_app (goodIn_of _ (by decide +kernel)) ggX7_limit_X7_keep
theorem dX7_limit_0 : decode cX7_limit 0 = .ok (.iload_n 1, 1) := by decide +kernel
theorem dX7_limit_1 : decode cX7_limit 1 = .ok (.iconst 1, 1) := by decide +kernel
theorem dX7_limit_2 : decode cX7_limit 2 = .ok (.sipush 9999, 3) := by decide +kernel
theorem dX7_limit_5 : decode cX7_limit 5 = .ok (.invokestatic 35, 3) := by decide +kernel
theorem dX7_limit_8 : decode cX7_limit 8 = .ok (.ifCond .ne 6, 3) := by decide +kernel
theorem dX7_limit_11 : decode cX7_limit 11 = .ok (.bipush (-2), 2) := by decide +kernel
theorem dX7_limit_13 : decode cX7_limit 13 = .ok (.ireturn, 1) := by decide +kernel
theorem dX7_limit_14 : decode cX7_limit 14 = .ok (.aload_n 0, 1) := by decide +kernel
theorem dX7_limit_15 : decode cX7_limit 15 = .ok (.getfield 7, 3) := by decide +kernel
theorem dX7_limit_18 : decode cX7_limit 18 = .ok (.iconst 4, 1) := by decide +kernel
theorem dX7_limit_19 : decode cX7_limit 19 = .ok (.iaload, 1) := by decide +kernel
theorem dX7_limit_20 : decode cX7_limit 20 = .ok (.ifCond .le 6, 3) := by decide +kernel
theorem dX7_limit_23 : decode cX7_limit 23 = .ok (.bipush (-5), 2) := by decide +kernel
theorem dX7_limit_25 : decode cX7_limit 25 = .ok (.ireturn, 1) := by decide +kernel
theorem dX7_limit_26 : decode cX7_limit 26 = .ok (.aload_n 0, 1) := by decide +kernel
theorem dX7_limit_27 : decode cX7_limit 27 = .ok (.invokevirtual 54, 3) := by decide +kernel
theorem dX7_limit_30 : decode cX7_limit 30 = .ok (.aload_n 0, 1) := by decide +kernel
theorem dX7_limit_31 : decode cX7_limit 31 = .ok (.getfield 7, 3) := by decide +kernel
theorem dX7_limit_34 : decode cX7_limit 34 = .ok (.iconst 1, 1) := by decide +kernel
theorem dX7_limit_35 : decode cX7_limit 35 = .ok (.iaload, 1) := by decide +kernel
theorem dX7_limit_36 : decode cX7_limit 36 = .ok (.istore_n 2, 1) := by decide +kernel
theorem dX7_limit_37 : decode cX7_limit 37 = .ok (.aload_n 0, 1) := by decide +kernel
theorem dX7_limit_38 : decode cX7_limit 38 = .ok (.getfield 7, 3) := by decide +kernel
theorem dX7_limit_41 : decode cX7_limit 41 = .ok (.iconst 1, 1) := by decide +kernel
theorem dX7_limit_42 : decode cX7_limit 42 = .ok (.iload_n 1, 1) := by decide +kernel
theorem dX7_limit_43 : decode cX7_limit 43 = .ok (.iastore, 1) := by decide +kernel
theorem dX7_limit_44 : decode cX7_limit 44 = .ok (.iload_n 2, 1) := by decide +kernel
theorem dX7_limit_45 : decode cX7_limit 45 = .ok (.ireturn, 1) := by decide +kernel
set_option maxRecDepth 20000 in
theorem ggX7_seed_X7_keep : GoodIn wsX7_seed wsX7_keep := goodIn_r _ [6, 7, 8, 9, 1, 10, 11, 12, 13, 14, 15, 16, 17, 18, 19, 20, 21, 22, 23] (by decide +kernel) (by decide +kernel)
set_option maxRecDepth 20000 in
theorem gX7_seed_X7_keep : GoodIn wsX7_seed (wsV RX7 54 RX7 yX7_keep wsX7_keep) := goodIn_app (goodIn_of _ (by decide +kernel)) ggX7_seed_X7_keep
theorem dX7_seed_0 : decode cX7_seed 0 = .ok (.iload_n 1, 1) := by decide +kernel
theorem dX7_seed_1 : decode cX7_seed 1 = .ok (.ifCond .ge 6, 3) := by decide +kernel
theorem dX7_seed_4 : decode cX7_seed 4 = .ok (.bipush (-2), 2) := by decide +kernel
theorem dX7_seed_6 : decode cX7_seed 6 = .ok (.ireturn, 1) := by decide +kernel
theorem dX7_seed_7 : decode cX7_seed 7 = .ok (.aload_n 0, 1) := by decide +kernel
theorem dX7_seed_8 : decode cX7_seed 8 = .ok (.invokevirtual 54, 3) := by decide +kernel
theorem dX7_seed_11 : decode cX7_seed 11 = .ok (.aload_n 0, 1) := by decide +kernel
theorem dX7_seed_12 : decode cX7_seed 12 = .ok (.getfield 7, 3) := by decide +kernel
theorem dX7_seed_15 : decode cX7_seed 15 = .ok (.iconst 2, 1) := by decide +kernel
theorem dX7_seed_16 : decode cX7_seed 16 = .ok (.iaload, 1) := by decide +kernel
theorem dX7_seed_17 : decode cX7_seed 17 = .ok (.istore_n 2, 1) := by decide +kernel
theorem dX7_seed_18 : decode cX7_seed 18 = .ok (.aload_n 0, 1) := by decide +kernel
theorem dX7_seed_19 : decode cX7_seed 19 = .ok (.getfield 7, 3) := by decide +kernel
theorem dX7_seed_22 : decode cX7_seed 22 = .ok (.iconst 2, 1) := by decide +kernel
theorem dX7_seed_23 : decode cX7_seed 23 = .ok (.iload_n 1, 1) := by decide +kernel
theorem dX7_seed_24 : decode cX7_seed 24 = .ok (.iastore, 1) := by decide +kernel
theorem dX7_seed_25 : decode cX7_seed 25 = .ok (.iload_n 2, 1) := by decide +kernel
theorem dX7_seed_26 : decode cX7_seed 26 = .ok (.ireturn, 1) := by decide +kernel
theorem dX7_countOne_0 : decode cX7_countOne 0 = .ok (.aload_n 0, 1) := by decide +kernel
theorem dX7_countOne_1 : decode cX7_countOne 1 = .ok (.getfield 7, 3) := by decide +kernel
theorem dX7_countOne_4 : decode cX7_countOne 4 = .ok (.iconst 5, 1) := by decide +kernel
theorem dX7_countOne_5 : decode cX7_countOne 5 = .ok (.bipush 6, 2) := by decide +kernel
theorem dX7_countOne_7 : decode cX7_countOne 7 = .ok (.iload_n 1, 1) := by decide +kernel
theorem dX7_countOne_8 : decode cX7_countOne 8 = .ok (.imul, 1) := by decide +kernel
theorem dX7_countOne_9 : decode cX7_countOne 9 = .ok (.iadd, 1) := by decide +kernel
theorem dX7_countOne_10 : decode cX7_countOne 10 = .ok (.iconst 5, 1) := by decide +kernel
theorem dX7_countOne_11 : decode cX7_countOne 11 = .ok (.iadd, 1) := by decide +kernel
theorem dX7_countOne_12 : decode cX7_countOne 12 = .ok (.aload_n 0, 1) := by decide +kernel
theorem dX7_countOne_13 : decode cX7_countOne 13 = .ok (.getfield 7, 3) := by decide +kernel
theorem dX7_countOne_16 : decode cX7_countOne 16 = .ok (.iconst 4, 1) := by decide +kernel
theorem dX7_countOne_17 : decode cX7_countOne 17 = .ok (.iaload, 1) := by decide +kernel
theorem dX7_countOne_18 : decode cX7_countOne 18 = .ok (.iastore, 1) := by decide +kernel
theorem dX7_countOne_19 : decode cX7_countOne 19 = .ok (.aload_n 0, 1) := by decide +kernel
theorem dX7_countOne_20 : decode cX7_countOne 20 = .ok (.getfield 7, 3) := by decide +kernel
theorem dX7_countOne_23 : decode cX7_countOne 23 = .ok (.iconst 4, 1) := by decide +kernel
theorem dX7_countOne_24 : decode cX7_countOne 24 = .ok (.dup2, 1) := by decide +kernel
theorem dX7_countOne_25 : decode cX7_countOne 25 = .ok (.iaload, 1) := by decide +kernel
theorem dX7_countOne_26 : decode cX7_countOne 26 = .ok (.iconst 1, 1) := by decide +kernel
theorem dX7_countOne_27 : decode cX7_countOne 27 = .ok (.iadd, 1) := by decide +kernel
theorem dX7_countOne_28 : decode cX7_countOne 28 = .ok (.iastore, 1) := by decide +kernel
theorem dX7_countOne_29 : decode cX7_countOne 29 = .ok (.return_, 1) := by decide +kernel
set_option maxRecDepth 20000 in
theorem ggX7_drawOne_X7_isCounted : GoodIn wsX7_drawOne wsX7_isCounted := goodIn_r _ [10, 11, 12, 13, 9, 14, 1, 19, 20, 21, 22, 23, 24, 25, 26, 27, 28, 29, 30, 31, 32] (by decide +kernel) (by decide +kernel)
set_option maxRecDepth 20000 in
theorem gX7_drawOne_X7_isCounted : GoodIn wsX7_drawOne (wsV RX7 43 RX7 yX7_isCounted wsX7_isCounted) := goodIn_app (goodIn_of _ (by decide +kernel)) ggX7_drawOne_X7_isCounted
set_option maxRecDepth 20000 in
theorem ggX7_drawOne_X7_countOne : GoodIn wsX7_drawOne wsX7_countOne := goodIn_r _ [18, 1, 19, 20, 21, 22, 23, 24, 25, 26, 27, 28, 29, 30, 31, 32] (by decide +kernel) (by decide +kernel)
set_option maxRecDepth 20000 in
theorem gX7_drawOne_X7_countOne : GoodIn wsX7_drawOne (wsV RX7 144 RX7 yX7_countOne wsX7_countOne) := goodIn_app (goodIn_of _ (by decide +kernel)) ggX7_drawOne_X7_countOne
theorem dX7_drawOne_0 : decode cX7_drawOne 0 = .ok (.aload_n 0, 1) := by decide +kernel
theorem dX7_drawOne_1 : decode cX7_drawOne 1 = .ok (.getfield 7, 3) := by decide +kernel
theorem dX7_drawOne_4 : decode cX7_drawOne 4 = .ok (.iconst 2, 1) := by decide +kernel
theorem dX7_drawOne_5 : decode cX7_drawOne 5 = .ok (.aload_n 0, 1) := by decide +kernel
theorem dX7_drawOne_6 : decode cX7_drawOne 6 = .ok (.getfield 7, 3) := by decide +kernel
theorem dX7_drawOne_9 : decode cX7_drawOne 9 = .ok (.iconst 2, 1) := by decide +kernel
theorem dX7_drawOne_10 : decode cX7_drawOne 10 = .ok (.iaload, 1) := by decide +kernel
theorem dX7_drawOne_11 : decode cX7_drawOne 11 = .ok (.i2l, 1) := by decide +kernel
theorem dX7_drawOne_12 : decode cX7_drawOne 12 = .ok (.ldc2_w 137, 3) := by decide +kernel
theorem dX7_drawOne_15 : decode cX7_drawOne 15 = .ok (.lmul, 1) := by decide +kernel
theorem dX7_drawOne_16 : decode cX7_drawOne 16 = .ok (.ldc2_w 139, 3) := by decide +kernel
theorem dX7_drawOne_19 : decode cX7_drawOne 19 = .ok (.ladd, 1) := by decide +kernel
theorem dX7_drawOne_20 : decode cX7_drawOne 20 = .ok (.ldc2_w 141, 3) := by decide +kernel
theorem dX7_drawOne_23 : decode cX7_drawOne 23 = .ok (.lrem, 1) := by decide +kernel
theorem dX7_drawOne_24 : decode cX7_drawOne 24 = .ok (.l2i, 1) := by decide +kernel
theorem dX7_drawOne_25 : decode cX7_drawOne 25 = .ok (.iastore, 1) := by decide +kernel
theorem dX7_drawOne_26 : decode cX7_drawOne 26 = .ok (.aload_n 0, 1) := by decide +kernel
theorem dX7_drawOne_27 : decode cX7_drawOne 27 = .ok (.getfield 7, 3) := by decide +kernel
theorem dX7_drawOne_30 : decode cX7_drawOne 30 = .ok (.iconst 2, 1) := by decide +kernel
theorem dX7_drawOne_31 : decode cX7_drawOne 31 = .ok (.iaload, 1) := by decide +kernel
theorem dX7_drawOne_32 : decode cX7_drawOne 32 = .ok (.ldc 143, 2) := by decide +kernel
theorem dX7_drawOne_34 : decode cX7_drawOne 34 = .ok (.idiv, 1) := by decide +kernel
theorem dX7_drawOne_35 : decode cX7_drawOne 35 = .ok (.aload_n 0, 1) := by decide +kernel
theorem dX7_drawOne_36 : decode cX7_drawOne 36 = .ok (.getfield 7, 3) := by decide +kernel
theorem dX7_drawOne_39 : decode cX7_drawOne 39 = .ok (.iconst 0, 1) := by decide +kernel
theorem dX7_drawOne_40 : decode cX7_drawOne 40 = .ok (.iaload, 1) := by decide +kernel
theorem dX7_drawOne_41 : decode cX7_drawOne 41 = .ok (.aload_n 0, 1) := by decide +kernel
theorem dX7_drawOne_42 : decode cX7_drawOne 42 = .ok (.getfield 7, 3) := by decide +kernel
theorem dX7_drawOne_45 : decode cX7_drawOne 45 = .ok (.iconst 4, 1) := by decide +kernel
theorem dX7_drawOne_46 : decode cX7_drawOne 46 = .ok (.iaload, 1) := by decide +kernel
theorem dX7_drawOne_47 : decode cX7_drawOne 47 = .ok (.isub, 1) := by decide +kernel
theorem dX7_drawOne_48 : decode cX7_drawOne 48 = .ok (.irem, 1) := by decide +kernel
theorem dX7_drawOne_49 : decode cX7_drawOne 49 = .ok (.istore_n 1, 1) := by decide +kernel
theorem dX7_drawOne_50 : decode cX7_drawOne 50 = .ok (.iconst 0, 1) := by decide +kernel
theorem dX7_drawOne_51 : decode cX7_drawOne 51 = .ok (.istore_n 2, 1) := by decide +kernel
theorem dX7_drawOne_52 : decode cX7_drawOne 52 = .ok (.aload_n 0, 1) := by decide +kernel
theorem dX7_drawOne_53 : decode cX7_drawOne 53 = .ok (.iload_n 2, 1) := by decide +kernel
theorem dX7_drawOne_54 : decode cX7_drawOne 54 = .ok (.invokevirtual 43, 3) := by decide +kernel
theorem dX7_drawOne_57 : decode cX7_drawOne 57 = .ok (.ifCond .ne 7, 3) := by decide +kernel
theorem dX7_drawOne_60 : decode cX7_drawOne 60 = .ok (.iload_n 1, 1) := by decide +kernel
theorem dX7_drawOne_61 : decode cX7_drawOne 61 = .ok (.ifCond .le 25, 3) := by decide +kernel
theorem dX7_drawOne_64 : decode cX7_drawOne 64 = .ok (.iload_n 1, 1) := by decide +kernel
theorem dX7_drawOne_65 : decode cX7_drawOne 65 = .ok (.aload_n 0, 1) := by decide +kernel
theorem dX7_drawOne_66 : decode cX7_drawOne 66 = .ok (.iload_n 2, 1) := by decide +kernel
theorem dX7_drawOne_67 : decode cX7_drawOne 67 = .ok (.invokevirtual 43, 3) := by decide +kernel
theorem dX7_drawOne_70 : decode cX7_drawOne 70 = .ok (.ifCond .eq 7, 3) := by decide +kernel
theorem dX7_drawOne_73 : decode cX7_drawOne 73 = .ok (.iconst 0, 1) := by decide +kernel
theorem dX7_drawOne_74 : decode cX7_drawOne 74 = .ok (.goto 4, 3) := by decide +kernel
theorem dX7_drawOne_77 : decode cX7_drawOne 77 = .ok (.iconst 1, 1) := by decide +kernel
theorem dX7_drawOne_78 : decode cX7_drawOne 78 = .ok (.isub, 1) := by decide +kernel
theorem dX7_drawOne_79 : decode cX7_drawOne 79 = .ok (.istore_n 1, 1) := by decide +kernel
theorem dX7_drawOne_80 : decode cX7_drawOne 80 = .ok (.iinc 2 1, 3) := by decide +kernel
theorem dX7_drawOne_83 : decode cX7_drawOne 83 = .ok (.goto (-31), 3) := by decide +kernel
theorem dX7_drawOne_86 : decode cX7_drawOne 86 = .ok (.aload_n 0, 1) := by decide +kernel
theorem dX7_drawOne_87 : decode cX7_drawOne 87 = .ok (.iload_n 2, 1) := by decide +kernel
theorem dX7_drawOne_88 : decode cX7_drawOne 88 = .ok (.invokevirtual 144, 3) := by decide +kernel
theorem dX7_drawOne_91 : decode cX7_drawOne 91 = .ok (.iload_n 2, 1) := by decide +kernel
theorem dX7_drawOne_92 : decode cX7_drawOne 92 = .ok (.ireturn, 1) := by decide +kernel
set_option maxRecDepth 20000 in
theorem ggX7_isOver_X7_winner : GoodIn wsX7_isOver wsX7_winner := goodIn_r _ [6, 1, 7, 8, 9, 5, 10, 11, 12, 13, 14, 15, 16, 17, 18, 19, 20, 21, 22, 23, 24] (by decide +kernel) (by decide +kernel)
set_option maxRecDepth 20000 in
theorem gX7_isOver_X7_winner : GoodIn wsX7_isOver (wsV RX7 57 RX7 yX7_winner wsX7_winner) := goodIn_app (goodIn_of _ (by decide +kernel)) ggX7_isOver_X7_winner
theorem dX7_isOver_0 : decode cX7_isOver 0 = .ok (.aload_n 0, 1) := by decide +kernel
theorem dX7_isOver_1 : decode cX7_isOver 1 = .ok (.invokevirtual 57, 3) := by decide +kernel
theorem dX7_isOver_4 : decode cX7_isOver 4 = .ok (.ifCond .lt 13, 3) := by decide +kernel
theorem dX7_isOver_7 : decode cX7_isOver 7 = .ok (.aload_n 0, 1) := by decide +kernel
theorem dX7_isOver_8 : decode cX7_isOver 8 = .ok (.getfield 7, 3) := by decide +kernel
theorem dX7_isOver_11 : decode cX7_isOver 11 = .ok (.iconst 3, 1) := by decide +kernel
theorem dX7_isOver_12 : decode cX7_isOver 12 = .ok (.iaload, 1) := by decide +kernel
theorem dX7_isOver_13 : decode cX7_isOver 13 = .ok (.iconst 1, 1) := by decide +kernel
theorem dX7_isOver_14 : decode cX7_isOver 14 = .ok (.if_icmp .ne 7, 3) := by decide +kernel
theorem dX7_isOver_17 : decode cX7_isOver 17 = .ok (.iconst 1, 1) := by decide +kernel
theorem dX7_isOver_18 : decode cX7_isOver 18 = .ok (.goto 4, 3) := by decide +kernel
theorem dX7_isOver_21 : decode cX7_isOver 21 = .ok (.iconst 0, 1) := by decide +kernel
theorem dX7_isOver_22 : decode cX7_isOver 22 = .ok (.ireturn, 1) := by decide +kernel
set_option maxRecDepth 20000 in
theorem ggX7_draw_X7_isOver : GoodIn wsX7_draw wsX7_isOver := goodIn_r _ [6, 1, 7, 8, 9, 5, 10, 11, 12, 13, 14, 38, 39, 40, 41, 42, 43, 44, 45, 46, 47, 48, 49, 50, 51] (by decide +kernel) (by decide +kernel)
set_option maxRecDepth 20000 in
theorem gX7_draw_X7_isOver : GoodIn wsX7_draw (wsV RX7 148 RX7 yX7_isOver wsX7_isOver) := goodIn_app (goodIn_of _ (by decide +kernel)) ggX7_draw_X7_isOver
set_option maxRecDepth 20000 in
theorem ggX7_draw_X7_keep : GoodIn wsX7_draw wsX7_keep := goodIn_r _ [18, 19, 20, 21, 1, 38, 39, 40, 41, 42, 43, 44, 45, 46, 47, 48, 49, 50, 51] (by decide +kernel) (by decide +kernel)
set_option maxRecDepth 20000 in
theorem gX7_draw_X7_keep : GoodIn wsX7_draw (wsV RX7 54 RX7 yX7_keep wsX7_keep) := goodIn_app (goodIn_of _ (by decide +kernel)) ggX7_draw_X7_keep
set_option maxRecDepth 20000 in
theorem ggX7_draw_X7_drawOne : GoodIn wsX7_draw wsX7_drawOne := goodIn_r _ [25, 1, 26, 27, 28, 29, 30, 31, 32, 5, 33, 11, 12, 13, 14, 34, 35, 36, 37, 38, 39, 40, 41, 42, 43, 44, 45, 46, 47, 48, 49, 50, 51] (by decide +kernel) (by decide +kernel)
set_option maxRecDepth 20000 in
theorem gX7_draw_X7_drawOne : GoodIn wsX7_draw (wsV RX7 152 RX7 yX7_drawOne wsX7_drawOne) := goodIn_app (goodIn_of _ (by decide +kernel)) ggX7_draw_X7_drawOne
theorem dX7_draw_0 : decode cX7_draw 0 = .ok (.aload_n 0, 1) := by decide +kernel
theorem dX7_draw_1 : decode cX7_draw 1 = .ok (.invokevirtual 148, 3) := by decide +kernel
theorem dX7_draw_4 : decode cX7_draw 4 = .ok (.ifCond .ne 18, 3) := by decide +kernel
theorem dX7_draw_7 : decode cX7_draw 7 = .ok (.aload_n 0, 1) := by decide +kernel
theorem dX7_draw_8 : decode cX7_draw 8 = .ok (.getfield 7, 3) := by decide +kernel
theorem dX7_draw_11 : decode cX7_draw 11 = .ok (.iconst 4, 1) := by decide +kernel
theorem dX7_draw_12 : decode cX7_draw 12 = .ok (.iaload, 1) := by decide +kernel
theorem dX7_draw_13 : decode cX7_draw 13 = .ok (.aload_n 0, 1) := by decide +kernel
theorem dX7_draw_14 : decode cX7_draw 14 = .ok (.getfield 7, 3) := by decide +kernel
theorem dX7_draw_17 : decode cX7_draw 17 = .ok (.iconst 0, 1) := by decide +kernel
theorem dX7_draw_18 : decode cX7_draw 18 = .ok (.iaload, 1) := by decide +kernel
theorem dX7_draw_19 : decode cX7_draw 19 = .ok (.if_icmp .ne 6, 3) := by decide +kernel
theorem dX7_draw_22 : decode cX7_draw 22 = .ok (.bipush (-5), 2) := by decide +kernel
theorem dX7_draw_24 : decode cX7_draw 24 = .ok (.ireturn, 1) := by decide +kernel
theorem dX7_draw_25 : decode cX7_draw 25 = .ok (.aload_n 0, 1) := by decide +kernel
theorem dX7_draw_26 : decode cX7_draw 26 = .ok (.invokevirtual 54, 3) := by decide +kernel
theorem dX7_draw_29 : decode cX7_draw 29 = .ok (.aload_n 0, 1) := by decide +kernel
theorem dX7_draw_30 : decode cX7_draw 30 = .ok (.invokevirtual 152, 3) := by decide +kernel
theorem dX7_draw_33 : decode cX7_draw 33 = .ok (.ireturn, 1) := by decide +kernel
set_option maxRecDepth 20000 in
theorem ggX7_count_X7_isPile : GoodIn wsX7_count wsX7_isPile := goodIn_r _ [6, 1, 7, 8, 5, 9, 37, 38, 39, 40, 41, 42, 43, 44, 45, 46, 47, 48, 49, 50] (by decide +kernel) (by decide +kernel)
set_option maxRecDepth 20000 in
theorem gX7_count_X7_isPile : GoodIn wsX7_count (wsV RX7 130 RX7 yX7_isPile wsX7_isPile) := goodIn_app (goodIn_of _ (by decide +kernel)) ggX7_count_X7_isPile
set_option maxRecDepth 20000 in
theorem ggX7_count_X7_isOver : GoodIn wsX7_count wsX7_isOver := goodIn_r _ [13, 1, 14, 15, 16, 5, 17, 18, 19, 20, 21, 37, 38, 39, 40, 41, 42, 43, 44, 45, 46, 47, 48, 49, 50] (by decide +kernel) (by decide +kernel)
set_option maxRecDepth 20000 in
theorem gX7_count_X7_isOver : GoodIn wsX7_count (wsV RX7 148 RX7 yX7_isOver wsX7_isOver) := goodIn_app (goodIn_of _ (by decide +kernel)) ggX7_count_X7_isOver
set_option maxRecDepth 20000 in
theorem ggX7_count_X7_isCounted : GoodIn wsX7_count wsX7_isCounted := goodIn_r _ [25, 18, 19, 20, 5, 21, 1, 37, 38, 39, 40, 41, 42, 43, 44, 45, 46, 47, 48, 49, 50] (by decide +kernel) (by decide +kernel)
set_option maxRecDepth 20000 in
theorem gX7_count_X7_isCounted : GoodIn wsX7_count (wsV RX7 43 RX7 yX7_isCounted wsX7_isCounted) := goodIn_app (goodIn_of _ (by decide +kernel)) ggX7_count_X7_isCounted
set_option maxRecDepth 20000 in
theorem ggX7_count_X7_keep : GoodIn wsX7_count wsX7_keep := goodIn_r _ [29, 30, 31, 32, 1, 37, 38, 39, 40, 41, 42, 43, 44, 45, 46, 47, 48, 49, 50] (by decide +kernel) (by decide +kernel)
set_option maxRecDepth 20000 in
theorem gX7_count_X7_keep : GoodIn wsX7_count (wsV RX7 54 RX7 yX7_keep wsX7_keep) := goodIn_app (goodIn_of _ (by decide +kernel)) ggX7_count_X7_keep
set_option maxRecDepth 20000 in
theorem ggX7_count_X7_countOne : GoodIn wsX7_count wsX7_countOne := goodIn_r _ [36, 1, 37, 38, 39, 40, 41, 42, 43, 44, 45, 46, 47, 48, 49, 50] (by decide +kernel) (by decide +kernel)
set_option maxRecDepth 20000 in
theorem gX7_count_X7_countOne : GoodIn wsX7_count (wsV RX7 144 RX7 yX7_countOne wsX7_countOne) := goodIn_app (goodIn_of _ (by decide +kernel)) ggX7_count_X7_countOne
theorem dX7_count_0 : decode cX7_count 0 = .ok (.aload_n 0, 1) := by decide +kernel
theorem dX7_count_1 : decode cX7_count 1 = .ok (.iload_n 1, 1) := by decide +kernel
theorem dX7_count_2 : decode cX7_count 2 = .ok (.invokevirtual 130, 3) := by decide +kernel
theorem dX7_count_5 : decode cX7_count 5 = .ok (.ifCond .ne 5, 3) := by decide +kernel
theorem dX7_count_8 : decode cX7_count 8 = .ok (.iconst (-1), 1) := by decide +kernel
theorem dX7_count_9 : decode cX7_count 9 = .ok (.ireturn, 1) := by decide +kernel
theorem dX7_count_10 : decode cX7_count 10 = .ok (.aload_n 0, 1) := by decide +kernel
theorem dX7_count_11 : decode cX7_count 11 = .ok (.invokevirtual 148, 3) := by decide +kernel
theorem dX7_count_14 : decode cX7_count 14 = .ok (.ifCond .ne 11, 3) := by decide +kernel
theorem dX7_count_17 : decode cX7_count 17 = .ok (.aload_n 0, 1) := by decide +kernel
theorem dX7_count_18 : decode cX7_count 18 = .ok (.iload_n 1, 1) := by decide +kernel
theorem dX7_count_19 : decode cX7_count 19 = .ok (.invokevirtual 43, 3) := by decide +kernel
theorem dX7_count_22 : decode cX7_count 22 = .ok (.ifCond .eq 6, 3) := by decide +kernel
theorem dX7_count_25 : decode cX7_count 25 = .ok (.bipush (-5), 2) := by decide +kernel
theorem dX7_count_27 : decode cX7_count 27 = .ok (.ireturn, 1) := by decide +kernel
theorem dX7_count_28 : decode cX7_count 28 = .ok (.aload_n 0, 1) := by decide +kernel
theorem dX7_count_29 : decode cX7_count 29 = .ok (.invokevirtual 54, 3) := by decide +kernel
theorem dX7_count_32 : decode cX7_count 32 = .ok (.aload_n 0, 1) := by decide +kernel
theorem dX7_count_33 : decode cX7_count 33 = .ok (.iload_n 1, 1) := by decide +kernel
theorem dX7_count_34 : decode cX7_count 34 = .ok (.invokevirtual 144, 3) := by decide +kernel
theorem dX7_count_37 : decode cX7_count 37 = .ok (.aload_n 0, 1) := by decide +kernel
theorem dX7_count_38 : decode cX7_count 38 = .ok (.getfield 7, 3) := by decide +kernel
theorem dX7_count_41 : decode cX7_count 41 = .ok (.iconst 4, 1) := by decide +kernel
theorem dX7_count_42 : decode cX7_count 42 = .ok (.iaload, 1) := by decide +kernel
theorem dX7_count_43 : decode cX7_count 43 = .ok (.ireturn, 1) := by decide +kernel
set_option maxRecDepth 20000 in
theorem ggX7_drawOn_X7_mayStop : GoodIn wsX7_drawOn wsX7_mayStop := goodIn_r _ [6, 1, 7, 8, 9, 5, 10, 11, 12, 13, 14, 15, 16, 17, 18, 19, 20, 21, 22, 23, 24, 25, 26, 27, 28, 29, 30, 31, 32, 33, 34, 35, 36, 37, 38, 39, 40, 41, 42, 43, 44, 45, 46, 47, 48, 49, 50, 51, 52, 53, 54, 55, 56, 57, 58, 59, 60, 61, 62, 63, 64, 65, 66, 67, 68, 69, 70, 71, 72, 73, 74, 75, 76, 77, 78, 79, 80, 81, 82, 83, 84, 85, 86, 87, 100, 101, 102, 103, 104, 105, 106, 107, 108, 109, 110, 111, 112, 113] (by decide +kernel) (by decide +kernel)
set_option maxRecDepth 20000 in
theorem gX7_drawOn_X7_mayStop : GoodIn wsX7_drawOn (wsV RX7 155 RX7 yX7_mayStop wsX7_mayStop) := goodIn_app (goodIn_of _ (by decide +kernel)) ggX7_drawOn_X7_mayStop
set_option maxRecDepth 20000 in
theorem ggX7_drawOn_X7_drawOne : GoodIn wsX7_drawOn wsX7_drawOne := goodIn_r _ [91, 1, 92, 93, 94, 95, 23, 24, 25, 5, 26, 11, 12, 13, 14, 96, 97, 98, 99, 100, 101, 102, 103, 104, 105, 106, 107, 108, 109, 110, 111, 112, 113] (by decide +kernel) (by decide +kernel)
set_option maxRecDepth 20000 in
theorem gX7_drawOn_X7_drawOne : GoodIn wsX7_drawOn (wsV RX7 152 RX7 yX7_drawOne wsX7_drawOne) := goodIn_app (goodIn_of _ (by decide +kernel)) ggX7_drawOn_X7_drawOne
theorem dX7_drawOn_0 : decode cX7_drawOn 0 = .ok (.iconst 0, 1) := by decide +kernel
theorem dX7_drawOn_1 : decode cX7_drawOn 1 = .ok (.istore_n 1, 1) := by decide +kernel
theorem dX7_drawOn_2 : decode cX7_drawOn 2 = .ok (.aload_n 0, 1) := by decide +kernel
theorem dX7_drawOn_3 : decode cX7_drawOn 3 = .ok (.invokevirtual 155, 3) := by decide +kernel
theorem dX7_drawOn_6 : decode cX7_drawOn 6 = .ok (.ifCond .ne 29, 3) := by decide +kernel
theorem dX7_drawOn_9 : decode cX7_drawOn 9 = .ok (.aload_n 0, 1) := by decide +kernel
theorem dX7_drawOn_10 : decode cX7_drawOn 10 = .ok (.getfield 7, 3) := by decide +kernel
theorem dX7_drawOn_13 : decode cX7_drawOn 13 = .ok (.iconst 4, 1) := by decide +kernel
theorem dX7_drawOn_14 : decode cX7_drawOn 14 = .ok (.iaload, 1) := by decide +kernel
theorem dX7_drawOn_15 : decode cX7_drawOn 15 = .ok (.aload_n 0, 1) := by decide +kernel
theorem dX7_drawOn_16 : decode cX7_drawOn 16 = .ok (.getfield 7, 3) := by decide +kernel
theorem dX7_drawOn_19 : decode cX7_drawOn 19 = .ok (.iconst 0, 1) := by decide +kernel
theorem dX7_drawOn_20 : decode cX7_drawOn 20 = .ok (.iaload, 1) := by decide +kernel
theorem dX7_drawOn_21 : decode cX7_drawOn 21 = .ok (.if_icmp .ge 14, 3) := by decide +kernel
theorem dX7_drawOn_24 : decode cX7_drawOn 24 = .ok (.aload_n 0, 1) := by decide +kernel
theorem dX7_drawOn_25 : decode cX7_drawOn 25 = .ok (.invokevirtual 152, 3) := by decide +kernel
theorem dX7_drawOn_28 : decode cX7_drawOn 28 = .ok (.pop, 1) := by decide +kernel
theorem dX7_drawOn_29 : decode cX7_drawOn 29 = .ok (.iinc 1 1, 3) := by decide +kernel
theorem dX7_drawOn_32 : decode cX7_drawOn 32 = .ok (.goto (-30), 3) := by decide +kernel
theorem dX7_drawOn_35 : decode cX7_drawOn 35 = .ok (.iload_n 1, 1) := by decide +kernel
theorem dX7_drawOn_36 : decode cX7_drawOn 36 = .ok (.ireturn, 1) := by decide +kernel
set_option maxRecDepth 20000 in
theorem ggX7_finish_X7_isOver : GoodIn wsX7_finish wsX7_isOver := goodIn_r _ [6, 1, 7, 8, 9, 5, 10, 11, 12, 13, 14, 124, 125, 126, 127, 128, 129, 130, 131, 132, 133, 134, 135, 136, 137] (by decide +kernel) (by decide +kernel)
set_option maxRecDepth 20000 in
theorem gX7_finish_X7_isOver : GoodIn wsX7_finish (wsV RX7 148 RX7 yX7_isOver wsX7_isOver) := goodIn_app (goodIn_of _ (by decide +kernel)) ggX7_finish_X7_isOver
set_option maxRecDepth 20000 in
theorem ggX7_finish_X7_layAside : GoodIn wsX7_finish wsX7_layAside := goodIn_r _ [18, 19, 1, 124, 125, 126, 127, 128, 129, 130, 131, 132, 133, 134, 135, 136, 137] (by decide +kernel) (by decide +kernel)
set_option maxRecDepth 20000 in
theorem gX7_finish_X7_layAside : GoodIn wsX7_finish (wsV RX7 158 RX7 yX7_layAside wsX7_layAside) := goodIn_app (goodIn_of _ (by decide +kernel)) ggX7_finish_X7_layAside
set_option maxRecDepth 20000 in
theorem ggX7_finish_X7_drawOn : GoodIn wsX7_finish wsX7_drawOn := goodIn_r _ [23, 1, 24, 25, 26, 5, 27, 7, 8, 9, 10, 11, 12, 13, 14, 28, 29, 30, 31, 32, 33, 34, 35, 36, 37, 38, 39, 40, 41, 42, 43, 44, 45, 46, 47, 48, 49, 50, 51, 52, 53, 54, 55, 56, 57, 58, 59, 60, 61, 62, 63, 64, 65, 66, 67, 68, 69, 70, 71, 72, 73, 74, 75, 76, 77, 78, 79, 80, 81, 82, 83, 84, 85, 86, 87, 88, 89, 90, 91, 92, 93, 94, 95, 96, 97, 98, 99, 100, 101, 102, 103, 104, 105, 106, 107, 108, 109, 110, 111, 112, 124, 125, 126, 127, 128, 129, 130, 131, 132, 133, 134, 135, 136, 137] (by decide +kernel) (by decide +kernel)
set_option maxRecDepth 20000 in
theorem gX7_finish_X7_drawOn : GoodIn wsX7_finish (wsV RX7 161 RX7 yX7_drawOn wsX7_drawOn) := goodIn_app (goodIn_of _ (by decide +kernel)) ggX7_finish_X7_drawOn
set_option maxRecDepth 20000 in
theorem ggX7_finish_X7_mayStop : GoodIn wsX7_finish wsX7_mayStop := goodIn_r _ [27, 1, 7, 8, 9, 5, 10, 11, 12, 13, 14, 28, 29, 30, 31, 32, 33, 34, 35, 36, 37, 38, 39, 40, 41, 42, 43, 44, 45, 46, 47, 48, 49, 50, 51, 52, 53, 54, 55, 56, 57, 58, 59, 60, 61, 62, 63, 64, 65, 66, 67, 68, 69, 70, 71, 72, 73, 74, 75, 76, 77, 78, 79, 80, 81, 82, 83, 84, 85, 86, 87, 88, 89, 90, 91, 92, 93, 94, 95, 96, 97, 98, 99, 100, 124, 125, 126, 127, 128, 129, 130, 131, 132, 133, 134, 135, 136, 137] (by decide +kernel) (by decide +kernel)
set_option maxRecDepth 20000 in
theorem gX7_finish_X7_mayStop : GoodIn wsX7_finish (wsV RX7 155 RX7 yX7_mayStop wsX7_mayStop) := goodIn_app (goodIn_of _ (by decide +kernel)) ggX7_finish_X7_mayStop
set_option maxRecDepth 20000 in
theorem ggX7_finish_X7_layBack : GoodIn wsX7_finish wsX7_layBack := goodIn_r _ [116, 1, 19, 124, 125, 126, 127, 128, 129, 130, 131, 132, 133, 134, 135, 136, 137] (by decide +kernel) (by decide +kernel)
set_option maxRecDepth 20000 in
theorem gX7_finish_X7_layBack : GoodIn wsX7_finish (wsV RX7 164 RX7 yX7_layBack wsX7_layBack) := goodIn_app (goodIn_of _ (by decide +kernel)) ggX7_finish_X7_layBack
set_option maxRecDepth 20000 in
theorem ggX7_finish_X7_keep : GoodIn wsX7_finish wsX7_keep := goodIn_r _ [120, 121, 122, 123, 1, 124, 125, 126, 127, 128, 129, 130, 131, 132, 133, 134, 135, 136, 137] (by decide +kernel) (by decide +kernel)
set_option maxRecDepth 20000 in
theorem gX7_finish_X7_keep : GoodIn wsX7_finish (wsV RX7 54 RX7 yX7_keep wsX7_keep) := goodIn_app (goodIn_of _ (by decide +kernel)) ggX7_finish_X7_keep
theorem dX7_finish_0 : decode cX7_finish 0 = .ok (.aload_n 0, 1) := by decide +kernel
theorem dX7_finish_1 : decode cX7_finish 1 = .ok (.invokevirtual 148, 3) := by decide +kernel
theorem dX7_finish_4 : decode cX7_finish 4 = .ok (.ifCond .eq 6, 3) := by decide +kernel
theorem dX7_finish_7 : decode cX7_finish 7 = .ok (.bipush (-5), 2) := by decide +kernel
theorem dX7_finish_9 : decode cX7_finish 9 = .ok (.ireturn, 1) := by decide +kernel
theorem dX7_finish_10 : decode cX7_finish 10 = .ok (.aload_n 0, 1) := by decide +kernel
theorem dX7_finish_11 : decode cX7_finish 11 = .ok (.invokevirtual 158, 3) := by decide +kernel
theorem dX7_finish_14 : decode cX7_finish 14 = .ok (.aload_n 0, 1) := by decide +kernel
theorem dX7_finish_15 : decode cX7_finish 15 = .ok (.invokevirtual 161, 3) := by decide +kernel
theorem dX7_finish_18 : decode cX7_finish 18 = .ok (.pop, 1) := by decide +kernel
theorem dX7_finish_19 : decode cX7_finish 19 = .ok (.aload_n 0, 1) := by decide +kernel
theorem dX7_finish_20 : decode cX7_finish 20 = .ok (.invokevirtual 155, 3) := by decide +kernel
theorem dX7_finish_23 : decode cX7_finish 23 = .ok (.istore_n 1, 1) := by decide +kernel
theorem dX7_finish_24 : decode cX7_finish 24 = .ok (.aload_n 0, 1) := by decide +kernel
theorem dX7_finish_25 : decode cX7_finish 25 = .ok (.invokevirtual 164, 3) := by decide +kernel
theorem dX7_finish_28 : decode cX7_finish 28 = .ok (.iload_n 1, 1) := by decide +kernel
theorem dX7_finish_29 : decode cX7_finish 29 = .ok (.ifCond .ne 6, 3) := by decide +kernel
theorem dX7_finish_32 : decode cX7_finish 32 = .ok (.bipush (-5), 2) := by decide +kernel
theorem dX7_finish_34 : decode cX7_finish 34 = .ok (.ireturn, 1) := by decide +kernel
theorem dX7_finish_35 : decode cX7_finish 35 = .ok (.aload_n 0, 1) := by decide +kernel
theorem dX7_finish_36 : decode cX7_finish 36 = .ok (.invokevirtual 54, 3) := by decide +kernel
theorem dX7_finish_39 : decode cX7_finish 39 = .ok (.aload_n 0, 1) := by decide +kernel
theorem dX7_finish_40 : decode cX7_finish 40 = .ok (.invokevirtual 161, 3) := by decide +kernel
theorem dX7_finish_43 : decode cX7_finish 43 = .ok (.istore_n 2, 1) := by decide +kernel
theorem dX7_finish_44 : decode cX7_finish 44 = .ok (.aload_n 0, 1) := by decide +kernel
theorem dX7_finish_45 : decode cX7_finish 45 = .ok (.getfield 7, 3) := by decide +kernel
theorem dX7_finish_48 : decode cX7_finish 48 = .ok (.iconst 3, 1) := by decide +kernel
theorem dX7_finish_49 : decode cX7_finish 49 = .ok (.iconst 1, 1) := by decide +kernel
theorem dX7_finish_50 : decode cX7_finish 50 = .ok (.iastore, 1) := by decide +kernel
theorem dX7_finish_51 : decode cX7_finish 51 = .ok (.iload_n 2, 1) := by decide +kernel
theorem dX7_finish_52 : decode cX7_finish 52 = .ok (.ireturn, 1) := by decide +kernel
set_option maxRecDepth 20000 in
theorem ggX7_stop_X7_isOver : GoodIn wsX7_stop wsX7_isOver := goodIn_r _ [6, 1, 7, 8, 9, 5, 10, 11, 12, 13, 14, 103, 104, 105, 106, 107, 108, 109, 110, 111, 112, 113, 114, 115, 116] (by decide +kernel) (by decide +kernel)
set_option maxRecDepth 20000 in
theorem gX7_stop_X7_isOver : GoodIn wsX7_stop (wsV RX7 148 RX7 yX7_isOver wsX7_isOver) := goodIn_app (goodIn_of _ (by decide +kernel)) ggX7_stop_X7_isOver
set_option maxRecDepth 20000 in
theorem ggX7_stop_X7_mayStop : GoodIn wsX7_stop wsX7_mayStop := goodIn_r _ [18, 1, 7, 8, 9, 5, 10, 11, 12, 13, 14, 19, 20, 21, 22, 23, 24, 25, 26, 27, 28, 29, 30, 31, 32, 33, 34, 35, 36, 37, 38, 39, 40, 41, 42, 43, 44, 45, 46, 47, 48, 49, 50, 51, 52, 53, 54, 55, 56, 57, 58, 59, 60, 61, 62, 63, 64, 65, 66, 67, 68, 69, 70, 71, 72, 73, 74, 75, 76, 77, 78, 79, 80, 81, 82, 83, 84, 85, 86, 87, 88, 89, 90, 91, 103, 104, 105, 106, 107, 108, 109, 110, 111, 112, 113, 114, 115, 116] (by decide +kernel) (by decide +kernel)
set_option maxRecDepth 20000 in
theorem gX7_stop_X7_mayStop : GoodIn wsX7_stop (wsV RX7 155 RX7 yX7_mayStop wsX7_mayStop) := goodIn_app (goodIn_of _ (by decide +kernel)) ggX7_stop_X7_mayStop
set_option maxRecDepth 20000 in
theorem ggX7_stop_X7_keep : GoodIn wsX7_stop wsX7_keep := goodIn_r _ [95, 96, 97, 98, 1, 103, 104, 105, 106, 107, 108, 109, 110, 111, 112, 113, 114, 115, 116] (by decide +kernel) (by decide +kernel)
set_option maxRecDepth 20000 in
theorem gX7_stop_X7_keep : GoodIn wsX7_stop (wsV RX7 54 RX7 yX7_keep wsX7_keep) := goodIn_app (goodIn_of _ (by decide +kernel)) ggX7_stop_X7_keep
set_option maxRecDepth 20000 in
theorem ggX7_stop_X7_isRight : GoodIn wsX7_stop wsX7_isRight := goodIn_r _ [102, 58, 59, 60, 5, 61, 1, 35, 36, 37, 38, 39, 40, 41, 42, 43, 44, 45, 27, 28, 29, 30, 11, 12, 13, 14, 46, 47, 48, 49, 50, 51, 52, 53, 7, 8, 9, 10, 54, 55, 56, 57, 103, 104, 105, 106, 107, 108, 109, 110, 111, 112, 113, 114, 115, 116] (by decide +kernel) (by decide +kernel)
set_option maxRecDepth 20000 in
theorem gX7_stop_X7_isRight : GoodIn wsX7_stop (wsV RX7 167 RX7 yX7_isRight wsX7_isRight) := goodIn_app (goodIn_of _ (by decide +kernel)) ggX7_stop_X7_isRight
theorem dX7_stop_0 : decode cX7_stop 0 = .ok (.aload_n 0, 1) := by decide +kernel
theorem dX7_stop_1 : decode cX7_stop 1 = .ok (.invokevirtual 148, 3) := by decide +kernel
theorem dX7_stop_4 : decode cX7_stop 4 = .ok (.ifCond .ne 10, 3) := by decide +kernel
theorem dX7_stop_7 : decode cX7_stop 7 = .ok (.aload_n 0, 1) := by decide +kernel
theorem dX7_stop_8 : decode cX7_stop 8 = .ok (.invokevirtual 155, 3) := by decide +kernel
theorem dX7_stop_11 : decode cX7_stop 11 = .ok (.ifCond .ne 6, 3) := by decide +kernel
theorem dX7_stop_14 : decode cX7_stop 14 = .ok (.bipush (-5), 2) := by decide +kernel
theorem dX7_stop_16 : decode cX7_stop 16 = .ok (.ireturn, 1) := by decide +kernel
theorem dX7_stop_17 : decode cX7_stop 17 = .ok (.aload_n 0, 1) := by decide +kernel
theorem dX7_stop_18 : decode cX7_stop 18 = .ok (.invokevirtual 54, 3) := by decide +kernel
theorem dX7_stop_21 : decode cX7_stop 21 = .ok (.aload_n 0, 1) := by decide +kernel
theorem dX7_stop_22 : decode cX7_stop 22 = .ok (.getfield 7, 3) := by decide +kernel
theorem dX7_stop_25 : decode cX7_stop 25 = .ok (.iconst 3, 1) := by decide +kernel
theorem dX7_stop_26 : decode cX7_stop 26 = .ok (.iconst 1, 1) := by decide +kernel
theorem dX7_stop_27 : decode cX7_stop 27 = .ok (.iastore, 1) := by decide +kernel
theorem dX7_stop_28 : decode cX7_stop 28 = .ok (.aload_n 0, 1) := by decide +kernel
theorem dX7_stop_29 : decode cX7_stop 29 = .ok (.invokevirtual 167, 3) := by decide +kernel
theorem dX7_stop_32 : decode cX7_stop 32 = .ok (.ifCond .eq 7, 3) := by decide +kernel
theorem dX7_stop_35 : decode cX7_stop 35 = .ok (.iconst 1, 1) := by decide +kernel
theorem dX7_stop_36 : decode cX7_stop 36 = .ok (.goto 4, 3) := by decide +kernel
theorem dX7_stop_39 : decode cX7_stop 39 = .ok (.iconst 0, 1) := by decide +kernel
theorem dX7_stop_40 : decode cX7_stop 40 = .ok (.ireturn, 1) := by decide +kernel
set_option maxRecDepth 20000 in
theorem ggX7_ofPile_X7_isPile : GoodIn wsX7_ofPile wsX7_isPile := goodIn_r _ [5, 6, 7, 8, 4, 9, 42, 43, 44, 45, 46, 47, 48, 49, 50, 51, 52, 53, 54, 55] (by decide +kernel) (by decide +kernel)
set_option maxRecDepth 20000 in
theorem gX7_ofPile_X7_isPile : GoodIn wsX7_ofPile (wsV RX7 130 RX7 yX7_isPile wsX7_isPile) := goodIn_app (goodIn_of _ (by decide +kernel)) ggX7_ofPile_X7_isPile
set_option maxRecDepth 20000 in
theorem ggX7_ofPile_X7_isCounted : GoodIn wsX7_ofPile wsX7_isCounted := goodIn_r _ [13, 14, 15, 16, 4, 17, 6, 42, 43, 44, 45, 46, 47, 48, 49, 50, 51, 52, 53, 54, 55] (by decide +kernel) (by decide +kernel)
set_option maxRecDepth 20000 in
theorem gX7_ofPile_X7_isCounted : GoodIn wsX7_ofPile (wsV RX7 43 RX7 yX7_isCounted wsX7_isCounted) := goodIn_app (goodIn_of _ (by decide +kernel)) ggX7_ofPile_X7_isCounted
set_option maxRecDepth 20000 in
theorem ggX7_ofPile_X7_of : GoodIn wsX7_ofPile wsX7_of := goodIn_r _ [17, 6, 42, 43, 44, 45, 46, 47, 48, 49, 50, 51, 52, 53, 54, 55] (by decide +kernel) (by decide +kernel)
set_option maxRecDepth 20000 in
theorem gX7_ofPile_X7_of : GoodIn wsX7_ofPile (wsV RX7 39 RX7 yX7_of wsX7_of) := goodIn_app (goodIn_of _ (by decide +kernel)) ggX7_ofPile_X7_of
set_option maxRecDepth 20000 in
theorem ggX7_ofPile_X7_size : GoodIn wsX7_ofPile wsX7_size := goodIn_r _ [21, 14, 15, 16, 4, 17, 6, 42, 43, 44, 45, 46, 47, 48, 49, 50, 51, 52, 53, 54, 55] (by decide +kernel) (by decide +kernel)
set_option maxRecDepth 20000 in
theorem gX7_ofPile_X7_size : GoodIn wsX7_ofPile (wsV RX7 68 RX7 yX7_size wsX7_size) := goodIn_app (goodIn_of _ (by decide +kernel)) ggX7_ofPile_X7_size
set_option maxRecDepth 20000 in
theorem ggX7_ofPile_X7_found : GoodIn wsX7_ofPile wsX7_found := goodIn_r _ [25, 14, 15, 16, 4, 17, 6, 26, 27, 28, 29, 30, 31, 32, 33, 42, 43, 44, 45, 46, 47, 48, 49, 50, 51, 52, 53, 54, 55] (by decide +kernel) (by decide +kernel)
set_option maxRecDepth 20000 in
theorem gX7_ofPile_X7_found : GoodIn wsX7_ofPile (wsV RX7 71 RX7 yX7_found wsX7_found) := goodIn_app (goodIn_of _ (by decide +kernel)) ggX7_ofPile_X7_found
set_option maxRecDepth 20000 in
theorem ggX7_ofPile_X7_reported : GoodIn wsX7_ofPile wsX7_reported := goodIn_r _ [37, 14, 15, 16, 4, 17, 6, 26, 27, 28, 29, 30, 31, 32, 33, 42, 43, 44, 45, 46, 47, 48, 49, 50, 51, 52, 53, 54, 55] (by decide +kernel) (by decide +kernel)
set_option maxRecDepth 20000 in
theorem gX7_ofPile_X7_reported : GoodIn wsX7_ofPile (wsV RX7 65 RX7 yX7_reported wsX7_reported) := goodIn_app (goodIn_of _ (by decide +kernel)) ggX7_ofPile_X7_reported
set_option maxRecDepth 20000 in
theorem ggX7_ofPile_X7_winner : GoodIn wsX7_ofPile wsX7_winner := goodIn_r _ [33, 6, 14, 15, 16, 4, 17, 42, 43, 44, 45, 46, 47, 48, 49, 50, 51, 52, 53, 54, 55] (by decide +kernel) (by decide +kernel)
set_option maxRecDepth 20000 in
theorem gX7_ofPile_X7_winner : GoodIn wsX7_ofPile (wsV RX7 57 RX7 yX7_winner wsX7_winner) := goodIn_app (goodIn_of _ (by decide +kernel)) ggX7_ofPile_X7_winner
set_option maxRecDepth 20000 in
theorem ggX7_ofPile_X7_swing : GoodIn wsX7_ofPile wsX7_swing := goodIn_r _ [41, 34, 35, 36, 4, 37, 14, 15, 16, 17, 6, 26, 27, 28, 29, 30, 31, 32, 33, 18, 19, 20, 21, 42, 43, 44, 45, 46, 47, 48, 49, 50, 51, 52, 53, 54, 55] (by decide +kernel) (by decide +kernel)
set_option maxRecDepth 20000 in
theorem gX7_ofPile_X7_swing : GoodIn wsX7_ofPile (wsV RX7 82 RX7 yX7_swing wsX7_swing) := goodIn_app (goodIn_of _ (by decide +kernel)) ggX7_ofPile_X7_swing
theorem dX7_ofPile_0 : decode cX7_ofPile 0 = .ok (.aload_n 0, 1) := by decide +kernel
theorem dX7_ofPile_1 : decode cX7_ofPile 1 = .ok (.iload_n 1, 1) := by decide +kernel
theorem dX7_ofPile_2 : decode cX7_ofPile 2 = .ok (.invokevirtual 130, 3) := by decide +kernel
theorem dX7_ofPile_5 : decode cX7_ofPile 5 = .ok (.ifCond .ne 5, 3) := by decide +kernel
theorem dX7_ofPile_8 : decode cX7_ofPile 8 = .ok (.iconst (-1), 1) := by decide +kernel
theorem dX7_ofPile_9 : decode cX7_ofPile 9 = .ok (.ireturn, 1) := by decide +kernel
theorem dX7_ofPile_10 : decode cX7_ofPile 10 = .ok (.aload_n 0, 1) := by decide +kernel
theorem dX7_ofPile_11 : decode cX7_ofPile 11 = .ok (.iload_n 1, 1) := by decide +kernel
theorem dX7_ofPile_12 : decode cX7_ofPile 12 = .ok (.invokevirtual 43, 3) := by decide +kernel
theorem dX7_ofPile_15 : decode cX7_ofPile 15 = .ok (.istore_n 3, 1) := by decide +kernel
theorem dX7_ofPile_16 : decode cX7_ofPile 16 = .ok (.iload_n 2, 1) := by decide +kernel
theorem dX7_ofPile_17 : decode cX7_ofPile 17 = .ok (.tableswitch 134 0 8 #[51, 51, 51, 58, 64, 71, 71, 89, 112], 51) := by decide +kernel
theorem dX7_ofPile_68 : decode cX7_ofPile 68 = .ok (.aload_n 0, 1) := by decide +kernel
theorem dX7_ofPile_69 : decode cX7_ofPile 69 = .ok (.iload_n 1, 1) := by decide +kernel
theorem dX7_ofPile_70 : decode cX7_ofPile 70 = .ok (.iload_n 2, 1) := by decide +kernel
theorem dX7_ofPile_71 : decode cX7_ofPile 71 = .ok (.invokevirtual 39, 3) := by decide +kernel
theorem dX7_ofPile_74 : decode cX7_ofPile 74 = .ok (.ireturn, 1) := by decide +kernel
theorem dX7_ofPile_75 : decode cX7_ofPile 75 = .ok (.aload_n 0, 1) := by decide +kernel
theorem dX7_ofPile_76 : decode cX7_ofPile 76 = .ok (.iload_n 1, 1) := by decide +kernel
theorem dX7_ofPile_77 : decode cX7_ofPile 77 = .ok (.invokevirtual 68, 3) := by decide +kernel
theorem dX7_ofPile_80 : decode cX7_ofPile 80 = .ok (.ireturn, 1) := by decide +kernel
theorem dX7_ofPile_81 : decode cX7_ofPile 81 = .ok (.aload_n 0, 1) := by decide +kernel
theorem dX7_ofPile_82 : decode cX7_ofPile 82 = .ok (.iload_n 1, 1) := by decide +kernel
theorem dX7_ofPile_83 : decode cX7_ofPile 83 = .ok (.iconst 5, 1) := by decide +kernel
theorem dX7_ofPile_84 : decode cX7_ofPile 84 = .ok (.invokevirtual 39, 3) := by decide +kernel
theorem dX7_ofPile_87 : decode cX7_ofPile 87 = .ok (.ireturn, 1) := by decide +kernel
theorem dX7_ofPile_88 : decode cX7_ofPile 88 = .ok (.iload_n 3, 1) := by decide +kernel
theorem dX7_ofPile_89 : decode cX7_ofPile 89 = .ok (.ifCond .eq 14, 3) := by decide +kernel
theorem dX7_ofPile_92 : decode cX7_ofPile 92 = .ok (.aload_n 0, 1) := by decide +kernel
theorem dX7_ofPile_93 : decode cX7_ofPile 93 = .ok (.iload_n 1, 1) := by decide +kernel
theorem dX7_ofPile_94 : decode cX7_ofPile 94 = .ok (.iload_n 2, 1) := by decide +kernel
theorem dX7_ofPile_95 : decode cX7_ofPile 95 = .ok (.iconst 2, 1) := by decide +kernel
theorem dX7_ofPile_96 : decode cX7_ofPile 96 = .ok (.isub, 1) := by decide +kernel
theorem dX7_ofPile_97 : decode cX7_ofPile 97 = .ok (.invokevirtual 39, 3) := by decide +kernel
theorem dX7_ofPile_100 : decode cX7_ofPile 100 = .ok (.goto 5, 3) := by decide +kernel
theorem dX7_ofPile_103 : decode cX7_ofPile 103 = .ok (.bipush (-6), 2) := by decide +kernel
theorem dX7_ofPile_105 : decode cX7_ofPile 105 = .ok (.ireturn, 1) := by decide +kernel
theorem dX7_ofPile_106 : decode cX7_ofPile 106 = .ok (.iload_n 3, 1) := by decide +kernel
theorem dX7_ofPile_107 : decode cX7_ofPile 107 = .ok (.ifCond .eq 20, 3) := by decide +kernel
theorem dX7_ofPile_110 : decode cX7_ofPile 110 = .ok (.aload_n 0, 1) := by decide +kernel
theorem dX7_ofPile_111 : decode cX7_ofPile 111 = .ok (.iload_n 1, 1) := by decide +kernel
theorem dX7_ofPile_112 : decode cX7_ofPile 112 = .ok (.invokevirtual 71, 3) := by decide +kernel
theorem dX7_ofPile_115 : decode cX7_ofPile 115 = .ok (.aload_n 0, 1) := by decide +kernel
theorem dX7_ofPile_116 : decode cX7_ofPile 116 = .ok (.iload_n 1, 1) := by decide +kernel
theorem dX7_ofPile_117 : decode cX7_ofPile 117 = .ok (.invokevirtual 65, 3) := by decide +kernel
theorem dX7_ofPile_120 : decode cX7_ofPile 120 = .ok (.if_icmp .ge 7, 3) := by decide +kernel
theorem dX7_ofPile_123 : decode cX7_ofPile 123 = .ok (.iconst 1, 1) := by decide +kernel
theorem dX7_ofPile_124 : decode cX7_ofPile 124 = .ok (.goto 4, 3) := by decide +kernel
theorem dX7_ofPile_127 : decode cX7_ofPile 127 = .ok (.iconst 0, 1) := by decide +kernel
theorem dX7_ofPile_128 : decode cX7_ofPile 128 = .ok (.ireturn, 1) := by decide +kernel
theorem dX7_ofPile_129 : decode cX7_ofPile 129 = .ok (.iload_n 3, 1) := by decide +kernel
theorem dX7_ofPile_130 : decode cX7_ofPile 130 = .ok (.ifCond .ne 10, 3) := by decide +kernel
theorem dX7_ofPile_133 : decode cX7_ofPile 133 = .ok (.aload_n 0, 1) := by decide +kernel
theorem dX7_ofPile_134 : decode cX7_ofPile 134 = .ok (.invokevirtual 57, 3) := by decide +kernel
theorem dX7_ofPile_137 : decode cX7_ofPile 137 = .ok (.ifCond .ge 8, 3) := by decide +kernel
theorem dX7_ofPile_140 : decode cX7_ofPile 140 = .ok (.bipush (-6), 2) := by decide +kernel
theorem dX7_ofPile_142 : decode cX7_ofPile 142 = .ok (.goto 8, 3) := by decide +kernel
theorem dX7_ofPile_145 : decode cX7_ofPile 145 = .ok (.aload_n 0, 1) := by decide +kernel
theorem dX7_ofPile_146 : decode cX7_ofPile 146 = .ok (.iload_n 1, 1) := by decide +kernel
theorem dX7_ofPile_147 : decode cX7_ofPile 147 = .ok (.invokevirtual 82, 3) := by decide +kernel
theorem dX7_ofPile_150 : decode cX7_ofPile 150 = .ok (.ireturn, 1) := by decide +kernel
theorem dX7_ofPile_151 : decode cX7_ofPile 151 = .ok (.bipush (-2), 2) := by decide +kernel
theorem dX7_ofPile_153 : decode cX7_ofPile 153 = .ok (.ireturn, 1) := by decide +kernel
set_option maxRecDepth 20000 in
theorem ggX7_needNow_X7_countedSet : GoodIn wsX7_needNow wsX7_countedSet := goodIn_r _ [5, 6, 7, 8, 9, 4, 10, 11, 12, 13, 14, 61, 62, 63, 64, 65, 66, 67, 68, 69, 70, 71, 72, 73, 74] (by decide +kernel) (by decide +kernel)
set_option maxRecDepth 20000 in
theorem gX7_needNow_X7_countedSet : GoodIn wsX7_needNow (wsV RX7 113 RX7 yX7_countedSet wsX7_countedSet) := goodIn_app (goodIn_of _ (by decide +kernel)) ggX7_needNow_X7_countedSet
set_option maxRecDepth 20000 in
theorem ggX7_needNow_X7_winner : GoodIn wsX7_needNow wsX7_winner := goodIn_r _ [18, 6, 11, 12, 13, 4, 14, 61, 62, 63, 64, 65, 66, 67, 68, 69, 70, 71, 72, 73, 74] (by decide +kernel) (by decide +kernel)
set_option maxRecDepth 20000 in
theorem gX7_needNow_X7_winner : GoodIn wsX7_needNow (wsV RX7 57 RX7 yX7_winner wsX7_winner) := goodIn_app (goodIn_of _ (by decide +kernel)) ggX7_needNow_X7_winner
set_option maxRecDepth 20000 in
theorem ggX7_needNow_X7_lead : GoodIn wsX7_needNow wsX7_lead := goodIn_r _ [22, 6, 23, 24, 4, 25, 26, 27, 28, 29, 7, 8, 9, 10, 11, 12, 13, 14, 30, 31, 32, 33, 34, 35, 36, 37, 15, 16, 17, 18, 38, 39, 40, 41, 61, 62, 63, 64, 65, 66, 67, 68, 69, 70, 71, 72, 73, 74] (by decide +kernel) (by decide +kernel)
set_option maxRecDepth 20000 in
theorem gX7_needNow_X7_lead : GoodIn wsX7_needNow (wsV RX7 94 RX7 yX7_lead wsX7_lead) := goodIn_app (goodIn_of _ (by decide +kernel)) ggX7_needNow_X7_lead
set_option maxRecDepth 20000 in
theorem ggX7_needNow_X7_wrongFor : GoodIn wsX7_needNow wsX7_wrongFor := goodIn_r _ [45, 46, 47, 48, 4, 49, 6, 23, 24, 25, 50, 51, 52, 53, 30, 31, 32, 33, 11, 12, 13, 14, 34, 35, 36, 37, 15, 16, 17, 18, 54, 55, 56, 57, 61, 62, 63, 64, 65, 66, 67, 68, 69, 70, 71, 72, 73, 74] (by decide +kernel) (by decide +kernel)
set_option maxRecDepth 20000 in
theorem gX7_needNow_X7_wrongFor : GoodIn wsX7_needNow (wsV RX7 103 RX7 yX7_wrongFor wsX7_wrongFor) := goodIn_app (goodIn_of _ (by decide +kernel)) ggX7_needNow_X7_wrongFor
set_option maxRecDepth 20000 in
theorem ggX7_needNow_X7_many : GoodIn wsX7_needNow wsX7_many := goodIn_r _ [60] (by decide +kernel) (by decide +kernel)
set_option maxRecDepth 20000 in
theorem gX7_needNow_X7_many : GoodIn wsX7_needNow (va_wsS RX7 106 yX7_many wsX7_many) := goodIn_app (goodIn_of _ (by decide +kernel)) ggX7_needNow_X7_many
theorem dX7_needNow_0 : decode cX7_needNow 0 = .ok (.aload_n 0, 1) := by decide +kernel
theorem dX7_needNow_1 : decode cX7_needNow 1 = .ok (.invokevirtual 113, 3) := by decide +kernel
theorem dX7_needNow_4 : decode cX7_needNow 4 = .ok (.istore_n 1, 1) := by decide +kernel
theorem dX7_needNow_5 : decode cX7_needNow 5 = .ok (.aload_n 0, 1) := by decide +kernel
theorem dX7_needNow_6 : decode cX7_needNow 6 = .ok (.invokevirtual 57, 3) := by decide +kernel
theorem dX7_needNow_9 : decode cX7_needNow 9 = .ok (.ifCond .ge 8, 3) := by decide +kernel
theorem dX7_needNow_12 : decode cX7_needNow 12 = .ok (.bipush (-6), 2) := by decide +kernel
theorem dX7_needNow_14 : decode cX7_needNow 14 = .ok (.goto 14, 3) := by decide +kernel
theorem dX7_needNow_17 : decode cX7_needNow 17 = .ok (.aload_n 0, 1) := by decide +kernel
theorem dX7_needNow_18 : decode cX7_needNow 18 = .ok (.iload_n 1, 1) := by decide +kernel
theorem dX7_needNow_19 : decode cX7_needNow 19 = .ok (.aload_n 0, 1) := by decide +kernel
theorem dX7_needNow_20 : decode cX7_needNow 20 = .ok (.iload_n 1, 1) := by decide +kernel
theorem dX7_needNow_21 : decode cX7_needNow 21 = .ok (.iconst 0, 1) := by decide +kernel
theorem dX7_needNow_22 : decode cX7_needNow 22 = .ok (.invokevirtual 94, 3) := by decide +kernel
theorem dX7_needNow_25 : decode cX7_needNow 25 = .ok (.invokevirtual 103, 3) := by decide +kernel
theorem dX7_needNow_28 : decode cX7_needNow 28 = .ok (.istore_n 2, 1) := by decide +kernel
theorem dX7_needNow_29 : decode cX7_needNow 29 = .ok (.iload_n 2, 1) := by decide +kernel
theorem dX7_needNow_30 : decode cX7_needNow 30 = .ok (.ifCond .ge 8, 3) := by decide +kernel
theorem dX7_needNow_33 : decode cX7_needNow 33 = .ok (.bipush (-6), 2) := by decide +kernel
theorem dX7_needNow_35 : decode cX7_needNow 35 = .ok (.goto 7, 3) := by decide +kernel
theorem dX7_needNow_38 : decode cX7_needNow 38 = .ok (.iload_n 2, 1) := by decide +kernel
theorem dX7_needNow_39 : decode cX7_needNow 39 = .ok (.invokestatic 106, 3) := by decide +kernel
theorem dX7_needNow_42 : decode cX7_needNow 42 = .ok (.ireturn, 1) := by decide +kernel
set_option maxRecDepth 20000 in
theorem ggX7_state_X7_winner : GoodIn wsX7_state wsX7_winner := goodIn_r _ [9, 1, 10, 11, 12, 8, 13, 95, 96, 97, 98, 99, 100, 101, 102, 103, 104, 105, 106, 107, 108] (by decide +kernel) (by decide +kernel)
set_option maxRecDepth 20000 in
theorem gX7_state_X7_winner : GoodIn wsX7_state (wsV RX7 57 RX7 yX7_winner wsX7_winner) := goodIn_app (goodIn_of _ (by decide +kernel)) ggX7_state_X7_winner
set_option maxRecDepth 20000 in
theorem ggX7_state_X7_lead : GoodIn wsX7_state wsX7_lead := goodIn_r _ [17, 1, 18, 19, 8, 20, 21, 22, 23, 24, 25, 26, 27, 28, 10, 11, 12, 13, 29, 30, 31, 32, 33, 34, 35, 36, 5, 6, 7, 9, 37, 38, 39, 40, 95, 96, 97, 98, 99, 100, 101, 102, 103, 104, 105, 106, 107, 108] (by decide +kernel) (by decide +kernel)
set_option maxRecDepth 20000 in
theorem gX7_state_X7_lead : GoodIn wsX7_state (wsV RX7 94 RX7 yX7_lead wsX7_lead) := goodIn_app (goodIn_of _ (by decide +kernel)) ggX7_state_X7_lead
set_option maxRecDepth 20000 in
theorem ggX7_state_X7_countedSet : GoodIn wsX7_state wsX7_countedSet := goodIn_r _ [44, 1, 25, 26, 27, 8, 28, 10, 11, 12, 13, 95, 96, 97, 98, 99, 100, 101, 102, 103, 104, 105, 106, 107, 108] (by decide +kernel) (by decide +kernel)
set_option maxRecDepth 20000 in
theorem gX7_state_X7_countedSet : GoodIn wsX7_state (wsV RX7 113 RX7 yX7_countedSet wsX7_countedSet) := goodIn_app (goodIn_of _ (by decide +kernel)) ggX7_state_X7_countedSet
set_option maxRecDepth 20000 in
theorem ggX7_state_X7_needNow : GoodIn wsX7_state wsX7_needNow := goodIn_r _ [48, 41, 42, 43, 8, 44, 1, 25, 26, 27, 28, 10, 11, 12, 13, 5, 6, 7, 9, 14, 15, 16, 17, 18, 19, 20, 21, 22, 23, 24, 29, 30, 31, 32, 33, 34, 35, 36, 37, 38, 39, 40, 49, 50, 51, 52, 53, 54, 55, 56, 57, 58, 59, 60, 61, 62, 63, 64, 65, 66, 67, 95, 96, 97, 98, 99, 100, 101, 102, 103, 104, 105, 106, 107, 108] (by decide +kernel) (by decide +kernel)
set_option maxRecDepth 20000 in
theorem gX7_state_X7_needNow : GoodIn wsX7_state (wsV RX7 170 RX7 yX7_needNow wsX7_needNow) := goodIn_app (goodIn_of _ (by decide +kernel)) ggX7_state_X7_needNow
set_option maxRecDepth 20000 in
theorem ggX7_state_X7_riskNow : GoodIn wsX7_state wsX7_riskNow := goodIn_r _ [71, 5, 6, 7, 8, 9, 1, 10, 11, 12, 13, 41, 42, 43, 44, 25, 26, 27, 28, 72, 73, 74, 75, 14, 15, 16, 17, 18, 19, 20, 21, 22, 23, 24, 29, 30, 31, 32, 33, 34, 35, 36, 37, 38, 39, 40, 76, 77, 78, 79, 80, 81, 82, 83, 49, 50, 51, 52, 53, 54, 55, 56, 57, 58, 59, 60, 61, 62, 63, 64, 65, 66, 67, 84, 85, 86, 87, 88, 89, 90, 95, 96, 97, 98, 99, 100, 101, 102, 103, 104, 105, 106, 107, 108] (by decide +kernel) (by decide +kernel)
set_option maxRecDepth 20000 in
theorem gX7_state_X7_riskNow : GoodIn wsX7_state (wsV RX7 119 RX7 yX7_riskNow wsX7_riskNow) := goodIn_app (goodIn_of _ (by decide +kernel)) ggX7_state_X7_riskNow
set_option maxRecDepth 20000 in
theorem ggX7_state_X7_worse : GoodIn wsX7_state wsX7_worse := goodIn_r _ [83, 1, 18, 19, 8, 20, 21, 22, 23, 24, 25, 26, 27, 28, 10, 11, 12, 13, 29, 30, 31, 32, 33, 34, 35, 36, 5, 6, 7, 9, 37, 38, 39, 40, 95, 96, 97, 98, 99, 100, 101, 102, 103, 104, 105, 106, 107, 108] (by decide +kernel) (by decide +kernel)
set_option maxRecDepth 20000 in
theorem gX7_state_X7_worse : GoodIn wsX7_state (wsV RX7 100 RX7 yX7_worse wsX7_worse) := goodIn_app (goodIn_of _ (by decide +kernel)) ggX7_state_X7_worse
set_option maxRecDepth 20000 in
theorem ggX7_state_X7_mayStop : GoodIn wsX7_state wsX7_mayStop := goodIn_r _ [94, 1, 5, 6, 7, 8, 9, 10, 11, 12, 13, 68, 69, 70, 71, 41, 42, 43, 44, 25, 26, 27, 28, 72, 73, 74, 75, 14, 15, 16, 17, 18, 19, 20, 21, 22, 23, 24, 29, 30, 31, 32, 33, 34, 35, 36, 37, 38, 39, 40, 76, 77, 78, 79, 80, 81, 82, 83, 49, 50, 51, 52, 53, 54, 55, 56, 57, 58, 59, 60, 61, 62, 63, 64, 65, 66, 67, 84, 85, 86, 87, 88, 89, 90, 95, 96, 97, 98, 99, 100, 101, 102, 103, 104, 105, 106, 107, 108] (by decide +kernel) (by decide +kernel)
set_option maxRecDepth 20000 in
theorem gX7_state_X7_mayStop : GoodIn wsX7_state (wsV RX7 155 RX7 yX7_mayStop wsX7_mayStop) := goodIn_app (goodIn_of _ (by decide +kernel)) ggX7_state_X7_mayStop
theorem dX7_state_0 : decode cX7_state 0 = .ok (.iload_n 1, 1) := by decide +kernel
theorem dX7_state_1 : decode cX7_state 1 = .ok (.tableswitch 201 0 13 #[71, 78, 85, 90, 112, 137, 142, 147, 157, 164, 177, 184, 191, 196], 71) := by decide +kernel
theorem dX7_state_72 : decode cX7_state 72 = .ok (.aload_n 0, 1) := by decide +kernel
theorem dX7_state_73 : decode cX7_state 73 = .ok (.getfield 7, 3) := by decide +kernel
theorem dX7_state_76 : decode cX7_state 76 = .ok (.iconst 0, 1) := by decide +kernel
theorem dX7_state_77 : decode cX7_state 77 = .ok (.iaload, 1) := by decide +kernel
theorem dX7_state_78 : decode cX7_state 78 = .ok (.ireturn, 1) := by decide +kernel
theorem dX7_state_79 : decode cX7_state 79 = .ok (.aload_n 0, 1) := by decide +kernel
theorem dX7_state_80 : decode cX7_state 80 = .ok (.getfield 7, 3) := by decide +kernel
theorem dX7_state_83 : decode cX7_state 83 = .ok (.iconst 4, 1) := by decide +kernel
theorem dX7_state_84 : decode cX7_state 84 = .ok (.iaload, 1) := by decide +kernel
theorem dX7_state_85 : decode cX7_state 85 = .ok (.ireturn, 1) := by decide +kernel
theorem dX7_state_86 : decode cX7_state 86 = .ok (.aload_n 0, 1) := by decide +kernel
theorem dX7_state_87 : decode cX7_state 87 = .ok (.invokevirtual 57, 3) := by decide +kernel
theorem dX7_state_90 : decode cX7_state 90 = .ok (.ireturn, 1) := by decide +kernel
theorem dX7_state_91 : decode cX7_state 91 = .ok (.aload_n 0, 1) := by decide +kernel
theorem dX7_state_92 : decode cX7_state 92 = .ok (.invokevirtual 57, 3) := by decide +kernel
theorem dX7_state_95 : decode cX7_state 95 = .ok (.ifCond .ge 8, 3) := by decide +kernel
theorem dX7_state_98 : decode cX7_state 98 = .ok (.bipush (-6), 2) := by decide +kernel
theorem dX7_state_100 : decode cX7_state 100 = .ok (.goto 12, 3) := by decide +kernel
theorem dX7_state_103 : decode cX7_state 103 = .ok (.ldc 133, 2) := by decide +kernel
theorem dX7_state_105 : decode cX7_state 105 = .ok (.aload_n 0, 1) := by decide +kernel
theorem dX7_state_106 : decode cX7_state 106 = .ok (.iconst 0, 1) := by decide +kernel
theorem dX7_state_107 : decode cX7_state 107 = .ok (.iconst 0, 1) := by decide +kernel
theorem dX7_state_108 : decode cX7_state 108 = .ok (.invokevirtual 94, 3) := by decide +kernel
theorem dX7_state_111 : decode cX7_state 111 = .ok (.iadd, 1) := by decide +kernel
theorem dX7_state_112 : decode cX7_state 112 = .ok (.ireturn, 1) := by decide +kernel
theorem dX7_state_113 : decode cX7_state 113 = .ok (.aload_n 0, 1) := by decide +kernel
theorem dX7_state_114 : decode cX7_state 114 = .ok (.invokevirtual 57, 3) := by decide +kernel
theorem dX7_state_117 : decode cX7_state 117 = .ok (.ifCond .ge 8, 3) := by decide +kernel
theorem dX7_state_120 : decode cX7_state 120 = .ok (.bipush (-6), 2) := by decide +kernel
theorem dX7_state_122 : decode cX7_state 122 = .ok (.goto 15, 3) := by decide +kernel
theorem dX7_state_125 : decode cX7_state 125 = .ok (.ldc 133, 2) := by decide +kernel
theorem dX7_state_127 : decode cX7_state 127 = .ok (.aload_n 0, 1) := by decide +kernel
theorem dX7_state_128 : decode cX7_state 128 = .ok (.aload_n 0, 1) := by decide +kernel
theorem dX7_state_129 : decode cX7_state 129 = .ok (.invokevirtual 113, 3) := by decide +kernel
theorem dX7_state_132 : decode cX7_state 132 = .ok (.iconst 0, 1) := by decide +kernel
theorem dX7_state_133 : decode cX7_state 133 = .ok (.invokevirtual 94, 3) := by decide +kernel
theorem dX7_state_136 : decode cX7_state 136 = .ok (.iadd, 1) := by decide +kernel
theorem dX7_state_137 : decode cX7_state 137 = .ok (.ireturn, 1) := by decide +kernel
theorem dX7_state_138 : decode cX7_state 138 = .ok (.aload_n 0, 1) := by decide +kernel
theorem dX7_state_139 : decode cX7_state 139 = .ok (.invokevirtual 170, 3) := by decide +kernel
theorem dX7_state_142 : decode cX7_state 142 = .ok (.ireturn, 1) := by decide +kernel
theorem dX7_state_143 : decode cX7_state 143 = .ok (.aload_n 0, 1) := by decide +kernel
theorem dX7_state_144 : decode cX7_state 144 = .ok (.invokevirtual 119, 3) := by decide +kernel
theorem dX7_state_147 : decode cX7_state 147 = .ok (.ireturn, 1) := by decide +kernel
theorem dX7_state_148 : decode cX7_state 148 = .ok (.aload_n 0, 1) := by decide +kernel
theorem dX7_state_149 : decode cX7_state 149 = .ok (.aload_n 0, 1) := by decide +kernel
theorem dX7_state_150 : decode cX7_state 150 = .ok (.invokevirtual 113, 3) := by decide +kernel
theorem dX7_state_153 : decode cX7_state 153 = .ok (.iconst 0, 1) := by decide +kernel
theorem dX7_state_154 : decode cX7_state 154 = .ok (.invokevirtual 100, 3) := by decide +kernel
theorem dX7_state_157 : decode cX7_state 157 = .ok (.ireturn, 1) := by decide +kernel
theorem dX7_state_158 : decode cX7_state 158 = .ok (.aload_n 0, 1) := by decide +kernel
theorem dX7_state_159 : decode cX7_state 159 = .ok (.getfield 7, 3) := by decide +kernel
theorem dX7_state_162 : decode cX7_state 162 = .ok (.iconst 3, 1) := by decide +kernel
theorem dX7_state_163 : decode cX7_state 163 = .ok (.iaload, 1) := by decide +kernel
theorem dX7_state_164 : decode cX7_state 164 = .ok (.ireturn, 1) := by decide +kernel
theorem dX7_state_165 : decode cX7_state 165 = .ok (.aload_n 0, 1) := by decide +kernel
theorem dX7_state_166 : decode cX7_state 166 = .ok (.invokevirtual 155, 3) := by decide +kernel
theorem dX7_state_169 : decode cX7_state 169 = .ok (.ifCond .eq 7, 3) := by decide +kernel
theorem dX7_state_172 : decode cX7_state 172 = .ok (.iconst 1, 1) := by decide +kernel
theorem dX7_state_173 : decode cX7_state 173 = .ok (.goto 4, 3) := by decide +kernel
theorem dX7_state_176 : decode cX7_state 176 = .ok (.iconst 0, 1) := by decide +kernel
theorem dX7_state_177 : decode cX7_state 177 = .ok (.ireturn, 1) := by decide +kernel
theorem dX7_state_178 : decode cX7_state 178 = .ok (.aload_n 0, 1) := by decide +kernel
theorem dX7_state_179 : decode cX7_state 179 = .ok (.getfield 7, 3) := by decide +kernel
theorem dX7_state_182 : decode cX7_state 182 = .ok (.iconst 1, 1) := by decide +kernel
theorem dX7_state_183 : decode cX7_state 183 = .ok (.iaload, 1) := by decide +kernel
theorem dX7_state_184 : decode cX7_state 184 = .ok (.ireturn, 1) := by decide +kernel
theorem dX7_state_185 : decode cX7_state 185 = .ok (.aload_n 0, 1) := by decide +kernel
theorem dX7_state_186 : decode cX7_state 186 = .ok (.getfield 7, 3) := by decide +kernel
theorem dX7_state_189 : decode cX7_state 189 = .ok (.iconst 2, 1) := by decide +kernel
theorem dX7_state_190 : decode cX7_state 190 = .ok (.iaload, 1) := by decide +kernel
theorem dX7_state_191 : decode cX7_state 191 = .ok (.ireturn, 1) := by decide +kernel
theorem dX7_state_192 : decode cX7_state 192 = .ok (.aload_n 0, 1) := by decide +kernel
theorem dX7_state_193 : decode cX7_state 193 = .ok (.getfield 173, 3) := by decide +kernel
theorem dX7_state_196 : decode cX7_state 196 = .ok (.ireturn, 1) := by decide +kernel
theorem dX7_state_197 : decode cX7_state 197 = .ok (.aload_n 0, 1) := by decide +kernel
theorem dX7_state_198 : decode cX7_state 198 = .ok (.getfield 47, 3) := by decide +kernel
theorem dX7_state_201 : decode cX7_state 201 = .ok (.ireturn, 1) := by decide +kernel
theorem dX7_state_202 : decode cX7_state 202 = .ok (.bipush (-2), 2) := by decide +kernel
theorem dX7_state_204 : decode cX7_state 204 = .ok (.ireturn, 1) := by decide +kernel
set_option maxRecDepth 20000 in
theorem ggX7_counted_X7_isCounted : GoodIn wsX7_counted wsX7_isCounted := goodIn_r _ [6, 7, 8, 9, 5, 10, 1, 11, 12, 13, 14, 15, 16, 17, 18, 19, 20, 21, 22, 23, 24] (by decide +kernel) (by decide +kernel)
set_option maxRecDepth 20000 in
theorem gX7_counted_X7_isCounted : GoodIn wsX7_counted (wsV RX7 43 RX7 yX7_isCounted wsX7_isCounted) := goodIn_app (goodIn_of _ (by decide +kernel)) ggX7_counted_X7_isCounted
set_option maxRecDepth 20000 in
theorem ggX7_counted_X7_of : GoodIn wsX7_counted wsX7_of := goodIn_r _ [10, 1, 11, 12, 13, 14, 15, 16, 17, 18, 19, 20, 21, 22, 23, 24] (by decide +kernel) (by decide +kernel)
set_option maxRecDepth 20000 in
theorem gX7_counted_X7_of : GoodIn wsX7_counted (wsV RX7 39 RX7 yX7_of wsX7_of) := goodIn_app (goodIn_of _ (by decide +kernel)) ggX7_counted_X7_of
theorem dX7_counted_0 : decode cX7_counted 0 = .ok (.iconst 0, 1) := by decide +kernel
theorem dX7_counted_1 : decode cX7_counted 1 = .ok (.istore_n 2, 1) := by decide +kernel
theorem dX7_counted_2 : decode cX7_counted 2 = .ok (.iload_n 2, 1) := by decide +kernel
theorem dX7_counted_3 : decode cX7_counted 3 = .ok (.aload_n 0, 1) := by decide +kernel
theorem dX7_counted_4 : decode cX7_counted 4 = .ok (.getfield 7, 3) := by decide +kernel
theorem dX7_counted_7 : decode cX7_counted 7 = .ok (.iconst 0, 1) := by decide +kernel
theorem dX7_counted_8 : decode cX7_counted 8 = .ok (.iaload, 1) := by decide +kernel
theorem dX7_counted_9 : decode cX7_counted 9 = .ok (.if_icmp .ge 29, 3) := by decide +kernel
theorem dX7_counted_12 : decode cX7_counted 12 = .ok (.aload_n 0, 1) := by decide +kernel
theorem dX7_counted_13 : decode cX7_counted 13 = .ok (.iload_n 2, 1) := by decide +kernel
theorem dX7_counted_14 : decode cX7_counted 14 = .ok (.invokevirtual 43, 3) := by decide +kernel
theorem dX7_counted_17 : decode cX7_counted 17 = .ok (.ifCond .eq 15, 3) := by decide +kernel
theorem dX7_counted_20 : decode cX7_counted 20 = .ok (.aload_n 0, 1) := by decide +kernel
theorem dX7_counted_21 : decode cX7_counted 21 = .ok (.iload_n 2, 1) := by decide +kernel
theorem dX7_counted_22 : decode cX7_counted 22 = .ok (.iconst 5, 1) := by decide +kernel
theorem dX7_counted_23 : decode cX7_counted 23 = .ok (.invokevirtual 39, 3) := by decide +kernel
theorem dX7_counted_26 : decode cX7_counted 26 = .ok (.iload_n 1, 1) := by decide +kernel
theorem dX7_counted_27 : decode cX7_counted 27 = .ok (.if_icmp .ne 5, 3) := by decide +kernel
theorem dX7_counted_30 : decode cX7_counted 30 = .ok (.iload_n 2, 1) := by decide +kernel
theorem dX7_counted_31 : decode cX7_counted 31 = .ok (.ireturn, 1) := by decide +kernel
theorem dX7_counted_32 : decode cX7_counted 32 = .ok (.iinc 2 1, 3) := by decide +kernel
theorem dX7_counted_35 : decode cX7_counted 35 = .ok (.goto (-33), 3) := by decide +kernel
theorem dX7_counted_38 : decode cX7_counted 38 = .ok (.iconst (-1), 1) := by decide +kernel
theorem dX7_counted_39 : decode cX7_counted 39 = .ok (.ireturn, 1) := by decide +kernel
set_option maxRecDepth 20000 in
theorem ggX7_riskOf_X7_in : GoodIn wsX7_riskOf wsX7_in := goodIn_r _ [4] (by decide +kernel) (by decide +kernel)
set_option maxRecDepth 20000 in
theorem gX7_riskOf_X7_in : GoodIn wsX7_riskOf (va_wsS RX7 35 yX7_in wsX7_in) := goodIn_app (goodIn_of _ (by decide +kernel)) ggX7_riskOf_X7_in
set_option maxRecDepth 20000 in
theorem ggX7_riskOf_X7_byNumbers : GoodIn wsX7_riskOf wsX7_byNumbers := goodIn_r _ [7, 8, 9, 10, 3, 11] (by decide +kernel) (by decide +kernel)
set_option maxRecDepth 20000 in
theorem gX7_riskOf_X7_byNumbers : GoodIn wsX7_riskOf (va_wsS RX7 109 yX7_byNumbers wsX7_byNumbers) := goodIn_app (goodIn_of _ (by decide +kernel)) ggX7_riskOf_X7_byNumbers
theorem dX7_riskOf_0 : decode cX7_riskOf 0 = .ok (.iload_n 1, 1) := by decide +kernel
theorem dX7_riskOf_1 : decode cX7_riskOf 1 = .ok (.iconst 1, 1) := by decide +kernel
theorem dX7_riskOf_2 : decode cX7_riskOf 2 = .ok (.bipush 20, 2) := by decide +kernel
theorem dX7_riskOf_4 : decode cX7_riskOf 4 = .ok (.invokestatic 35, 3) := by decide +kernel
theorem dX7_riskOf_7 : decode cX7_riskOf 7 = .ok (.ifCond .eq 30, 3) := by decide +kernel
theorem dX7_riskOf_10 : decode cX7_riskOf 10 = .ok (.iload_n 2, 1) := by decide +kernel
theorem dX7_riskOf_11 : decode cX7_riskOf 11 = .ok (.iconst 0, 1) := by decide +kernel
theorem dX7_riskOf_12 : decode cX7_riskOf 12 = .ok (.iload_n 1, 1) := by decide +kernel
theorem dX7_riskOf_13 : decode cX7_riskOf 13 = .ok (.invokestatic 35, 3) := by decide +kernel
theorem dX7_riskOf_16 : decode cX7_riskOf 16 = .ok (.ifCond .eq 21, 3) := by decide +kernel
theorem dX7_riskOf_19 : decode cX7_riskOf 19 = .ok (.iload_n 3, 1) := by decide +kernel
theorem dX7_riskOf_20 : decode cX7_riskOf 20 = .ok (.iconst 1, 1) := by decide +kernel
theorem dX7_riskOf_21 : decode cX7_riskOf 21 = .ok (.iload_n 1, 1) := by decide +kernel
theorem dX7_riskOf_22 : decode cX7_riskOf 22 = .ok (.invokestatic 35, 3) := by decide +kernel
theorem dX7_riskOf_25 : decode cX7_riskOf 25 = .ok (.ifCond .eq 12, 3) := by decide +kernel
theorem dX7_riskOf_28 : decode cX7_riskOf 28 = .ok (.iload_n 1, 1) := by decide +kernel
theorem dX7_riskOf_29 : decode cX7_riskOf 29 = .ok (.iload_n 2, 1) := by decide +kernel
theorem dX7_riskOf_30 : decode cX7_riskOf 30 = .ok (.iload_n 3, 1) := by decide +kernel
theorem dX7_riskOf_31 : decode cX7_riskOf 31 = .ok (.invokestatic 109, 3) := by decide +kernel
theorem dX7_riskOf_34 : decode cX7_riskOf 34 = .ok (.goto 5, 3) := by decide +kernel
theorem dX7_riskOf_37 : decode cX7_riskOf 37 = .ok (.bipush (-2), 2) := by decide +kernel
theorem dX7_riskOf_39 : decode cX7_riskOf 39 = .ok (.ireturn, 1) := by decide +kernel
set_option maxRecDepth 20000 in
theorem ggX7_mayStopBehind_X7_countedSet : GoodIn wsX7_mayStopBehind wsX7_countedSet := goodIn_r _ [6, 1, 7, 8, 9, 5, 10, 11, 12, 13, 14, 80, 81, 82, 83, 84, 85, 86, 87, 88, 89, 90, 91, 92, 93] (by decide +kernel) (by decide +kernel)
set_option maxRecDepth 20000 in
theorem gX7_mayStopBehind_X7_countedSet : GoodIn wsX7_mayStopBehind (wsV RX7 113 RX7 yX7_countedSet wsX7_countedSet) := goodIn_app (goodIn_of _ (by decide +kernel)) ggX7_mayStopBehind_X7_countedSet
set_option maxRecDepth 20000 in
theorem ggX7_mayStopBehind_X7_allSet : GoodIn wsX7_mayStopBehind wsX7_allSet := goodIn_r _ [18, 1, 80, 81, 82, 83, 84, 85, 86, 87, 88, 89, 90, 91, 92, 93] (by decide +kernel) (by decide +kernel)
set_option maxRecDepth 20000 in
theorem gX7_mayStopBehind_X7_allSet : GoodIn wsX7_mayStopBehind (wsV RX7 97 RX7 yX7_allSet wsX7_allSet) := goodIn_app (goodIn_of _ (by decide +kernel)) ggX7_mayStopBehind_X7_allSet
set_option maxRecDepth 20000 in
theorem ggX7_mayStopBehind_X7_many : GoodIn wsX7_mayStopBehind wsX7_many := goodIn_r _ [21] (by decide +kernel) (by decide +kernel)
set_option maxRecDepth 20000 in
theorem gX7_mayStopBehind_X7_many : GoodIn wsX7_mayStopBehind (va_wsS RX7 106 yX7_many wsX7_many) := goodIn_app (goodIn_of _ (by decide +kernel)) ggX7_mayStopBehind_X7_many
set_option maxRecDepth 20000 in
theorem ggX7_mayStopBehind_X7_risk : GoodIn wsX7_mayStopBehind wsX7_risk := goodIn_r _ [25, 1, 26, 27, 28, 5, 29, 30, 31, 32, 33, 34, 35, 36, 7, 8, 9, 10, 11, 12, 13, 14, 37, 38, 39, 40, 41, 42, 43, 44, 45, 46, 47, 48, 49, 50, 51, 52, 15, 16, 17, 18, 53, 54, 55, 56, 57, 58, 59, 60, 61, 62, 63, 64, 65, 66, 67, 68, 69, 70, 71, 72, 19, 20, 21, 73, 74, 75, 76, 77, 78, 79, 80, 81, 82, 83, 84, 85, 86, 87, 88, 89, 90, 91, 92, 93] (by decide +kernel) (by decide +kernel)
set_option maxRecDepth 20000 in
theorem gX7_mayStopBehind_X7_risk : GoodIn wsX7_mayStopBehind (wsV RX7 116 RX7 yX7_risk wsX7_risk) := goodIn_app (goodIn_of _ (by decide +kernel)) ggX7_mayStopBehind_X7_risk
theorem dX7_mayStopBehind_0 : decode cX7_mayStopBehind 0 = .ok (.aload_n 0, 1) := by decide +kernel
theorem dX7_mayStopBehind_1 : decode cX7_mayStopBehind 1 = .ok (.invokevirtual 113, 3) := by decide +kernel
theorem dX7_mayStopBehind_4 : decode cX7_mayStopBehind 4 = .ok (.istore_n 2, 1) := by decide +kernel
theorem dX7_mayStopBehind_5 : decode cX7_mayStopBehind 5 = .ok (.iconst 1, 1) := by decide +kernel
theorem dX7_mayStopBehind_6 : decode cX7_mayStopBehind 6 = .ok (.istore_n 3, 1) := by decide +kernel
theorem dX7_mayStopBehind_7 : decode cX7_mayStopBehind 7 = .ok (.iconst 0, 1) := by decide +kernel
theorem dX7_mayStopBehind_8 : decode cX7_mayStopBehind 8 = .ok (.istore 4, 2) := by decide +kernel
theorem dX7_mayStopBehind_10 : decode cX7_mayStopBehind 10 = .ok (.iload 4, 2) := by decide +kernel
theorem dX7_mayStopBehind_12 : decode cX7_mayStopBehind 12 = .ok (.aload_n 0, 1) := by decide +kernel
theorem dX7_mayStopBehind_13 : decode cX7_mayStopBehind 13 = .ok (.invokevirtual 97, 3) := by decide +kernel
theorem dX7_mayStopBehind_16 : decode cX7_mayStopBehind 16 = .ok (.if_icmp .gt 69, 3) := by decide +kernel
theorem dX7_mayStopBehind_19 : decode cX7_mayStopBehind 19 = .ok (.iload_n 3, 1) := by decide +kernel
theorem dX7_mayStopBehind_20 : decode cX7_mayStopBehind 20 = .ok (.ifCond .eq 65, 3) := by decide +kernel
theorem dX7_mayStopBehind_23 : decode cX7_mayStopBehind 23 = .ok (.iload 4, 2) := by decide +kernel
theorem dX7_mayStopBehind_25 : decode cX7_mayStopBehind 25 = .ok (.iload_n 2, 1) := by decide +kernel
theorem dX7_mayStopBehind_26 : decode cX7_mayStopBehind 26 = .ok (.iand, 1) := by decide +kernel
theorem dX7_mayStopBehind_27 : decode cX7_mayStopBehind 27 = .ok (.iload_n 2, 1) := by decide +kernel
theorem dX7_mayStopBehind_28 : decode cX7_mayStopBehind 28 = .ok (.if_icmp .ne 21, 3) := by decide +kernel
theorem dX7_mayStopBehind_31 : decode cX7_mayStopBehind 31 = .ok (.iload 4, 2) := by decide +kernel
theorem dX7_mayStopBehind_33 : decode cX7_mayStopBehind 33 = .ok (.invokestatic 106, 3) := by decide +kernel
theorem dX7_mayStopBehind_36 : decode cX7_mayStopBehind 36 = .ok (.iload_n 2, 1) := by decide +kernel
theorem dX7_mayStopBehind_37 : decode cX7_mayStopBehind 37 = .ok (.invokestatic 106, 3) := by decide +kernel
theorem dX7_mayStopBehind_40 : decode cX7_mayStopBehind 40 = .ok (.iload_n 1, 1) := by decide +kernel
theorem dX7_mayStopBehind_41 : decode cX7_mayStopBehind 41 = .ok (.iadd, 1) := by decide +kernel
theorem dX7_mayStopBehind_42 : decode cX7_mayStopBehind 42 = .ok (.if_icmp .ne 7, 3) := by decide +kernel
theorem dX7_mayStopBehind_45 : decode cX7_mayStopBehind 45 = .ok (.iconst 1, 1) := by decide +kernel
theorem dX7_mayStopBehind_46 : decode cX7_mayStopBehind 46 = .ok (.goto 4, 3) := by decide +kernel
theorem dX7_mayStopBehind_49 : decode cX7_mayStopBehind 49 = .ok (.iconst 0, 1) := by decide +kernel
theorem dX7_mayStopBehind_50 : decode cX7_mayStopBehind 50 = .ok (.istore 5, 2) := by decide +kernel
theorem dX7_mayStopBehind_52 : decode cX7_mayStopBehind 52 = .ok (.iload 5, 2) := by decide +kernel
theorem dX7_mayStopBehind_54 : decode cX7_mayStopBehind 54 = .ok (.ifCond .eq 19, 3) := by decide +kernel
theorem dX7_mayStopBehind_57 : decode cX7_mayStopBehind 57 = .ok (.aload_n 0, 1) := by decide +kernel
theorem dX7_mayStopBehind_58 : decode cX7_mayStopBehind 58 = .ok (.iload 4, 2) := by decide +kernel
theorem dX7_mayStopBehind_60 : decode cX7_mayStopBehind 60 = .ok (.iconst 1, 1) := by decide +kernel
theorem dX7_mayStopBehind_61 : decode cX7_mayStopBehind 61 = .ok (.invokevirtual 116, 3) := by decide +kernel
theorem dX7_mayStopBehind_64 : decode cX7_mayStopBehind 64 = .ok (.aload_n 0, 1) := by decide +kernel
theorem dX7_mayStopBehind_65 : decode cX7_mayStopBehind 65 = .ok (.getfield 7, 3) := by decide +kernel
theorem dX7_mayStopBehind_68 : decode cX7_mayStopBehind 68 = .ok (.iconst 1, 1) := by decide +kernel
theorem dX7_mayStopBehind_69 : decode cX7_mayStopBehind 69 = .ok (.iaload, 1) := by decide +kernel
theorem dX7_mayStopBehind_70 : decode cX7_mayStopBehind 70 = .ok (.if_icmp .gt 7, 3) := by decide +kernel
theorem dX7_mayStopBehind_73 : decode cX7_mayStopBehind 73 = .ok (.iconst 1, 1) := by decide +kernel
theorem dX7_mayStopBehind_74 : decode cX7_mayStopBehind 74 = .ok (.goto 4, 3) := by decide +kernel
theorem dX7_mayStopBehind_77 : decode cX7_mayStopBehind 77 = .ok (.iconst 0, 1) := by decide +kernel
theorem dX7_mayStopBehind_78 : decode cX7_mayStopBehind 78 = .ok (.istore_n 3, 1) := by decide +kernel
theorem dX7_mayStopBehind_79 : decode cX7_mayStopBehind 79 = .ok (.iinc 4 1, 3) := by decide +kernel
theorem dX7_mayStopBehind_82 : decode cX7_mayStopBehind 82 = .ok (.goto (-72), 3) := by decide +kernel
theorem dX7_mayStopBehind_85 : decode cX7_mayStopBehind 85 = .ok (.iload_n 3, 1) := by decide +kernel
theorem dX7_mayStopBehind_86 : decode cX7_mayStopBehind 86 = .ok (.ireturn, 1) := by decide +kernel
set_option maxRecDepth 20000 in
theorem ggX7_atLeast_X7_winner : GoodIn wsX7_atLeast wsX7_winner := goodIn_r _ [6, 1, 7, 8, 9, 5, 10, 84, 85, 86, 87, 88, 89, 90, 91, 92, 93, 94, 95, 96, 97] (by decide +kernel) (by decide +kernel)
set_option maxRecDepth 20000 in
theorem gX7_atLeast_X7_winner : GoodIn wsX7_atLeast (wsV RX7 57 RX7 yX7_winner wsX7_winner) := goodIn_app (goodIn_of _ (by decide +kernel)) ggX7_atLeast_X7_winner
set_option maxRecDepth 20000 in
theorem ggX7_atLeast_X7_mayStopBehind : GoodIn wsX7_atLeast wsX7_mayStopBehind := goodIn_r _ [14, 1, 15, 16, 17, 5, 18, 19, 20, 21, 22, 7, 8, 9, 10, 23, 24, 25, 26, 27, 28, 29, 30, 31, 32, 33, 34, 35, 36, 37, 38, 39, 40, 41, 42, 43, 44, 45, 46, 47, 48, 49, 50, 51, 52, 2, 3, 4, 6, 53, 54, 55, 56, 57, 58, 59, 60, 61, 62, 63, 64, 65, 66, 67, 68, 69, 70, 71, 72, 73, 74, 75, 76, 77, 78, 79, 80, 81, 82, 83, 84, 85, 86, 87, 88, 89, 90, 91, 92, 93, 94, 95, 96, 97] (by decide +kernel) (by decide +kernel)
set_option maxRecDepth 20000 in
theorem gX7_atLeast_X7_mayStopBehind : GoodIn wsX7_atLeast (wsV RX7 176 RX7 yX7_mayStopBehind wsX7_mayStopBehind) := goodIn_app (goodIn_of _ (by decide +kernel)) ggX7_atLeast_X7_mayStopBehind
theorem dX7_atLeast_0 : decode cX7_atLeast 0 = .ok (.aload_n 0, 1) := by decide +kernel
theorem dX7_atLeast_1 : decode cX7_atLeast 1 = .ok (.invokevirtual 57, 3) := by decide +kernel
theorem dX7_atLeast_4 : decode cX7_atLeast 4 = .ok (.ifCond .ge 6, 3) := by decide +kernel
theorem dX7_atLeast_7 : decode cX7_atLeast 7 = .ok (.bipush (-5), 2) := by decide +kernel
theorem dX7_atLeast_9 : decode cX7_atLeast 9 = .ok (.ireturn, 1) := by decide +kernel
theorem dX7_atLeast_10 : decode cX7_atLeast 10 = .ok (.iconst 0, 1) := by decide +kernel
theorem dX7_atLeast_11 : decode cX7_atLeast 11 = .ok (.istore_n 1, 1) := by decide +kernel
theorem dX7_atLeast_12 : decode cX7_atLeast 12 = .ok (.iload_n 1, 1) := by decide +kernel
theorem dX7_atLeast_13 : decode cX7_atLeast 13 = .ok (.aload_n 0, 1) := by decide +kernel
theorem dX7_atLeast_14 : decode cX7_atLeast 14 = .ok (.getfield 7, 3) := by decide +kernel
theorem dX7_atLeast_17 : decode cX7_atLeast 17 = .ok (.iconst 0, 1) := by decide +kernel
theorem dX7_atLeast_18 : decode cX7_atLeast 18 = .ok (.iaload, 1) := by decide +kernel
theorem dX7_atLeast_19 : decode cX7_atLeast 19 = .ok (.aload_n 0, 1) := by decide +kernel
theorem dX7_atLeast_20 : decode cX7_atLeast 20 = .ok (.getfield 7, 3) := by decide +kernel
theorem dX7_atLeast_23 : decode cX7_atLeast 23 = .ok (.iconst 4, 1) := by decide +kernel
theorem dX7_atLeast_24 : decode cX7_atLeast 24 = .ok (.iaload, 1) := by decide +kernel
theorem dX7_atLeast_25 : decode cX7_atLeast 25 = .ok (.isub, 1) := by decide +kernel
theorem dX7_atLeast_26 : decode cX7_atLeast 26 = .ok (.if_icmp .gt 19, 3) := by decide +kernel
theorem dX7_atLeast_29 : decode cX7_atLeast 29 = .ok (.aload_n 0, 1) := by decide +kernel
theorem dX7_atLeast_30 : decode cX7_atLeast 30 = .ok (.iload_n 1, 1) := by decide +kernel
theorem dX7_atLeast_31 : decode cX7_atLeast 31 = .ok (.invokevirtual 176, 3) := by decide +kernel
theorem dX7_atLeast_34 : decode cX7_atLeast 34 = .ok (.ifCond .eq 5, 3) := by decide +kernel
theorem dX7_atLeast_37 : decode cX7_atLeast 37 = .ok (.iload_n 1, 1) := by decide +kernel
theorem dX7_atLeast_38 : decode cX7_atLeast 38 = .ok (.ireturn, 1) := by decide +kernel
theorem dX7_atLeast_39 : decode cX7_atLeast 39 = .ok (.iinc 1 1, 3) := by decide +kernel
theorem dX7_atLeast_42 : decode cX7_atLeast 42 = .ok (.goto (-30), 3) := by decide +kernel
theorem dX7_atLeast_45 : decode cX7_atLeast 45 = .ok (.bipush (-6), 2) := by decide +kernel
theorem dX7_atLeast_47 : decode cX7_atLeast 47 = .ok (.ireturn, 1) := by decide +kernel
theorem dX7_factorial_0 : decode cX7_factorial 0 = .ok (.iconst 1, 1) := by decide +kernel
theorem dX7_factorial_1 : decode cX7_factorial 1 = .ok (.istore_n 1, 1) := by decide +kernel
theorem dX7_factorial_2 : decode cX7_factorial 2 = .ok (.iconst 2, 1) := by decide +kernel
theorem dX7_factorial_3 : decode cX7_factorial 3 = .ok (.istore_n 2, 1) := by decide +kernel
theorem dX7_factorial_4 : decode cX7_factorial 4 = .ok (.iload_n 2, 1) := by decide +kernel
theorem dX7_factorial_5 : decode cX7_factorial 5 = .ok (.iload_n 0, 1) := by decide +kernel
theorem dX7_factorial_6 : decode cX7_factorial 6 = .ok (.if_icmp .gt 13, 3) := by decide +kernel
theorem dX7_factorial_9 : decode cX7_factorial 9 = .ok (.iload_n 1, 1) := by decide +kernel
theorem dX7_factorial_10 : decode cX7_factorial 10 = .ok (.iload_n 2, 1) := by decide +kernel
theorem dX7_factorial_11 : decode cX7_factorial 11 = .ok (.imul, 1) := by decide +kernel
theorem dX7_factorial_12 : decode cX7_factorial 12 = .ok (.istore_n 1, 1) := by decide +kernel
theorem dX7_factorial_13 : decode cX7_factorial 13 = .ok (.iinc 2 1, 3) := by decide +kernel
theorem dX7_factorial_16 : decode cX7_factorial 16 = .ok (.goto (-12), 3) := by decide +kernel
theorem dX7_factorial_19 : decode cX7_factorial 19 = .ok (.iload_n 1, 1) := by decide +kernel
theorem dX7_factorial_20 : decode cX7_factorial 20 = .ok (.ireturn, 1) := by decide +kernel
set_option maxRecDepth 20000 in
theorem ggX7_ordersThat_X7_countedSet : GoodIn wsX7_ordersThat wsX7_countedSet := goodIn_r _ [7, 2, 8, 9, 10, 6, 11, 12, 13, 14, 15, 84, 85, 86, 87, 88, 89, 90, 91, 92, 93, 94, 95, 96, 97] (by decide +kernel) (by decide +kernel)
set_option maxRecDepth 20000 in
theorem gX7_ordersThat_X7_countedSet : GoodIn wsX7_ordersThat (wsV RX7 113 RX7 yX7_countedSet wsX7_countedSet) := goodIn_app (goodIn_of _ (by decide +kernel)) ggX7_ordersThat_X7_countedSet
set_option maxRecDepth 20000 in
theorem ggX7_ordersThat_X7_many : GoodIn wsX7_ordersThat wsX7_many := goodIn_r _ [18] (by decide +kernel) (by decide +kernel)
set_option maxRecDepth 20000 in
theorem gX7_ordersThat_X7_many : GoodIn wsX7_ordersThat (va_wsS RX7 106 yX7_many wsX7_many) := goodIn_app (goodIn_of _ (by decide +kernel)) ggX7_ordersThat_X7_many
set_option maxRecDepth 20000 in
theorem ggX7_ordersThat_X7_allSet : GoodIn wsX7_ordersThat wsX7_allSet := goodIn_r _ [22, 2, 84, 85, 86, 87, 88, 89, 90, 91, 92, 93, 94, 95, 96, 97] (by decide +kernel) (by decide +kernel)
set_option maxRecDepth 20000 in
theorem gX7_ordersThat_X7_allSet : GoodIn wsX7_ordersThat (wsV RX7 97 RX7 yX7_allSet wsX7_allSet) := goodIn_app (goodIn_of _ (by decide +kernel)) ggX7_ordersThat_X7_allSet
set_option maxRecDepth 20000 in
theorem ggX7_ordersThat_X7_risk : GoodIn wsX7_ordersThat wsX7_risk := goodIn_r _ [26, 2, 27, 28, 29, 6, 30, 31, 32, 33, 34, 35, 36, 37, 8, 9, 10, 11, 12, 13, 14, 15, 38, 39, 40, 41, 42, 43, 44, 45, 46, 47, 48, 49, 50, 51, 52, 53, 19, 20, 21, 22, 54, 55, 56, 57, 58, 59, 60, 61, 62, 63, 64, 65, 66, 67, 68, 69, 70, 71, 72, 73, 16, 17, 18, 74, 75, 76, 77, 78, 79, 80, 84, 85, 86, 87, 88, 89, 90, 91, 92, 93, 94, 95, 96, 97] (by decide +kernel) (by decide +kernel)
set_option maxRecDepth 20000 in
theorem gX7_ordersThat_X7_risk : GoodIn wsX7_ordersThat (wsV RX7 116 RX7 yX7_risk wsX7_risk) := goodIn_app (goodIn_of _ (by decide +kernel)) ggX7_ordersThat_X7_risk
set_option maxRecDepth 20000 in
theorem ggX7_ordersThat_X7_factorial : GoodIn wsX7_ordersThat wsX7_factorial := goodIn_r _ [83] (by decide +kernel) (by decide +kernel)
set_option maxRecDepth 20000 in
theorem gX7_ordersThat_X7_factorial : GoodIn wsX7_ordersThat (va_wsS RX7 179 yX7_factorial wsX7_factorial) := goodIn_app (goodIn_of _ (by decide +kernel)) ggX7_ordersThat_X7_factorial
set_option maxRecDepth 20000 in
theorem ggX7_ordersThat_X7_has : GoodIn wsX7_ordersThat wsX7_has := goodIn_r _ [33] (by decide +kernel) (by decide +kernel)
set_option maxRecDepth 20000 in
theorem gX7_ordersThat_X7_has : GoodIn wsX7_ordersThat (va_wsS RX7 74 yX7_has wsX7_has) := goodIn_app (goodIn_of _ (by decide +kernel)) ggX7_ordersThat_X7_has
theorem dX7_ordersThat_0 : decode cX7_ordersThat 0 = .ok (.aload_n 0, 1) := by decide +kernel
theorem dX7_ordersThat_1 : decode cX7_ordersThat 1 = .ok (.invokevirtual 113, 3) := by decide +kernel
theorem dX7_ordersThat_4 : decode cX7_ordersThat 4 = .ok (.istore_n 2, 1) := by decide +kernel
theorem dX7_ordersThat_5 : decode cX7_ordersThat 5 = .ok (.iload_n 2, 1) := by decide +kernel
theorem dX7_ordersThat_6 : decode cX7_ordersThat 6 = .ok (.invokestatic 106, 3) := by decide +kernel
theorem dX7_ordersThat_9 : decode cX7_ordersThat 9 = .ok (.istore_n 3, 1) := by decide +kernel
theorem dX7_ordersThat_10 : decode cX7_ordersThat 10 = .ok (.iconst 0, 1) := by decide +kernel
theorem dX7_ordersThat_11 : decode cX7_ordersThat 11 = .ok (.istore 4, 2) := by decide +kernel
theorem dX7_ordersThat_13 : decode cX7_ordersThat 13 = .ok (.iconst 0, 1) := by decide +kernel
theorem dX7_ordersThat_14 : decode cX7_ordersThat 14 = .ok (.istore 5, 2) := by decide +kernel
theorem dX7_ordersThat_16 : decode cX7_ordersThat 16 = .ok (.iload 5, 2) := by decide +kernel
theorem dX7_ordersThat_18 : decode cX7_ordersThat 18 = .ok (.aload_n 0, 1) := by decide +kernel
theorem dX7_ordersThat_19 : decode cX7_ordersThat 19 = .ok (.invokevirtual 97, 3) := by decide +kernel
theorem dX7_ordersThat_22 : decode cX7_ordersThat 22 = .ok (.if_icmp .gt 27, 3) := by decide +kernel
theorem dX7_ordersThat_25 : decode cX7_ordersThat 25 = .ok (.aload_n 0, 1) := by decide +kernel
theorem dX7_ordersThat_26 : decode cX7_ordersThat 26 = .ok (.getfield 26, 3) := by decide +kernel
theorem dX7_ordersThat_29 : decode cX7_ordersThat 29 = .ok (.iload 5, 2) := by decide +kernel
theorem dX7_ordersThat_31 : decode cX7_ordersThat 31 = .ok (.iload 5, 2) := by decide +kernel
theorem dX7_ordersThat_33 : decode cX7_ordersThat 33 = .ok (.iload_n 2, 1) := by decide +kernel
theorem dX7_ordersThat_34 : decode cX7_ordersThat 34 = .ok (.if_icmp .ne 7, 3) := by decide +kernel
theorem dX7_ordersThat_37 : decode cX7_ordersThat 37 = .ok (.iconst 1, 1) := by decide +kernel
theorem dX7_ordersThat_38 : decode cX7_ordersThat 38 = .ok (.goto 4, 3) := by decide +kernel
theorem dX7_ordersThat_41 : decode cX7_ordersThat 41 = .ok (.iconst 0, 1) := by decide +kernel
theorem dX7_ordersThat_42 : decode cX7_ordersThat 42 = .ok (.iastore, 1) := by decide +kernel
theorem dX7_ordersThat_43 : decode cX7_ordersThat 43 = .ok (.iinc 5 1, 3) := by decide +kernel
theorem dX7_ordersThat_46 : decode cX7_ordersThat 46 = .ok (.goto (-30), 3) := by decide +kernel
theorem dX7_ordersThat_49 : decode cX7_ordersThat 49 = .ok (.iconst 0, 1) := by decide +kernel
theorem dX7_ordersThat_50 : decode cX7_ordersThat 50 = .ok (.istore 5, 2) := by decide +kernel
theorem dX7_ordersThat_52 : decode cX7_ordersThat 52 = .ok (.iload 5, 2) := by decide +kernel
theorem dX7_ordersThat_54 : decode cX7_ordersThat 54 = .ok (.aload_n 0, 1) := by decide +kernel
theorem dX7_ordersThat_55 : decode cX7_ordersThat 55 = .ok (.invokevirtual 97, 3) := by decide +kernel
theorem dX7_ordersThat_58 : decode cX7_ordersThat 58 = .ok (.if_icmp .gt 150, 3) := by decide +kernel
theorem dX7_ordersThat_61 : decode cX7_ordersThat 61 = .ok (.aload_n 0, 1) := by decide +kernel
theorem dX7_ordersThat_62 : decode cX7_ordersThat 62 = .ok (.getfield 26, 3) := by decide +kernel
theorem dX7_ordersThat_65 : decode cX7_ordersThat 65 = .ok (.iload 5, 2) := by decide +kernel
theorem dX7_ordersThat_67 : decode cX7_ordersThat 67 = .ok (.iaload, 1) := by decide +kernel
theorem dX7_ordersThat_68 : decode cX7_ordersThat 68 = .ok (.ifCond .ne 6, 3) := by decide +kernel
theorem dX7_ordersThat_71 : decode cX7_ordersThat 71 = .ok (.goto 131, 3) := by decide +kernel
theorem dX7_ordersThat_74 : decode cX7_ordersThat 74 = .ok (.iload 5, 2) := by decide +kernel
theorem dX7_ordersThat_76 : decode cX7_ordersThat 76 = .ok (.invokestatic 106, 3) := by decide +kernel
theorem dX7_ordersThat_79 : decode cX7_ordersThat 79 = .ok (.iload_n 3, 1) := by decide +kernel
theorem dX7_ordersThat_80 : decode cX7_ordersThat 80 = .ok (.isub, 1) := by decide +kernel
theorem dX7_ordersThat_81 : decode cX7_ordersThat 81 = .ok (.istore 6, 2) := by decide +kernel
theorem dX7_ordersThat_83 : decode cX7_ordersThat 83 = .ok (.aload_n 0, 1) := by decide +kernel
theorem dX7_ordersThat_84 : decode cX7_ordersThat 84 = .ok (.iload 5, 2) := by decide +kernel
theorem dX7_ordersThat_86 : decode cX7_ordersThat 86 = .ok (.iconst 0, 1) := by decide +kernel
theorem dX7_ordersThat_87 : decode cX7_ordersThat 87 = .ok (.invokevirtual 116, 3) := by decide +kernel
theorem dX7_ordersThat_90 : decode cX7_ordersThat 90 = .ok (.aload_n 0, 1) := by decide +kernel
theorem dX7_ordersThat_91 : decode cX7_ordersThat 91 = .ok (.getfield 7, 3) := by decide +kernel
theorem dX7_ordersThat_94 : decode cX7_ordersThat 94 = .ok (.iconst 1, 1) := by decide +kernel
theorem dX7_ordersThat_95 : decode cX7_ordersThat 95 = .ok (.iaload, 1) := by decide +kernel
theorem dX7_ordersThat_96 : decode cX7_ordersThat 96 = .ok (.if_icmp .gt 50, 3) := by decide +kernel
theorem dX7_ordersThat_99 : decode cX7_ordersThat 99 = .ok (.iload 4, 2) := by decide +kernel
theorem dX7_ordersThat_101 : decode cX7_ordersThat 101 = .ok (.iload_n 1, 1) := by decide +kernel
theorem dX7_ordersThat_102 : decode cX7_ordersThat 102 = .ok (.bipush (-6), 2) := by decide +kernel
theorem dX7_ordersThat_104 : decode cX7_ordersThat 104 = .ok (.if_icmp .eq 9, 3) := by decide +kernel
theorem dX7_ordersThat_107 : decode cX7_ordersThat 107 = .ok (.iload_n 1, 1) := by decide +kernel
theorem dX7_ordersThat_108 : decode cX7_ordersThat 108 = .ok (.iload 6, 2) := by decide +kernel
theorem dX7_ordersThat_110 : decode cX7_ordersThat 110 = .ok (.if_icmp .ne 29, 3) := by decide +kernel
theorem dX7_ordersThat_113 : decode cX7_ordersThat 113 = .ok (.aload_n 0, 1) := by decide +kernel
theorem dX7_ordersThat_114 : decode cX7_ordersThat 114 = .ok (.getfield 26, 3) := by decide +kernel
theorem dX7_ordersThat_117 : decode cX7_ordersThat 117 = .ok (.iload 5, 2) := by decide +kernel
theorem dX7_ordersThat_119 : decode cX7_ordersThat 119 = .ok (.iaload, 1) := by decide +kernel
theorem dX7_ordersThat_120 : decode cX7_ordersThat 120 = .ok (.aload_n 0, 1) := by decide +kernel
theorem dX7_ordersThat_121 : decode cX7_ordersThat 121 = .ok (.getfield 7, 3) := by decide +kernel
theorem dX7_ordersThat_124 : decode cX7_ordersThat 124 = .ok (.iconst 0, 1) := by decide +kernel
theorem dX7_ordersThat_125 : decode cX7_ordersThat 125 = .ok (.iaload, 1) := by decide +kernel
theorem dX7_ordersThat_126 : decode cX7_ordersThat 126 = .ok (.iload 5, 2) := by decide +kernel
theorem dX7_ordersThat_128 : decode cX7_ordersThat 128 = .ok (.invokestatic 106, 3) := by decide +kernel
theorem dX7_ordersThat_131 : decode cX7_ordersThat 131 = .ok (.isub, 1) := by decide +kernel
theorem dX7_ordersThat_132 : decode cX7_ordersThat 132 = .ok (.invokestatic 179, 3) := by decide +kernel
theorem dX7_ordersThat_135 : decode cX7_ordersThat 135 = .ok (.imul, 1) := by decide +kernel
theorem dX7_ordersThat_136 : decode cX7_ordersThat 136 = .ok (.goto 4, 3) := by decide +kernel
theorem dX7_ordersThat_139 : decode cX7_ordersThat 139 = .ok (.iconst 0, 1) := by decide +kernel
theorem dX7_ordersThat_140 : decode cX7_ordersThat 140 = .ok (.iadd, 1) := by decide +kernel
theorem dX7_ordersThat_141 : decode cX7_ordersThat 141 = .ok (.istore 4, 2) := by decide +kernel
theorem dX7_ordersThat_143 : decode cX7_ordersThat 143 = .ok (.goto 59, 3) := by decide +kernel
theorem dX7_ordersThat_146 : decode cX7_ordersThat 146 = .ok (.iconst 0, 1) := by decide +kernel
theorem dX7_ordersThat_147 : decode cX7_ordersThat 147 = .ok (.istore 7, 2) := by decide +kernel
theorem dX7_ordersThat_149 : decode cX7_ordersThat 149 = .ok (.iload 7, 2) := by decide +kernel
theorem dX7_ordersThat_151 : decode cX7_ordersThat 151 = .ok (.aload_n 0, 1) := by decide +kernel
theorem dX7_ordersThat_152 : decode cX7_ordersThat 152 = .ok (.getfield 7, 3) := by decide +kernel
theorem dX7_ordersThat_155 : decode cX7_ordersThat 155 = .ok (.iconst 0, 1) := by decide +kernel
theorem dX7_ordersThat_156 : decode cX7_ordersThat 156 = .ok (.iaload, 1) := by decide +kernel
theorem dX7_ordersThat_157 : decode cX7_ordersThat 157 = .ok (.if_icmp .ge 45, 3) := by decide +kernel
theorem dX7_ordersThat_160 : decode cX7_ordersThat 160 = .ok (.aload_n 0, 1) := by decide +kernel
theorem dX7_ordersThat_161 : decode cX7_ordersThat 161 = .ok (.getfield 26, 3) := by decide +kernel
theorem dX7_ordersThat_164 : decode cX7_ordersThat 164 = .ok (.iload 5, 2) := by decide +kernel
theorem dX7_ordersThat_166 : decode cX7_ordersThat 166 = .ok (.iconst 1, 1) := by decide +kernel
theorem dX7_ordersThat_167 : decode cX7_ordersThat 167 = .ok (.iload 7, 2) := by decide +kernel
theorem dX7_ordersThat_169 : decode cX7_ordersThat 169 = .ok (.ishl, 1) := by decide +kernel
theorem dX7_ordersThat_170 : decode cX7_ordersThat 170 = .ok (.ior, 1) := by decide +kernel
theorem dX7_ordersThat_171 : decode cX7_ordersThat 171 = .ok (.dup2, 1) := by decide +kernel
theorem dX7_ordersThat_172 : decode cX7_ordersThat 172 = .ok (.iaload, 1) := by decide +kernel
theorem dX7_ordersThat_173 : decode cX7_ordersThat 173 = .ok (.iload 5, 2) := by decide +kernel
theorem dX7_ordersThat_175 : decode cX7_ordersThat 175 = .ok (.iload 7, 2) := by decide +kernel
theorem dX7_ordersThat_177 : decode cX7_ordersThat 177 = .ok (.invokestatic 74, 3) := by decide +kernel
theorem dX7_ordersThat_180 : decode cX7_ordersThat 180 = .ok (.ifCond .eq 7, 3) := by decide +kernel
theorem dX7_ordersThat_183 : decode cX7_ordersThat 183 = .ok (.iconst 0, 1) := by decide +kernel
theorem dX7_ordersThat_184 : decode cX7_ordersThat 184 = .ok (.goto 10, 3) := by decide +kernel
theorem dX7_ordersThat_187 : decode cX7_ordersThat 187 = .ok (.aload_n 0, 1) := by decide +kernel
theorem dX7_ordersThat_188 : decode cX7_ordersThat 188 = .ok (.getfield 26, 3) := by decide +kernel
theorem dX7_ordersThat_191 : decode cX7_ordersThat 191 = .ok (.iload 5, 2) := by decide +kernel
theorem dX7_ordersThat_193 : decode cX7_ordersThat 193 = .ok (.iaload, 1) := by decide +kernel
theorem dX7_ordersThat_194 : decode cX7_ordersThat 194 = .ok (.iadd, 1) := by decide +kernel
theorem dX7_ordersThat_195 : decode cX7_ordersThat 195 = .ok (.iastore, 1) := by decide +kernel
theorem dX7_ordersThat_196 : decode cX7_ordersThat 196 = .ok (.iinc 7 1, 3) := by decide +kernel
theorem dX7_ordersThat_199 : decode cX7_ordersThat 199 = .ok (.goto (-50), 3) := by decide +kernel
theorem dX7_ordersThat_202 : decode cX7_ordersThat 202 = .ok (.iinc 5 1, 3) := by decide +kernel
theorem dX7_ordersThat_205 : decode cX7_ordersThat 205 = .ok (.goto (-153), 3) := by decide +kernel
theorem dX7_ordersThat_208 : decode cX7_ordersThat 208 = .ok (.iload 4, 2) := by decide +kernel
theorem dX7_ordersThat_210 : decode cX7_ordersThat 210 = .ok (.ireturn, 1) := by decide +kernel
set_option maxRecDepth 20000 in
theorem ggX7_orders_X7_in : GoodIn wsX7_orders wsX7_in := goodIn_r _ [4] (by decide +kernel) (by decide +kernel)
set_option maxRecDepth 20000 in
theorem gX7_orders_X7_in : GoodIn wsX7_orders (va_wsS RX7 35 yX7_in wsX7_in) := goodIn_app (goodIn_of _ (by decide +kernel)) ggX7_orders_X7_in
set_option maxRecDepth 20000 in
theorem ggX7_orders_X7_winner : GoodIn wsX7_orders wsX7_winner := goodIn_r _ [8, 9, 10, 11, 12, 3, 13, 91, 92, 93, 94, 95, 96, 97, 98, 99, 100, 101, 102, 103, 104] (by decide +kernel) (by decide +kernel)
set_option maxRecDepth 20000 in
theorem gX7_orders_X7_winner : GoodIn wsX7_orders (wsV RX7 57 RX7 yX7_winner wsX7_winner) := goodIn_app (goodIn_of _ (by decide +kernel)) ggX7_orders_X7_winner
set_option maxRecDepth 20000 in
theorem ggX7_orders_X7_ordersThat : GoodIn wsX7_orders wsX7_ordersThat := goodIn_r _ [17, 18, 9, 19, 20, 21, 3, 22, 23, 24, 25, 26, 10, 11, 12, 13, 27, 28, 29, 30, 31, 32, 33, 34, 35, 36, 37, 38, 39, 40, 41, 42, 43, 44, 45, 46, 47, 48, 49, 50, 51, 52, 53, 54, 55, 56, 5, 6, 7, 8, 57, 58, 59, 60, 61, 62, 63, 64, 65, 66, 67, 68, 69, 70, 71, 72, 73, 74, 75, 76, 77, 78, 79, 80, 81, 82, 83, 84, 85, 86, 87, 88, 89, 90, 91, 92, 93, 94, 95, 96, 97, 98, 99, 100, 101, 102, 103, 104] (by decide +kernel) (by decide +kernel)
set_option maxRecDepth 20000 in
theorem gX7_orders_X7_ordersThat : GoodIn wsX7_orders (wsV RX7 182 RX7 yX7_ordersThat wsX7_ordersThat) := goodIn_app (goodIn_of _ (by decide +kernel)) ggX7_orders_X7_ordersThat
theorem dX7_orders_0 : decode cX7_orders 0 = .ok (.iload_n 1, 1) := by decide +kernel
theorem dX7_orders_1 : decode cX7_orders 1 = .ok (.iconst 0, 1) := by decide +kernel
theorem dX7_orders_2 : decode cX7_orders 2 = .ok (.bipush 10, 2) := by decide +kernel
theorem dX7_orders_4 : decode cX7_orders 4 = .ok (.invokestatic 35, 3) := by decide +kernel
theorem dX7_orders_7 : decode cX7_orders 7 = .ok (.ifCond .ne 6, 3) := by decide +kernel
theorem dX7_orders_10 : decode cX7_orders 10 = .ok (.bipush (-2), 2) := by decide +kernel
theorem dX7_orders_12 : decode cX7_orders 12 = .ok (.ireturn, 1) := by decide +kernel
theorem dX7_orders_13 : decode cX7_orders 13 = .ok (.aload_n 0, 1) := by decide +kernel
theorem dX7_orders_14 : decode cX7_orders 14 = .ok (.invokevirtual 57, 3) := by decide +kernel
theorem dX7_orders_17 : decode cX7_orders 17 = .ok (.ifCond .ge 8, 3) := by decide +kernel
theorem dX7_orders_20 : decode cX7_orders 20 = .ok (.bipush (-5), 2) := by decide +kernel
theorem dX7_orders_22 : decode cX7_orders 22 = .ok (.goto 8, 3) := by decide +kernel
theorem dX7_orders_25 : decode cX7_orders 25 = .ok (.aload_n 0, 1) := by decide +kernel
theorem dX7_orders_26 : decode cX7_orders 26 = .ok (.iload_n 1, 1) := by decide +kernel
theorem dX7_orders_27 : decode cX7_orders 27 = .ok (.invokevirtual 182, 3) := by decide +kernel
theorem dX7_orders_30 : decode cX7_orders 30 = .ok (.ireturn, 1) := by decide +kernel
set_option maxRecDepth 20000 in
theorem ggX7_wrongOrders_X7_winner : GoodIn wsX7_wrongOrders wsX7_winner := goodIn_r _ [5, 6, 7, 8, 9, 4, 10, 92, 93, 94, 95, 96, 97, 98, 99, 100, 101, 102, 103, 104, 105] (by decide +kernel) (by decide +kernel)
set_option maxRecDepth 20000 in
theorem gX7_wrongOrders_X7_winner : GoodIn wsX7_wrongOrders (wsV RX7 57 RX7 yX7_winner wsX7_winner) := goodIn_app (goodIn_of _ (by decide +kernel)) ggX7_wrongOrders_X7_winner
set_option maxRecDepth 20000 in
theorem ggX7_wrongOrders_X7_isRight : GoodIn wsX7_wrongOrders wsX7_isRight := goodIn_r _ [14, 15, 16, 17, 4, 18, 6, 19, 20, 21, 22, 23, 24, 25, 26, 27, 28, 29, 30, 31, 32, 33, 7, 8, 9, 10, 34, 35, 36, 37, 38, 39, 40, 41, 1, 2, 3, 5, 42, 43, 44, 45, 92, 93, 94, 95, 96, 97, 98, 99, 100, 101, 102, 103, 104, 105] (by decide +kernel) (by decide +kernel)
set_option maxRecDepth 20000 in
theorem gX7_wrongOrders_X7_isRight : GoodIn wsX7_wrongOrders (wsV RX7 167 RX7 yX7_isRight wsX7_isRight) := goodIn_app (goodIn_of _ (by decide +kernel)) ggX7_wrongOrders_X7_isRight
set_option maxRecDepth 20000 in
theorem ggX7_wrongOrders_X7_ordersThat : GoodIn wsX7_wrongOrders wsX7_ordersThat := goodIn_r _ [49, 50, 6, 51, 52, 53, 4, 54, 30, 31, 32, 33, 7, 8, 9, 10, 55, 56, 57, 15, 16, 17, 18, 58, 59, 60, 61, 19, 20, 21, 22, 23, 24, 25, 26, 27, 28, 29, 34, 35, 36, 37, 38, 39, 40, 41, 1, 2, 3, 5, 42, 43, 44, 45, 62, 63, 64, 65, 66, 67, 68, 69, 70, 71, 72, 73, 74, 75, 76, 77, 78, 79, 80, 81, 82, 83, 84, 85, 86, 87, 88, 89, 90, 91, 92, 93, 94, 95, 96, 97, 98, 99, 100, 101, 102, 103, 104, 105] (by decide +kernel) (by decide +kernel)
set_option maxRecDepth 20000 in
theorem gX7_wrongOrders_X7_ordersThat : GoodIn wsX7_wrongOrders (wsV RX7 182 RX7 yX7_ordersThat wsX7_ordersThat) := goodIn_app (goodIn_of _ (by decide +kernel)) ggX7_wrongOrders_X7_ordersThat
theorem dX7_wrongOrders_0 : decode cX7_wrongOrders 0 = .ok (.aload_n 0, 1) := by decide +kernel
theorem dX7_wrongOrders_1 : decode cX7_wrongOrders 1 = .ok (.invokevirtual 57, 3) := by decide +kernel
theorem dX7_wrongOrders_4 : decode cX7_wrongOrders 4 = .ok (.ifCond .ge 8, 3) := by decide +kernel
theorem dX7_wrongOrders_7 : decode cX7_wrongOrders 7 = .ok (.bipush (-5), 2) := by decide +kernel
theorem dX7_wrongOrders_9 : decode cX7_wrongOrders 9 = .ok (.goto 20, 3) := by decide +kernel
theorem dX7_wrongOrders_12 : decode cX7_wrongOrders 12 = .ok (.aload_n 0, 1) := by decide +kernel
theorem dX7_wrongOrders_13 : decode cX7_wrongOrders 13 = .ok (.invokevirtual 167, 3) := by decide +kernel
theorem dX7_wrongOrders_16 : decode cX7_wrongOrders 16 = .ok (.ifCond .eq 7, 3) := by decide +kernel
theorem dX7_wrongOrders_19 : decode cX7_wrongOrders 19 = .ok (.iconst 0, 1) := by decide +kernel
theorem dX7_wrongOrders_20 : decode cX7_wrongOrders 20 = .ok (.goto 9, 3) := by decide +kernel
theorem dX7_wrongOrders_23 : decode cX7_wrongOrders 23 = .ok (.aload_n 0, 1) := by decide +kernel
theorem dX7_wrongOrders_24 : decode cX7_wrongOrders 24 = .ok (.bipush (-6), 2) := by decide +kernel
theorem dX7_wrongOrders_26 : decode cX7_wrongOrders 26 = .ok (.invokevirtual 182, 3) := by decide +kernel
theorem dX7_wrongOrders_29 : decode cX7_wrongOrders 29 = .ok (.ireturn, 1) := by decide +kernel
set_option maxRecDepth 20000 in
theorem ggX7_suspects_X7_countedSet : GoodIn wsX7_suspects wsX7_countedSet := goodIn_r _ [5, 6, 7, 8, 9, 4, 10, 11, 12, 13, 14, 62, 63, 64, 65, 66, 67, 68, 69, 70, 71, 72, 73, 74, 75] (by decide +kernel) (by decide +kernel)
set_option maxRecDepth 20000 in
theorem gX7_suspects_X7_countedSet : GoodIn wsX7_suspects (wsV RX7 113 RX7 yX7_countedSet wsX7_countedSet) := goodIn_app (goodIn_of _ (by decide +kernel)) ggX7_suspects_X7_countedSet
set_option maxRecDepth 20000 in
theorem ggX7_suspects_X7_winner : GoodIn wsX7_suspects wsX7_winner := goodIn_r _ [18, 6, 11, 12, 13, 4, 14, 62, 63, 64, 65, 66, 67, 68, 69, 70, 71, 72, 73, 74, 75] (by decide +kernel) (by decide +kernel)
set_option maxRecDepth 20000 in
theorem gX7_suspects_X7_winner : GoodIn wsX7_suspects (wsV RX7 57 RX7 yX7_winner wsX7_winner) := goodIn_app (goodIn_of _ (by decide +kernel)) ggX7_suspects_X7_winner
set_option maxRecDepth 20000 in
theorem ggX7_suspects_X7_suspectsOf : GoodIn wsX7_suspects wsX7_suspectsOf := goodIn_r _ [22, 23, 24, 25, 4, 26, 6, 27, 28, 29, 30, 31, 32, 33, 7, 8, 9, 10, 11, 12, 13, 14, 34, 35, 36, 37, 38, 39, 40, 41, 15, 16, 17, 18, 42, 43, 44, 45, 46, 47, 48, 49, 50, 51, 52, 53, 54, 55, 56, 57, 58, 59, 60, 61, 62, 63, 64, 65, 66, 67, 68, 69, 70, 71, 72, 73, 74, 75] (by decide +kernel) (by decide +kernel)
set_option maxRecDepth 20000 in
theorem gX7_suspects_X7_suspectsOf : GoodIn wsX7_suspects (wsV RX7 185 RX7 yX7_suspectsOf wsX7_suspectsOf) := goodIn_app (goodIn_of _ (by decide +kernel)) ggX7_suspects_X7_suspectsOf
theorem dX7_suspects_0 : decode cX7_suspects 0 = .ok (.aload_n 0, 1) := by decide +kernel
theorem dX7_suspects_1 : decode cX7_suspects 1 = .ok (.invokevirtual 113, 3) := by decide +kernel
theorem dX7_suspects_4 : decode cX7_suspects 4 = .ok (.istore_n 1, 1) := by decide +kernel
theorem dX7_suspects_5 : decode cX7_suspects 5 = .ok (.aload_n 0, 1) := by decide +kernel
theorem dX7_suspects_6 : decode cX7_suspects 6 = .ok (.invokevirtual 57, 3) := by decide +kernel
theorem dX7_suspects_9 : decode cX7_suspects 9 = .ok (.ifCond .ge 8, 3) := by decide +kernel
theorem dX7_suspects_12 : decode cX7_suspects 12 = .ok (.bipush (-5), 2) := by decide +kernel
theorem dX7_suspects_14 : decode cX7_suspects 14 = .ok (.goto 8, 3) := by decide +kernel
theorem dX7_suspects_17 : decode cX7_suspects 17 = .ok (.aload_n 0, 1) := by decide +kernel
theorem dX7_suspects_18 : decode cX7_suspects 18 = .ok (.iload_n 1, 1) := by decide +kernel
theorem dX7_suspects_19 : decode cX7_suspects 19 = .ok (.invokevirtual 185, 3) := by decide +kernel
theorem dX7_suspects_22 : decode cX7_suspects 22 = .ok (.ireturn, 1) := by decide +kernel
set_option maxRecDepth 20000 in
theorem ggX7_suspectsOf_X7_lead : GoodIn wsX7_suspectsOf wsX7_lead := goodIn_r _ [5, 6, 7, 8, 4, 9, 10, 11, 12, 13, 14, 15, 16, 17, 18, 19, 20, 21, 22, 23, 24, 25, 26, 27, 28, 29, 30, 31, 32, 33, 34, 35, 36, 37, 54, 55, 56, 57, 58, 59, 60, 61, 62, 63, 64, 65, 66, 67] (by decide +kernel) (by decide +kernel)
set_option maxRecDepth 20000 in
theorem gX7_suspectsOf_X7_lead : GoodIn wsX7_suspectsOf (wsV RX7 94 RX7 yX7_lead wsX7_lead) := goodIn_app (goodIn_of _ (by decide +kernel)) ggX7_suspectsOf_X7_lead
set_option maxRecDepth 20000 in
theorem ggX7_suspectsOf_X7_wrongFor : GoodIn wsX7_suspectsOf wsX7_wrongFor := goodIn_r _ [41, 42, 43, 44, 4, 45, 6, 7, 8, 9, 46, 47, 48, 49, 22, 23, 24, 25, 18, 19, 20, 21, 26, 27, 28, 29, 30, 31, 32, 33, 50, 51, 52, 53, 54, 55, 56, 57, 58, 59, 60, 61, 62, 63, 64, 65, 66, 67] (by decide +kernel) (by decide +kernel)
set_option maxRecDepth 20000 in
theorem gX7_suspectsOf_X7_wrongFor : GoodIn wsX7_suspectsOf (wsV RX7 103 RX7 yX7_wrongFor wsX7_wrongFor) := goodIn_app (goodIn_of _ (by decide +kernel)) ggX7_suspectsOf_X7_wrongFor
theorem dX7_suspectsOf_0 : decode cX7_suspectsOf 0 = .ok (.aload_n 0, 1) := by decide +kernel
theorem dX7_suspectsOf_1 : decode cX7_suspectsOf 1 = .ok (.iload_n 1, 1) := by decide +kernel
theorem dX7_suspectsOf_2 : decode cX7_suspectsOf 2 = .ok (.aload_n 0, 1) := by decide +kernel
theorem dX7_suspectsOf_3 : decode cX7_suspectsOf 3 = .ok (.iload_n 1, 1) := by decide +kernel
theorem dX7_suspectsOf_4 : decode cX7_suspectsOf 4 = .ok (.iconst 0, 1) := by decide +kernel
theorem dX7_suspectsOf_5 : decode cX7_suspectsOf 5 = .ok (.invokevirtual 94, 3) := by decide +kernel
theorem dX7_suspectsOf_8 : decode cX7_suspectsOf 8 = .ok (.invokevirtual 103, 3) := by decide +kernel
theorem dX7_suspectsOf_11 : decode cX7_suspectsOf 11 = .ok (.ireturn, 1) := by decide +kernel
set_option maxRecDepth 20000 in
theorem ggX7_put_X7_in : GoodIn wsX7_put wsX7_in := goodIn_r _ [7] (by decide +kernel) (by decide +kernel)
set_option maxRecDepth 20000 in
theorem gX7_put_X7_in : GoodIn wsX7_put (va_wsS RX7 35 yX7_in wsX7_in) := goodIn_app (goodIn_of _ (by decide +kernel)) ggX7_put_X7_in
theorem dX7_put_0 : decode cX7_put 0 = .ok (.iconst 0, 1) := by decide +kernel
theorem dX7_put_1 : decode cX7_put 1 = .ok (.istore_n 3, 1) := by decide +kernel
theorem dX7_put_2 : decode cX7_put 2 = .ok (.lload_n 1, 1) := by decide +kernel
theorem dX7_put_3 : decode cX7_put 3 = .ok (.lstore 4, 2) := by decide +kernel
theorem dX7_put_5 : decode cX7_put 5 = .ok (.iload_n 3, 1) := by decide +kernel
theorem dX7_put_6 : decode cX7_put 6 = .ok (.bipush 8, 2) := by decide +kernel
theorem dX7_put_8 : decode cX7_put 8 = .ok (.if_icmp .ge 47, 3) := by decide +kernel
theorem dX7_put_11 : decode cX7_put 11 = .ok (.lload 4, 2) := by decide +kernel
theorem dX7_put_13 : decode cX7_put 13 = .ok (.ldc2_w 188, 3) := by decide +kernel
theorem dX7_put_16 : decode cX7_put 16 = .ok (.land, 1) := by decide +kernel
theorem dX7_put_17 : decode cX7_put 17 = .ok (.lconst 0, 1) := by decide +kernel
theorem dX7_put_18 : decode cX7_put 18 = .ok (.lcmp, 1) := by decide +kernel
theorem dX7_put_19 : decode cX7_put 19 = .ok (.ifCond .eq 36, 3) := by decide +kernel
theorem dX7_put_22 : decode cX7_put 22 = .ok (.lload 4, 2) := by decide +kernel
theorem dX7_put_24 : decode cX7_put 24 = .ok (.ldc2_w 188, 3) := by decide +kernel
theorem dX7_put_27 : decode cX7_put 27 = .ok (.land, 1) := by decide +kernel
theorem dX7_put_28 : decode cX7_put 28 = .ok (.l2i, 1) := by decide +kernel
theorem dX7_put_29 : decode cX7_put 29 = .ok (.bipush 33, 2) := by decide +kernel
theorem dX7_put_31 : decode cX7_put 31 = .ok (.bipush 126, 2) := by decide +kernel
theorem dX7_put_33 : decode cX7_put 33 = .ok (.invokestatic 35, 3) := by decide +kernel
theorem dX7_put_36 : decode cX7_put 36 = .ok (.ifCond .ne 6, 3) := by decide +kernel
theorem dX7_put_39 : decode cX7_put 39 = .ok (.bipush (-2), 2) := by decide +kernel
theorem dX7_put_41 : decode cX7_put 41 = .ok (.ireturn, 1) := by decide +kernel
theorem dX7_put_42 : decode cX7_put 42 = .ok (.iinc 3 1, 3) := by decide +kernel
theorem dX7_put_45 : decode cX7_put 45 = .ok (.lload 4, 2) := by decide +kernel
theorem dX7_put_47 : decode cX7_put 47 = .ok (.bipush 8, 2) := by decide +kernel
theorem dX7_put_49 : decode cX7_put 49 = .ok (.lushr, 1) := by decide +kernel
theorem dX7_put_50 : decode cX7_put 50 = .ok (.lstore 4, 2) := by decide +kernel
theorem dX7_put_52 : decode cX7_put 52 = .ok (.goto (-47), 3) := by decide +kernel
theorem dX7_put_55 : decode cX7_put 55 = .ok (.iload_n 3, 1) := by decide +kernel
theorem dX7_put_56 : decode cX7_put 56 = .ok (.ifCond .eq 10, 3) := by decide +kernel
theorem dX7_put_59 : decode cX7_put 59 = .ok (.lload 4, 2) := by decide +kernel
theorem dX7_put_61 : decode cX7_put 61 = .ok (.lconst 0, 1) := by decide +kernel
theorem dX7_put_62 : decode cX7_put 62 = .ok (.lcmp, 1) := by decide +kernel
theorem dX7_put_63 : decode cX7_put 63 = .ok (.ifCond .eq 6, 3) := by decide +kernel
theorem dX7_put_66 : decode cX7_put 66 = .ok (.bipush (-2), 2) := by decide +kernel
theorem dX7_put_68 : decode cX7_put 68 = .ok (.ireturn, 1) := by decide +kernel
theorem dX7_put_69 : decode cX7_put 69 = .ok (.aload_n 0, 1) := by decide +kernel
theorem dX7_put_70 : decode cX7_put 70 = .ok (.getfield 173, 3) := by decide +kernel
theorem dX7_put_73 : decode cX7_put 73 = .ok (.iload_n 3, 1) := by decide +kernel
theorem dX7_put_74 : decode cX7_put 74 = .ok (.iadd, 1) := by decide +kernel
theorem dX7_put_75 : decode cX7_put 75 = .ok (.bipush 80, 2) := by decide +kernel
theorem dX7_put_77 : decode cX7_put 77 = .ok (.if_icmp .le 6, 3) := by decide +kernel
theorem dX7_put_80 : decode cX7_put 80 = .ok (.bipush (-4), 2) := by decide +kernel
theorem dX7_put_82 : decode cX7_put 82 = .ok (.ireturn, 1) := by decide +kernel
theorem dX7_put_83 : decode cX7_put 83 = .ok (.iconst 0, 1) := by decide +kernel
theorem dX7_put_84 : decode cX7_put 84 = .ok (.istore 6, 2) := by decide +kernel
theorem dX7_put_86 : decode cX7_put 86 = .ok (.iload 6, 2) := by decide +kernel
theorem dX7_put_88 : decode cX7_put 88 = .ok (.iload_n 3, 1) := by decide +kernel
theorem dX7_put_89 : decode cX7_put 89 = .ok (.if_icmp .ge 37, 3) := by decide +kernel
theorem dX7_put_92 : decode cX7_put 92 = .ok (.aload_n 0, 1) := by decide +kernel
theorem dX7_put_93 : decode cX7_put 93 = .ok (.getfield 29, 3) := by decide +kernel
theorem dX7_put_96 : decode cX7_put 96 = .ok (.aload_n 0, 1) := by decide +kernel
theorem dX7_put_97 : decode cX7_put 97 = .ok (.getfield 173, 3) := by decide +kernel
theorem dX7_put_100 : decode cX7_put 100 = .ok (.iload 6, 2) := by decide +kernel
theorem dX7_put_102 : decode cX7_put 102 = .ok (.iadd, 1) := by decide +kernel
theorem dX7_put_103 : decode cX7_put 103 = .ok (.lload_n 1, 1) := by decide +kernel
theorem dX7_put_104 : decode cX7_put 104 = .ok (.bipush 8, 2) := by decide +kernel
theorem dX7_put_106 : decode cX7_put 106 = .ok (.iload_n 3, 1) := by decide +kernel
theorem dX7_put_107 : decode cX7_put 107 = .ok (.iconst 1, 1) := by decide +kernel
theorem dX7_put_108 : decode cX7_put 108 = .ok (.isub, 1) := by decide +kernel
theorem dX7_put_109 : decode cX7_put 109 = .ok (.iload 6, 2) := by decide +kernel
theorem dX7_put_111 : decode cX7_put 111 = .ok (.isub, 1) := by decide +kernel
theorem dX7_put_112 : decode cX7_put 112 = .ok (.imul, 1) := by decide +kernel
theorem dX7_put_113 : decode cX7_put 113 = .ok (.lshr, 1) := by decide +kernel
theorem dX7_put_114 : decode cX7_put 114 = .ok (.ldc2_w 188, 3) := by decide +kernel
theorem dX7_put_117 : decode cX7_put 117 = .ok (.land, 1) := by decide +kernel
theorem dX7_put_118 : decode cX7_put 118 = .ok (.l2i, 1) := by decide +kernel
theorem dX7_put_119 : decode cX7_put 119 = .ok (.iastore, 1) := by decide +kernel
theorem dX7_put_120 : decode cX7_put 120 = .ok (.iinc 6 1, 3) := by decide +kernel
theorem dX7_put_123 : decode cX7_put 123 = .ok (.goto (-37), 3) := by decide +kernel
theorem dX7_put_126 : decode cX7_put 126 = .ok (.aload_n 0, 1) := by decide +kernel
theorem dX7_put_127 : decode cX7_put 127 = .ok (.dup, 1) := by decide +kernel
theorem dX7_put_128 : decode cX7_put 128 = .ok (.getfield 173, 3) := by decide +kernel
theorem dX7_put_131 : decode cX7_put 131 = .ok (.iload_n 3, 1) := by decide +kernel
theorem dX7_put_132 : decode cX7_put 132 = .ok (.iadd, 1) := by decide +kernel
theorem dX7_put_133 : decode cX7_put 133 = .ok (.putfield 173, 3) := by decide +kernel
theorem dX7_put_136 : decode cX7_put 136 = .ok (.aload_n 0, 1) := by decide +kernel
theorem dX7_put_137 : decode cX7_put 137 = .ok (.getfield 173, 3) := by decide +kernel
theorem dX7_put_140 : decode cX7_put 140 = .ok (.ireturn, 1) := by decide +kernel
theorem dX7_wipe_0 : decode cX7_wipe 0 = .ok (.aload_n 0, 1) := by decide +kernel
theorem dX7_wipe_1 : decode cX7_wipe 1 = .ok (.getfield 173, 3) := by decide +kernel
theorem dX7_wipe_4 : decode cX7_wipe 4 = .ok (.istore_n 1, 1) := by decide +kernel
theorem dX7_wipe_5 : decode cX7_wipe 5 = .ok (.aload_n 0, 1) := by decide +kernel
theorem dX7_wipe_6 : decode cX7_wipe 6 = .ok (.iconst 0, 1) := by decide +kernel
theorem dX7_wipe_7 : decode cX7_wipe 7 = .ok (.putfield 173, 3) := by decide +kernel
theorem dX7_wipe_10 : decode cX7_wipe 10 = .ok (.iload_n 1, 1) := by decide +kernel
theorem dX7_wipe_11 : decode cX7_wipe 11 = .ok (.ireturn, 1) := by decide +kernel
theorem dX7_next_0 : decode cX7_next 0 = .ok (.aload_n 0, 1) := by decide +kernel
theorem dX7_next_1 : decode cX7_next 1 = .ok (.getfield 190, 3) := by decide +kernel
theorem dX7_next_4 : decode cX7_next 4 = .ok (.aload_n 0, 1) := by decide +kernel
theorem dX7_next_5 : decode cX7_next 5 = .ok (.getfield 173, 3) := by decide +kernel
theorem dX7_next_8 : decode cX7_next 8 = .ok (.if_icmp .ge 15, 3) := by decide +kernel
theorem dX7_next_11 : decode cX7_next 11 = .ok (.aload_n 0, 1) := by decide +kernel
theorem dX7_next_12 : decode cX7_next 12 = .ok (.getfield 29, 3) := by decide +kernel
theorem dX7_next_15 : decode cX7_next 15 = .ok (.aload_n 0, 1) := by decide +kernel
theorem dX7_next_16 : decode cX7_next 16 = .ok (.getfield 190, 3) := by decide +kernel
theorem dX7_next_19 : decode cX7_next 19 = .ok (.iaload, 1) := by decide +kernel
theorem dX7_next_20 : decode cX7_next 20 = .ok (.goto 4, 3) := by decide +kernel
theorem dX7_next_23 : decode cX7_next 23 = .ok (.iconst 0, 1) := by decide +kernel
theorem dX7_next_24 : decode cX7_next 24 = .ok (.ireturn, 1) := by decide +kernel
set_option maxRecDepth 20000 in
theorem ggX7_takeSign_X7_next : GoodIn wsX7_takeSign wsX7_next := goodIn_r _ [7, 2, 8, 9, 10, 11, 12, 13, 14, 15, 16, 17, 18, 19, 20, 21, 22, 23] (by decide +kernel) (by decide +kernel)
set_option maxRecDepth 20000 in
theorem gX7_takeSign_X7_next : GoodIn wsX7_takeSign (wsV RX7 197 RX7 yX7_next wsX7_next) := goodIn_app (goodIn_of _ (by decide +kernel)) ggX7_takeSign_X7_next
theorem dX7_takeSign_0 : decode cX7_takeSign 0 = .ok (.aload_n 0, 1) := by decide +kernel
theorem dX7_takeSign_1 : decode cX7_takeSign 1 = .ok (.aload_n 0, 1) := by decide +kernel
theorem dX7_takeSign_2 : decode cX7_takeSign 2 = .ok (.getfield 193, 3) := by decide +kernel
theorem dX7_takeSign_5 : decode cX7_takeSign 5 = .ok (.ifCond .ne 11, 3) := by decide +kernel
theorem dX7_takeSign_8 : decode cX7_takeSign 8 = .ok (.aload_n 0, 1) := by decide +kernel
theorem dX7_takeSign_9 : decode cX7_takeSign 9 = .ok (.invokevirtual 197, 3) := by decide +kernel
theorem dX7_takeSign_12 : decode cX7_takeSign 12 = .ok (.iload_n 1, 1) := by decide +kernel
theorem dX7_takeSign_13 : decode cX7_takeSign 13 = .ok (.if_icmp .eq 7, 3) := by decide +kernel
theorem dX7_takeSign_16 : decode cX7_takeSign 16 = .ok (.iconst 1, 1) := by decide +kernel
theorem dX7_takeSign_17 : decode cX7_takeSign 17 = .ok (.goto 4, 3) := by decide +kernel
theorem dX7_takeSign_20 : decode cX7_takeSign 20 = .ok (.iconst 0, 1) := by decide +kernel
theorem dX7_takeSign_21 : decode cX7_takeSign 21 = .ok (.putfield 193, 3) := by decide +kernel
theorem dX7_takeSign_24 : decode cX7_takeSign 24 = .ok (.aload_n 0, 1) := by decide +kernel
theorem dX7_takeSign_25 : decode cX7_takeSign 25 = .ok (.dup, 1) := by decide +kernel
theorem dX7_takeSign_26 : decode cX7_takeSign 26 = .ok (.getfield 190, 3) := by decide +kernel
theorem dX7_takeSign_29 : decode cX7_takeSign 29 = .ok (.aload_n 0, 1) := by decide +kernel
theorem dX7_takeSign_30 : decode cX7_takeSign 30 = .ok (.getfield 193, 3) := by decide +kernel
theorem dX7_takeSign_33 : decode cX7_takeSign 33 = .ok (.ifCond .eq 7, 3) := by decide +kernel
theorem dX7_takeSign_36 : decode cX7_takeSign 36 = .ok (.iconst 0, 1) := by decide +kernel
theorem dX7_takeSign_37 : decode cX7_takeSign 37 = .ok (.goto 4, 3) := by decide +kernel
theorem dX7_takeSign_40 : decode cX7_takeSign 40 = .ok (.iconst 1, 1) := by decide +kernel
theorem dX7_takeSign_41 : decode cX7_takeSign 41 = .ok (.iadd, 1) := by decide +kernel
theorem dX7_takeSign_42 : decode cX7_takeSign 42 = .ok (.putfield 190, 3) := by decide +kernel
theorem dX7_takeSign_45 : decode cX7_takeSign 45 = .ok (.return_, 1) := by decide +kernel
set_option maxRecDepth 20000 in
theorem ggX7_takesIf_X7_next : GoodIn wsX7_takesIf wsX7_next := goodIn_r _ [7, 2, 8, 9, 10, 11, 12, 13, 14, 15, 16, 17, 18, 19, 20, 21, 22, 23] (by decide +kernel) (by decide +kernel)
set_option maxRecDepth 20000 in
theorem gX7_takesIf_X7_next : GoodIn wsX7_takesIf (wsV RX7 197 RX7 yX7_next wsX7_next) := goodIn_app (goodIn_of _ (by decide +kernel)) ggX7_takesIf_X7_next
theorem dX7_takesIf_0 : decode cX7_takesIf 0 = .ok (.aload_n 0, 1) := by decide +kernel
theorem dX7_takesIf_1 : decode cX7_takesIf 1 = .ok (.getfield 193, 3) := by decide +kernel
theorem dX7_takesIf_4 : decode cX7_takesIf 4 = .ok (.ifCond .ne 15, 3) := by decide +kernel
theorem dX7_takesIf_7 : decode cX7_takesIf 7 = .ok (.aload_n 0, 1) := by decide +kernel
theorem dX7_takesIf_8 : decode cX7_takesIf 8 = .ok (.invokevirtual 197, 3) := by decide +kernel
theorem dX7_takesIf_11 : decode cX7_takesIf 11 = .ok (.iload_n 1, 1) := by decide +kernel
theorem dX7_takesIf_12 : decode cX7_takesIf 12 = .ok (.if_icmp .ne 7, 3) := by decide +kernel
theorem dX7_takesIf_15 : decode cX7_takesIf 15 = .ok (.iconst 1, 1) := by decide +kernel
theorem dX7_takesIf_16 : decode cX7_takesIf 16 = .ok (.goto 4, 3) := by decide +kernel
theorem dX7_takesIf_19 : decode cX7_takesIf 19 = .ok (.iconst 0, 1) := by decide +kernel
theorem dX7_takesIf_20 : decode cX7_takesIf 20 = .ok (.istore_n 2, 1) := by decide +kernel
theorem dX7_takesIf_21 : decode cX7_takesIf 21 = .ok (.aload_n 0, 1) := by decide +kernel
theorem dX7_takesIf_22 : decode cX7_takesIf 22 = .ok (.dup, 1) := by decide +kernel
theorem dX7_takesIf_23 : decode cX7_takesIf 23 = .ok (.getfield 190, 3) := by decide +kernel
theorem dX7_takesIf_26 : decode cX7_takesIf 26 = .ok (.iload_n 2, 1) := by decide +kernel
theorem dX7_takesIf_27 : decode cX7_takesIf 27 = .ok (.ifCond .eq 7, 3) := by decide +kernel
theorem dX7_takesIf_30 : decode cX7_takesIf 30 = .ok (.iconst 1, 1) := by decide +kernel
theorem dX7_takesIf_31 : decode cX7_takesIf 31 = .ok (.goto 4, 3) := by decide +kernel
theorem dX7_takesIf_34 : decode cX7_takesIf 34 = .ok (.iconst 0, 1) := by decide +kernel
theorem dX7_takesIf_35 : decode cX7_takesIf 35 = .ok (.iadd, 1) := by decide +kernel
theorem dX7_takesIf_36 : decode cX7_takesIf 36 = .ok (.putfield 190, 3) := by decide +kernel
theorem dX7_takesIf_39 : decode cX7_takesIf 39 = .ok (.iload_n 2, 1) := by decide +kernel
theorem dX7_takesIf_40 : decode cX7_takesIf 40 = .ok (.ireturn, 1) := by decide +kernel
set_option maxRecDepth 20000 in
theorem ggX7_takeNumber_X7_next : GoodIn wsX7_takeNumber wsX7_next := goodIn_r _ [9, 2, 10, 11, 15, 16, 17, 18, 19, 20, 21, 22, 23, 24, 25, 26, 27, 28] (by decide +kernel) (by decide +kernel)
set_option maxRecDepth 20000 in
theorem gX7_takeNumber_X7_next : GoodIn wsX7_takeNumber (wsV RX7 197 RX7 yX7_next wsX7_next) := goodIn_app (goodIn_of _ (by decide +kernel)) ggX7_takeNumber_X7_next
set_option maxRecDepth 20000 in
theorem ggX7_takeNumber_X7_in : GoodIn wsX7_takeNumber wsX7_in := goodIn_r _ [14] (by decide +kernel) (by decide +kernel)
set_option maxRecDepth 20000 in
theorem gX7_takeNumber_X7_in : GoodIn wsX7_takeNumber (va_wsS RX7 35 yX7_in wsX7_in) := goodIn_app (goodIn_of _ (by decide +kernel)) ggX7_takeNumber_X7_in
theorem dX7_takeNumber_0 : decode cX7_takeNumber 0 = .ok (.aload_n 0, 1) := by decide +kernel
theorem dX7_takeNumber_1 : decode cX7_takeNumber 1 = .ok (.aload_n 0, 1) := by decide +kernel
theorem dX7_takeNumber_2 : decode cX7_takeNumber 2 = .ok (.getfield 193, 3) := by decide +kernel
theorem dX7_takeNumber_5 : decode cX7_takeNumber 5 = .ok (.ifCond .ne 17, 3) := by decide +kernel
theorem dX7_takeNumber_8 : decode cX7_takeNumber 8 = .ok (.aload_n 0, 1) := by decide +kernel
theorem dX7_takeNumber_9 : decode cX7_takeNumber 9 = .ok (.invokevirtual 197, 3) := by decide +kernel
theorem dX7_takeNumber_12 : decode cX7_takeNumber 12 = .ok (.bipush 48, 2) := by decide +kernel
theorem dX7_takeNumber_14 : decode cX7_takeNumber 14 = .ok (.bipush 57, 2) := by decide +kernel
theorem dX7_takeNumber_16 : decode cX7_takeNumber 16 = .ok (.invokestatic 35, 3) := by decide +kernel
theorem dX7_takeNumber_19 : decode cX7_takeNumber 19 = .ok (.ifCond .ne 7, 3) := by decide +kernel
theorem dX7_takeNumber_22 : decode cX7_takeNumber 22 = .ok (.iconst 1, 1) := by decide +kernel
theorem dX7_takeNumber_23 : decode cX7_takeNumber 23 = .ok (.goto 4, 3) := by decide +kernel
theorem dX7_takeNumber_26 : decode cX7_takeNumber 26 = .ok (.iconst 0, 1) := by decide +kernel
theorem dX7_takeNumber_27 : decode cX7_takeNumber 27 = .ok (.putfield 193, 3) := by decide +kernel
theorem dX7_takeNumber_30 : decode cX7_takeNumber 30 = .ok (.aload_n 0, 1) := by decide +kernel
theorem dX7_takeNumber_31 : decode cX7_takeNumber 31 = .ok (.getfield 193, 3) := by decide +kernel
theorem dX7_takeNumber_34 : decode cX7_takeNumber 34 = .ok (.ifCond .eq 4, 3) := by decide +kernel
theorem dX7_takeNumber_37 : decode cX7_takeNumber 37 = .ok (.return_, 1) := by decide +kernel
theorem dX7_takeNumber_38 : decode cX7_takeNumber 38 = .ok (.aload_n 0, 1) := by decide +kernel
theorem dX7_takeNumber_39 : decode cX7_takeNumber 39 = .ok (.invokevirtual 197, 3) := by decide +kernel
theorem dX7_takeNumber_42 : decode cX7_takeNumber 42 = .ok (.bipush 48, 2) := by decide +kernel
theorem dX7_takeNumber_44 : decode cX7_takeNumber 44 = .ok (.isub, 1) := by decide +kernel
theorem dX7_takeNumber_45 : decode cX7_takeNumber 45 = .ok (.istore_n 2, 1) := by decide +kernel
theorem dX7_takeNumber_46 : decode cX7_takeNumber 46 = .ok (.aload_n 0, 1) := by decide +kernel
theorem dX7_takeNumber_47 : decode cX7_takeNumber 47 = .ok (.dup, 1) := by decide +kernel
theorem dX7_takeNumber_48 : decode cX7_takeNumber 48 = .ok (.getfield 190, 3) := by decide +kernel
theorem dX7_takeNumber_51 : decode cX7_takeNumber 51 = .ok (.iconst 1, 1) := by decide +kernel
theorem dX7_takeNumber_52 : decode cX7_takeNumber 52 = .ok (.iadd, 1) := by decide +kernel
theorem dX7_takeNumber_53 : decode cX7_takeNumber 53 = .ok (.putfield 190, 3) := by decide +kernel
theorem dX7_takeNumber_56 : decode cX7_takeNumber 56 = .ok (.aload_n 0, 1) := by decide +kernel
theorem dX7_takeNumber_57 : decode cX7_takeNumber 57 = .ok (.getfield 193, 3) := by decide +kernel
theorem dX7_takeNumber_60 : decode cX7_takeNumber 60 = .ok (.ifCond .ne 96, 3) := by decide +kernel
theorem dX7_takeNumber_63 : decode cX7_takeNumber 63 = .ok (.iload_n 2, 1) := by decide +kernel
theorem dX7_takeNumber_64 : decode cX7_takeNumber 64 = .ok (.ifCond .le 92, 3) := by decide +kernel
theorem dX7_takeNumber_67 : decode cX7_takeNumber 67 = .ok (.aload_n 0, 1) := by decide +kernel
theorem dX7_takeNumber_68 : decode cX7_takeNumber 68 = .ok (.invokevirtual 197, 3) := by decide +kernel
theorem dX7_takeNumber_71 : decode cX7_takeNumber 71 = .ok (.bipush 48, 2) := by decide +kernel
theorem dX7_takeNumber_73 : decode cX7_takeNumber 73 = .ok (.bipush 57, 2) := by decide +kernel
theorem dX7_takeNumber_75 : decode cX7_takeNumber 75 = .ok (.invokestatic 35, 3) := by decide +kernel
theorem dX7_takeNumber_78 : decode cX7_takeNumber 78 = .ok (.ifCond .eq 78, 3) := by decide +kernel
theorem dX7_takeNumber_81 : decode cX7_takeNumber 81 = .ok (.aload_n 0, 1) := by decide +kernel
theorem dX7_takeNumber_82 : decode cX7_takeNumber 82 = .ok (.bipush 10, 2) := by decide +kernel
theorem dX7_takeNumber_84 : decode cX7_takeNumber 84 = .ok (.iload_n 2, 1) := by decide +kernel
theorem dX7_takeNumber_85 : decode cX7_takeNumber 85 = .ok (.imul, 1) := by decide +kernel
theorem dX7_takeNumber_86 : decode cX7_takeNumber 86 = .ok (.aload_n 0, 1) := by decide +kernel
theorem dX7_takeNumber_87 : decode cX7_takeNumber 87 = .ok (.invokevirtual 197, 3) := by decide +kernel
theorem dX7_takeNumber_90 : decode cX7_takeNumber 90 = .ok (.iadd, 1) := by decide +kernel
theorem dX7_takeNumber_91 : decode cX7_takeNumber 91 = .ok (.bipush 48, 2) := by decide +kernel
theorem dX7_takeNumber_93 : decode cX7_takeNumber 93 = .ok (.isub, 1) := by decide +kernel
theorem dX7_takeNumber_94 : decode cX7_takeNumber 94 = .ok (.sipush 999, 3) := by decide +kernel
theorem dX7_takeNumber_97 : decode cX7_takeNumber 97 = .ok (.if_icmp .le 7, 3) := by decide +kernel
theorem dX7_takeNumber_100 : decode cX7_takeNumber 100 = .ok (.iconst 1, 1) := by decide +kernel
theorem dX7_takeNumber_101 : decode cX7_takeNumber 101 = .ok (.goto 4, 3) := by decide +kernel
theorem dX7_takeNumber_104 : decode cX7_takeNumber 104 = .ok (.iconst 0, 1) := by decide +kernel
theorem dX7_takeNumber_105 : decode cX7_takeNumber 105 = .ok (.putfield 193, 3) := by decide +kernel
theorem dX7_takeNumber_108 : decode cX7_takeNumber 108 = .ok (.aload_n 0, 1) := by decide +kernel
theorem dX7_takeNumber_109 : decode cX7_takeNumber 109 = .ok (.getfield 193, 3) := by decide +kernel
theorem dX7_takeNumber_112 : decode cX7_takeNumber 112 = .ok (.ifCond .eq 7, 3) := by decide +kernel
theorem dX7_takeNumber_115 : decode cX7_takeNumber 115 = .ok (.iload_n 2, 1) := by decide +kernel
theorem dX7_takeNumber_116 : decode cX7_takeNumber 116 = .ok (.goto 15, 3) := by decide +kernel
theorem dX7_takeNumber_119 : decode cX7_takeNumber 119 = .ok (.bipush 10, 2) := by decide +kernel
theorem dX7_takeNumber_121 : decode cX7_takeNumber 121 = .ok (.iload_n 2, 1) := by decide +kernel
theorem dX7_takeNumber_122 : decode cX7_takeNumber 122 = .ok (.imul, 1) := by decide +kernel
theorem dX7_takeNumber_123 : decode cX7_takeNumber 123 = .ok (.aload_n 0, 1) := by decide +kernel
theorem dX7_takeNumber_124 : decode cX7_takeNumber 124 = .ok (.invokevirtual 197, 3) := by decide +kernel
theorem dX7_takeNumber_127 : decode cX7_takeNumber 127 = .ok (.iadd, 1) := by decide +kernel
theorem dX7_takeNumber_128 : decode cX7_takeNumber 128 = .ok (.bipush 48, 2) := by decide +kernel
theorem dX7_takeNumber_130 : decode cX7_takeNumber 130 = .ok (.isub, 1) := by decide +kernel
theorem dX7_takeNumber_131 : decode cX7_takeNumber 131 = .ok (.istore_n 2, 1) := by decide +kernel
theorem dX7_takeNumber_132 : decode cX7_takeNumber 132 = .ok (.aload_n 0, 1) := by decide +kernel
theorem dX7_takeNumber_133 : decode cX7_takeNumber 133 = .ok (.dup, 1) := by decide +kernel
theorem dX7_takeNumber_134 : decode cX7_takeNumber 134 = .ok (.getfield 190, 3) := by decide +kernel
theorem dX7_takeNumber_137 : decode cX7_takeNumber 137 = .ok (.aload_n 0, 1) := by decide +kernel
theorem dX7_takeNumber_138 : decode cX7_takeNumber 138 = .ok (.getfield 193, 3) := by decide +kernel
theorem dX7_takeNumber_141 : decode cX7_takeNumber 141 = .ok (.ifCond .eq 7, 3) := by decide +kernel
theorem dX7_takeNumber_144 : decode cX7_takeNumber 144 = .ok (.iconst 0, 1) := by decide +kernel
theorem dX7_takeNumber_145 : decode cX7_takeNumber 145 = .ok (.goto 4, 3) := by decide +kernel
theorem dX7_takeNumber_148 : decode cX7_takeNumber 148 = .ok (.iconst 1, 1) := by decide +kernel
theorem dX7_takeNumber_149 : decode cX7_takeNumber 149 = .ok (.iadd, 1) := by decide +kernel
theorem dX7_takeNumber_150 : decode cX7_takeNumber 150 = .ok (.putfield 190, 3) := by decide +kernel
theorem dX7_takeNumber_153 : decode cX7_takeNumber 153 = .ok (.goto (-97), 3) := by decide +kernel
theorem dX7_takeNumber_156 : decode cX7_takeNumber 156 = .ok (.aload_n 0, 1) := by decide +kernel
theorem dX7_takeNumber_157 : decode cX7_takeNumber 157 = .ok (.getfield 32, 3) := by decide +kernel
theorem dX7_takeNumber_160 : decode cX7_takeNumber 160 = .ok (.bipush 6, 2) := by decide +kernel
theorem dX7_takeNumber_162 : decode cX7_takeNumber 162 = .ok (.aload_n 0, 1) := by decide +kernel
theorem dX7_takeNumber_163 : decode cX7_takeNumber 163 = .ok (.getfield 200, 3) := by decide +kernel
theorem dX7_takeNumber_166 : decode cX7_takeNumber 166 = .ok (.imul, 1) := by decide +kernel
theorem dX7_takeNumber_167 : decode cX7_takeNumber 167 = .ok (.iload_n 1, 1) := by decide +kernel
theorem dX7_takeNumber_168 : decode cX7_takeNumber 168 = .ok (.iadd, 1) := by decide +kernel
theorem dX7_takeNumber_169 : decode cX7_takeNumber 169 = .ok (.iload_n 2, 1) := by decide +kernel
theorem dX7_takeNumber_170 : decode cX7_takeNumber 170 = .ok (.iastore, 1) := by decide +kernel
theorem dX7_takeNumber_171 : decode cX7_takeNumber 171 = .ok (.return_, 1) := by decide +kernel
set_option maxRecDepth 20000 in
theorem ggX7_takePile_X7_takeNumber : GoodIn wsX7_takePile wsX7_takeNumber := goodIn_r _ [8, 3, 9, 1, 2, 10, 11, 12, 7, 13, 14, 15, 16, 17, 18, 27, 28, 29, 30, 31, 32, 33, 34, 35, 36, 37, 38, 39, 40] (by decide +kernel) (by decide +kernel)
set_option maxRecDepth 20000 in
theorem gX7_takePile_X7_takeNumber : GoodIn wsX7_takePile (wsV RX7 203 RX7 yX7_takeNumber wsX7_takeNumber) := goodIn_app (goodIn_of _ (by decide +kernel)) ggX7_takePile_X7_takeNumber
set_option maxRecDepth 20000 in
theorem ggX7_takePile_X7_takeSign : GoodIn wsX7_takePile wsX7_takeSign := goodIn_r _ [22, 3, 9, 10, 11, 12, 7, 13, 14, 15, 27, 28, 29, 30, 31, 32, 33, 34, 35, 36, 37, 38, 39, 40] (by decide +kernel) (by decide +kernel)
set_option maxRecDepth 20000 in
theorem gX7_takePile_X7_takeSign : GoodIn wsX7_takePile (wsV RX7 206 RX7 yX7_takeSign wsX7_takeSign) := goodIn_app (goodIn_of _ (by decide +kernel)) ggX7_takePile_X7_takeSign
set_option maxRecDepth 20000 in
theorem ggX7_takePile_X7_takesIf : GoodIn wsX7_takePile wsX7_takesIf := goodIn_r _ [26, 3, 9, 10, 11, 12, 7, 13, 14, 15, 27, 28, 29, 30, 31, 32, 33, 34, 35, 36, 37, 38, 39, 40] (by decide +kernel) (by decide +kernel)
set_option maxRecDepth 20000 in
theorem gX7_takePile_X7_takesIf : GoodIn wsX7_takePile (wsV RX7 209 RX7 yX7_takesIf wsX7_takesIf) := goodIn_app (goodIn_of _ (by decide +kernel)) ggX7_takePile_X7_takesIf
theorem dX7_takePile_0 : decode cX7_takePile 0 = .ok (.aload_n 0, 1) := by decide +kernel
theorem dX7_takePile_1 : decode cX7_takePile 1 = .ok (.iconst 0, 1) := by decide +kernel
theorem dX7_takePile_2 : decode cX7_takePile 2 = .ok (.invokevirtual 203, 3) := by decide +kernel
theorem dX7_takePile_5 : decode cX7_takePile 5 = .ok (.aload_n 0, 1) := by decide +kernel
theorem dX7_takePile_6 : decode cX7_takePile 6 = .ok (.bipush 44, 2) := by decide +kernel
theorem dX7_takePile_8 : decode cX7_takePile 8 = .ok (.invokevirtual 206, 3) := by decide +kernel
theorem dX7_takePile_11 : decode cX7_takePile 11 = .ok (.aload_n 0, 1) := by decide +kernel
theorem dX7_takePile_12 : decode cX7_takePile 12 = .ok (.iconst 1, 1) := by decide +kernel
theorem dX7_takePile_13 : decode cX7_takePile 13 = .ok (.invokevirtual 203, 3) := by decide +kernel
theorem dX7_takePile_16 : decode cX7_takePile 16 = .ok (.aload_n 0, 1) := by decide +kernel
theorem dX7_takePile_17 : decode cX7_takePile 17 = .ok (.getfield 32, 3) := by decide +kernel
theorem dX7_takePile_20 : decode cX7_takePile 20 = .ok (.bipush 6, 2) := by decide +kernel
theorem dX7_takePile_22 : decode cX7_takePile 22 = .ok (.aload_n 0, 1) := by decide +kernel
theorem dX7_takePile_23 : decode cX7_takePile 23 = .ok (.getfield 200, 3) := by decide +kernel
theorem dX7_takePile_26 : decode cX7_takePile 26 = .ok (.imul, 1) := by decide +kernel
theorem dX7_takePile_27 : decode cX7_takePile 27 = .ok (.iconst 2, 1) := by decide +kernel
theorem dX7_takePile_28 : decode cX7_takePile 28 = .ok (.iadd, 1) := by decide +kernel
theorem dX7_takePile_29 : decode cX7_takePile 29 = .ok (.iconst 0, 1) := by decide +kernel
theorem dX7_takePile_30 : decode cX7_takePile 30 = .ok (.iastore, 1) := by decide +kernel
theorem dX7_takePile_31 : decode cX7_takePile 31 = .ok (.aload_n 0, 1) := by decide +kernel
theorem dX7_takePile_32 : decode cX7_takePile 32 = .ok (.getfield 32, 3) := by decide +kernel
theorem dX7_takePile_35 : decode cX7_takePile 35 = .ok (.bipush 6, 2) := by decide +kernel
theorem dX7_takePile_37 : decode cX7_takePile 37 = .ok (.aload_n 0, 1) := by decide +kernel
theorem dX7_takePile_38 : decode cX7_takePile 38 = .ok (.getfield 200, 3) := by decide +kernel
theorem dX7_takePile_41 : decode cX7_takePile 41 = .ok (.imul, 1) := by decide +kernel
theorem dX7_takePile_42 : decode cX7_takePile 42 = .ok (.iconst 3, 1) := by decide +kernel
theorem dX7_takePile_43 : decode cX7_takePile 43 = .ok (.iadd, 1) := by decide +kernel
theorem dX7_takePile_44 : decode cX7_takePile 44 = .ok (.iconst 0, 1) := by decide +kernel
theorem dX7_takePile_45 : decode cX7_takePile 45 = .ok (.iastore, 1) := by decide +kernel
theorem dX7_takePile_46 : decode cX7_takePile 46 = .ok (.aload_n 0, 1) := by decide +kernel
theorem dX7_takePile_47 : decode cX7_takePile 47 = .ok (.bipush 44, 2) := by decide +kernel
theorem dX7_takePile_49 : decode cX7_takePile 49 = .ok (.invokevirtual 209, 3) := by decide +kernel
theorem dX7_takePile_52 : decode cX7_takePile 52 = .ok (.ifCond .eq 8, 3) := by decide +kernel
theorem dX7_takePile_55 : decode cX7_takePile 55 = .ok (.aload_n 0, 1) := by decide +kernel
theorem dX7_takePile_56 : decode cX7_takePile 56 = .ok (.iconst 2, 1) := by decide +kernel
theorem dX7_takePile_57 : decode cX7_takePile 57 = .ok (.invokevirtual 203, 3) := by decide +kernel
theorem dX7_takePile_60 : decode cX7_takePile 60 = .ok (.aload_n 0, 1) := by decide +kernel
theorem dX7_takePile_61 : decode cX7_takePile 61 = .ok (.bipush 61, 2) := by decide +kernel
theorem dX7_takePile_63 : decode cX7_takePile 63 = .ok (.invokevirtual 209, 3) := by decide +kernel
theorem dX7_takePile_66 : decode cX7_takePile 66 = .ok (.ifCond .eq 34, 3) := by decide +kernel
theorem dX7_takePile_69 : decode cX7_takePile 69 = .ok (.aload_n 0, 1) := by decide +kernel
theorem dX7_takePile_70 : decode cX7_takePile 70 = .ok (.getfield 32, 3) := by decide +kernel
theorem dX7_takePile_73 : decode cX7_takePile 73 = .ok (.bipush 6, 2) := by decide +kernel
theorem dX7_takePile_75 : decode cX7_takePile 75 = .ok (.aload_n 0, 1) := by decide +kernel
theorem dX7_takePile_76 : decode cX7_takePile 76 = .ok (.getfield 200, 3) := by decide +kernel
theorem dX7_takePile_79 : decode cX7_takePile 79 = .ok (.imul, 1) := by decide +kernel
theorem dX7_takePile_80 : decode cX7_takePile 80 = .ok (.iconst 3, 1) := by decide +kernel
theorem dX7_takePile_81 : decode cX7_takePile 81 = .ok (.iadd, 1) := by decide +kernel
theorem dX7_takePile_82 : decode cX7_takePile 82 = .ok (.iconst 1, 1) := by decide +kernel
theorem dX7_takePile_83 : decode cX7_takePile 83 = .ok (.iastore, 1) := by decide +kernel
theorem dX7_takePile_84 : decode cX7_takePile 84 = .ok (.aload_n 0, 1) := by decide +kernel
theorem dX7_takePile_85 : decode cX7_takePile 85 = .ok (.iconst 4, 1) := by decide +kernel
theorem dX7_takePile_86 : decode cX7_takePile 86 = .ok (.invokevirtual 203, 3) := by decide +kernel
theorem dX7_takePile_89 : decode cX7_takePile 89 = .ok (.aload_n 0, 1) := by decide +kernel
theorem dX7_takePile_90 : decode cX7_takePile 90 = .ok (.bipush 44, 2) := by decide +kernel
theorem dX7_takePile_92 : decode cX7_takePile 92 = .ok (.invokevirtual 206, 3) := by decide +kernel
theorem dX7_takePile_95 : decode cX7_takePile 95 = .ok (.aload_n 0, 1) := by decide +kernel
theorem dX7_takePile_96 : decode cX7_takePile 96 = .ok (.iconst 5, 1) := by decide +kernel
theorem dX7_takePile_97 : decode cX7_takePile 97 = .ok (.invokevirtual 203, 3) := by decide +kernel
theorem dX7_takePile_100 : decode cX7_takePile 100 = .ok (.aload_n 0, 1) := by decide +kernel
theorem dX7_takePile_101 : decode cX7_takePile 101 = .ok (.dup, 1) := by decide +kernel
theorem dX7_takePile_102 : decode cX7_takePile 102 = .ok (.getfield 200, 3) := by decide +kernel
theorem dX7_takePile_105 : decode cX7_takePile 105 = .ok (.aload_n 0, 1) := by decide +kernel
theorem dX7_takePile_106 : decode cX7_takePile 106 = .ok (.getfield 193, 3) := by decide +kernel
theorem dX7_takePile_109 : decode cX7_takePile 109 = .ok (.ifCond .eq 7, 3) := by decide +kernel
theorem dX7_takePile_112 : decode cX7_takePile 112 = .ok (.iconst 0, 1) := by decide +kernel
theorem dX7_takePile_113 : decode cX7_takePile 113 = .ok (.goto 4, 3) := by decide +kernel
theorem dX7_takePile_116 : decode cX7_takePile 116 = .ok (.iconst 1, 1) := by decide +kernel
theorem dX7_takePile_117 : decode cX7_takePile 117 = .ok (.iadd, 1) := by decide +kernel
theorem dX7_takePile_118 : decode cX7_takePile 118 = .ok (.putfield 200, 3) := by decide +kernel
theorem dX7_takePile_121 : decode cX7_takePile 121 = .ok (.return_, 1) := by decide +kernel
set_option maxRecDepth 20000 in
theorem ggX7_fault_X7_takePile : GoodIn wsX7_fault wsX7_takePile := goodIn_r _ [9, 10, 3, 2, 11, 12, 13, 8, 14, 1, 15, 16, 17, 18, 4, 19, 20, 21, 22, 23, 24, 25, 26, 27, 28, 29, 30, 31, 32, 33, 34, 35, 36, 37, 38, 39, 40, 41, 42, 43, 44] (by decide +kernel) (by decide +kernel)
set_option maxRecDepth 20000 in
theorem gX7_fault_X7_takePile : GoodIn wsX7_fault (wsV RX7 212 RX7 yX7_takePile wsX7_takePile) := goodIn_app (goodIn_of _ (by decide +kernel)) ggX7_fault_X7_takePile
set_option maxRecDepth 20000 in
theorem ggX7_fault_X7_takeSign : GoodIn wsX7_fault wsX7_takeSign := goodIn_r _ [26, 2, 1, 15, 16, 17, 8, 18, 4, 19, 31, 32, 33, 34, 35, 36, 37, 38, 39, 40, 41, 42, 43, 44] (by decide +kernel) (by decide +kernel)
set_option maxRecDepth 20000 in
theorem gX7_fault_X7_takeSign : GoodIn wsX7_fault (wsV RX7 206 RX7 yX7_takeSign wsX7_takeSign) := goodIn_app (goodIn_of _ (by decide +kernel)) ggX7_fault_X7_takeSign
theorem dX7_fault_0 : decode cX7_fault 0 = .ok (.aload_n 0, 1) := by decide +kernel
theorem dX7_fault_1 : decode cX7_fault 1 = .ok (.iconst 0, 1) := by decide +kernel
theorem dX7_fault_2 : decode cX7_fault 2 = .ok (.putfield 190, 3) := by decide +kernel
theorem dX7_fault_5 : decode cX7_fault 5 = .ok (.aload_n 0, 1) := by decide +kernel
theorem dX7_fault_6 : decode cX7_fault 6 = .ok (.iconst 0, 1) := by decide +kernel
theorem dX7_fault_7 : decode cX7_fault 7 = .ok (.putfield 193, 3) := by decide +kernel
theorem dX7_fault_10 : decode cX7_fault 10 = .ok (.aload_n 0, 1) := by decide +kernel
theorem dX7_fault_11 : decode cX7_fault 11 = .ok (.iconst 0, 1) := by decide +kernel
theorem dX7_fault_12 : decode cX7_fault 12 = .ok (.putfield 200, 3) := by decide +kernel
theorem dX7_fault_15 : decode cX7_fault 15 = .ok (.aload_n 0, 1) := by decide +kernel
theorem dX7_fault_16 : decode cX7_fault 16 = .ok (.invokevirtual 212, 3) := by decide +kernel
theorem dX7_fault_19 : decode cX7_fault 19 = .ok (.aload_n 0, 1) := by decide +kernel
theorem dX7_fault_20 : decode cX7_fault 20 = .ok (.getfield 193, 3) := by decide +kernel
theorem dX7_fault_23 : decode cX7_fault 23 = .ok (.ifCond .ne 34, 3) := by decide +kernel
theorem dX7_fault_26 : decode cX7_fault 26 = .ok (.aload_n 0, 1) := by decide +kernel
theorem dX7_fault_27 : decode cX7_fault 27 = .ok (.getfield 190, 3) := by decide +kernel
theorem dX7_fault_30 : decode cX7_fault 30 = .ok (.aload_n 0, 1) := by decide +kernel
theorem dX7_fault_31 : decode cX7_fault 31 = .ok (.getfield 173, 3) := by decide +kernel
theorem dX7_fault_34 : decode cX7_fault 34 = .ok (.if_icmp .ge 23, 3) := by decide +kernel
theorem dX7_fault_37 : decode cX7_fault 37 = .ok (.aload_n 0, 1) := by decide +kernel
theorem dX7_fault_38 : decode cX7_fault 38 = .ok (.bipush 59, 2) := by decide +kernel
theorem dX7_fault_40 : decode cX7_fault 40 = .ok (.invokevirtual 206, 3) := by decide +kernel
theorem dX7_fault_43 : decode cX7_fault 43 = .ok (.aload_n 0, 1) := by decide +kernel
theorem dX7_fault_44 : decode cX7_fault 44 = .ok (.getfield 193, 3) := by decide +kernel
theorem dX7_fault_47 : decode cX7_fault 47 = .ok (.ifCond .ne (-28), 3) := by decide +kernel
theorem dX7_fault_50 : decode cX7_fault 50 = .ok (.aload_n 0, 1) := by decide +kernel
theorem dX7_fault_51 : decode cX7_fault 51 = .ok (.invokevirtual 212, 3) := by decide +kernel
theorem dX7_fault_54 : decode cX7_fault 54 = .ok (.goto (-35), 3) := by decide +kernel
theorem dX7_fault_57 : decode cX7_fault 57 = .ok (.aload_n 0, 1) := by decide +kernel
theorem dX7_fault_58 : decode cX7_fault 58 = .ok (.getfield 193, 3) := by decide +kernel
theorem dX7_fault_61 : decode cX7_fault 61 = .ok (.ifCond .eq 10, 3) := by decide +kernel
theorem dX7_fault_64 : decode cX7_fault 64 = .ok (.aload_n 0, 1) := by decide +kernel
theorem dX7_fault_65 : decode cX7_fault 65 = .ok (.getfield 190, 3) := by decide +kernel
theorem dX7_fault_68 : decode cX7_fault 68 = .ok (.goto 5, 3) := by decide +kernel
theorem dX7_fault_71 : decode cX7_fault 71 = .ok (.bipush (-6), 2) := by decide +kernel
theorem dX7_fault_73 : decode cX7_fault 73 = .ok (.ireturn, 1) := by decide +kernel
set_option maxRecDepth 20000 in
theorem ggX7_makeOne_X7_tryPile : GoodIn wsX7_makeOne wsX7_tryPile := goodIn_r _ [6, 7, 8, 9, 5, 10, 11, 12, 13, 14, 15, 16, 17, 18, 19, 20, 21, 43, 44, 45, 46, 47, 48, 49, 50, 51, 52, 53, 54, 55, 56] (by decide +kernel) (by decide +kernel)
set_option maxRecDepth 20000 in
theorem gX7_makeOne_X7_tryPile : GoodIn wsX7_makeOne (wsV RX7 126 RX7 yX7_tryPile wsX7_tryPile) := goodIn_app (goodIn_of _ (by decide +kernel)) ggX7_makeOne_X7_tryPile
set_option maxRecDepth 20000 in
theorem ggX7_makeOne_X7_tryFinds : GoodIn wsX7_makeOne wsX7_tryFinds := goodIn_r _ [25, 7, 26, 27, 28, 29, 5, 30, 8, 9, 10, 31, 32, 33, 34, 35, 36, 37, 38, 39, 40, 41, 42, 11, 12, 13, 14, 15, 16, 17, 18, 19, 20, 21, 43, 44, 45, 46, 47, 48, 49, 50, 51, 52, 53, 54, 55, 56] (by decide +kernel) (by decide +kernel)
set_option maxRecDepth 20000 in
theorem gX7_makeOne_X7_tryFinds : GoodIn wsX7_makeOne (wsV RX7 134 RX7 yX7_tryFinds wsX7_tryFinds) := goodIn_app (goodIn_of _ (by decide +kernel)) ggX7_makeOne_X7_tryFinds
theorem dX7_makeOne_0 : decode cX7_makeOne 0 = .ok (.bipush 6, 2) := by decide +kernel
theorem dX7_makeOne_2 : decode cX7_makeOne 2 = .ok (.iload_n 1, 1) := by decide +kernel
theorem dX7_makeOne_3 : decode cX7_makeOne 3 = .ok (.imul, 1) := by decide +kernel
theorem dX7_makeOne_4 : decode cX7_makeOne 4 = .ok (.istore_n 2, 1) := by decide +kernel
theorem dX7_makeOne_5 : decode cX7_makeOne 5 = .ok (.aload_n 0, 1) := by decide +kernel
theorem dX7_makeOne_6 : decode cX7_makeOne 6 = .ok (.aload_n 0, 1) := by decide +kernel
theorem dX7_makeOne_7 : decode cX7_makeOne 7 = .ok (.getfield 32, 3) := by decide +kernel
theorem dX7_makeOne_10 : decode cX7_makeOne 10 = .ok (.iload_n 2, 1) := by decide +kernel
theorem dX7_makeOne_11 : decode cX7_makeOne 11 = .ok (.iaload, 1) := by decide +kernel
theorem dX7_makeOne_12 : decode cX7_makeOne 12 = .ok (.aload_n 0, 1) := by decide +kernel
theorem dX7_makeOne_13 : decode cX7_makeOne 13 = .ok (.getfield 32, 3) := by decide +kernel
theorem dX7_makeOne_16 : decode cX7_makeOne 16 = .ok (.iload_n 2, 1) := by decide +kernel
theorem dX7_makeOne_17 : decode cX7_makeOne 17 = .ok (.iconst 1, 1) := by decide +kernel
theorem dX7_makeOne_18 : decode cX7_makeOne 18 = .ok (.iadd, 1) := by decide +kernel
theorem dX7_makeOne_19 : decode cX7_makeOne 19 = .ok (.iaload, 1) := by decide +kernel
theorem dX7_makeOne_20 : decode cX7_makeOne 20 = .ok (.aload_n 0, 1) := by decide +kernel
theorem dX7_makeOne_21 : decode cX7_makeOne 21 = .ok (.getfield 32, 3) := by decide +kernel
theorem dX7_makeOne_24 : decode cX7_makeOne 24 = .ok (.iload_n 2, 1) := by decide +kernel
theorem dX7_makeOne_25 : decode cX7_makeOne 25 = .ok (.iconst 2, 1) := by decide +kernel
theorem dX7_makeOne_26 : decode cX7_makeOne 26 = .ok (.iadd, 1) := by decide +kernel
theorem dX7_makeOne_27 : decode cX7_makeOne 27 = .ok (.iaload, 1) := by decide +kernel
theorem dX7_makeOne_28 : decode cX7_makeOne 28 = .ok (.iconst 0, 1) := by decide +kernel
theorem dX7_makeOne_29 : decode cX7_makeOne 29 = .ok (.invokevirtual 126, 3) := by decide +kernel
theorem dX7_makeOne_32 : decode cX7_makeOne 32 = .ok (.istore_n 3, 1) := by decide +kernel
theorem dX7_makeOne_33 : decode cX7_makeOne 33 = .ok (.iload_n 3, 1) := by decide +kernel
theorem dX7_makeOne_34 : decode cX7_makeOne 34 = .ok (.ifCond .lt 14, 3) := by decide +kernel
theorem dX7_makeOne_37 : decode cX7_makeOne 37 = .ok (.aload_n 0, 1) := by decide +kernel
theorem dX7_makeOne_38 : decode cX7_makeOne 38 = .ok (.getfield 32, 3) := by decide +kernel
theorem dX7_makeOne_41 : decode cX7_makeOne 41 = .ok (.iload_n 2, 1) := by decide +kernel
theorem dX7_makeOne_42 : decode cX7_makeOne 42 = .ok (.iconst 3, 1) := by decide +kernel
theorem dX7_makeOne_43 : decode cX7_makeOne 43 = .ok (.iadd, 1) := by decide +kernel
theorem dX7_makeOne_44 : decode cX7_makeOne 44 = .ok (.iaload, 1) := by decide +kernel
theorem dX7_makeOne_45 : decode cX7_makeOne 45 = .ok (.ifCond .ne 7, 3) := by decide +kernel
theorem dX7_makeOne_48 : decode cX7_makeOne 48 = .ok (.iload_n 3, 1) := by decide +kernel
theorem dX7_makeOne_49 : decode cX7_makeOne 49 = .ok (.goto 25, 3) := by decide +kernel
theorem dX7_makeOne_52 : decode cX7_makeOne 52 = .ok (.aload_n 0, 1) := by decide +kernel
theorem dX7_makeOne_53 : decode cX7_makeOne 53 = .ok (.iload_n 3, 1) := by decide +kernel
theorem dX7_makeOne_54 : decode cX7_makeOne 54 = .ok (.aload_n 0, 1) := by decide +kernel
theorem dX7_makeOne_55 : decode cX7_makeOne 55 = .ok (.getfield 32, 3) := by decide +kernel
theorem dX7_makeOne_58 : decode cX7_makeOne 58 = .ok (.iload_n 2, 1) := by decide +kernel
theorem dX7_makeOne_59 : decode cX7_makeOne 59 = .ok (.iconst 4, 1) := by decide +kernel
theorem dX7_makeOne_60 : decode cX7_makeOne 60 = .ok (.iadd, 1) := by decide +kernel
theorem dX7_makeOne_61 : decode cX7_makeOne 61 = .ok (.iaload, 1) := by decide +kernel
theorem dX7_makeOne_62 : decode cX7_makeOne 62 = .ok (.aload_n 0, 1) := by decide +kernel
theorem dX7_makeOne_63 : decode cX7_makeOne 63 = .ok (.getfield 32, 3) := by decide +kernel
theorem dX7_makeOne_66 : decode cX7_makeOne 66 = .ok (.iload_n 2, 1) := by decide +kernel
theorem dX7_makeOne_67 : decode cX7_makeOne 67 = .ok (.iconst 5, 1) := by decide +kernel
theorem dX7_makeOne_68 : decode cX7_makeOne 68 = .ok (.iadd, 1) := by decide +kernel
theorem dX7_makeOne_69 : decode cX7_makeOne 69 = .ok (.iaload, 1) := by decide +kernel
theorem dX7_makeOne_70 : decode cX7_makeOne 70 = .ok (.iconst 0, 1) := by decide +kernel
theorem dX7_makeOne_71 : decode cX7_makeOne 71 = .ok (.invokevirtual 134, 3) := by decide +kernel
theorem dX7_makeOne_74 : decode cX7_makeOne 74 = .ok (.ireturn, 1) := by decide +kernel
set_option maxRecDepth 20000 in
theorem ggX7_make_X7_fault : GoodIn wsX7_make wsX7_fault := goodIn_r _ [7, 8, 9, 1, 2, 10, 11, 12, 6, 13, 14, 15, 16, 17, 18, 19, 20, 21, 22, 23, 24, 25, 26, 27, 28, 29, 30, 31, 32, 33, 34, 76, 77, 78, 79, 80, 81, 82, 83, 84, 85, 86, 87, 88, 89] (by decide +kernel) (by decide +kernel)
set_option maxRecDepth 20000 in
theorem gX7_make_X7_fault : GoodIn wsX7_make (wsV RX7 215 RX7 yX7_fault wsX7_fault) := goodIn_app (goodIn_of _ (by decide +kernel)) ggX7_make_X7_fault
set_option maxRecDepth 20000 in
theorem ggX7_make_X7_keep : GoodIn wsX7_make wsX7_keep := goodIn_r _ [38, 39, 40, 41, 42, 76, 77, 78, 79, 80, 81, 82, 83, 84, 85, 86, 87, 88, 89] (by decide +kernel) (by decide +kernel)
set_option maxRecDepth 20000 in
theorem gX7_make_X7_keep : GoodIn wsX7_make (wsV RX7 54 RX7 yX7_keep wsX7_keep) := goodIn_app (goodIn_of _ (by decide +kernel)) ggX7_make_X7_keep
set_option maxRecDepth 20000 in
theorem ggX7_make_X7_makeOne : GoodIn wsX7_make wsX7_makeOne := goodIn_r _ [46, 14, 47, 48, 49, 6, 50, 42, 24, 25, 26, 51, 52, 53, 54, 35, 36, 37, 38, 39, 40, 41, 55, 56, 57, 58, 59, 60, 61, 62, 63, 64, 65, 66, 67, 68, 69, 70, 71, 72, 73, 74, 75, 76, 77, 78, 79, 80, 81, 82, 83, 84, 85, 86, 87, 88, 89] (by decide +kernel) (by decide +kernel)
set_option maxRecDepth 20000 in
theorem gX7_make_X7_makeOne : GoodIn wsX7_make (wsV RX7 218 RX7 yX7_makeOne wsX7_makeOne) := goodIn_app (goodIn_of _ (by decide +kernel)) ggX7_make_X7_makeOne
theorem dX7_make_0 : decode cX7_make 0 = .ok (.aload_n 0, 1) := by decide +kernel
theorem dX7_make_1 : decode cX7_make 1 = .ok (.invokevirtual 215, 3) := by decide +kernel
theorem dX7_make_4 : decode cX7_make 4 = .ok (.ifCond .lt 6, 3) := by decide +kernel
theorem dX7_make_7 : decode cX7_make 7 = .ok (.bipush (-3), 2) := by decide +kernel
theorem dX7_make_9 : decode cX7_make 9 = .ok (.ireturn, 1) := by decide +kernel
theorem dX7_make_10 : decode cX7_make 10 = .ok (.aload_n 0, 1) := by decide +kernel
theorem dX7_make_11 : decode cX7_make 11 = .ok (.invokevirtual 54, 3) := by decide +kernel
theorem dX7_make_14 : decode cX7_make 14 = .ok (.iconst 0, 1) := by decide +kernel
theorem dX7_make_15 : decode cX7_make 15 = .ok (.istore_n 1, 1) := by decide +kernel
theorem dX7_make_16 : decode cX7_make 16 = .ok (.iload_n 1, 1) := by decide +kernel
theorem dX7_make_17 : decode cX7_make 17 = .ok (.aload_n 0, 1) := by decide +kernel
theorem dX7_make_18 : decode cX7_make 18 = .ok (.getfield 200, 3) := by decide +kernel
theorem dX7_make_21 : decode cX7_make 21 = .ok (.if_icmp .ge 17, 3) := by decide +kernel
theorem dX7_make_24 : decode cX7_make 24 = .ok (.aload_n 0, 1) := by decide +kernel
theorem dX7_make_25 : decode cX7_make 25 = .ok (.iload_n 1, 1) := by decide +kernel
theorem dX7_make_26 : decode cX7_make 26 = .ok (.invokevirtual 218, 3) := by decide +kernel
theorem dX7_make_29 : decode cX7_make 29 = .ok (.ifCond .lt 9, 3) := by decide +kernel
theorem dX7_make_32 : decode cX7_make 32 = .ok (.iinc 1 1, 3) := by decide +kernel
theorem dX7_make_35 : decode cX7_make 35 = .ok (.goto (-19), 3) := by decide +kernel
theorem dX7_make_38 : decode cX7_make 38 = .ok (.aload_n 0, 1) := by decide +kernel
theorem dX7_make_39 : decode cX7_make 39 = .ok (.iconst 0, 1) := by decide +kernel
theorem dX7_make_40 : decode cX7_make 40 = .ok (.putfield 173, 3) := by decide +kernel
theorem dX7_make_43 : decode cX7_make 43 = .ok (.iload_n 1, 1) := by decide +kernel
theorem dX7_make_44 : decode cX7_make 44 = .ok (.ireturn, 1) := by decide +kernel
theorem dX7_undo_0 : decode cX7_undo 0 = .ok (.aload_n 0, 1) := by decide +kernel
theorem dX7_undo_1 : decode cX7_undo 1 = .ok (.getfield 47, 3) := by decide +kernel
theorem dX7_undo_4 : decode cX7_undo 4 = .ok (.ifCond .ne 6, 3) := by decide +kernel
theorem dX7_undo_7 : decode cX7_undo 7 = .ok (.bipush (-5), 2) := by decide +kernel
theorem dX7_undo_9 : decode cX7_undo 9 = .ok (.ireturn, 1) := by decide +kernel
theorem dX7_undo_10 : decode cX7_undo 10 = .ok (.aload_n 0, 1) := by decide +kernel
theorem dX7_undo_11 : decode cX7_undo 11 = .ok (.dup, 1) := by decide +kernel
theorem dX7_undo_12 : decode cX7_undo 12 = .ok (.getfield 47, 3) := by decide +kernel
theorem dX7_undo_15 : decode cX7_undo 15 = .ok (.iconst 1, 1) := by decide +kernel
theorem dX7_undo_16 : decode cX7_undo 16 = .ok (.isub, 1) := by decide +kernel
theorem dX7_undo_17 : decode cX7_undo 17 = .ok (.putfield 47, 3) := by decide +kernel
theorem dX7_undo_20 : decode cX7_undo 20 = .ok (.aload_n 0, 1) := by decide +kernel
theorem dX7_undo_21 : decode cX7_undo 21 = .ok (.getfield 51, 3) := by decide +kernel
theorem dX7_undo_24 : decode cX7_undo 24 = .ok (.aload_n 0, 1) := by decide +kernel
theorem dX7_undo_25 : decode cX7_undo 25 = .ok (.getfield 47, 3) := by decide +kernel
theorem dX7_undo_28 : decode cX7_undo 28 = .ok (.iadd, 1) := by decide +kernel
theorem dX7_undo_29 : decode cX7_undo 29 = .ok (.bipush 6, 2) := by decide +kernel
theorem dX7_undo_31 : decode cX7_undo 31 = .ok (.irem, 1) := by decide +kernel
theorem dX7_undo_32 : decode cX7_undo 32 = .ok (.istore_n 1, 1) := by decide +kernel
theorem dX7_undo_33 : decode cX7_undo 33 = .ok (.iconst 0, 1) := by decide +kernel
theorem dX7_undo_34 : decode cX7_undo 34 = .ok (.istore_n 2, 1) := by decide +kernel
theorem dX7_undo_35 : decode cX7_undo 35 = .ok (.iload_n 2, 1) := by decide +kernel
theorem dX7_undo_36 : decode cX7_undo 36 = .ok (.bipush 65, 2) := by decide +kernel
theorem dX7_undo_38 : decode cX7_undo 38 = .ok (.if_icmp .ge 26, 3) := by decide +kernel
theorem dX7_undo_41 : decode cX7_undo 41 = .ok (.aload_n 0, 1) := by decide +kernel
theorem dX7_undo_42 : decode cX7_undo 42 = .ok (.getfield 7, 3) := by decide +kernel
theorem dX7_undo_45 : decode cX7_undo 45 = .ok (.iload_n 2, 1) := by decide +kernel
theorem dX7_undo_46 : decode cX7_undo 46 = .ok (.aload_n 0, 1) := by decide +kernel
theorem dX7_undo_47 : decode cX7_undo 47 = .ok (.getfield 13, 3) := by decide +kernel
theorem dX7_undo_50 : decode cX7_undo 50 = .ok (.bipush 65, 2) := by decide +kernel
theorem dX7_undo_52 : decode cX7_undo 52 = .ok (.iload_n 1, 1) := by decide +kernel
theorem dX7_undo_53 : decode cX7_undo 53 = .ok (.imul, 1) := by decide +kernel
theorem dX7_undo_54 : decode cX7_undo 54 = .ok (.iload_n 2, 1) := by decide +kernel
theorem dX7_undo_55 : decode cX7_undo 55 = .ok (.iadd, 1) := by decide +kernel
theorem dX7_undo_56 : decode cX7_undo 56 = .ok (.iaload, 1) := by decide +kernel
theorem dX7_undo_57 : decode cX7_undo 57 = .ok (.iastore, 1) := by decide +kernel
theorem dX7_undo_58 : decode cX7_undo 58 = .ok (.iinc 2 1, 3) := by decide +kernel
theorem dX7_undo_61 : decode cX7_undo 61 = .ok (.goto (-26), 3) := by decide +kernel
theorem dX7_undo_64 : decode cX7_undo 64 = .ok (.aload_n 0, 1) := by decide +kernel
theorem dX7_undo_65 : decode cX7_undo 65 = .ok (.getfield 47, 3) := by decide +kernel
theorem dX7_undo_68 : decode cX7_undo 68 = .ok (.ireturn, 1) := by decide +kernel
set_option maxRecDepth 20000 in
theorem ggX7_save_X7_in : GoodIn wsX7_save wsX7_in := goodIn_r _ [7] (by decide +kernel) (by decide +kernel)
set_option maxRecDepth 20000 in
theorem gX7_save_X7_in : GoodIn wsX7_save (va_wsS RX7 35 yX7_in wsX7_in) := goodIn_app (goodIn_of _ (by decide +kernel)) ggX7_save_X7_in
theorem dX7_save_0 : decode cX7_save 0 = .ok (.iload_n 1, 1) := by decide +kernel
theorem dX7_save_1 : decode cX7_save 1 = .ok (.iconst 0, 1) := by decide +kernel
theorem dX7_save_2 : decode cX7_save 2 = .ok (.iconst 1, 1) := by decide +kernel
theorem dX7_save_3 : decode cX7_save 3 = .ok (.invokestatic 35, 3) := by decide +kernel
theorem dX7_save_6 : decode cX7_save 6 = .ok (.ifCond .ne 6, 3) := by decide +kernel
theorem dX7_save_9 : decode cX7_save 9 = .ok (.bipush (-2), 2) := by decide +kernel
theorem dX7_save_11 : decode cX7_save 11 = .ok (.ireturn, 1) := by decide +kernel
theorem dX7_save_12 : decode cX7_save 12 = .ok (.iconst 0, 1) := by decide +kernel
theorem dX7_save_13 : decode cX7_save 13 = .ok (.istore_n 2, 1) := by decide +kernel
theorem dX7_save_14 : decode cX7_save 14 = .ok (.iload_n 2, 1) := by decide +kernel
theorem dX7_save_15 : decode cX7_save 15 = .ok (.bipush 65, 2) := by decide +kernel
theorem dX7_save_17 : decode cX7_save 17 = .ok (.if_icmp .ge 26, 3) := by decide +kernel
theorem dX7_save_20 : decode cX7_save 20 = .ok (.aload_n 0, 1) := by decide +kernel
theorem dX7_save_21 : decode cX7_save 21 = .ok (.getfield 16, 3) := by decide +kernel
theorem dX7_save_24 : decode cX7_save 24 = .ok (.bipush 65, 2) := by decide +kernel
theorem dX7_save_26 : decode cX7_save 26 = .ok (.iload_n 1, 1) := by decide +kernel
theorem dX7_save_27 : decode cX7_save 27 = .ok (.imul, 1) := by decide +kernel
theorem dX7_save_28 : decode cX7_save 28 = .ok (.iload_n 2, 1) := by decide +kernel
theorem dX7_save_29 : decode cX7_save 29 = .ok (.iadd, 1) := by decide +kernel
theorem dX7_save_30 : decode cX7_save 30 = .ok (.aload_n 0, 1) := by decide +kernel
theorem dX7_save_31 : decode cX7_save 31 = .ok (.getfield 7, 3) := by decide +kernel
theorem dX7_save_34 : decode cX7_save 34 = .ok (.iload_n 2, 1) := by decide +kernel
theorem dX7_save_35 : decode cX7_save 35 = .ok (.iaload, 1) := by decide +kernel
theorem dX7_save_36 : decode cX7_save 36 = .ok (.iastore, 1) := by decide +kernel
theorem dX7_save_37 : decode cX7_save 37 = .ok (.iinc 2 1, 3) := by decide +kernel
theorem dX7_save_40 : decode cX7_save 40 = .ok (.goto (-26), 3) := by decide +kernel
theorem dX7_save_43 : decode cX7_save 43 = .ok (.aload_n 0, 1) := by decide +kernel
theorem dX7_save_44 : decode cX7_save 44 = .ok (.getfield 19, 3) := by decide +kernel
theorem dX7_save_47 : decode cX7_save 47 = .ok (.iload_n 1, 1) := by decide +kernel
theorem dX7_save_48 : decode cX7_save 48 = .ok (.iconst 1, 1) := by decide +kernel
theorem dX7_save_49 : decode cX7_save 49 = .ok (.bastore, 1) := by decide +kernel
theorem dX7_save_50 : decode cX7_save 50 = .ok (.aload_n 0, 1) := by decide +kernel
theorem dX7_save_51 : decode cX7_save 51 = .ok (.getfield 7, 3) := by decide +kernel
theorem dX7_save_54 : decode cX7_save 54 = .ok (.iconst 4, 1) := by decide +kernel
theorem dX7_save_55 : decode cX7_save 55 = .ok (.iaload, 1) := by decide +kernel
theorem dX7_save_56 : decode cX7_save 56 = .ok (.ireturn, 1) := by decide +kernel
set_option maxRecDepth 20000 in
theorem ggX7_restore_X7_in : GoodIn wsX7_restore wsX7_in := goodIn_r _ [7] (by decide +kernel) (by decide +kernel)
set_option maxRecDepth 20000 in
theorem gX7_restore_X7_in : GoodIn wsX7_restore (va_wsS RX7 35 yX7_in wsX7_in) := goodIn_app (goodIn_of _ (by decide +kernel)) ggX7_restore_X7_in
set_option maxRecDepth 20000 in
theorem ggX7_restore_X7_keep : GoodIn wsX7_restore wsX7_keep := goodIn_r _ [11, 12, 13, 14, 2, 15, 16, 17, 18, 19, 20, 21, 22, 23, 24, 25, 26, 27, 28] (by decide +kernel) (by decide +kernel)
set_option maxRecDepth 20000 in
theorem gX7_restore_X7_keep : GoodIn wsX7_restore (wsV RX7 54 RX7 yX7_keep wsX7_keep) := goodIn_app (goodIn_of _ (by decide +kernel)) ggX7_restore_X7_keep
theorem dX7_restore_0 : decode cX7_restore 0 = .ok (.iload_n 1, 1) := by decide +kernel
theorem dX7_restore_1 : decode cX7_restore 1 = .ok (.iconst 0, 1) := by decide +kernel
theorem dX7_restore_2 : decode cX7_restore 2 = .ok (.iconst 1, 1) := by decide +kernel
theorem dX7_restore_3 : decode cX7_restore 3 = .ok (.invokestatic 35, 3) := by decide +kernel
theorem dX7_restore_6 : decode cX7_restore 6 = .ok (.ifCond .ne 6, 3) := by decide +kernel
theorem dX7_restore_9 : decode cX7_restore 9 = .ok (.bipush (-2), 2) := by decide +kernel
theorem dX7_restore_11 : decode cX7_restore 11 = .ok (.ireturn, 1) := by decide +kernel
theorem dX7_restore_12 : decode cX7_restore 12 = .ok (.aload_n 0, 1) := by decide +kernel
theorem dX7_restore_13 : decode cX7_restore 13 = .ok (.getfield 19, 3) := by decide +kernel
theorem dX7_restore_16 : decode cX7_restore 16 = .ok (.iload_n 1, 1) := by decide +kernel
theorem dX7_restore_17 : decode cX7_restore 17 = .ok (.baload, 1) := by decide +kernel
theorem dX7_restore_18 : decode cX7_restore 18 = .ok (.ifCond .ne 6, 3) := by decide +kernel
theorem dX7_restore_21 : decode cX7_restore 21 = .ok (.bipush (-5), 2) := by decide +kernel
theorem dX7_restore_23 : decode cX7_restore 23 = .ok (.ireturn, 1) := by decide +kernel
theorem dX7_restore_24 : decode cX7_restore 24 = .ok (.aload_n 0, 1) := by decide +kernel
theorem dX7_restore_25 : decode cX7_restore 25 = .ok (.invokevirtual 54, 3) := by decide +kernel
theorem dX7_restore_28 : decode cX7_restore 28 = .ok (.iconst 0, 1) := by decide +kernel
theorem dX7_restore_29 : decode cX7_restore 29 = .ok (.istore_n 2, 1) := by decide +kernel
theorem dX7_restore_30 : decode cX7_restore 30 = .ok (.iload_n 2, 1) := by decide +kernel
theorem dX7_restore_31 : decode cX7_restore 31 = .ok (.bipush 65, 2) := by decide +kernel
theorem dX7_restore_33 : decode cX7_restore 33 = .ok (.if_icmp .ge 26, 3) := by decide +kernel
theorem dX7_restore_36 : decode cX7_restore 36 = .ok (.aload_n 0, 1) := by decide +kernel
theorem dX7_restore_37 : decode cX7_restore 37 = .ok (.getfield 7, 3) := by decide +kernel
theorem dX7_restore_40 : decode cX7_restore 40 = .ok (.iload_n 2, 1) := by decide +kernel
theorem dX7_restore_41 : decode cX7_restore 41 = .ok (.aload_n 0, 1) := by decide +kernel
theorem dX7_restore_42 : decode cX7_restore 42 = .ok (.getfield 16, 3) := by decide +kernel
theorem dX7_restore_45 : decode cX7_restore 45 = .ok (.bipush 65, 2) := by decide +kernel
theorem dX7_restore_47 : decode cX7_restore 47 = .ok (.iload_n 1, 1) := by decide +kernel
theorem dX7_restore_48 : decode cX7_restore 48 = .ok (.imul, 1) := by decide +kernel
theorem dX7_restore_49 : decode cX7_restore 49 = .ok (.iload_n 2, 1) := by decide +kernel
theorem dX7_restore_50 : decode cX7_restore 50 = .ok (.iadd, 1) := by decide +kernel
theorem dX7_restore_51 : decode cX7_restore 51 = .ok (.iaload, 1) := by decide +kernel
theorem dX7_restore_52 : decode cX7_restore 52 = .ok (.iastore, 1) := by decide +kernel
theorem dX7_restore_53 : decode cX7_restore 53 = .ok (.iinc 2 1, 3) := by decide +kernel
theorem dX7_restore_56 : decode cX7_restore 56 = .ok (.goto (-26), 3) := by decide +kernel
theorem dX7_restore_59 : decode cX7_restore 59 = .ok (.aload_n 0, 1) := by decide +kernel
theorem dX7_restore_60 : decode cX7_restore 60 = .ok (.getfield 7, 3) := by decide +kernel
theorem dX7_restore_63 : decode cX7_restore 63 = .ok (.iconst 4, 1) := by decide +kernel
theorem dX7_restore_64 : decode cX7_restore 64 = .ok (.iaload, 1) := by decide +kernel
theorem dX7_restore_65 : decode cX7_restore 65 = .ok (.ireturn, 1) := by decide +kernel
