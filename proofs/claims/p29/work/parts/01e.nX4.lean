theorem dX4_init_0 : decode cX4_init 0 = .ok (.aload_n 0, 1) := by decide +kernel
theorem dX4_init_1 : decode cX4_init 1 = .ok (.invokespecial 3, 3) := by decide +kernel
theorem dX4_init_4 : decode cX4_init 4 = .ok (.aload_n 0, 1) := by decide +kernel
theorem dX4_init_5 : decode cX4_init 5 = .ok (.bipush 8, 2) := by decide +kernel
theorem dX4_init_7 : decode cX4_init 7 = .ok (.newarray .int, 2) := by decide +kernel
theorem dX4_init_9 : decode cX4_init 9 = .ok (.putfield 9, 3) := by decide +kernel
theorem dX4_init_12 : decode cX4_init 12 = .ok (.return_, 1) := by decide +kernel
set_option maxRecDepth 20000 in
theorem ggX4_choose_X4_bestName : GoodIn wsX4_choose wsX4_bestName := goodIn_r _ [7, 8, 9, 10, 11, 12, 13, 14, 15, 16, 17, 18, 19, 20, 6, 21, 2, 22, 23, 24, 25, 26, 27, 28, 29, 30] (by decide +kernel) (by decide +kernel)
set_option maxRecDepth 20000 in
theorem gX4_choose_X4_bestName : GoodIn wsX4_choose (wsV RX4 21 RX4 yX4_bestName wsX4_bestName) := goodIn_app (goodIn_of _ (by decide +kernel)) ggX4_choose_X4_bestName
theorem dX4_choose_0 : decode cX4_choose 0 = .ok (.iconst 0, 1) := by decide +kernel
theorem dX4_choose_1 : decode cX4_choose 1 = .ok (.istore_n 2, 1) := by decide +kernel
theorem dX4_choose_2 : decode cX4_choose 2 = .ok (.iconst 0, 1) := by decide +kernel
theorem dX4_choose_3 : decode cX4_choose 3 = .ok (.istore_n 3, 1) := by decide +kernel
theorem dX4_choose_4 : decode cX4_choose 4 = .ok (.iload_n 3, 1) := by decide +kernel
theorem dX4_choose_5 : decode cX4_choose 5 = .ok (.aload_n 1, 1) := by decide +kernel
theorem dX4_choose_6 : decode cX4_choose 6 = .ok (.getfield 15, 3) := by decide +kernel
theorem dX4_choose_9 : decode cX4_choose 9 = .ok (.if_icmp .ge 35, 3) := by decide +kernel
theorem dX4_choose_12 : decode cX4_choose 12 = .ok (.aload_n 0, 1) := by decide +kernel
theorem dX4_choose_13 : decode cX4_choose 13 = .ok (.getfield 9, 3) := by decide +kernel
theorem dX4_choose_16 : decode cX4_choose 16 = .ok (.iload_n 3, 1) := by decide +kernel
theorem dX4_choose_17 : decode cX4_choose 17 = .ok (.aload_n 0, 1) := by decide +kernel
theorem dX4_choose_18 : decode cX4_choose 18 = .ok (.aload_n 1, 1) := by decide +kernel
theorem dX4_choose_19 : decode cX4_choose 19 = .ok (.iload_n 3, 1) := by decide +kernel
theorem dX4_choose_20 : decode cX4_choose 20 = .ok (.invokevirtual 21, 3) := by decide +kernel
theorem dX4_choose_23 : decode cX4_choose 23 = .ok (.iastore, 1) := by decide +kernel
theorem dX4_choose_24 : decode cX4_choose 24 = .ok (.aload_n 0, 1) := by decide +kernel
theorem dX4_choose_25 : decode cX4_choose 25 = .ok (.getfield 9, 3) := by decide +kernel
theorem dX4_choose_28 : decode cX4_choose 28 = .ok (.iload_n 3, 1) := by decide +kernel
theorem dX4_choose_29 : decode cX4_choose 29 = .ok (.iaload, 1) := by decide +kernel
theorem dX4_choose_30 : decode cX4_choose 30 = .ok (.bipush (-5), 2) := by decide +kernel
theorem dX4_choose_32 : decode cX4_choose 32 = .ok (.if_icmp .eq 6, 3) := by decide +kernel
theorem dX4_choose_35 : decode cX4_choose 35 = .ok (.iinc 2 1, 3) := by decide +kernel
theorem dX4_choose_38 : decode cX4_choose 38 = .ok (.iinc 3 1, 3) := by decide +kernel
theorem dX4_choose_41 : decode cX4_choose 41 = .ok (.goto (-37), 3) := by decide +kernel
theorem dX4_choose_44 : decode cX4_choose 44 = .ok (.iload_n 2, 1) := by decide +kernel
theorem dX4_choose_45 : decode cX4_choose 45 = .ok (.ireturn, 1) := by decide +kernel
set_option maxRecDepth 20000 in
theorem ggX4_bestName_X0_votesFor : GoodIn wsX4_bestName wsX0_votesFor := goodIn_r _ [5, 6, 7, 8, 4, 9, 10, 17, 18, 19, 20, 21, 22, 23, 24] (by decide +kernel) (by decide +kernel)
set_option maxRecDepth 20000 in
theorem gX4_bestName_X0_votesFor : GoodIn wsX4_bestName (wsV RX4 25 RX0 yX0_votesFor wsX0_votesFor) := goodIn_app (goodIn_of _ (by decide +kernel)) ggX4_bestName_X0_votesFor
set_option maxRecDepth 20000 in
theorem ggX4_bestName_X4_isTaken : GoodIn wsX4_bestName wsX4_isTaken := goodIn_r _ [15, 16, 25] (by decide +kernel) (by decide +kernel)
set_option maxRecDepth 20000 in
theorem gX4_bestName_X4_isTaken : GoodIn wsX4_bestName (wsV RX4 29 RX4 yX4_isTaken wsX4_isTaken) := goodIn_app (goodIn_of _ (by decide +kernel)) ggX4_bestName_X4_isTaken
theorem dX4_bestName_0 : decode cX4_bestName 0 = .ok (.bipush (-5), 2) := by decide +kernel
theorem dX4_bestName_2 : decode cX4_bestName 2 = .ok (.istore_n 3, 1) := by decide +kernel
theorem dX4_bestName_3 : decode cX4_bestName 3 = .ok (.iconst 1, 1) := by decide +kernel
theorem dX4_bestName_4 : decode cX4_bestName 4 = .ok (.istore 4, 2) := by decide +kernel
theorem dX4_bestName_6 : decode cX4_bestName 6 = .ok (.iconst 0, 1) := by decide +kernel
theorem dX4_bestName_7 : decode cX4_bestName 7 = .ok (.istore 5, 2) := by decide +kernel
theorem dX4_bestName_9 : decode cX4_bestName 9 = .ok (.iload 5, 2) := by decide +kernel
theorem dX4_bestName_11 : decode cX4_bestName 11 = .ok (.bipush 10, 2) := by decide +kernel
theorem dX4_bestName_13 : decode cX4_bestName 13 = .ok (.if_icmp .ge 42, 3) := by decide +kernel
theorem dX4_bestName_16 : decode cX4_bestName 16 = .ok (.aload_n 1, 1) := by decide +kernel
theorem dX4_bestName_17 : decode cX4_bestName 17 = .ok (.iload_n 2, 1) := by decide +kernel
theorem dX4_bestName_18 : decode cX4_bestName 18 = .ok (.iload 5, 2) := by decide +kernel
theorem dX4_bestName_20 : decode cX4_bestName 20 = .ok (.invokevirtual 25, 3) := by decide +kernel
theorem dX4_bestName_23 : decode cX4_bestName 23 = .ok (.istore 6, 2) := by decide +kernel
theorem dX4_bestName_25 : decode cX4_bestName 25 = .ok (.iload 6, 2) := by decide +kernel
theorem dX4_bestName_27 : decode cX4_bestName 27 = .ok (.iload 4, 2) := by decide +kernel
theorem dX4_bestName_29 : decode cX4_bestName 29 = .ok (.if_icmp .le 20, 3) := by decide +kernel
theorem dX4_bestName_32 : decode cX4_bestName 32 = .ok (.aload_n 0, 1) := by decide +kernel
theorem dX4_bestName_33 : decode cX4_bestName 33 = .ok (.iload 5, 2) := by decide +kernel
theorem dX4_bestName_35 : decode cX4_bestName 35 = .ok (.iload_n 2, 1) := by decide +kernel
theorem dX4_bestName_36 : decode cX4_bestName 36 = .ok (.invokevirtual 29, 3) := by decide +kernel
theorem dX4_bestName_39 : decode cX4_bestName 39 = .ok (.ifCond .ne 10, 3) := by decide +kernel
theorem dX4_bestName_42 : decode cX4_bestName 42 = .ok (.iload 5, 2) := by decide +kernel
theorem dX4_bestName_44 : decode cX4_bestName 44 = .ok (.istore_n 3, 1) := by decide +kernel
theorem dX4_bestName_45 : decode cX4_bestName 45 = .ok (.iload 6, 2) := by decide +kernel
theorem dX4_bestName_47 : decode cX4_bestName 47 = .ok (.istore 4, 2) := by decide +kernel
theorem dX4_bestName_49 : decode cX4_bestName 49 = .ok (.iinc 5 1, 3) := by decide +kernel
theorem dX4_bestName_52 : decode cX4_bestName 52 = .ok (.goto (-43), 3) := by decide +kernel
theorem dX4_bestName_55 : decode cX4_bestName 55 = .ok (.iload_n 3, 1) := by decide +kernel
theorem dX4_bestName_56 : decode cX4_bestName 56 = .ok (.ireturn, 1) := by decide +kernel
theorem dX4_isTaken_0 : decode cX4_isTaken 0 = .ok (.iconst 0, 1) := by decide +kernel
theorem dX4_isTaken_1 : decode cX4_isTaken 1 = .ok (.istore_n 3, 1) := by decide +kernel
theorem dX4_isTaken_2 : decode cX4_isTaken 2 = .ok (.iload_n 3, 1) := by decide +kernel
theorem dX4_isTaken_3 : decode cX4_isTaken 3 = .ok (.iload_n 2, 1) := by decide +kernel
theorem dX4_isTaken_4 : decode cX4_isTaken 4 = .ok (.if_icmp .ge 21, 3) := by decide +kernel
theorem dX4_isTaken_7 : decode cX4_isTaken 7 = .ok (.aload_n 0, 1) := by decide +kernel
theorem dX4_isTaken_8 : decode cX4_isTaken 8 = .ok (.getfield 9, 3) := by decide +kernel
theorem dX4_isTaken_11 : decode cX4_isTaken 11 = .ok (.iload_n 3, 1) := by decide +kernel
theorem dX4_isTaken_12 : decode cX4_isTaken 12 = .ok (.iaload, 1) := by decide +kernel
theorem dX4_isTaken_13 : decode cX4_isTaken 13 = .ok (.iload_n 1, 1) := by decide +kernel
theorem dX4_isTaken_14 : decode cX4_isTaken 14 = .ok (.if_icmp .ne 5, 3) := by decide +kernel
theorem dX4_isTaken_17 : decode cX4_isTaken 17 = .ok (.iconst 1, 1) := by decide +kernel
theorem dX4_isTaken_18 : decode cX4_isTaken 18 = .ok (.ireturn, 1) := by decide +kernel
theorem dX4_isTaken_19 : decode cX4_isTaken 19 = .ok (.iinc 3 1, 3) := by decide +kernel
theorem dX4_isTaken_22 : decode cX4_isTaken 22 = .ok (.goto (-20), 3) := by decide +kernel
theorem dX4_isTaken_25 : decode cX4_isTaken 25 = .ok (.iconst 0, 1) := by decide +kernel
theorem dX4_isTaken_26 : decode cX4_isTaken 26 = .ok (.ireturn, 1) := by decide +kernel
