set_option maxRecDepth 20000 in
theorem ggX5_init_X0_init : GoodIn wsX5_init wsX0_init := goodIn_r _ [33, 34, 2, 3, 35, 36, 37, 38, 39, 40, 41, 42, 43, 44, 45, 46, 47, 78, 79, 80, 81, 82, 83, 84, 85] (by decide +kernel) (by decide +kernel)
set_option maxRecDepth 20000 in
theorem gX5_init_X0_init : GoodIn wsX5_init (wsX0_init) := ggX5_init_X0_init
set_option maxRecDepth 20000 in
theorem ggX5_init_X3_init : GoodIn wsX5_init wsX3_init := goodIn_r _ [50, 51, 2, 3, 52, 53, 54, 5, 6, 55, 32, 33, 34, 35, 36, 37, 38, 39, 40, 41, 42, 43, 44, 45, 46, 47, 97, 98, 78, 79, 80, 81, 82, 83, 84, 85] (by decide +kernel) (by decide +kernel)
set_option maxRecDepth 20000 in
theorem gX5_init_X3_init : GoodIn wsX5_init (wsX3_init) := ggX5_init_X3_init
set_option maxRecDepth 20000 in
theorem ggX5_init_X2_init : GoodIn wsX5_init wsX2_init := goodIn_r _ [58, 59, 2, 3, 60, 61, 36, 62, 63, 99, 100, 101, 102] (by decide +kernel) (by decide +kernel)
set_option maxRecDepth 20000 in
theorem gX5_init_X2_init : GoodIn wsX5_init (wsX2_init) := ggX5_init_X2_init
set_option maxRecDepth 20000 in
theorem ggX5_init_X4_init : GoodIn wsX5_init wsX4_init := goodIn_r _ [66, 67, 2, 3, 36, 68, 103] (by decide +kernel) (by decide +kernel)
set_option maxRecDepth 20000 in
theorem gX5_init_X4_init : GoodIn wsX5_init (wsX4_init) := ggX5_init_X4_init
set_option maxRecDepth 20000 in
theorem ggX5_init_X1_init : GoodIn wsX5_init wsX1_init := goodIn_r _ [71, 72, 2, 3, 73, 74, 75, 76, 77, 104, 105, 106, 107, 108] (by decide +kernel) (by decide +kernel)
set_option maxRecDepth 20000 in
theorem gX5_init_X1_init : GoodIn wsX5_init (wsX1_init) := ggX5_init_X1_init
theorem dX5_init_0 : decode cX5_init 0 = .ok (.aload_n 0, 1) := by decide +kernel
theorem dX5_init_1 : decode cX5_init 1 = .ok (.invokespecial 1, 3) := by decide +kernel
theorem dX5_init_4 : decode cX5_init 4 = .ok (.aload_n 0, 1) := by decide +kernel
theorem dX5_init_5 : decode cX5_init 5 = .ok (.new 7, 3) := by decide +kernel
theorem dX5_init_8 : decode cX5_init 8 = .ok (.dup, 1) := by decide +kernel
theorem dX5_init_9 : decode cX5_init 9 = .ok (.invokespecial 9, 3) := by decide +kernel
theorem dX5_init_12 : decode cX5_init 12 = .ok (.putfield 10, 3) := by decide +kernel
theorem dX5_init_15 : decode cX5_init 15 = .ok (.aload_n 0, 1) := by decide +kernel
theorem dX5_init_16 : decode cX5_init 16 = .ok (.new 16, 3) := by decide +kernel
theorem dX5_init_19 : decode cX5_init 19 = .ok (.dup, 1) := by decide +kernel
theorem dX5_init_20 : decode cX5_init 20 = .ok (.invokespecial 18, 3) := by decide +kernel
theorem dX5_init_23 : decode cX5_init 23 = .ok (.putfield 19, 3) := by decide +kernel
theorem dX5_init_26 : decode cX5_init 26 = .ok (.aload_n 0, 1) := by decide +kernel
theorem dX5_init_27 : decode cX5_init 27 = .ok (.new 7, 3) := by decide +kernel
theorem dX5_init_30 : decode cX5_init 30 = .ok (.dup, 1) := by decide +kernel
theorem dX5_init_31 : decode cX5_init 31 = .ok (.invokespecial 9, 3) := by decide +kernel
theorem dX5_init_34 : decode cX5_init 34 = .ok (.putfield 23, 3) := by decide +kernel
theorem dX5_init_37 : decode cX5_init 37 = .ok (.aload_n 0, 1) := by decide +kernel
theorem dX5_init_38 : decode cX5_init 38 = .ok (.iconst 0, 1) := by decide +kernel
theorem dX5_init_39 : decode cX5_init 39 = .ok (.putfield 26, 3) := by decide +kernel
theorem dX5_init_42 : decode cX5_init 42 = .ok (.aload_n 0, 1) := by decide +kernel
theorem dX5_init_43 : decode cX5_init 43 = .ok (.bipush 80, 2) := by decide +kernel
theorem dX5_init_45 : decode cX5_init 45 = .ok (.newarray .char, 2) := by decide +kernel
theorem dX5_init_47 : decode cX5_init 47 = .ok (.putfield 30, 3) := by decide +kernel
theorem dX5_init_50 : decode cX5_init 50 = .ok (.aload_n 0, 1) := by decide +kernel
theorem dX5_init_51 : decode cX5_init 51 = .ok (.iconst 0, 1) := by decide +kernel
theorem dX5_init_52 : decode cX5_init 52 = .ok (.putfield 34, 3) := by decide +kernel
theorem dX5_init_55 : decode cX5_init 55 = .ok (.aload_n 0, 1) := by decide +kernel
theorem dX5_init_56 : decode cX5_init 56 = .ok (.new 7, 3) := by decide +kernel
theorem dX5_init_59 : decode cX5_init 59 = .ok (.dup, 1) := by decide +kernel
theorem dX5_init_60 : decode cX5_init 60 = .ok (.invokespecial 9, 3) := by decide +kernel
theorem dX5_init_63 : decode cX5_init 63 = .ok (.putfield 38, 3) := by decide +kernel
theorem dX5_init_66 : decode cX5_init 66 = .ok (.aload_n 0, 1) := by decide +kernel
theorem dX5_init_67 : decode cX5_init 67 = .ok (.new 41, 3) := by decide +kernel
theorem dX5_init_70 : decode cX5_init 70 = .ok (.dup, 1) := by decide +kernel
theorem dX5_init_71 : decode cX5_init 71 = .ok (.invokespecial 43, 3) := by decide +kernel
theorem dX5_init_74 : decode cX5_init 74 = .ok (.putfield 44, 3) := by decide +kernel
theorem dX5_init_77 : decode cX5_init 77 = .ok (.aload_n 0, 1) := by decide +kernel
theorem dX5_init_78 : decode cX5_init 78 = .ok (.new 41, 3) := by decide +kernel
theorem dX5_init_81 : decode cX5_init 81 = .ok (.dup, 1) := by decide +kernel
theorem dX5_init_82 : decode cX5_init 82 = .ok (.invokespecial 43, 3) := by decide +kernel
theorem dX5_init_85 : decode cX5_init 85 = .ok (.putfield 48, 3) := by decide +kernel
theorem dX5_init_88 : decode cX5_init 88 = .ok (.aload_n 0, 1) := by decide +kernel
theorem dX5_init_89 : decode cX5_init 89 = .ok (.new 51, 3) := by decide +kernel
theorem dX5_init_92 : decode cX5_init 92 = .ok (.dup, 1) := by decide +kernel
theorem dX5_init_93 : decode cX5_init 93 = .ok (.invokespecial 53, 3) := by decide +kernel
theorem dX5_init_96 : decode cX5_init 96 = .ok (.putfield 54, 3) := by decide +kernel
theorem dX5_init_99 : decode cX5_init 99 = .ok (.aload_n 0, 1) := by decide +kernel
theorem dX5_init_100 : decode cX5_init 100 = .ok (.new 58, 3) := by decide +kernel
theorem dX5_init_103 : decode cX5_init 103 = .ok (.dup, 1) := by decide +kernel
theorem dX5_init_104 : decode cX5_init 104 = .ok (.aload_n 0, 1) := by decide +kernel
theorem dX5_init_105 : decode cX5_init 105 = .ok (.getfield 38, 3) := by decide +kernel
theorem dX5_init_108 : decode cX5_init 108 = .ok (.invokespecial 60, 3) := by decide +kernel
theorem dX5_init_111 : decode cX5_init 111 = .ok (.putfield 63, 3) := by decide +kernel
theorem dX5_init_114 : decode cX5_init 114 = .ok (.return_, 1) := by decide +kernel
set_option maxRecDepth 20000 in
theorem ggX5_put_X5_isPlace : GoodIn wsX5_put wsX5_isPlace := goodIn_r _ [7, 8, 9, 6, 10] (by decide +kernel) (by decide +kernel)
set_option maxRecDepth 20000 in
theorem gX5_put_X5_isPlace : GoodIn wsX5_put (va_wsS RX5 67 yX5_isPlace wsX5_isPlace) := goodIn_app (goodIn_of _ (by decide +kernel)) ggX5_put_X5_isPlace
set_option maxRecDepth 20000 in
theorem ggX5_put_X3_remember : GoodIn wsX5_put wsX3_remember := goodIn_r _ [15, 16, 17, 18, 19, 20, 14, 21, 22, 23, 24, 25, 26, 27, 28, 29, 30, 31, 32, 33, 34, 35, 36, 37, 38, 66, 67, 58, 59, 60, 61, 62, 63, 64, 65] (by decide +kernel) (by decide +kernel)
set_option maxRecDepth 20000 in
theorem gX5_put_X3_remember : GoodIn wsX5_put (wsV RX5 74 RX3 yX3_remember wsX3_remember) := goodIn_app (goodIn_of _ (by decide +kernel)) ggX5_put_X3_remember
set_option maxRecDepth 20000 in
theorem ggX5_put_X0_addNote : GoodIn wsX5_put wsX0_addNote := goodIn_r _ [42, 27, 34, 35, 43, 44, 45, 25, 46, 28, 33, 58, 59, 60, 61, 62, 63, 64, 65] (by decide +kernel) (by decide +kernel)
set_option maxRecDepth 20000 in
theorem gX5_put_X0_addNote : GoodIn wsX5_put (wsV RX5 77 RX0 yX0_addNote wsX0_addNote) := goodIn_app (goodIn_of _ (by decide +kernel)) ggX5_put_X0_addNote
theorem dX5_put_0 : decode cX5_put 0 = .ok (.iload_n 1, 1) := by decide +kernel
theorem dX5_put_1 : decode cX5_put 1 = .ok (.iload_n 2, 1) := by decide +kernel
theorem dX5_put_2 : decode cX5_put 2 = .ok (.invokestatic 67, 3) := by decide +kernel
theorem dX5_put_5 : decode cX5_put 5 = .ok (.ifCond .ne 5, 3) := by decide +kernel
theorem dX5_put_8 : decode cX5_put 8 = .ok (.iconst (-1), 1) := by decide +kernel
theorem dX5_put_9 : decode cX5_put 9 = .ok (.ireturn, 1) := by decide +kernel
theorem dX5_put_10 : decode cX5_put 10 = .ok (.aload_n 0, 1) := by decide +kernel
theorem dX5_put_11 : decode cX5_put 11 = .ok (.getfield 10, 3) := by decide +kernel
theorem dX5_put_14 : decode cX5_put 14 = .ok (.getfield 71, 3) := by decide +kernel
theorem dX5_put_17 : decode cX5_put 17 = .ok (.bipush 20, 2) := by decide +kernel
theorem dX5_put_19 : decode cX5_put 19 = .ok (.if_icmp .lt 6, 3) := by decide +kernel
theorem dX5_put_22 : decode cX5_put 22 = .ok (.bipush (-3), 2) := by decide +kernel
theorem dX5_put_24 : decode cX5_put 24 = .ok (.ireturn, 1) := by decide +kernel
theorem dX5_put_25 : decode cX5_put 25 = .ok (.aload_n 0, 1) := by decide +kernel
theorem dX5_put_26 : decode cX5_put 26 = .ok (.getfield 19, 3) := by decide +kernel
theorem dX5_put_29 : decode cX5_put 29 = .ok (.aload_n 0, 1) := by decide +kernel
theorem dX5_put_30 : decode cX5_put 30 = .ok (.getfield 10, 3) := by decide +kernel
theorem dX5_put_33 : decode cX5_put 33 = .ok (.invokevirtual 74, 3) := by decide +kernel
theorem dX5_put_36 : decode cX5_put 36 = .ok (.aload_n 0, 1) := by decide +kernel
theorem dX5_put_37 : decode cX5_put 37 = .ok (.getfield 10, 3) := by decide +kernel
theorem dX5_put_40 : decode cX5_put 40 = .ok (.iload_n 1, 1) := by decide +kernel
theorem dX5_put_41 : decode cX5_put 41 = .ok (.iload_n 2, 1) := by decide +kernel
theorem dX5_put_42 : decode cX5_put 42 = .ok (.invokevirtual 77, 3) := by decide +kernel
theorem dX5_put_45 : decode cX5_put 45 = .ok (.aload_n 0, 1) := by decide +kernel
theorem dX5_put_46 : decode cX5_put 46 = .ok (.getfield 10, 3) := by decide +kernel
theorem dX5_put_49 : decode cX5_put 49 = .ok (.getfield 71, 3) := by decide +kernel
theorem dX5_put_52 : decode cX5_put 52 = .ok (.iconst 1, 1) := by decide +kernel
theorem dX5_put_53 : decode cX5_put 53 = .ok (.isub, 1) := by decide +kernel
theorem dX5_put_54 : decode cX5_put 54 = .ok (.ireturn, 1) := by decide +kernel
set_option maxRecDepth 20000 in
theorem ggX5_load_X0_copyFrom : GoodIn wsX5_load wsX0_copyFrom := goodIn_r _ [13, 14, 15, 16, 17, 18, 19, 20, 21, 22, 23, 24, 25, 125, 126, 127, 128, 129, 130, 131, 132] (by decide +kernel) (by decide +kernel)
set_option maxRecDepth 20000 in
theorem gX5_load_X0_copyFrom : GoodIn wsX5_load (wsV RX5 81 RX0 yX0_copyFrom wsX0_copyFrom) := goodIn_app (goodIn_of _ (by decide +kernel)) ggX5_load_X0_copyFrom
set_option maxRecDepth 20000 in
theorem ggX5_load_X0_removeAll : GoodIn wsX5_load wsX0_removeAll := goodIn_r _ [29, 14, 23, 125, 126, 127, 128, 129, 130, 131, 132] (by decide +kernel) (by decide +kernel)
set_option maxRecDepth 20000 in
theorem gX5_load_X0_removeAll : GoodIn wsX5_load (wsV RX5 84 RX0 yX0_removeAll wsX0_removeAll) := goodIn_app (goodIn_of _ (by decide +kernel)) ggX5_load_X0_removeAll
set_option maxRecDepth 20000 in
theorem ggX5_load_X1_findFault : GoodIn wsX5_load wsX1_findFault := goodIn_r _ [34, 35, 36, 37, 38, 33, 39, 40, 41, 42, 43, 44, 45, 46, 47, 48, 49, 50, 51, 52, 53, 54, 55, 56, 57, 58, 59, 12, 60, 14, 21, 22, 61, 62, 63, 64, 15, 20, 65, 66, 67, 68, 69, 70, 71, 72, 25, 73, 74, 75, 76, 77, 78, 79, 80, 81, 82, 83, 84, 85, 86, 87, 88, 89, 90, 91, 92, 93, 94, 95, 96, 120, 121, 122, 123, 124, 125, 126, 127, 128, 129, 130, 131, 132] (by decide +kernel) (by decide +kernel)
set_option maxRecDepth 20000 in
theorem gX5_load_X1_findFault : GoodIn wsX5_load (wsV RX5 87 RX1 yX1_findFault wsX1_findFault) := goodIn_app (goodIn_of _ (by decide +kernel)) ggX5_load_X1_findFault
set_option maxRecDepth 20000 in
theorem ggX5_load_X3_remember : GoodIn wsX5_load wsX3_remember := goodIn_r _ [101, 102, 103, 104, 105, 106, 100, 107, 108, 10, 11, 12, 13, 14, 15, 16, 17, 18, 19, 20, 21, 22, 23, 24, 25, 133, 134, 125, 126, 127, 128, 129, 130, 131, 132] (by decide +kernel) (by decide +kernel)
set_option maxRecDepth 20000 in
theorem gX5_load_X3_remember : GoodIn wsX5_load (wsV RX5 74 RX3 yX3_remember wsX3_remember) := goodIn_app (goodIn_of _ (by decide +kernel)) ggX5_load_X3_remember
theorem dX5_load_0 : decode cX5_load 0 = .ok (.aload_n 0, 1) := by decide +kernel
theorem dX5_load_1 : decode cX5_load 1 = .ok (.getfield 38, 3) := by decide +kernel
theorem dX5_load_4 : decode cX5_load 4 = .ok (.aload_n 0, 1) := by decide +kernel
theorem dX5_load_5 : decode cX5_load 5 = .ok (.getfield 10, 3) := by decide +kernel
theorem dX5_load_8 : decode cX5_load 8 = .ok (.invokevirtual 81, 3) := by decide +kernel
theorem dX5_load_11 : decode cX5_load 11 = .ok (.aload_n 0, 1) := by decide +kernel
theorem dX5_load_12 : decode cX5_load 12 = .ok (.getfield 38, 3) := by decide +kernel
theorem dX5_load_15 : decode cX5_load 15 = .ok (.invokevirtual 84, 3) := by decide +kernel
theorem dX5_load_18 : decode cX5_load 18 = .ok (.aload_n 0, 1) := by decide +kernel
theorem dX5_load_19 : decode cX5_load 19 = .ok (.getfield 63, 3) := by decide +kernel
theorem dX5_load_22 : decode cX5_load 22 = .ok (.aload_n 0, 1) := by decide +kernel
theorem dX5_load_23 : decode cX5_load 23 = .ok (.getfield 30, 3) := by decide +kernel
theorem dX5_load_26 : decode cX5_load 26 = .ok (.aload_n 0, 1) := by decide +kernel
theorem dX5_load_27 : decode cX5_load 27 = .ok (.getfield 34, 3) := by decide +kernel
theorem dX5_load_30 : decode cX5_load 30 = .ok (.invokevirtual 87, 3) := by decide +kernel
theorem dX5_load_33 : decode cX5_load 33 = .ok (.istore_n 1, 1) := by decide +kernel
theorem dX5_load_34 : decode cX5_load 34 = .ok (.iload_n 1, 1) := by decide +kernel
theorem dX5_load_35 : decode cX5_load 35 = .ok (.iconst (-1), 1) := by decide +kernel
theorem dX5_load_36 : decode cX5_load 36 = .ok (.if_icmp .eq 8, 3) := by decide +kernel
theorem dX5_load_39 : decode cX5_load 39 = .ok (.bipush (-100), 2) := by decide +kernel
theorem dX5_load_41 : decode cX5_load 41 = .ok (.iload_n 1, 1) := by decide +kernel
theorem dX5_load_42 : decode cX5_load 42 = .ok (.isub, 1) := by decide +kernel
theorem dX5_load_43 : decode cX5_load 43 = .ok (.ireturn, 1) := by decide +kernel
theorem dX5_load_44 : decode cX5_load 44 = .ok (.aload_n 0, 1) := by decide +kernel
theorem dX5_load_45 : decode cX5_load 45 = .ok (.getfield 63, 3) := by decide +kernel
theorem dX5_load_48 : decode cX5_load 48 = .ok (.getfield 91, 3) := by decide +kernel
theorem dX5_load_51 : decode cX5_load 51 = .ok (.bipush 20, 2) := by decide +kernel
theorem dX5_load_53 : decode cX5_load 53 = .ok (.if_icmp .le 6, 3) := by decide +kernel
theorem dX5_load_56 : decode cX5_load 56 = .ok (.bipush (-3), 2) := by decide +kernel
theorem dX5_load_58 : decode cX5_load 58 = .ok (.ireturn, 1) := by decide +kernel
theorem dX5_load_59 : decode cX5_load 59 = .ok (.aload_n 0, 1) := by decide +kernel
theorem dX5_load_60 : decode cX5_load 60 = .ok (.getfield 19, 3) := by decide +kernel
theorem dX5_load_63 : decode cX5_load 63 = .ok (.aload_n 0, 1) := by decide +kernel
theorem dX5_load_64 : decode cX5_load 64 = .ok (.getfield 10, 3) := by decide +kernel
theorem dX5_load_67 : decode cX5_load 67 = .ok (.invokevirtual 74, 3) := by decide +kernel
theorem dX5_load_70 : decode cX5_load 70 = .ok (.aload_n 0, 1) := by decide +kernel
theorem dX5_load_71 : decode cX5_load 71 = .ok (.getfield 10, 3) := by decide +kernel
theorem dX5_load_74 : decode cX5_load 74 = .ok (.aload_n 0, 1) := by decide +kernel
theorem dX5_load_75 : decode cX5_load 75 = .ok (.getfield 38, 3) := by decide +kernel
theorem dX5_load_78 : decode cX5_load 78 = .ok (.invokevirtual 81, 3) := by decide +kernel
theorem dX5_load_81 : decode cX5_load 81 = .ok (.aload_n 0, 1) := by decide +kernel
theorem dX5_load_82 : decode cX5_load 82 = .ok (.getfield 10, 3) := by decide +kernel
theorem dX5_load_85 : decode cX5_load 85 = .ok (.getfield 71, 3) := by decide +kernel
theorem dX5_load_88 : decode cX5_load 88 = .ok (.ireturn, 1) := by decide +kernel
set_option maxRecDepth 20000 in
theorem ggX5_takeOff_X0_hasNote : GoodIn wsX5_takeOff wsX0_hasNote := goodIn_r _ [7, 8, 82, 83, 84, 85, 86, 87, 88, 89] (by decide +kernel) (by decide +kernel)
set_option maxRecDepth 20000 in
theorem gX5_takeOff_X0_hasNote : GoodIn wsX5_takeOff (wsV RX5 94 RX0 yX0_hasNote wsX0_hasNote) := goodIn_app (goodIn_of _ (by decide +kernel)) ggX5_takeOff_X0_hasNote
set_option maxRecDepth 20000 in
theorem ggX5_takeOff_X3_remember : GoodIn wsX5_takeOff wsX3_remember := goodIn_r _ [13, 14, 15, 16, 17, 18, 12, 19, 20, 21, 22, 6, 23, 8, 24, 25, 26, 27, 28, 29, 30, 31, 32, 33, 34, 90, 91, 82, 83, 84, 85, 86, 87, 88, 89] (by decide +kernel) (by decide +kernel)
set_option maxRecDepth 20000 in
theorem gX5_takeOff_X3_remember : GoodIn wsX5_takeOff (wsV RX5 74 RX3 yX3_remember wsX3_remember) := goodIn_app (goodIn_of _ (by decide +kernel)) ggX5_takeOff_X3_remember
set_option maxRecDepth 20000 in
theorem ggX5_takeOff_X0_dotsOn : GoodIn wsX5_takeOff wsX0_dotsOn := goodIn_r _ [38, 39, 40, 41, 6, 42, 31, 82, 83, 84, 85, 86, 87, 88, 89] (by decide +kernel) (by decide +kernel)
set_option maxRecDepth 20000 in
theorem gX5_takeOff_X0_dotsOn : GoodIn wsX5_takeOff (wsV RX5 98 RX0 yX0_dotsOn wsX0_dotsOn) := goodIn_app (goodIn_of _ (by decide +kernel)) ggX5_takeOff_X0_dotsOn
set_option maxRecDepth 20000 in
theorem ggX5_takeOff_X0_removeNote : GoodIn wsX5_takeOff wsX0_removeNote := goodIn_r _ [46, 30, 8, 47, 48, 49, 6, 50, 24, 29, 31, 51, 52, 53, 54, 55, 56, 57, 58, 32, 59, 60, 61, 62, 63, 64, 65, 66, 33, 67, 68, 69, 70, 82, 83, 84, 85, 86, 87, 88, 89] (by decide +kernel) (by decide +kernel)
set_option maxRecDepth 20000 in
theorem gX5_takeOff_X0_removeNote : GoodIn wsX5_takeOff (wsV RX5 102 RX0 yX0_removeNote wsX0_removeNote) := goodIn_app (goodIn_of _ (by decide +kernel)) ggX5_takeOff_X0_removeNote
theorem dX5_takeOff_0 : decode cX5_takeOff 0 = .ok (.aload_n 0, 1) := by decide +kernel
theorem dX5_takeOff_1 : decode cX5_takeOff 1 = .ok (.getfield 10, 3) := by decide +kernel
theorem dX5_takeOff_4 : decode cX5_takeOff 4 = .ok (.iload_n 1, 1) := by decide +kernel
theorem dX5_takeOff_5 : decode cX5_takeOff 5 = .ok (.invokevirtual 94, 3) := by decide +kernel
theorem dX5_takeOff_8 : decode cX5_takeOff 8 = .ok (.ifCond .ne 5, 3) := by decide +kernel
theorem dX5_takeOff_11 : decode cX5_takeOff 11 = .ok (.iconst (-1), 1) := by decide +kernel
theorem dX5_takeOff_12 : decode cX5_takeOff 12 = .ok (.ireturn, 1) := by decide +kernel
theorem dX5_takeOff_13 : decode cX5_takeOff 13 = .ok (.aload_n 0, 1) := by decide +kernel
theorem dX5_takeOff_14 : decode cX5_takeOff 14 = .ok (.getfield 19, 3) := by decide +kernel
theorem dX5_takeOff_17 : decode cX5_takeOff 17 = .ok (.aload_n 0, 1) := by decide +kernel
theorem dX5_takeOff_18 : decode cX5_takeOff 18 = .ok (.getfield 10, 3) := by decide +kernel
theorem dX5_takeOff_21 : decode cX5_takeOff 21 = .ok (.invokevirtual 74, 3) := by decide +kernel
theorem dX5_takeOff_24 : decode cX5_takeOff 24 = .ok (.aload_n 0, 1) := by decide +kernel
theorem dX5_takeOff_25 : decode cX5_takeOff 25 = .ok (.getfield 10, 3) := by decide +kernel
theorem dX5_takeOff_28 : decode cX5_takeOff 28 = .ok (.iload_n 1, 1) := by decide +kernel
theorem dX5_takeOff_29 : decode cX5_takeOff 29 = .ok (.invokevirtual 98, 3) := by decide +kernel
theorem dX5_takeOff_32 : decode cX5_takeOff 32 = .ok (.istore_n 2, 1) := by decide +kernel
theorem dX5_takeOff_33 : decode cX5_takeOff 33 = .ok (.aload_n 0, 1) := by decide +kernel
theorem dX5_takeOff_34 : decode cX5_takeOff 34 = .ok (.getfield 10, 3) := by decide +kernel
theorem dX5_takeOff_37 : decode cX5_takeOff 37 = .ok (.iload_n 1, 1) := by decide +kernel
theorem dX5_takeOff_38 : decode cX5_takeOff 38 = .ok (.invokevirtual 102, 3) := by decide +kernel
theorem dX5_takeOff_41 : decode cX5_takeOff 41 = .ok (.iload_n 2, 1) := by decide +kernel
theorem dX5_takeOff_42 : decode cX5_takeOff 42 = .ok (.ireturn, 1) := by decide +kernel
set_option maxRecDepth 20000 in
theorem ggX5_drag_X0_hasNote : GoodIn wsX5_drag wsX0_hasNote := goodIn_r _ [9, 10, 97, 98, 99, 100, 101, 102, 103, 104] (by decide +kernel) (by decide +kernel)
set_option maxRecDepth 20000 in
theorem gX5_drag_X0_hasNote : GoodIn wsX5_drag (wsV RX5 94 RX0 yX0_hasNote wsX0_hasNote) := goodIn_app (goodIn_of _ (by decide +kernel)) ggX5_drag_X0_hasNote
set_option maxRecDepth 20000 in
theorem ggX5_drag_X5_isPlace : GoodIn wsX5_drag wsX5_isPlace := goodIn_r _ [14, 15, 16, 13, 17] (by decide +kernel) (by decide +kernel)
set_option maxRecDepth 20000 in
theorem gX5_drag_X5_isPlace : GoodIn wsX5_drag (va_wsS RX5 67 yX5_isPlace wsX5_isPlace) := goodIn_app (goodIn_of _ (by decide +kernel)) ggX5_drag_X5_isPlace
set_option maxRecDepth 20000 in
theorem ggX5_drag_X3_remember : GoodIn wsX5_drag wsX3_remember := goodIn_r _ [22, 23, 24, 25, 26, 27, 21, 28, 29, 30, 31, 8, 32, 10, 33, 34, 35, 36, 37, 38, 39, 40, 41, 42, 43, 105, 106, 97, 98, 99, 100, 101, 102, 103, 104] (by decide +kernel) (by decide +kernel)
set_option maxRecDepth 20000 in
theorem gX5_drag_X3_remember : GoodIn wsX5_drag (wsV RX5 74 RX3 yX3_remember wsX3_remember) := goodIn_app (goodIn_of _ (by decide +kernel)) ggX5_drag_X3_remember
set_option maxRecDepth 20000 in
theorem ggX5_drag_X0_moveNote : GoodIn wsX5_drag wsX0_moveNote := goodIn_r _ [47, 33, 38, 97, 98, 99, 100, 101, 102, 103, 104] (by decide +kernel) (by decide +kernel)
set_option maxRecDepth 20000 in
theorem gX5_drag_X0_moveNote : GoodIn wsX5_drag (wsV RX5 113 RX0 yX0_moveNote wsX0_moveNote) := goodIn_app (goodIn_of _ (by decide +kernel)) ggX5_drag_X0_moveNote
set_option maxRecDepth 20000 in
theorem ggX5_drag_X5_findHeaps : GoodIn wsX5_drag wsX5_findHeaps := goodIn_r _ [51, 52, 1, 53, 54, 55, 56, 57, 58, 59, 60, 61, 62, 63, 64, 65, 8, 66, 33, 67, 68, 69, 70, 38, 71, 72, 73, 74, 75, 76, 77, 78, 79, 80, 81, 82, 83, 84, 85, 86, 87, 88, 89, 90, 91, 92, 93, 94, 95, 96, 97, 98, 99, 100, 101, 102, 103, 104, 107, 108, 109, 110] (by decide +kernel) (by decide +kernel)
set_option maxRecDepth 20000 in
theorem gX5_drag_X5_findHeaps : GoodIn wsX5_drag (wsV RX5 117 RX5 yX5_findHeaps wsX5_findHeaps) := goodIn_app (goodIn_of _ (by decide +kernel)) ggX5_drag_X5_findHeaps
theorem dX5_drag_0 : decode cX5_drag 0 = .ok (.aload_n 0, 1) := by decide +kernel
theorem dX5_drag_1 : decode cX5_drag 1 = .ok (.getfield 10, 3) := by decide +kernel
theorem dX5_drag_4 : decode cX5_drag 4 = .ok (.iload_n 1, 1) := by decide +kernel
theorem dX5_drag_5 : decode cX5_drag 5 = .ok (.invokevirtual 94, 3) := by decide +kernel
theorem dX5_drag_8 : decode cX5_drag 8 = .ok (.ifCond .eq 11, 3) := by decide +kernel
theorem dX5_drag_11 : decode cX5_drag 11 = .ok (.iload_n 2, 1) := by decide +kernel
theorem dX5_drag_12 : decode cX5_drag 12 = .ok (.iload_n 3, 1) := by decide +kernel
theorem dX5_drag_13 : decode cX5_drag 13 = .ok (.invokestatic 67, 3) := by decide +kernel
theorem dX5_drag_16 : decode cX5_drag 16 = .ok (.ifCond .ne 5, 3) := by decide +kernel
theorem dX5_drag_19 : decode cX5_drag 19 = .ok (.iconst (-1), 1) := by decide +kernel
theorem dX5_drag_20 : decode cX5_drag 20 = .ok (.ireturn, 1) := by decide +kernel
theorem dX5_drag_21 : decode cX5_drag 21 = .ok (.aload_n 0, 1) := by decide +kernel
theorem dX5_drag_22 : decode cX5_drag 22 = .ok (.getfield 10, 3) := by decide +kernel
theorem dX5_drag_25 : decode cX5_drag 25 = .ok (.getfield 106, 3) := by decide +kernel
theorem dX5_drag_28 : decode cX5_drag 28 = .ok (.iload_n 1, 1) := by decide +kernel
theorem dX5_drag_29 : decode cX5_drag 29 = .ok (.iaload, 1) := by decide +kernel
theorem dX5_drag_30 : decode cX5_drag 30 = .ok (.iload_n 2, 1) := by decide +kernel
theorem dX5_drag_31 : decode cX5_drag 31 = .ok (.if_icmp .ne 19, 3) := by decide +kernel
theorem dX5_drag_34 : decode cX5_drag 34 = .ok (.aload_n 0, 1) := by decide +kernel
theorem dX5_drag_35 : decode cX5_drag 35 = .ok (.getfield 10, 3) := by decide +kernel
theorem dX5_drag_38 : decode cX5_drag 38 = .ok (.getfield 110, 3) := by decide +kernel
theorem dX5_drag_41 : decode cX5_drag 41 = .ok (.iload_n 1, 1) := by decide +kernel
theorem dX5_drag_42 : decode cX5_drag 42 = .ok (.iaload, 1) := by decide +kernel
theorem dX5_drag_43 : decode cX5_drag 43 = .ok (.iload_n 3, 1) := by decide +kernel
theorem dX5_drag_44 : decode cX5_drag 44 = .ok (.if_icmp .ne 6, 3) := by decide +kernel
theorem dX5_drag_47 : decode cX5_drag 47 = .ok (.bipush (-5), 2) := by decide +kernel
theorem dX5_drag_49 : decode cX5_drag 49 = .ok (.ireturn, 1) := by decide +kernel
theorem dX5_drag_50 : decode cX5_drag 50 = .ok (.aload_n 0, 1) := by decide +kernel
theorem dX5_drag_51 : decode cX5_drag 51 = .ok (.getfield 19, 3) := by decide +kernel
theorem dX5_drag_54 : decode cX5_drag 54 = .ok (.aload_n 0, 1) := by decide +kernel
theorem dX5_drag_55 : decode cX5_drag 55 = .ok (.getfield 10, 3) := by decide +kernel
theorem dX5_drag_58 : decode cX5_drag 58 = .ok (.invokevirtual 74, 3) := by decide +kernel
theorem dX5_drag_61 : decode cX5_drag 61 = .ok (.aload_n 0, 1) := by decide +kernel
theorem dX5_drag_62 : decode cX5_drag 62 = .ok (.getfield 10, 3) := by decide +kernel
theorem dX5_drag_65 : decode cX5_drag 65 = .ok (.iload_n 1, 1) := by decide +kernel
theorem dX5_drag_66 : decode cX5_drag 66 = .ok (.iload_n 2, 1) := by decide +kernel
theorem dX5_drag_67 : decode cX5_drag 67 = .ok (.iload_n 3, 1) := by decide +kernel
theorem dX5_drag_68 : decode cX5_drag 68 = .ok (.invokevirtual 113, 3) := by decide +kernel
theorem dX5_drag_71 : decode cX5_drag 71 = .ok (.aload_n 0, 1) := by decide +kernel
theorem dX5_drag_72 : decode cX5_drag 72 = .ok (.invokevirtual 117, 3) := by decide +kernel
theorem dX5_drag_75 : decode cX5_drag 75 = .ok (.ireturn, 1) := by decide +kernel
set_option maxRecDepth 20000 in
theorem ggX5_dragHeap_X5_findHeaps : GoodIn wsX5_dragHeap wsX5_findHeaps := goodIn_r _ [8, 1, 3, 9, 10, 11, 12, 13, 14, 15, 16, 17, 18, 19, 20, 21, 22, 23, 24, 25, 26, 27, 28, 29, 30, 31, 32, 33, 34, 35, 36, 37, 38, 39, 40, 41, 42, 43, 44, 96, 97, 98, 99, 100, 101, 102, 103, 104, 105, 106, 107, 108, 109, 110, 111, 112, 113, 114, 115, 116, 117, 118] (by decide +kernel) (by decide +kernel)
set_option maxRecDepth 20000 in
theorem gX5_dragHeap_X5_findHeaps : GoodIn wsX5_dragHeap (wsV RX5 117 RX5 yX5_findHeaps wsX5_findHeaps) := goodIn_app (goodIn_of _ (by decide +kernel)) ggX5_dragHeap_X5_findHeaps
set_option maxRecDepth 20000 in
theorem ggX5_dragHeap_X2_has : GoodIn wsX5_dragHeap wsX2_has := goodIn_r _ [48, 18, 115, 116, 117, 118] (by decide +kernel) (by decide +kernel)
set_option maxRecDepth 20000 in
theorem gX5_dragHeap_X2_has : GoodIn wsX5_dragHeap (wsV RX5 121 RX2 yX2_has wsX2_has) := goodIn_app (goodIn_of _ (by decide +kernel)) ggX5_dragHeap_X2_has
set_option maxRecDepth 20000 in
theorem ggX5_dragHeap_X5_isWithin : GoodIn wsX5_dragHeap wsX5_isWithin := goodIn_r _ [51] (by decide +kernel) (by decide +kernel)
set_option maxRecDepth 20000 in
theorem gX5_dragHeap_X5_isWithin : GoodIn wsX5_dragHeap (va_wsS RX5 124 yX5_isWithin wsX5_isWithin) := goodIn_app (goodIn_of _ (by decide +kernel)) ggX5_dragHeap_X5_isWithin
set_option maxRecDepth 20000 in
theorem ggX5_dragHeap_X5_staysOnBoard : GoodIn wsX5_dragHeap wsX5_staysOnBoard := goodIn_r _ [55, 3, 56, 1, 57, 58, 59, 60, 61, 7, 62, 49, 50, 51, 96, 97, 98, 99, 100, 101, 102, 103, 104, 105, 106, 107, 108, 109, 110, 111, 112, 113, 114, 115, 116, 117, 118] (by decide +kernel) (by decide +kernel)
set_option maxRecDepth 20000 in
theorem gX5_dragHeap_X5_staysOnBoard : GoodIn wsX5_dragHeap (wsV RX5 128 RX5 yX5_staysOnBoard wsX5_staysOnBoard) := goodIn_app (goodIn_of _ (by decide +kernel)) ggX5_dragHeap_X5_staysOnBoard
set_option maxRecDepth 20000 in
theorem ggX5_dragHeap_X3_remember : GoodIn wsX5_dragHeap wsX3_remember := goodIn_r _ [67, 68, 69, 70, 71, 72, 66, 73, 74, 75, 76, 22, 77, 78, 24, 79, 80, 81, 82, 29, 83, 84, 85, 86, 87, 119, 120, 107, 108, 109, 110, 111, 112, 113, 114] (by decide +kernel) (by decide +kernel)
set_option maxRecDepth 20000 in
theorem gX5_dragHeap_X3_remember : GoodIn wsX5_dragHeap (wsV RX5 74 RX3 yX3_remember wsX3_remember) := goodIn_app (goodIn_of _ (by decide +kernel)) ggX5_dragHeap_X3_remember
set_option maxRecDepth 20000 in
theorem ggX5_dragHeap_X5_moveHeap : GoodIn wsX5_dragHeap wsX5_moveHeap := goodIn_r _ [91, 3, 56, 1, 57, 58, 59, 92, 93, 94, 22, 95, 24, 29, 96, 97, 98, 99, 100, 101, 102, 103, 104, 105, 106, 107, 108, 109, 110, 111, 112, 113, 114, 115, 116, 117, 118] (by decide +kernel) (by decide +kernel)
set_option maxRecDepth 20000 in
theorem gX5_dragHeap_X5_moveHeap : GoodIn wsX5_dragHeap (wsV RX5 131 RX5 yX5_moveHeap wsX5_moveHeap) := goodIn_app (goodIn_of _ (by decide +kernel)) ggX5_dragHeap_X5_moveHeap
theorem dX5_dragHeap_0 : decode cX5_dragHeap 0 = .ok (.aload_n 0, 1) := by decide +kernel
theorem dX5_dragHeap_1 : decode cX5_dragHeap 1 = .ok (.invokevirtual 117, 3) := by decide +kernel
theorem dX5_dragHeap_4 : decode cX5_dragHeap 4 = .ok (.pop, 1) := by decide +kernel
theorem dX5_dragHeap_5 : decode cX5_dragHeap 5 = .ok (.aload_n 0, 1) := by decide +kernel
theorem dX5_dragHeap_6 : decode cX5_dragHeap 6 = .ok (.getfield 44, 3) := by decide +kernel
theorem dX5_dragHeap_9 : decode cX5_dragHeap 9 = .ok (.iload_n 1, 1) := by decide +kernel
theorem dX5_dragHeap_10 : decode cX5_dragHeap 10 = .ok (.invokevirtual 121, 3) := by decide +kernel
theorem dX5_dragHeap_13 : decode cX5_dragHeap 13 = .ok (.ifCond .ne 5, 3) := by decide +kernel
theorem dX5_dragHeap_16 : decode cX5_dragHeap 16 = .ok (.iconst (-1), 1) := by decide +kernel
theorem dX5_dragHeap_17 : decode cX5_dragHeap 17 = .ok (.ireturn, 1) := by decide +kernel
theorem dX5_dragHeap_18 : decode cX5_dragHeap 18 = .ok (.iload_n 2, 1) := by decide +kernel
theorem dX5_dragHeap_19 : decode cX5_dragHeap 19 = .ok (.bipush (-29), 2) := by decide +kernel
theorem dX5_dragHeap_21 : decode cX5_dragHeap 21 = .ok (.bipush 29, 2) := by decide +kernel
theorem dX5_dragHeap_23 : decode cX5_dragHeap 23 = .ok (.invokestatic 124, 3) := by decide +kernel
theorem dX5_dragHeap_26 : decode cX5_dragHeap 26 = .ok (.ifCond .eq 14, 3) := by decide +kernel
theorem dX5_dragHeap_29 : decode cX5_dragHeap 29 = .ok (.iload_n 3, 1) := by decide +kernel
theorem dX5_dragHeap_30 : decode cX5_dragHeap 30 = .ok (.bipush (-19), 2) := by decide +kernel
theorem dX5_dragHeap_32 : decode cX5_dragHeap 32 = .ok (.bipush 19, 2) := by decide +kernel
theorem dX5_dragHeap_34 : decode cX5_dragHeap 34 = .ok (.invokestatic 124, 3) := by decide +kernel
theorem dX5_dragHeap_37 : decode cX5_dragHeap 37 = .ok (.ifCond .ne 6, 3) := by decide +kernel
theorem dX5_dragHeap_40 : decode cX5_dragHeap 40 = .ok (.bipush (-2), 2) := by decide +kernel
theorem dX5_dragHeap_42 : decode cX5_dragHeap 42 = .ok (.ireturn, 1) := by decide +kernel
theorem dX5_dragHeap_43 : decode cX5_dragHeap 43 = .ok (.aload_n 0, 1) := by decide +kernel
theorem dX5_dragHeap_44 : decode cX5_dragHeap 44 = .ok (.iload_n 1, 1) := by decide +kernel
theorem dX5_dragHeap_45 : decode cX5_dragHeap 45 = .ok (.iload_n 2, 1) := by decide +kernel
theorem dX5_dragHeap_46 : decode cX5_dragHeap 46 = .ok (.iload_n 3, 1) := by decide +kernel
theorem dX5_dragHeap_47 : decode cX5_dragHeap 47 = .ok (.invokevirtual 128, 3) := by decide +kernel
theorem dX5_dragHeap_50 : decode cX5_dragHeap 50 = .ok (.ifCond .ne 6, 3) := by decide +kernel
theorem dX5_dragHeap_53 : decode cX5_dragHeap 53 = .ok (.bipush (-4), 2) := by decide +kernel
theorem dX5_dragHeap_55 : decode cX5_dragHeap 55 = .ok (.ireturn, 1) := by decide +kernel
theorem dX5_dragHeap_56 : decode cX5_dragHeap 56 = .ok (.iload_n 2, 1) := by decide +kernel
theorem dX5_dragHeap_57 : decode cX5_dragHeap 57 = .ok (.ifCond .ne 10, 3) := by decide +kernel
theorem dX5_dragHeap_60 : decode cX5_dragHeap 60 = .ok (.iload_n 3, 1) := by decide +kernel
theorem dX5_dragHeap_61 : decode cX5_dragHeap 61 = .ok (.ifCond .ne 6, 3) := by decide +kernel
theorem dX5_dragHeap_64 : decode cX5_dragHeap 64 = .ok (.bipush (-5), 2) := by decide +kernel
theorem dX5_dragHeap_66 : decode cX5_dragHeap 66 = .ok (.ireturn, 1) := by decide +kernel
theorem dX5_dragHeap_67 : decode cX5_dragHeap 67 = .ok (.aload_n 0, 1) := by decide +kernel
theorem dX5_dragHeap_68 : decode cX5_dragHeap 68 = .ok (.getfield 19, 3) := by decide +kernel
theorem dX5_dragHeap_71 : decode cX5_dragHeap 71 = .ok (.aload_n 0, 1) := by decide +kernel
theorem dX5_dragHeap_72 : decode cX5_dragHeap 72 = .ok (.getfield 10, 3) := by decide +kernel
theorem dX5_dragHeap_75 : decode cX5_dragHeap 75 = .ok (.invokevirtual 74, 3) := by decide +kernel
theorem dX5_dragHeap_78 : decode cX5_dragHeap 78 = .ok (.aload_n 0, 1) := by decide +kernel
theorem dX5_dragHeap_79 : decode cX5_dragHeap 79 = .ok (.iload_n 1, 1) := by decide +kernel
theorem dX5_dragHeap_80 : decode cX5_dragHeap 80 = .ok (.iload_n 2, 1) := by decide +kernel
theorem dX5_dragHeap_81 : decode cX5_dragHeap 81 = .ok (.iload_n 3, 1) := by decide +kernel
theorem dX5_dragHeap_82 : decode cX5_dragHeap 82 = .ok (.invokevirtual 131, 3) := by decide +kernel
theorem dX5_dragHeap_85 : decode cX5_dragHeap 85 = .ok (.aload_n 0, 1) := by decide +kernel
theorem dX5_dragHeap_86 : decode cX5_dragHeap 86 = .ok (.invokevirtual 117, 3) := by decide +kernel
theorem dX5_dragHeap_89 : decode cX5_dragHeap 89 = .ok (.ireturn, 1) := by decide +kernel
set_option maxRecDepth 20000 in
theorem ggX5_stick_X5_isPerson : GoodIn wsX5_stick wsX5_isPerson := goodIn_r _ [6, 7, 8, 5, 9] (by decide +kernel) (by decide +kernel)
set_option maxRecDepth 20000 in
theorem gX5_stick_X5_isPerson : GoodIn wsX5_stick (va_wsS RX5 134 yX5_isPerson wsX5_isPerson) := goodIn_app (goodIn_of _ (by decide +kernel)) ggX5_stick_X5_isPerson
set_option maxRecDepth 20000 in
theorem ggX5_stick_X0_hasNote : GoodIn wsX5_stick wsX0_hasNote := goodIn_r _ [14, 15, 77, 78, 79, 80, 81, 82, 83, 84] (by decide +kernel) (by decide +kernel)
set_option maxRecDepth 20000 in
theorem gX5_stick_X0_hasNote : GoodIn wsX5_stick (wsV RX5 94 RX0 yX0_hasNote wsX0_hasNote) := goodIn_app (goodIn_of _ (by decide +kernel)) ggX5_stick_X0_hasNote
set_option maxRecDepth 20000 in
theorem ggX5_stick_X0_dotsLeft : GoodIn wsX5_stick wsX0_dotsLeft := goodIn_r _ [19, 20, 15, 21, 22, 23, 24, 25, 26, 27, 13, 28, 29, 77, 78, 79, 80, 81, 82, 83, 84] (by decide +kernel) (by decide +kernel)
set_option maxRecDepth 20000 in
theorem gX5_stick_X0_dotsLeft : GoodIn wsX5_stick (wsV RX5 137 RX0 yX0_dotsLeft wsX0_dotsLeft) := goodIn_app (goodIn_of _ (by decide +kernel)) ggX5_stick_X0_dotsLeft
set_option maxRecDepth 20000 in
theorem ggX5_stick_X0_hasMostDots : GoodIn wsX5_stick wsX0_hasMostDots := goodIn_r _ [33, 20, 25, 26, 27, 13, 28, 29, 77, 78, 79, 80, 81, 82, 83, 84] (by decide +kernel) (by decide +kernel)
set_option maxRecDepth 20000 in
theorem gX5_stick_X0_hasMostDots : GoodIn wsX5_stick (wsV RX5 140 RX0 yX0_hasMostDots wsX0_hasMostDots) := goodIn_app (goodIn_of _ (by decide +kernel)) ggX5_stick_X0_hasMostDots
set_option maxRecDepth 20000 in
theorem ggX5_stick_X3_remember : GoodIn wsX5_stick wsX3_remember := goodIn_r _ [38, 39, 40, 41, 42, 43, 37, 44, 45, 46, 47, 13, 48, 15, 49, 50, 51, 52, 53, 54, 55, 29, 56, 57, 20, 85, 86, 77, 78, 79, 80, 81, 82, 83, 84] (by decide +kernel) (by decide +kernel)
set_option maxRecDepth 20000 in
theorem gX5_stick_X3_remember : GoodIn wsX5_stick (wsV RX5 74 RX3 yX3_remember wsX3_remember) := goodIn_app (goodIn_of _ (by decide +kernel)) ggX5_stick_X3_remember
set_option maxRecDepth 20000 in
theorem ggX5_stick_X0_addDots : GoodIn wsX5_stick wsX0_addDots := goodIn_r _ [61, 29, 77, 78, 79, 80, 81, 82, 83, 84] (by decide +kernel) (by decide +kernel)
set_option maxRecDepth 20000 in
theorem gX5_stick_X0_addDots : GoodIn wsX5_stick (wsV RX5 143 RX0 yX0_addDots wsX0_addDots) := goodIn_app (goodIn_of _ (by decide +kernel)) ggX5_stick_X0_addDots
set_option maxRecDepth 20000 in
theorem ggX5_stick_X0_dotsOn : GoodIn wsX5_stick wsX0_dotsOn := goodIn_r _ [65, 25, 26, 27, 13, 28, 29, 77, 78, 79, 80, 81, 82, 83, 84] (by decide +kernel) (by decide +kernel)
set_option maxRecDepth 20000 in
theorem gX5_stick_X0_dotsOn : GoodIn wsX5_stick (wsV RX5 98 RX0 yX0_dotsOn wsX0_dotsOn) := goodIn_app (goodIn_of _ (by decide +kernel)) ggX5_stick_X0_dotsOn
theorem dX5_stick_0 : decode cX5_stick 0 = .ok (.iload_n 1, 1) := by decide +kernel
theorem dX5_stick_1 : decode cX5_stick 1 = .ok (.invokestatic 134, 3) := by decide +kernel
theorem dX5_stick_4 : decode cX5_stick 4 = .ok (.ifCond .eq 14, 3) := by decide +kernel
theorem dX5_stick_7 : decode cX5_stick 7 = .ok (.aload_n 0, 1) := by decide +kernel
theorem dX5_stick_8 : decode cX5_stick 8 = .ok (.getfield 10, 3) := by decide +kernel
theorem dX5_stick_11 : decode cX5_stick 11 = .ok (.iload_n 2, 1) := by decide +kernel
theorem dX5_stick_12 : decode cX5_stick 12 = .ok (.invokevirtual 94, 3) := by decide +kernel
theorem dX5_stick_15 : decode cX5_stick 15 = .ok (.ifCond .ne 5, 3) := by decide +kernel
theorem dX5_stick_18 : decode cX5_stick 18 = .ok (.iconst (-1), 1) := by decide +kernel
theorem dX5_stick_19 : decode cX5_stick 19 = .ok (.ireturn, 1) := by decide +kernel
theorem dX5_stick_20 : decode cX5_stick 20 = .ok (.aload_n 0, 1) := by decide +kernel
theorem dX5_stick_21 : decode cX5_stick 21 = .ok (.getfield 10, 3) := by decide +kernel
theorem dX5_stick_24 : decode cX5_stick 24 = .ok (.iload_n 1, 1) := by decide +kernel
theorem dX5_stick_25 : decode cX5_stick 25 = .ok (.invokevirtual 137, 3) := by decide +kernel
theorem dX5_stick_28 : decode cX5_stick 28 = .ok (.ifCond .ne 6, 3) := by decide +kernel
theorem dX5_stick_31 : decode cX5_stick 31 = .ok (.bipush (-3), 2) := by decide +kernel
theorem dX5_stick_33 : decode cX5_stick 33 = .ok (.ireturn, 1) := by decide +kernel
theorem dX5_stick_34 : decode cX5_stick 34 = .ok (.aload_n 0, 1) := by decide +kernel
theorem dX5_stick_35 : decode cX5_stick 35 = .ok (.getfield 10, 3) := by decide +kernel
theorem dX5_stick_38 : decode cX5_stick 38 = .ok (.iload_n 1, 1) := by decide +kernel
theorem dX5_stick_39 : decode cX5_stick 39 = .ok (.iload_n 2, 1) := by decide +kernel
theorem dX5_stick_40 : decode cX5_stick 40 = .ok (.invokevirtual 140, 3) := by decide +kernel
theorem dX5_stick_43 : decode cX5_stick 43 = .ok (.ifCond .eq 6, 3) := by decide +kernel
theorem dX5_stick_46 : decode cX5_stick 46 = .ok (.bipush (-4), 2) := by decide +kernel
theorem dX5_stick_48 : decode cX5_stick 48 = .ok (.ireturn, 1) := by decide +kernel
theorem dX5_stick_49 : decode cX5_stick 49 = .ok (.aload_n 0, 1) := by decide +kernel
theorem dX5_stick_50 : decode cX5_stick 50 = .ok (.getfield 19, 3) := by decide +kernel
theorem dX5_stick_53 : decode cX5_stick 53 = .ok (.aload_n 0, 1) := by decide +kernel
theorem dX5_stick_54 : decode cX5_stick 54 = .ok (.getfield 10, 3) := by decide +kernel
theorem dX5_stick_57 : decode cX5_stick 57 = .ok (.invokevirtual 74, 3) := by decide +kernel
theorem dX5_stick_60 : decode cX5_stick 60 = .ok (.aload_n 0, 1) := by decide +kernel
theorem dX5_stick_61 : decode cX5_stick 61 = .ok (.getfield 10, 3) := by decide +kernel
theorem dX5_stick_64 : decode cX5_stick 64 = .ok (.iload_n 1, 1) := by decide +kernel
theorem dX5_stick_65 : decode cX5_stick 65 = .ok (.iload_n 2, 1) := by decide +kernel
theorem dX5_stick_66 : decode cX5_stick 66 = .ok (.iconst 1, 1) := by decide +kernel
theorem dX5_stick_67 : decode cX5_stick 67 = .ok (.invokevirtual 143, 3) := by decide +kernel
theorem dX5_stick_70 : decode cX5_stick 70 = .ok (.aload_n 0, 1) := by decide +kernel
theorem dX5_stick_71 : decode cX5_stick 71 = .ok (.getfield 10, 3) := by decide +kernel
theorem dX5_stick_74 : decode cX5_stick 74 = .ok (.iload_n 2, 1) := by decide +kernel
theorem dX5_stick_75 : decode cX5_stick 75 = .ok (.invokevirtual 98, 3) := by decide +kernel
theorem dX5_stick_78 : decode cX5_stick 78 = .ok (.ireturn, 1) := by decide +kernel
set_option maxRecDepth 20000 in
theorem ggX5_unstick_X5_isPerson : GoodIn wsX5_unstick wsX5_isPerson := goodIn_r _ [6, 7, 8, 5, 9] (by decide +kernel) (by decide +kernel)
set_option maxRecDepth 20000 in
theorem gX5_unstick_X5_isPerson : GoodIn wsX5_unstick (va_wsS RX5 134 yX5_isPerson wsX5_isPerson) := goodIn_app (goodIn_of _ (by decide +kernel)) ggX5_unstick_X5_isPerson
set_option maxRecDepth 20000 in
theorem ggX5_unstick_X0_hasNote : GoodIn wsX5_unstick wsX0_hasNote := goodIn_r _ [14, 15, 66, 67, 68, 69, 70, 71, 72, 73] (by decide +kernel) (by decide +kernel)
set_option maxRecDepth 20000 in
theorem gX5_unstick_X0_hasNote : GoodIn wsX5_unstick (wsV RX5 94 RX0 yX0_hasNote wsX0_hasNote) := goodIn_app (goodIn_of _ (by decide +kernel)) ggX5_unstick_X0_hasNote
set_option maxRecDepth 20000 in
theorem ggX5_unstick_X0_dotsOfPerson : GoodIn wsX5_unstick wsX0_dotsOfPerson := goodIn_r _ [19, 20, 66, 67, 68, 69, 70, 71, 72, 73] (by decide +kernel) (by decide +kernel)
set_option maxRecDepth 20000 in
theorem gX5_unstick_X0_dotsOfPerson : GoodIn wsX5_unstick (wsV RX5 146 RX0 yX0_dotsOfPerson wsX0_dotsOfPerson) := goodIn_app (goodIn_of _ (by decide +kernel)) ggX5_unstick_X0_dotsOfPerson
set_option maxRecDepth 20000 in
theorem ggX5_unstick_X3_remember : GoodIn wsX5_unstick wsX3_remember := goodIn_r _ [25, 26, 27, 28, 29, 30, 24, 31, 32, 33, 34, 13, 35, 15, 36, 37, 38, 39, 40, 41, 42, 20, 43, 44, 45, 74, 75, 66, 67, 68, 69, 70, 71, 72, 73] (by decide +kernel) (by decide +kernel)
set_option maxRecDepth 20000 in
theorem gX5_unstick_X3_remember : GoodIn wsX5_unstick (wsV RX5 74 RX3 yX3_remember wsX3_remember) := goodIn_app (goodIn_of _ (by decide +kernel)) ggX5_unstick_X3_remember
set_option maxRecDepth 20000 in
theorem ggX5_unstick_X0_addDots : GoodIn wsX5_unstick wsX0_addDots := goodIn_r _ [49, 20, 66, 67, 68, 69, 70, 71, 72, 73] (by decide +kernel) (by decide +kernel)
set_option maxRecDepth 20000 in
theorem gX5_unstick_X0_addDots : GoodIn wsX5_unstick (wsV RX5 143 RX0 yX0_addDots wsX0_addDots) := goodIn_app (goodIn_of _ (by decide +kernel)) ggX5_unstick_X0_addDots
set_option maxRecDepth 20000 in
theorem ggX5_unstick_X0_dotsOn : GoodIn wsX5_unstick wsX0_dotsOn := goodIn_r _ [53, 54, 17, 18, 13, 19, 20, 66, 67, 68, 69, 70, 71, 72, 73] (by decide +kernel) (by decide +kernel)
set_option maxRecDepth 20000 in
theorem gX5_unstick_X0_dotsOn : GoodIn wsX5_unstick (wsV RX5 98 RX0 yX0_dotsOn wsX0_dotsOn) := goodIn_app (goodIn_of _ (by decide +kernel)) ggX5_unstick_X0_dotsOn
theorem dX5_unstick_0 : decode cX5_unstick 0 = .ok (.iload_n 1, 1) := by decide +kernel
theorem dX5_unstick_1 : decode cX5_unstick 1 = .ok (.invokestatic 134, 3) := by decide +kernel
theorem dX5_unstick_4 : decode cX5_unstick 4 = .ok (.ifCond .eq 14, 3) := by decide +kernel
theorem dX5_unstick_7 : decode cX5_unstick 7 = .ok (.aload_n 0, 1) := by decide +kernel
theorem dX5_unstick_8 : decode cX5_unstick 8 = .ok (.getfield 10, 3) := by decide +kernel
theorem dX5_unstick_11 : decode cX5_unstick 11 = .ok (.iload_n 2, 1) := by decide +kernel
theorem dX5_unstick_12 : decode cX5_unstick 12 = .ok (.invokevirtual 94, 3) := by decide +kernel
theorem dX5_unstick_15 : decode cX5_unstick 15 = .ok (.ifCond .ne 5, 3) := by decide +kernel
theorem dX5_unstick_18 : decode cX5_unstick 18 = .ok (.iconst (-1), 1) := by decide +kernel
theorem dX5_unstick_19 : decode cX5_unstick 19 = .ok (.ireturn, 1) := by decide +kernel
theorem dX5_unstick_20 : decode cX5_unstick 20 = .ok (.aload_n 0, 1) := by decide +kernel
theorem dX5_unstick_21 : decode cX5_unstick 21 = .ok (.getfield 10, 3) := by decide +kernel
theorem dX5_unstick_24 : decode cX5_unstick 24 = .ok (.iload_n 1, 1) := by decide +kernel
theorem dX5_unstick_25 : decode cX5_unstick 25 = .ok (.iload_n 2, 1) := by decide +kernel
theorem dX5_unstick_26 : decode cX5_unstick 26 = .ok (.invokevirtual 146, 3) := by decide +kernel
theorem dX5_unstick_29 : decode cX5_unstick 29 = .ok (.ifCond .ne 6, 3) := by decide +kernel
theorem dX5_unstick_32 : decode cX5_unstick 32 = .ok (.bipush (-4), 2) := by decide +kernel
theorem dX5_unstick_34 : decode cX5_unstick 34 = .ok (.ireturn, 1) := by decide +kernel
theorem dX5_unstick_35 : decode cX5_unstick 35 = .ok (.aload_n 0, 1) := by decide +kernel
theorem dX5_unstick_36 : decode cX5_unstick 36 = .ok (.getfield 19, 3) := by decide +kernel
theorem dX5_unstick_39 : decode cX5_unstick 39 = .ok (.aload_n 0, 1) := by decide +kernel
theorem dX5_unstick_40 : decode cX5_unstick 40 = .ok (.getfield 10, 3) := by decide +kernel
theorem dX5_unstick_43 : decode cX5_unstick 43 = .ok (.invokevirtual 74, 3) := by decide +kernel
theorem dX5_unstick_46 : decode cX5_unstick 46 = .ok (.aload_n 0, 1) := by decide +kernel
theorem dX5_unstick_47 : decode cX5_unstick 47 = .ok (.getfield 10, 3) := by decide +kernel
theorem dX5_unstick_50 : decode cX5_unstick 50 = .ok (.iload_n 1, 1) := by decide +kernel
theorem dX5_unstick_51 : decode cX5_unstick 51 = .ok (.iload_n 2, 1) := by decide +kernel
theorem dX5_unstick_52 : decode cX5_unstick 52 = .ok (.iconst (-1), 1) := by decide +kernel
theorem dX5_unstick_53 : decode cX5_unstick 53 = .ok (.invokevirtual 143, 3) := by decide +kernel
theorem dX5_unstick_56 : decode cX5_unstick 56 = .ok (.aload_n 0, 1) := by decide +kernel
theorem dX5_unstick_57 : decode cX5_unstick 57 = .ok (.getfield 10, 3) := by decide +kernel
theorem dX5_unstick_60 : decode cX5_unstick 60 = .ok (.iload_n 2, 1) := by decide +kernel
theorem dX5_unstick_61 : decode cX5_unstick 61 = .ok (.invokevirtual 98, 3) := by decide +kernel
theorem dX5_unstick_64 : decode cX5_unstick 64 = .ok (.ireturn, 1) := by decide +kernel
set_option maxRecDepth 20000 in
theorem ggX5_make_X5_findHeaps : GoodIn wsX5_make wsX5_findHeaps := goodIn_r _ [12, 1, 2, 13, 14, 15, 16, 17, 18, 19, 20, 21, 22, 23, 24, 25, 26, 27, 28, 29, 30, 31, 32, 33, 34, 35, 36, 37, 38, 39, 40, 41, 42, 43, 44, 45, 46, 47, 48, 91, 92, 93, 94, 95, 96, 97, 98, 99, 100, 101, 102, 103, 104, 105, 106, 107, 108, 109, 110, 111, 112, 113] (by decide +kernel) (by decide +kernel)
set_option maxRecDepth 20000 in
theorem gX5_make_X5_findHeaps : GoodIn wsX5_make (wsV RX5 117 RX5 yX5_findHeaps wsX5_findHeaps) := goodIn_app (goodIn_of _ (by decide +kernel)) ggX5_make_X5_findHeaps
set_option maxRecDepth 20000 in
theorem ggX5_make_X2_has : GoodIn wsX5_make wsX2_has := goodIn_r _ [52, 22, 110, 111, 112, 113] (by decide +kernel) (by decide +kernel)
set_option maxRecDepth 20000 in
theorem gX5_make_X2_has : GoodIn wsX5_make (wsV RX5 121 RX2 yX2_has wsX2_has) := goodIn_app (goodIn_of _ (by decide +kernel)) ggX5_make_X2_has
set_option maxRecDepth 20000 in
theorem ggX5_make_X2_freeNotesIn : GoodIn wsX5_make wsX2_freeNotesIn := goodIn_r _ [56, 20, 48, 57, 110, 111, 112, 113, 102, 103, 104, 105, 106, 107, 108, 109] (by decide +kernel) (by decide +kernel)
set_option maxRecDepth 20000 in
theorem gX5_make_X2_freeNotesIn : GoodIn wsX5_make (wsV RX5 150 RX2 yX2_freeNotesIn wsX2_freeNotesIn) := goodIn_app (goodIn_of _ (by decide +kernel)) ggX5_make_X2_freeNotesIn
set_option maxRecDepth 20000 in
theorem ggX5_make_X3_remember : GoodIn wsX5_make wsX3_remember := goodIn_r _ [62, 63, 64, 65, 66, 67, 61, 68, 69, 70, 71, 26, 72, 73, 28, 74, 75, 76, 77, 33, 78, 79, 80, 81, 82, 114, 115, 102, 103, 104, 105, 106, 107, 108, 109] (by decide +kernel) (by decide +kernel)
set_option maxRecDepth 20000 in
theorem gX5_make_X3_remember : GoodIn wsX5_make (wsV RX5 74 RX3 yX3_remember wsX3_remember) := goodIn_app (goodIn_of _ (by decide +kernel)) ggX5_make_X3_remember
set_option maxRecDepth 20000 in
theorem ggX5_make_X0_addTheme : GoodIn wsX5_make wsX0_addTheme := goodIn_r _ [86, 80, 87, 88, 89, 26, 90, 81, 102, 103, 104, 105, 106, 107, 108, 109] (by decide +kernel) (by decide +kernel)
set_option maxRecDepth 20000 in
theorem gX5_make_X0_addTheme : GoodIn wsX5_make (wsV RX5 157 RX0 yX0_addTheme wsX0_addTheme) := goodIn_app (goodIn_of _ (by decide +kernel)) ggX5_make_X0_addTheme
theorem dX5_make_0 : decode cX5_make 0 = .ok (.aload_n 0, 1) := by decide +kernel
theorem dX5_make_1 : decode cX5_make 1 = .ok (.invokevirtual 117, 3) := by decide +kernel
theorem dX5_make_4 : decode cX5_make 4 = .ok (.pop, 1) := by decide +kernel
theorem dX5_make_5 : decode cX5_make 5 = .ok (.aload_n 0, 1) := by decide +kernel
theorem dX5_make_6 : decode cX5_make 6 = .ok (.getfield 44, 3) := by decide +kernel
theorem dX5_make_9 : decode cX5_make 9 = .ok (.iload_n 1, 1) := by decide +kernel
theorem dX5_make_10 : decode cX5_make 10 = .ok (.invokevirtual 121, 3) := by decide +kernel
theorem dX5_make_13 : decode cX5_make 13 = .ok (.ifCond .ne 5, 3) := by decide +kernel
theorem dX5_make_16 : decode cX5_make 16 = .ok (.iconst (-1), 1) := by decide +kernel
theorem dX5_make_17 : decode cX5_make 17 = .ok (.ireturn, 1) := by decide +kernel
theorem dX5_make_18 : decode cX5_make 18 = .ok (.aload_n 0, 1) := by decide +kernel
theorem dX5_make_19 : decode cX5_make 19 = .ok (.getfield 44, 3) := by decide +kernel
theorem dX5_make_22 : decode cX5_make 22 = .ok (.iload_n 1, 1) := by decide +kernel
theorem dX5_make_23 : decode cX5_make 23 = .ok (.aload_n 0, 1) := by decide +kernel
theorem dX5_make_24 : decode cX5_make 24 = .ok (.getfield 10, 3) := by decide +kernel
theorem dX5_make_27 : decode cX5_make 27 = .ok (.invokevirtual 150, 3) := by decide +kernel
theorem dX5_make_30 : decode cX5_make 30 = .ok (.ifCond .ne 6, 3) := by decide +kernel
theorem dX5_make_33 : decode cX5_make 33 = .ok (.bipush (-4), 2) := by decide +kernel
theorem dX5_make_35 : decode cX5_make 35 = .ok (.ireturn, 1) := by decide +kernel
theorem dX5_make_36 : decode cX5_make 36 = .ok (.aload_n 0, 1) := by decide +kernel
theorem dX5_make_37 : decode cX5_make 37 = .ok (.getfield 10, 3) := by decide +kernel
theorem dX5_make_40 : decode cX5_make 40 = .ok (.getfield 154, 3) := by decide +kernel
theorem dX5_make_43 : decode cX5_make 43 = .ok (.bipush 8, 2) := by decide +kernel
theorem dX5_make_45 : decode cX5_make 45 = .ok (.if_icmp .lt 6, 3) := by decide +kernel
theorem dX5_make_48 : decode cX5_make 48 = .ok (.bipush (-3), 2) := by decide +kernel
theorem dX5_make_50 : decode cX5_make 50 = .ok (.ireturn, 1) := by decide +kernel
theorem dX5_make_51 : decode cX5_make 51 = .ok (.aload_n 0, 1) := by decide +kernel
theorem dX5_make_52 : decode cX5_make 52 = .ok (.getfield 19, 3) := by decide +kernel
theorem dX5_make_55 : decode cX5_make 55 = .ok (.aload_n 0, 1) := by decide +kernel
theorem dX5_make_56 : decode cX5_make 56 = .ok (.getfield 10, 3) := by decide +kernel
theorem dX5_make_59 : decode cX5_make 59 = .ok (.invokevirtual 74, 3) := by decide +kernel
theorem dX5_make_62 : decode cX5_make 62 = .ok (.aload_n 0, 1) := by decide +kernel
theorem dX5_make_63 : decode cX5_make 63 = .ok (.getfield 10, 3) := by decide +kernel
theorem dX5_make_66 : decode cX5_make 66 = .ok (.invokevirtual 157, 3) := by decide +kernel
theorem dX5_make_69 : decode cX5_make 69 = .ok (.istore_n 2, 1) := by decide +kernel
theorem dX5_make_70 : decode cX5_make 70 = .ok (.iconst 0, 1) := by decide +kernel
theorem dX5_make_71 : decode cX5_make 71 = .ok (.istore_n 3, 1) := by decide +kernel
theorem dX5_make_72 : decode cX5_make 72 = .ok (.iload_n 3, 1) := by decide +kernel
theorem dX5_make_73 : decode cX5_make 73 = .ok (.aload_n 0, 1) := by decide +kernel
theorem dX5_make_74 : decode cX5_make 74 = .ok (.getfield 10, 3) := by decide +kernel
theorem dX5_make_77 : decode cX5_make 77 = .ok (.getfield 71, 3) := by decide +kernel
theorem dX5_make_80 : decode cX5_make 80 = .ok (.if_icmp .ge 46, 3) := by decide +kernel
theorem dX5_make_83 : decode cX5_make 83 = .ok (.aload_n 0, 1) := by decide +kernel
theorem dX5_make_84 : decode cX5_make 84 = .ok (.getfield 44, 3) := by decide +kernel
theorem dX5_make_87 : decode cX5_make 87 = .ok (.getfield 160, 3) := by decide +kernel
theorem dX5_make_90 : decode cX5_make 90 = .ok (.iload_n 3, 1) := by decide +kernel
theorem dX5_make_91 : decode cX5_make 91 = .ok (.iaload, 1) := by decide +kernel
theorem dX5_make_92 : decode cX5_make 92 = .ok (.iload_n 1, 1) := by decide +kernel
theorem dX5_make_93 : decode cX5_make 93 = .ok (.if_icmp .ne 27, 3) := by decide +kernel
theorem dX5_make_96 : decode cX5_make 96 = .ok (.aload_n 0, 1) := by decide +kernel
theorem dX5_make_97 : decode cX5_make 97 = .ok (.getfield 10, 3) := by decide +kernel
theorem dX5_make_100 : decode cX5_make 100 = .ok (.getfield 163, 3) := by decide +kernel
theorem dX5_make_103 : decode cX5_make 103 = .ok (.iload_n 3, 1) := by decide +kernel
theorem dX5_make_104 : decode cX5_make 104 = .ok (.iaload, 1) := by decide +kernel
theorem dX5_make_105 : decode cX5_make 105 = .ok (.bipush (-5), 2) := by decide +kernel
theorem dX5_make_107 : decode cX5_make 107 = .ok (.if_icmp .ne 13, 3) := by decide +kernel
theorem dX5_make_110 : decode cX5_make 110 = .ok (.aload_n 0, 1) := by decide +kernel
theorem dX5_make_111 : decode cX5_make 111 = .ok (.getfield 10, 3) := by decide +kernel
theorem dX5_make_114 : decode cX5_make 114 = .ok (.getfield 163, 3) := by decide +kernel
theorem dX5_make_117 : decode cX5_make 117 = .ok (.iload_n 3, 1) := by decide +kernel
theorem dX5_make_118 : decode cX5_make 118 = .ok (.iload_n 2, 1) := by decide +kernel
theorem dX5_make_119 : decode cX5_make 119 = .ok (.iastore, 1) := by decide +kernel
theorem dX5_make_120 : decode cX5_make 120 = .ok (.iinc 3 1, 3) := by decide +kernel
theorem dX5_make_123 : decode cX5_make 123 = .ok (.goto (-51), 3) := by decide +kernel
theorem dX5_make_126 : decode cX5_make 126 = .ok (.iload_n 2, 1) := by decide +kernel
theorem dX5_make_127 : decode cX5_make 127 = .ok (.ireturn, 1) := by decide +kernel
set_option maxRecDepth 20000 in
theorem ggX5_merge_X0_hasTheme : GoodIn wsX5_merge wsX0_hasTheme := goodIn_r _ [7, 8, 67, 68, 69, 70, 71, 72, 73, 74] (by decide +kernel) (by decide +kernel)
set_option maxRecDepth 20000 in
theorem gX5_merge_X0_hasTheme : GoodIn wsX5_merge (wsV RX5 166 RX0 yX0_hasTheme wsX0_hasTheme) := goodIn_app (goodIn_of _ (by decide +kernel)) ggX5_merge_X0_hasTheme
set_option maxRecDepth 20000 in
theorem ggX5_merge_X3_remember : GoodIn wsX5_merge wsX3_remember := goodIn_r _ [13, 14, 15, 16, 17, 18, 12, 19, 20, 21, 22, 6, 23, 24, 25, 26, 27, 28, 29, 30, 31, 32, 8, 33, 34, 75, 76, 67, 68, 69, 70, 71, 72, 73, 74] (by decide +kernel) (by decide +kernel)
set_option maxRecDepth 20000 in
theorem gX5_merge_X3_remember : GoodIn wsX5_merge (wsV RX5 74 RX3 yX3_remember wsX3_remember) := goodIn_app (goodIn_of _ (by decide +kernel)) ggX5_merge_X3_remember
set_option maxRecDepth 20000 in
theorem ggX5_merge_X0_mergeThemes : GoodIn wsX5_merge wsX0_mergeThemes := goodIn_r _ [38, 24, 31, 39, 40, 41, 6, 42, 33, 43, 44, 45, 46, 47, 48, 49, 50, 8, 51, 52, 53, 54, 67, 68, 69, 70, 71, 72, 73, 74] (by decide +kernel) (by decide +kernel)
set_option maxRecDepth 20000 in
theorem gX5_merge_X0_mergeThemes : GoodIn wsX5_merge (wsV RX5 169 RX0 yX0_mergeThemes wsX0_mergeThemes) := goodIn_app (goodIn_of _ (by decide +kernel)) ggX5_merge_X0_mergeThemes
set_option maxRecDepth 20000 in
theorem ggX5_merge_X0_notesOfTheme : GoodIn wsX5_merge wsX0_notesOfTheme := goodIn_r _ [54, 24, 31, 67, 68, 69, 70, 71, 72, 73, 74] (by decide +kernel) (by decide +kernel)
set_option maxRecDepth 20000 in
theorem gX5_merge_X0_notesOfTheme : GoodIn wsX5_merge (wsV RX5 172 RX0 yX0_notesOfTheme wsX0_notesOfTheme) := goodIn_app (goodIn_of _ (by decide +kernel)) ggX5_merge_X0_notesOfTheme
theorem dX5_merge_0 : decode cX5_merge 0 = .ok (.aload_n 0, 1) := by decide +kernel
theorem dX5_merge_1 : decode cX5_merge 1 = .ok (.getfield 10, 3) := by decide +kernel
theorem dX5_merge_4 : decode cX5_merge 4 = .ok (.iload_n 1, 1) := by decide +kernel
theorem dX5_merge_5 : decode cX5_merge 5 = .ok (.invokevirtual 166, 3) := by decide +kernel
theorem dX5_merge_8 : decode cX5_merge 8 = .ok (.ifCond .eq 14, 3) := by decide +kernel
theorem dX5_merge_11 : decode cX5_merge 11 = .ok (.aload_n 0, 1) := by decide +kernel
theorem dX5_merge_12 : decode cX5_merge 12 = .ok (.getfield 10, 3) := by decide +kernel
theorem dX5_merge_15 : decode cX5_merge 15 = .ok (.iload_n 2, 1) := by decide +kernel
theorem dX5_merge_16 : decode cX5_merge 16 = .ok (.invokevirtual 166, 3) := by decide +kernel
theorem dX5_merge_19 : decode cX5_merge 19 = .ok (.ifCond .ne 5, 3) := by decide +kernel
theorem dX5_merge_22 : decode cX5_merge 22 = .ok (.iconst (-1), 1) := by decide +kernel
theorem dX5_merge_23 : decode cX5_merge 23 = .ok (.ireturn, 1) := by decide +kernel
theorem dX5_merge_24 : decode cX5_merge 24 = .ok (.iload_n 1, 1) := by decide +kernel
theorem dX5_merge_25 : decode cX5_merge 25 = .ok (.iload_n 2, 1) := by decide +kernel
theorem dX5_merge_26 : decode cX5_merge 26 = .ok (.if_icmp .ne 6, 3) := by decide +kernel
theorem dX5_merge_29 : decode cX5_merge 29 = .ok (.bipush (-2), 2) := by decide +kernel
theorem dX5_merge_31 : decode cX5_merge 31 = .ok (.ireturn, 1) := by decide +kernel
theorem dX5_merge_32 : decode cX5_merge 32 = .ok (.aload_n 0, 1) := by decide +kernel
theorem dX5_merge_33 : decode cX5_merge 33 = .ok (.getfield 19, 3) := by decide +kernel
theorem dX5_merge_36 : decode cX5_merge 36 = .ok (.aload_n 0, 1) := by decide +kernel
theorem dX5_merge_37 : decode cX5_merge 37 = .ok (.getfield 10, 3) := by decide +kernel
theorem dX5_merge_40 : decode cX5_merge 40 = .ok (.invokevirtual 74, 3) := by decide +kernel
theorem dX5_merge_43 : decode cX5_merge 43 = .ok (.aload_n 0, 1) := by decide +kernel
theorem dX5_merge_44 : decode cX5_merge 44 = .ok (.getfield 10, 3) := by decide +kernel
theorem dX5_merge_47 : decode cX5_merge 47 = .ok (.iload_n 1, 1) := by decide +kernel
theorem dX5_merge_48 : decode cX5_merge 48 = .ok (.iload_n 2, 1) := by decide +kernel
theorem dX5_merge_49 : decode cX5_merge 49 = .ok (.invokevirtual 169, 3) := by decide +kernel
theorem dX5_merge_52 : decode cX5_merge 52 = .ok (.aload_n 0, 1) := by decide +kernel
theorem dX5_merge_53 : decode cX5_merge 53 = .ok (.getfield 10, 3) := by decide +kernel
theorem dX5_merge_56 : decode cX5_merge 56 = .ok (.iload_n 2, 1) := by decide +kernel
theorem dX5_merge_57 : decode cX5_merge 57 = .ok (.iload_n 1, 1) := by decide +kernel
theorem dX5_merge_58 : decode cX5_merge 58 = .ok (.if_icmp .ge 9, 3) := by decide +kernel
theorem dX5_merge_61 : decode cX5_merge 61 = .ok (.iload_n 1, 1) := by decide +kernel
theorem dX5_merge_62 : decode cX5_merge 62 = .ok (.iconst 1, 1) := by decide +kernel
theorem dX5_merge_63 : decode cX5_merge 63 = .ok (.isub, 1) := by decide +kernel
theorem dX5_merge_64 : decode cX5_merge 64 = .ok (.goto 4, 3) := by decide +kernel
theorem dX5_merge_67 : decode cX5_merge 67 = .ok (.iload_n 1, 1) := by decide +kernel
theorem dX5_merge_68 : decode cX5_merge 68 = .ok (.invokevirtual 172, 3) := by decide +kernel
theorem dX5_merge_71 : decode cX5_merge 71 = .ok (.ireturn, 1) := by decide +kernel
set_option maxRecDepth 20000 in
theorem ggX5_belong_X0_hasNote : GoodIn wsX5_belong wsX0_hasNote := goodIn_r _ [9, 10, 68, 69, 70, 71, 72, 73, 74, 75] (by decide +kernel) (by decide +kernel)
set_option maxRecDepth 20000 in
theorem gX5_belong_X0_hasNote : GoodIn wsX5_belong (wsV RX5 94 RX0 yX0_hasNote wsX0_hasNote) := goodIn_app (goodIn_of _ (by decide +kernel)) ggX5_belong_X0_hasNote
set_option maxRecDepth 20000 in
theorem ggX5_belong_X0_hasTheme : GoodIn wsX5_belong wsX0_hasTheme := goodIn_r _ [14, 15, 68, 69, 70, 71, 72, 73, 74, 75] (by decide +kernel) (by decide +kernel)
set_option maxRecDepth 20000 in
theorem gX5_belong_X0_hasTheme : GoodIn wsX5_belong (wsV RX5 166 RX0 yX0_hasTheme wsX0_hasTheme) := goodIn_app (goodIn_of _ (by decide +kernel)) ggX5_belong_X0_hasTheme
set_option maxRecDepth 20000 in
theorem ggX5_belong_X3_remember : GoodIn wsX5_belong wsX3_remember := goodIn_r _ [20, 21, 22, 23, 24, 25, 19, 26, 27, 28, 29, 8, 30, 10, 31, 32, 33, 34, 35, 36, 37, 38, 15, 39, 40, 76, 77, 68, 69, 70, 71, 72, 73, 74, 75] (by decide +kernel) (by decide +kernel)
set_option maxRecDepth 20000 in
theorem gX5_belong_X3_remember : GoodIn wsX5_belong (wsV RX5 74 RX3 yX3_remember wsX3_remember) := goodIn_app (goodIn_of _ (by decide +kernel)) ggX5_belong_X3_remember
set_option maxRecDepth 20000 in
theorem ggX5_belong_X0_removeThemeIfEmpty : GoodIn wsX5_belong wsX0_removeThemeIfEmpty := goodIn_r _ [44, 10, 37, 15, 45, 46, 47, 8, 48, 49, 50, 51, 52, 39, 53, 54, 55, 56, 68, 69, 70, 71, 72, 73, 74, 75] (by decide +kernel) (by decide +kernel)
set_option maxRecDepth 20000 in
theorem gX5_belong_X0_removeThemeIfEmpty : GoodIn wsX5_belong (wsV RX5 175 RX0 yX0_removeThemeIfEmpty wsX0_removeThemeIfEmpty) := goodIn_app (goodIn_of _ (by decide +kernel)) ggX5_belong_X0_removeThemeIfEmpty
theorem dX5_belong_0 : decode cX5_belong 0 = .ok (.aload_n 0, 1) := by decide +kernel
theorem dX5_belong_1 : decode cX5_belong 1 = .ok (.getfield 10, 3) := by decide +kernel
theorem dX5_belong_4 : decode cX5_belong 4 = .ok (.iload_n 1, 1) := by decide +kernel
theorem dX5_belong_5 : decode cX5_belong 5 = .ok (.invokevirtual 94, 3) := by decide +kernel
theorem dX5_belong_8 : decode cX5_belong 8 = .ok (.ifCond .eq 20, 3) := by decide +kernel
theorem dX5_belong_11 : decode cX5_belong 11 = .ok (.iload_n 2, 1) := by decide +kernel
theorem dX5_belong_12 : decode cX5_belong 12 = .ok (.bipush (-5), 2) := by decide +kernel
theorem dX5_belong_14 : decode cX5_belong 14 = .ok (.if_icmp .eq 16, 3) := by decide +kernel
theorem dX5_belong_17 : decode cX5_belong 17 = .ok (.aload_n 0, 1) := by decide +kernel
theorem dX5_belong_18 : decode cX5_belong 18 = .ok (.getfield 10, 3) := by decide +kernel
theorem dX5_belong_21 : decode cX5_belong 21 = .ok (.iload_n 2, 1) := by decide +kernel
theorem dX5_belong_22 : decode cX5_belong 22 = .ok (.invokevirtual 166, 3) := by decide +kernel
theorem dX5_belong_25 : decode cX5_belong 25 = .ok (.ifCond .ne 5, 3) := by decide +kernel
theorem dX5_belong_28 : decode cX5_belong 28 = .ok (.iconst (-1), 1) := by decide +kernel
theorem dX5_belong_29 : decode cX5_belong 29 = .ok (.ireturn, 1) := by decide +kernel
theorem dX5_belong_30 : decode cX5_belong 30 = .ok (.aload_n 0, 1) := by decide +kernel
theorem dX5_belong_31 : decode cX5_belong 31 = .ok (.getfield 10, 3) := by decide +kernel
theorem dX5_belong_34 : decode cX5_belong 34 = .ok (.getfield 163, 3) := by decide +kernel
theorem dX5_belong_37 : decode cX5_belong 37 = .ok (.iload_n 1, 1) := by decide +kernel
theorem dX5_belong_38 : decode cX5_belong 38 = .ok (.iaload, 1) := by decide +kernel
theorem dX5_belong_39 : decode cX5_belong 39 = .ok (.istore_n 3, 1) := by decide +kernel
theorem dX5_belong_40 : decode cX5_belong 40 = .ok (.iload_n 3, 1) := by decide +kernel
theorem dX5_belong_41 : decode cX5_belong 41 = .ok (.iload_n 2, 1) := by decide +kernel
theorem dX5_belong_42 : decode cX5_belong 42 = .ok (.if_icmp .ne 6, 3) := by decide +kernel
theorem dX5_belong_45 : decode cX5_belong 45 = .ok (.bipush (-5), 2) := by decide +kernel
theorem dX5_belong_47 : decode cX5_belong 47 = .ok (.ireturn, 1) := by decide +kernel
theorem dX5_belong_48 : decode cX5_belong 48 = .ok (.aload_n 0, 1) := by decide +kernel
theorem dX5_belong_49 : decode cX5_belong 49 = .ok (.getfield 19, 3) := by decide +kernel
theorem dX5_belong_52 : decode cX5_belong 52 = .ok (.aload_n 0, 1) := by decide +kernel
theorem dX5_belong_53 : decode cX5_belong 53 = .ok (.getfield 10, 3) := by decide +kernel
theorem dX5_belong_56 : decode cX5_belong 56 = .ok (.invokevirtual 74, 3) := by decide +kernel
theorem dX5_belong_59 : decode cX5_belong 59 = .ok (.aload_n 0, 1) := by decide +kernel
theorem dX5_belong_60 : decode cX5_belong 60 = .ok (.getfield 10, 3) := by decide +kernel
theorem dX5_belong_63 : decode cX5_belong 63 = .ok (.getfield 163, 3) := by decide +kernel
theorem dX5_belong_66 : decode cX5_belong 66 = .ok (.iload_n 1, 1) := by decide +kernel
theorem dX5_belong_67 : decode cX5_belong 67 = .ok (.iload_n 2, 1) := by decide +kernel
theorem dX5_belong_68 : decode cX5_belong 68 = .ok (.iastore, 1) := by decide +kernel
theorem dX5_belong_69 : decode cX5_belong 69 = .ok (.aload_n 0, 1) := by decide +kernel
theorem dX5_belong_70 : decode cX5_belong 70 = .ok (.getfield 10, 3) := by decide +kernel
theorem dX5_belong_73 : decode cX5_belong 73 = .ok (.iload_n 3, 1) := by decide +kernel
theorem dX5_belong_74 : decode cX5_belong 74 = .ok (.invokevirtual 175, 3) := by decide +kernel
theorem dX5_belong_77 : decode cX5_belong 77 = .ok (.aload_n 0, 1) := by decide +kernel
theorem dX5_belong_78 : decode cX5_belong 78 = .ok (.getfield 10, 3) := by decide +kernel
theorem dX5_belong_81 : decode cX5_belong 81 = .ok (.getfield 154, 3) := by decide +kernel
theorem dX5_belong_84 : decode cX5_belong 84 = .ok (.ireturn, 1) := by decide +kernel
set_option maxRecDepth 20000 in
theorem ggX5_vote_X5_isPerson : GoodIn wsX5_vote wsX5_isPerson := goodIn_r _ [8, 9, 10, 7, 11] (by decide +kernel) (by decide +kernel)
set_option maxRecDepth 20000 in
theorem gX5_vote_X5_isPerson : GoodIn wsX5_vote (va_wsS RX5 134 yX5_isPerson wsX5_isPerson) := goodIn_app (goodIn_of _ (by decide +kernel)) ggX5_vote_X5_isPerson
set_option maxRecDepth 20000 in
theorem ggX5_vote_X0_hasTheme : GoodIn wsX5_vote wsX0_hasTheme := goodIn_r _ [16, 17, 87, 88, 89, 90, 91, 92, 93, 94] (by decide +kernel) (by decide +kernel)
set_option maxRecDepth 20000 in
theorem gX5_vote_X0_hasTheme : GoodIn wsX5_vote (wsV RX5 166 RX0 yX0_hasTheme wsX0_hasTheme) := goodIn_app (goodIn_of _ (by decide +kernel)) ggX5_vote_X0_hasTheme
set_option maxRecDepth 20000 in
theorem ggX5_vote_X5_isName : GoodIn wsX5_vote wsX5_isName := goodIn_r _ [20, 9, 10, 7, 11] (by decide +kernel) (by decide +kernel)
set_option maxRecDepth 20000 in
theorem gX5_vote_X5_isName : GoodIn wsX5_vote (va_wsS RX5 178 yX5_isName wsX5_isName) := goodIn_app (goodIn_of _ (by decide +kernel)) ggX5_vote_X5_isName
set_option maxRecDepth 20000 in
theorem ggX5_vote_X0_voteOf : GoodIn wsX5_vote wsX0_voteOf := goodIn_r _ [24, 25, 87, 88, 89, 90, 91, 92, 93, 94] (by decide +kernel) (by decide +kernel)
set_option maxRecDepth 20000 in
theorem gX5_vote_X0_voteOf : GoodIn wsX5_vote (wsV RX5 181 RX0 yX0_voteOf wsX0_voteOf) := goodIn_app (goodIn_of _ (by decide +kernel)) ggX5_vote_X0_voteOf
set_option maxRecDepth 20000 in
theorem ggX5_vote_X3_remember : GoodIn wsX5_vote wsX3_remember := goodIn_r _ [30, 31, 32, 33, 34, 35, 29, 36, 37, 38, 39, 15, 40, 41, 42, 43, 44, 45, 46, 47, 48, 49, 17, 25, 50, 95, 96, 87, 88, 89, 90, 91, 92, 93, 94] (by decide +kernel) (by decide +kernel)
set_option maxRecDepth 20000 in
theorem gX5_vote_X3_remember : GoodIn wsX5_vote (wsV RX5 74 RX3 yX3_remember wsX3_remember) := goodIn_app (goodIn_of _ (by decide +kernel)) ggX5_vote_X3_remember
set_option maxRecDepth 20000 in
theorem ggX5_vote_X0_setVote : GoodIn wsX5_vote wsX0_setVote := goodIn_r _ [54, 25, 87, 88, 89, 90, 91, 92, 93, 94] (by decide +kernel) (by decide +kernel)
set_option maxRecDepth 20000 in
theorem gX5_vote_X0_setVote : GoodIn wsX5_vote (wsV RX5 184 RX0 yX0_setVote wsX0_setVote) := goodIn_app (goodIn_of _ (by decide +kernel)) ggX5_vote_X0_setVote
set_option maxRecDepth 20000 in
theorem ggX5_vote_X4_choose : GoodIn wsX5_vote wsX4_choose := goodIn_r _ [59, 60, 61, 62, 63, 64, 58, 65, 66, 67, 68, 15, 69, 70, 22, 23, 24, 25, 71, 72, 73, 74, 87, 88, 89, 90, 91, 92, 93, 94, 86] (by decide +kernel) (by decide +kernel)
set_option maxRecDepth 20000 in
theorem gX5_vote_X4_choose : GoodIn wsX5_vote (wsV RX5 187 RX4 yX4_choose wsX4_choose) := goodIn_app (goodIn_of _ (by decide +kernel)) ggX5_vote_X4_choose
theorem dX5_vote_0 : decode cX5_vote 0 = .ok (.iload_n 1, 1) := by decide +kernel
theorem dX5_vote_1 : decode cX5_vote 1 = .ok (.invokestatic 134, 3) := by decide +kernel
theorem dX5_vote_4 : decode cX5_vote 4 = .ok (.ifCond .eq 14, 3) := by decide +kernel
theorem dX5_vote_7 : decode cX5_vote 7 = .ok (.aload_n 0, 1) := by decide +kernel
theorem dX5_vote_8 : decode cX5_vote 8 = .ok (.getfield 10, 3) := by decide +kernel
theorem dX5_vote_11 : decode cX5_vote 11 = .ok (.iload_n 2, 1) := by decide +kernel
theorem dX5_vote_12 : decode cX5_vote 12 = .ok (.invokevirtual 166, 3) := by decide +kernel
theorem dX5_vote_15 : decode cX5_vote 15 = .ok (.ifCond .ne 5, 3) := by decide +kernel
theorem dX5_vote_18 : decode cX5_vote 18 = .ok (.iconst (-1), 1) := by decide +kernel
theorem dX5_vote_19 : decode cX5_vote 19 = .ok (.ireturn, 1) := by decide +kernel
theorem dX5_vote_20 : decode cX5_vote 20 = .ok (.iload_n 3, 1) := by decide +kernel
theorem dX5_vote_21 : decode cX5_vote 21 = .ok (.bipush (-5), 2) := by decide +kernel
theorem dX5_vote_23 : decode cX5_vote 23 = .ok (.if_icmp .eq 13, 3) := by decide +kernel
theorem dX5_vote_26 : decode cX5_vote 26 = .ok (.iload_n 3, 1) := by decide +kernel
theorem dX5_vote_27 : decode cX5_vote 27 = .ok (.invokestatic 178, 3) := by decide +kernel
theorem dX5_vote_30 : decode cX5_vote 30 = .ok (.ifCond .ne 6, 3) := by decide +kernel
theorem dX5_vote_33 : decode cX5_vote 33 = .ok (.bipush (-2), 2) := by decide +kernel
theorem dX5_vote_35 : decode cX5_vote 35 = .ok (.ireturn, 1) := by decide +kernel
theorem dX5_vote_36 : decode cX5_vote 36 = .ok (.aload_n 0, 1) := by decide +kernel
theorem dX5_vote_37 : decode cX5_vote 37 = .ok (.getfield 10, 3) := by decide +kernel
theorem dX5_vote_40 : decode cX5_vote 40 = .ok (.iload_n 1, 1) := by decide +kernel
theorem dX5_vote_41 : decode cX5_vote 41 = .ok (.iload_n 2, 1) := by decide +kernel
theorem dX5_vote_42 : decode cX5_vote 42 = .ok (.invokevirtual 181, 3) := by decide +kernel
theorem dX5_vote_45 : decode cX5_vote 45 = .ok (.iload_n 3, 1) := by decide +kernel
theorem dX5_vote_46 : decode cX5_vote 46 = .ok (.if_icmp .ne 6, 3) := by decide +kernel
theorem dX5_vote_49 : decode cX5_vote 49 = .ok (.bipush (-5), 2) := by decide +kernel
theorem dX5_vote_51 : decode cX5_vote 51 = .ok (.ireturn, 1) := by decide +kernel
theorem dX5_vote_52 : decode cX5_vote 52 = .ok (.aload_n 0, 1) := by decide +kernel
theorem dX5_vote_53 : decode cX5_vote 53 = .ok (.getfield 19, 3) := by decide +kernel
theorem dX5_vote_56 : decode cX5_vote 56 = .ok (.aload_n 0, 1) := by decide +kernel
theorem dX5_vote_57 : decode cX5_vote 57 = .ok (.getfield 10, 3) := by decide +kernel
theorem dX5_vote_60 : decode cX5_vote 60 = .ok (.invokevirtual 74, 3) := by decide +kernel
theorem dX5_vote_63 : decode cX5_vote 63 = .ok (.aload_n 0, 1) := by decide +kernel
theorem dX5_vote_64 : decode cX5_vote 64 = .ok (.getfield 10, 3) := by decide +kernel
theorem dX5_vote_67 : decode cX5_vote 67 = .ok (.iload_n 1, 1) := by decide +kernel
theorem dX5_vote_68 : decode cX5_vote 68 = .ok (.iload_n 2, 1) := by decide +kernel
theorem dX5_vote_69 : decode cX5_vote 69 = .ok (.iload_n 3, 1) := by decide +kernel
theorem dX5_vote_70 : decode cX5_vote 70 = .ok (.invokevirtual 184, 3) := by decide +kernel
theorem dX5_vote_73 : decode cX5_vote 73 = .ok (.aload_n 0, 1) := by decide +kernel
theorem dX5_vote_74 : decode cX5_vote 74 = .ok (.getfield 54, 3) := by decide +kernel
theorem dX5_vote_77 : decode cX5_vote 77 = .ok (.aload_n 0, 1) := by decide +kernel
theorem dX5_vote_78 : decode cX5_vote 78 = .ok (.getfield 10, 3) := by decide +kernel
theorem dX5_vote_81 : decode cX5_vote 81 = .ok (.invokevirtual 187, 3) := by decide +kernel
theorem dX5_vote_84 : decode cX5_vote 84 = .ok (.pop, 1) := by decide +kernel
theorem dX5_vote_85 : decode cX5_vote 85 = .ok (.aload_n 0, 1) := by decide +kernel
theorem dX5_vote_86 : decode cX5_vote 86 = .ok (.getfield 54, 3) := by decide +kernel
theorem dX5_vote_89 : decode cX5_vote 89 = .ok (.getfield 191, 3) := by decide +kernel
theorem dX5_vote_92 : decode cX5_vote 92 = .ok (.iload_n 2, 1) := by decide +kernel
theorem dX5_vote_93 : decode cX5_vote 93 = .ok (.iaload, 1) := by decide +kernel
theorem dX5_vote_94 : decode cX5_vote 94 = .ok (.bipush (-5), 2) := by decide +kernel
theorem dX5_vote_96 : decode cX5_vote 96 = .ok (.if_icmp .ne 8, 3) := by decide +kernel
theorem dX5_vote_99 : decode cX5_vote 99 = .ok (.bipush 10, 2) := by decide +kernel
theorem dX5_vote_101 : decode cX5_vote 101 = .ok (.goto 12, 3) := by decide +kernel
theorem dX5_vote_104 : decode cX5_vote 104 = .ok (.aload_n 0, 1) := by decide +kernel
theorem dX5_vote_105 : decode cX5_vote 105 = .ok (.getfield 54, 3) := by decide +kernel
theorem dX5_vote_108 : decode cX5_vote 108 = .ok (.getfield 191, 3) := by decide +kernel
theorem dX5_vote_111 : decode cX5_vote 111 = .ok (.iload_n 2, 1) := by decide +kernel
theorem dX5_vote_112 : decode cX5_vote 112 = .ok (.iaload, 1) := by decide +kernel
theorem dX5_vote_113 : decode cX5_vote 113 = .ok (.ireturn, 1) := by decide +kernel
set_option maxRecDepth 20000 in
theorem ggX5_set_X5_isWithin : GoodIn wsX5_set wsX5_isWithin := goodIn_r _ [9] (by decide +kernel) (by decide +kernel)
set_option maxRecDepth 20000 in
theorem gX5_set_X5_isWithin : GoodIn wsX5_set (va_wsS RX5 124 yX5_isWithin wsX5_isWithin) := goodIn_app (goodIn_of _ (by decide +kernel)) ggX5_set_X5_isWithin
set_option maxRecDepth 20000 in
theorem ggX5_set_X3_remember : GoodIn wsX5_set wsX3_remember := goodIn_r _ [14, 15, 16, 17, 18, 19, 13, 20, 21, 22, 23, 24, 25, 26, 27, 28, 29, 30, 31, 32, 33, 34, 35, 36, 37, 57, 58, 49, 50, 51, 52, 53, 54, 55, 56] (by decide +kernel) (by decide +kernel)
set_option maxRecDepth 20000 in
theorem gX5_set_X3_remember : GoodIn wsX5_set (wsV RX5 74 RX3 yX3_remember wsX3_remember) := goodIn_app (goodIn_of _ (by decide +kernel)) ggX5_set_X3_remember
theorem dX5_set_0 : decode cX5_set 0 = .ok (.iload_n 1, 1) := by decide +kernel
theorem dX5_set_1 : decode cX5_set 1 = .ok (.iconst 0, 1) := by decide +kernel
theorem dX5_set_2 : decode cX5_set 2 = .ok (.iconst 2, 1) := by decide +kernel
theorem dX5_set_3 : decode cX5_set 3 = .ok (.invokestatic 124, 3) := by decide +kernel
theorem dX5_set_6 : decode cX5_set 6 = .ok (.ifCond .ne 5, 3) := by decide +kernel
theorem dX5_set_9 : decode cX5_set 9 = .ok (.iconst (-1), 1) := by decide +kernel
theorem dX5_set_10 : decode cX5_set 10 = .ok (.ireturn, 1) := by decide +kernel
theorem dX5_set_11 : decode cX5_set 11 = .ok (.iload_n 2, 1) := by decide +kernel
theorem dX5_set_12 : decode cX5_set 12 = .ok (.getstatic 194, 3) := by decide +kernel
theorem dX5_set_15 : decode cX5_set 15 = .ok (.iload_n 1, 1) := by decide +kernel
theorem dX5_set_16 : decode cX5_set 16 = .ok (.iaload, 1) := by decide +kernel
theorem dX5_set_17 : decode cX5_set 17 = .ok (.getstatic 197, 3) := by decide +kernel
theorem dX5_set_20 : decode cX5_set 20 = .ok (.iload_n 1, 1) := by decide +kernel
theorem dX5_set_21 : decode cX5_set 21 = .ok (.iaload, 1) := by decide +kernel
theorem dX5_set_22 : decode cX5_set 22 = .ok (.invokestatic 124, 3) := by decide +kernel
theorem dX5_set_25 : decode cX5_set 25 = .ok (.ifCond .ne 6, 3) := by decide +kernel
theorem dX5_set_28 : decode cX5_set 28 = .ok (.bipush (-2), 2) := by decide +kernel
theorem dX5_set_30 : decode cX5_set 30 = .ok (.ireturn, 1) := by decide +kernel
theorem dX5_set_31 : decode cX5_set 31 = .ok (.aload_n 0, 1) := by decide +kernel
theorem dX5_set_32 : decode cX5_set 32 = .ok (.getfield 10, 3) := by decide +kernel
theorem dX5_set_35 : decode cX5_set 35 = .ok (.getfield 200, 3) := by decide +kernel
theorem dX5_set_38 : decode cX5_set 38 = .ok (.iload_n 1, 1) := by decide +kernel
theorem dX5_set_39 : decode cX5_set 39 = .ok (.iaload, 1) := by decide +kernel
theorem dX5_set_40 : decode cX5_set 40 = .ok (.istore_n 3, 1) := by decide +kernel
theorem dX5_set_41 : decode cX5_set 41 = .ok (.iload_n 3, 1) := by decide +kernel
theorem dX5_set_42 : decode cX5_set 42 = .ok (.iload_n 2, 1) := by decide +kernel
theorem dX5_set_43 : decode cX5_set 43 = .ok (.if_icmp .ne 6, 3) := by decide +kernel
theorem dX5_set_46 : decode cX5_set 46 = .ok (.bipush (-5), 2) := by decide +kernel
theorem dX5_set_48 : decode cX5_set 48 = .ok (.ireturn, 1) := by decide +kernel
theorem dX5_set_49 : decode cX5_set 49 = .ok (.aload_n 0, 1) := by decide +kernel
theorem dX5_set_50 : decode cX5_set 50 = .ok (.getfield 19, 3) := by decide +kernel
theorem dX5_set_53 : decode cX5_set 53 = .ok (.aload_n 0, 1) := by decide +kernel
theorem dX5_set_54 : decode cX5_set 54 = .ok (.getfield 10, 3) := by decide +kernel
theorem dX5_set_57 : decode cX5_set 57 = .ok (.invokevirtual 74, 3) := by decide +kernel
theorem dX5_set_60 : decode cX5_set 60 = .ok (.aload_n 0, 1) := by decide +kernel
theorem dX5_set_61 : decode cX5_set 61 = .ok (.getfield 10, 3) := by decide +kernel
theorem dX5_set_64 : decode cX5_set 64 = .ok (.getfield 200, 3) := by decide +kernel
theorem dX5_set_67 : decode cX5_set 67 = .ok (.iload_n 1, 1) := by decide +kernel
theorem dX5_set_68 : decode cX5_set 68 = .ok (.iload_n 2, 1) := by decide +kernel
theorem dX5_set_69 : decode cX5_set 69 = .ok (.iastore, 1) := by decide +kernel
theorem dX5_set_70 : decode cX5_set 70 = .ok (.iload_n 3, 1) := by decide +kernel
theorem dX5_set_71 : decode cX5_set 71 = .ok (.ireturn, 1) := by decide +kernel
theorem dX5_type_0 : decode cX5_type 0 = .ok (.aload_n 0, 1) := by decide +kernel
theorem dX5_type_1 : decode cX5_type 1 = .ok (.getfield 34, 3) := by decide +kernel
theorem dX5_type_4 : decode cX5_type 4 = .ok (.bipush 80, 2) := by decide +kernel
theorem dX5_type_6 : decode cX5_type 6 = .ok (.if_icmp .lt 6, 3) := by decide +kernel
theorem dX5_type_9 : decode cX5_type 9 = .ok (.bipush (-3), 2) := by decide +kernel
theorem dX5_type_11 : decode cX5_type 11 = .ok (.ireturn, 1) := by decide +kernel
theorem dX5_type_12 : decode cX5_type 12 = .ok (.aload_n 0, 1) := by decide +kernel
theorem dX5_type_13 : decode cX5_type 13 = .ok (.getfield 30, 3) := by decide +kernel
theorem dX5_type_16 : decode cX5_type 16 = .ok (.aload_n 0, 1) := by decide +kernel
theorem dX5_type_17 : decode cX5_type 17 = .ok (.getfield 34, 3) := by decide +kernel
theorem dX5_type_20 : decode cX5_type 20 = .ok (.iload_n 1, 1) := by decide +kernel
theorem dX5_type_21 : decode cX5_type 21 = .ok (.castore, 1) := by decide +kernel
theorem dX5_type_22 : decode cX5_type 22 = .ok (.aload_n 0, 1) := by decide +kernel
theorem dX5_type_23 : decode cX5_type 23 = .ok (.dup, 1) := by decide +kernel
theorem dX5_type_24 : decode cX5_type 24 = .ok (.getfield 34, 3) := by decide +kernel
theorem dX5_type_27 : decode cX5_type 27 = .ok (.iconst 1, 1) := by decide +kernel
theorem dX5_type_28 : decode cX5_type 28 = .ok (.iadd, 1) := by decide +kernel
theorem dX5_type_29 : decode cX5_type 29 = .ok (.putfield 34, 3) := by decide +kernel
theorem dX5_type_32 : decode cX5_type 32 = .ok (.aload_n 0, 1) := by decide +kernel
theorem dX5_type_33 : decode cX5_type 33 = .ok (.getfield 34, 3) := by decide +kernel
theorem dX5_type_36 : decode cX5_type 36 = .ok (.ireturn, 1) := by decide +kernel
theorem dX5_clearText_0 : decode cX5_clearText 0 = .ok (.aload_n 0, 1) := by decide +kernel
theorem dX5_clearText_1 : decode cX5_clearText 1 = .ok (.getfield 34, 3) := by decide +kernel
theorem dX5_clearText_4 : decode cX5_clearText 4 = .ok (.istore_n 1, 1) := by decide +kernel
theorem dX5_clearText_5 : decode cX5_clearText 5 = .ok (.aload_n 0, 1) := by decide +kernel
theorem dX5_clearText_6 : decode cX5_clearText 6 = .ok (.iconst 0, 1) := by decide +kernel
theorem dX5_clearText_7 : decode cX5_clearText 7 = .ok (.putfield 34, 3) := by decide +kernel
theorem dX5_clearText_10 : decode cX5_clearText 10 = .ok (.iload_n 1, 1) := by decide +kernel
theorem dX5_clearText_11 : decode cX5_clearText 11 = .ok (.ireturn, 1) := by decide +kernel
set_option maxRecDepth 20000 in
theorem ggX5_undo_X3_takeBack : GoodIn wsX5_undo wsX3_takeBack := goodIn_r _ [8, 9, 10, 11, 12, 13, 14, 15, 16, 17, 18, 19, 20, 21, 22, 23, 24, 25, 26, 27, 39, 40, 41, 42, 43, 44, 45, 46, 47, 48] (by decide +kernel) (by decide +kernel)
set_option maxRecDepth 20000 in
theorem gX5_undo_X3_takeBack : GoodIn wsX5_undo (wsV RX5 206 RX3 yX3_takeBack wsX3_takeBack) := goodIn_app (goodIn_of _ (by decide +kernel)) ggX5_undo_X3_takeBack
theorem dX5_undo_0 : decode cX5_undo 0 = .ok (.aload_n 0, 1) := by decide +kernel
theorem dX5_undo_1 : decode cX5_undo 1 = .ok (.getfield 19, 3) := by decide +kernel
theorem dX5_undo_4 : decode cX5_undo 4 = .ok (.getfield 203, 3) := by decide +kernel
theorem dX5_undo_7 : decode cX5_undo 7 = .ok (.ifCond .ne 6, 3) := by decide +kernel
theorem dX5_undo_10 : decode cX5_undo 10 = .ok (.bipush (-5), 2) := by decide +kernel
theorem dX5_undo_12 : decode cX5_undo 12 = .ok (.ireturn, 1) := by decide +kernel
theorem dX5_undo_13 : decode cX5_undo 13 = .ok (.aload_n 0, 1) := by decide +kernel
theorem dX5_undo_14 : decode cX5_undo 14 = .ok (.getfield 19, 3) := by decide +kernel
theorem dX5_undo_17 : decode cX5_undo 17 = .ok (.aload_n 0, 1) := by decide +kernel
theorem dX5_undo_18 : decode cX5_undo 18 = .ok (.getfield 10, 3) := by decide +kernel
theorem dX5_undo_21 : decode cX5_undo 21 = .ok (.invokevirtual 206, 3) := by decide +kernel
theorem dX5_undo_24 : decode cX5_undo 24 = .ok (.aload_n 0, 1) := by decide +kernel
theorem dX5_undo_25 : decode cX5_undo 25 = .ok (.getfield 19, 3) := by decide +kernel
theorem dX5_undo_28 : decode cX5_undo 28 = .ok (.getfield 203, 3) := by decide +kernel
theorem dX5_undo_31 : decode cX5_undo 31 = .ok (.ireturn, 1) := by decide +kernel
set_option maxRecDepth 20000 in
theorem ggX5_keep_X0_copyFrom : GoodIn wsX5_keep wsX0_copyFrom := goodIn_r _ [9, 10, 11, 12, 13, 14, 15, 16, 17, 18, 19, 20, 21, 33, 34, 35, 36, 37, 38, 39, 40] (by decide +kernel) (by decide +kernel)
set_option maxRecDepth 20000 in
theorem gX5_keep_X0_copyFrom : GoodIn wsX5_keep (wsV RX5 81 RX0 yX0_copyFrom wsX0_copyFrom) := goodIn_app (goodIn_of _ (by decide +kernel)) ggX5_keep_X0_copyFrom
theorem dX5_keep_0 : decode cX5_keep 0 = .ok (.aload_n 0, 1) := by decide +kernel
theorem dX5_keep_1 : decode cX5_keep 1 = .ok (.getfield 23, 3) := by decide +kernel
theorem dX5_keep_4 : decode cX5_keep 4 = .ok (.aload_n 0, 1) := by decide +kernel
theorem dX5_keep_5 : decode cX5_keep 5 = .ok (.getfield 10, 3) := by decide +kernel
theorem dX5_keep_8 : decode cX5_keep 8 = .ok (.invokevirtual 81, 3) := by decide +kernel
theorem dX5_keep_11 : decode cX5_keep 11 = .ok (.aload_n 0, 1) := by decide +kernel
theorem dX5_keep_12 : decode cX5_keep 12 = .ok (.iconst 1, 1) := by decide +kernel
theorem dX5_keep_13 : decode cX5_keep 13 = .ok (.putfield 26, 3) := by decide +kernel
theorem dX5_keep_16 : decode cX5_keep 16 = .ok (.aload_n 0, 1) := by decide +kernel
theorem dX5_keep_17 : decode cX5_keep 17 = .ok (.getfield 10, 3) := by decide +kernel
theorem dX5_keep_20 : decode cX5_keep 20 = .ok (.getfield 71, 3) := by decide +kernel
theorem dX5_keep_23 : decode cX5_keep 23 = .ok (.ireturn, 1) := by decide +kernel
set_option maxRecDepth 20000 in
theorem ggX5_restore_X3_remember : GoodIn wsX5_restore wsX3_remember := goodIn_r _ [10, 11, 12, 13, 14, 15, 9, 16, 17, 18, 19, 20, 21, 22, 23, 24, 25, 26, 27, 28, 29, 30, 31, 32, 33, 54, 55, 46, 47, 48, 49, 50, 51, 52, 53] (by decide +kernel) (by decide +kernel)
set_option maxRecDepth 20000 in
theorem gX5_restore_X3_remember : GoodIn wsX5_restore (wsV RX5 74 RX3 yX3_remember wsX3_remember) := goodIn_app (goodIn_of _ (by decide +kernel)) ggX5_restore_X3_remember
set_option maxRecDepth 20000 in
theorem ggX5_restore_X0_copyFrom : GoodIn wsX5_restore wsX0_copyFrom := goodIn_r _ [21, 22, 23, 24, 25, 26, 27, 28, 29, 30, 31, 32, 33, 46, 47, 48, 49, 50, 51, 52, 53] (by decide +kernel) (by decide +kernel)
set_option maxRecDepth 20000 in
theorem gX5_restore_X0_copyFrom : GoodIn wsX5_restore (wsV RX5 81 RX0 yX0_copyFrom wsX0_copyFrom) := goodIn_app (goodIn_of _ (by decide +kernel)) ggX5_restore_X0_copyFrom
theorem dX5_restore_0 : decode cX5_restore 0 = .ok (.aload_n 0, 1) := by decide +kernel
theorem dX5_restore_1 : decode cX5_restore 1 = .ok (.getfield 26, 3) := by decide +kernel
theorem dX5_restore_4 : decode cX5_restore 4 = .ok (.ifCond .ne 6, 3) := by decide +kernel
theorem dX5_restore_7 : decode cX5_restore 7 = .ok (.bipush (-5), 2) := by decide +kernel
theorem dX5_restore_9 : decode cX5_restore 9 = .ok (.ireturn, 1) := by decide +kernel
theorem dX5_restore_10 : decode cX5_restore 10 = .ok (.aload_n 0, 1) := by decide +kernel
theorem dX5_restore_11 : decode cX5_restore 11 = .ok (.getfield 19, 3) := by decide +kernel
theorem dX5_restore_14 : decode cX5_restore 14 = .ok (.aload_n 0, 1) := by decide +kernel
theorem dX5_restore_15 : decode cX5_restore 15 = .ok (.getfield 10, 3) := by decide +kernel
theorem dX5_restore_18 : decode cX5_restore 18 = .ok (.invokevirtual 74, 3) := by decide +kernel
theorem dX5_restore_21 : decode cX5_restore 21 = .ok (.aload_n 0, 1) := by decide +kernel
theorem dX5_restore_22 : decode cX5_restore 22 = .ok (.getfield 10, 3) := by decide +kernel
theorem dX5_restore_25 : decode cX5_restore 25 = .ok (.aload_n 0, 1) := by decide +kernel
theorem dX5_restore_26 : decode cX5_restore 26 = .ok (.getfield 23, 3) := by decide +kernel
theorem dX5_restore_29 : decode cX5_restore 29 = .ok (.invokevirtual 81, 3) := by decide +kernel
theorem dX5_restore_32 : decode cX5_restore 32 = .ok (.aload_n 0, 1) := by decide +kernel
theorem dX5_restore_33 : decode cX5_restore 33 = .ok (.getfield 10, 3) := by decide +kernel
theorem dX5_restore_36 : decode cX5_restore 36 = .ok (.getfield 71, 3) := by decide +kernel
theorem dX5_restore_39 : decode cX5_restore 39 = .ok (.ireturn, 1) := by decide +kernel
set_option maxRecDepth 20000 in
theorem ggX5_note_X0_hasNote : GoodIn wsX5_note wsX0_hasNote := goodIn_r _ [11, 12, 124, 125, 126, 127, 128, 129, 130, 131] (by decide +kernel) (by decide +kernel)
set_option maxRecDepth 20000 in
theorem gX5_note_X0_hasNote : GoodIn wsX5_note (wsV RX5 94 RX0 yX0_hasNote wsX0_hasNote) := goodIn_app (goodIn_of _ (by decide +kernel)) ggX5_note_X0_hasNote
set_option maxRecDepth 20000 in
theorem ggX5_note_X0_dotsOn : GoodIn wsX5_note wsX0_dotsOn := goodIn_r _ [16, 17, 18, 19, 10, 20, 21, 124, 125, 126, 127, 128, 129, 130, 131] (by decide +kernel) (by decide +kernel)
set_option maxRecDepth 20000 in
theorem gX5_note_X0_dotsOn : GoodIn wsX5_note (wsV RX5 98 RX0 yX0_dotsOn wsX0_dotsOn) := goodIn_app (goodIn_of _ (by decide +kernel)) ggX5_note_X0_dotsOn
set_option maxRecDepth 20000 in
theorem ggX5_note_X5_findHeaps : GoodIn wsX5_note wsX5_findHeaps := goodIn_r _ [26, 4, 1, 27, 28, 29, 30, 31, 32, 33, 34, 35, 36, 37, 38, 39, 10, 40, 41, 42, 43, 44, 45, 46, 47, 48, 49, 50, 51, 52, 53, 54, 55, 56, 57, 58, 59, 60, 61, 113, 114, 115, 116, 117, 118, 119, 120, 121, 122, 123, 124, 125, 126, 127, 128, 129, 130, 131, 132, 133, 134, 135] (by decide +kernel) (by decide +kernel)
set_option maxRecDepth 20000 in
theorem gX5_note_X5_findHeaps : GoodIn wsX5_note (wsV RX5 117 RX5 yX5_findHeaps wsX5_findHeaps) := goodIn_app (goodIn_of _ (by decide +kernel)) ggX5_note_X5_findHeaps
set_option maxRecDepth 20000 in
theorem ggX5_note_X0_notesNear : GoodIn wsX5_note wsX0_notesNear := goodIn_r _ [65, 12, 66, 67, 38, 39, 10, 40, 41, 42, 43, 44, 45, 46, 124, 125, 126, 127, 128, 129, 130, 131] (by decide +kernel) (by decide +kernel)
set_option maxRecDepth 20000 in
theorem gX5_note_X0_notesNear : GoodIn wsX5_note (wsV RX5 209 RX0 yX0_notesNear wsX0_notesNear) := goodIn_app (goodIn_of _ (by decide +kernel)) ggX5_note_X0_notesNear
set_option maxRecDepth 20000 in
theorem ggX5_note_X5_holdsItsHeap : GoodIn wsX5_note wsX5_holdsItsHeap := goodIn_r _ [71, 72, 1, 73, 27, 22, 23, 24, 25, 26, 4, 28, 29, 30, 31, 32, 33, 34, 35, 36, 37, 38, 39, 10, 40, 41, 42, 43, 44, 45, 46, 47, 48, 49, 50, 51, 52, 53, 54, 55, 56, 57, 58, 59, 60, 61, 74, 75, 76, 77, 12, 78, 79, 80, 81, 82, 21, 83, 84, 66, 85, 86, 87, 88, 89, 90, 91, 92, 93, 94, 95, 96, 97, 98, 99, 100, 101, 102, 103, 104, 105, 106, 107, 108, 109, 110, 111, 112, 113, 114, 115, 116, 117, 118, 119, 120, 121, 122, 123, 124, 125, 126, 127, 128, 129, 130, 131, 132, 133, 134, 135] (by decide +kernel) (by decide +kernel)
set_option maxRecDepth 20000 in
theorem gX5_note_X5_holdsItsHeap : GoodIn wsX5_note (wsV RX5 212 RX5 yX5_holdsItsHeap wsX5_holdsItsHeap) := goodIn_app (goodIn_of _ (by decide +kernel)) ggX5_note_X5_holdsItsHeap
