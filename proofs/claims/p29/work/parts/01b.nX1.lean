theorem dX1_init_0 : decode cX1_init 0 = .ok (.aload_n 0, 1) := by decide +kernel
theorem dX1_init_1 : decode cX1_init 1 = .ok (.invokespecial 3, 3) := by decide +kernel
theorem dX1_init_4 : decode cX1_init 4 = .ok (.aload_n 0, 1) := by decide +kernel
theorem dX1_init_5 : decode cX1_init 5 = .ok (.aload_n 1, 1) := by decide +kernel
theorem dX1_init_6 : decode cX1_init 6 = .ok (.putfield 9, 3) := by decide +kernel
theorem dX1_init_9 : decode cX1_init 9 = .ok (.aload_n 0, 1) := by decide +kernel
theorem dX1_init_10 : decode cX1_init 10 = .ok (.iconst 0, 1) := by decide +kernel
theorem dX1_init_11 : decode cX1_init 11 = .ok (.putfield 15, 3) := by decide +kernel
theorem dX1_init_14 : decode cX1_init 14 = .ok (.aload_n 0, 1) := by decide +kernel
theorem dX1_init_15 : decode cX1_init 15 = .ok (.iconst 0, 1) := by decide +kernel
theorem dX1_init_16 : decode cX1_init 16 = .ok (.putfield 19, 3) := by decide +kernel
theorem dX1_init_19 : decode cX1_init 19 = .ok (.aload_n 0, 1) := by decide +kernel
theorem dX1_init_20 : decode cX1_init 20 = .ok (.iconst (-1), 1) := by decide +kernel
theorem dX1_init_21 : decode cX1_init 21 = .ok (.putfield 22, 3) := by decide +kernel
theorem dX1_init_24 : decode cX1_init 24 = .ok (.aload_n 0, 1) := by decide +kernel
theorem dX1_init_25 : decode cX1_init 25 = .ok (.iconst 0, 1) := by decide +kernel
theorem dX1_init_26 : decode cX1_init 26 = .ok (.putfield 25, 3) := by decide +kernel
theorem dX1_init_29 : decode cX1_init 29 = .ok (.return_, 1) := by decide +kernel
set_option maxRecDepth 20000 in
theorem ggX1_findFault_X1_beginNumber : GoodIn wsX1_findFault wsX1_beginNumber := goodIn_r _ [6, 7, 8, 71, 72, 73, 74, 75] (by decide +kernel) (by decide +kernel)
set_option maxRecDepth 20000 in
theorem gX1_findFault_X1_beginNumber : GoodIn wsX1_findFault (wsV RX1 28 RX1 yX1_beginNumber wsX1_beginNumber) := goodIn_app (goodIn_of _ (by decide +kernel)) ggX1_findFault_X1_beginNumber
set_option maxRecDepth 20000 in
theorem ggX1_findFault_X1_takes : GoodIn wsX1_findFault wsX1_takes := goodIn_r _ [12, 13, 14, 15, 5, 16, 7, 8, 17, 2, 3, 4, 6, 18, 19, 20, 21, 1, 22, 23, 24, 25, 26, 27, 28, 29, 30, 31, 32, 33, 34, 35, 36, 37, 38, 39, 40, 41, 42, 43, 44, 45, 46, 47, 48, 49, 50, 51, 52, 53, 54, 55, 56, 57, 58, 59, 60, 61, 62, 63, 64, 65, 66, 67, 68, 69, 70, 71, 72, 73, 74, 75, 76, 77, 78, 79, 80, 81, 82, 83] (by decide +kernel) (by decide +kernel)
set_option maxRecDepth 20000 in
theorem gX1_findFault_X1_takes : GoodIn wsX1_findFault (wsV RX1 32 RX1 yX1_takes wsX1_takes) := goodIn_app (goodIn_of _ (by decide +kernel)) ggX1_findFault_X1_takes
set_option maxRecDepth 20000 in
theorem ggX1_findFault_X1_endsNote : GoodIn wsX1_findFault wsX1_endsNote := goodIn_r _ [21, 7, 8, 1, 22, 23, 17, 24, 25, 26, 27, 28, 29, 30, 31, 32, 33, 34, 35, 36, 37, 71, 72, 73, 74, 75, 76, 77, 78, 79, 80, 81, 82, 83] (by decide +kernel) (by decide +kernel)
set_option maxRecDepth 20000 in
theorem gX1_findFault_X1_endsNote : GoodIn wsX1_findFault (wsV RX1 36 RX1 yX1_endsNote wsX1_endsNote) := goodIn_app (goodIn_of _ (by decide +kernel)) ggX1_findFault_X1_endsNote
theorem dX1_findFault_0 : decode cX1_findFault 0 = .ok (.aload_n 0, 1) := by decide +kernel
theorem dX1_findFault_1 : decode cX1_findFault 1 = .ok (.iconst 0, 1) := by decide +kernel
theorem dX1_findFault_2 : decode cX1_findFault 2 = .ok (.putfield 15, 3) := by decide +kernel
theorem dX1_findFault_5 : decode cX1_findFault 5 = .ok (.aload_n 0, 1) := by decide +kernel
theorem dX1_findFault_6 : decode cX1_findFault 6 = .ok (.iconst 0, 1) := by decide +kernel
theorem dX1_findFault_7 : decode cX1_findFault 7 = .ok (.invokevirtual 28, 3) := by decide +kernel
theorem dX1_findFault_10 : decode cX1_findFault 10 = .ok (.iconst 0, 1) := by decide +kernel
theorem dX1_findFault_11 : decode cX1_findFault 11 = .ok (.istore_n 3, 1) := by decide +kernel
theorem dX1_findFault_12 : decode cX1_findFault 12 = .ok (.iload_n 3, 1) := by decide +kernel
theorem dX1_findFault_13 : decode cX1_findFault 13 = .ok (.iload_n 2, 1) := by decide +kernel
theorem dX1_findFault_14 : decode cX1_findFault 14 = .ok (.if_icmp .ge 21, 3) := by decide +kernel
theorem dX1_findFault_17 : decode cX1_findFault 17 = .ok (.aload_n 0, 1) := by decide +kernel
theorem dX1_findFault_18 : decode cX1_findFault 18 = .ok (.aload_n 1, 1) := by decide +kernel
theorem dX1_findFault_19 : decode cX1_findFault 19 = .ok (.iload_n 3, 1) := by decide +kernel
theorem dX1_findFault_20 : decode cX1_findFault 20 = .ok (.caload, 1) := by decide +kernel
theorem dX1_findFault_21 : decode cX1_findFault 21 = .ok (.invokevirtual 32, 3) := by decide +kernel
theorem dX1_findFault_24 : decode cX1_findFault 24 = .ok (.ifCond .ne 5, 3) := by decide +kernel
theorem dX1_findFault_27 : decode cX1_findFault 27 = .ok (.iload_n 3, 1) := by decide +kernel
theorem dX1_findFault_28 : decode cX1_findFault 28 = .ok (.ireturn, 1) := by decide +kernel
theorem dX1_findFault_29 : decode cX1_findFault 29 = .ok (.iinc 3 1, 3) := by decide +kernel
theorem dX1_findFault_32 : decode cX1_findFault 32 = .ok (.goto (-20), 3) := by decide +kernel
theorem dX1_findFault_35 : decode cX1_findFault 35 = .ok (.aload_n 0, 1) := by decide +kernel
theorem dX1_findFault_36 : decode cX1_findFault 36 = .ok (.invokevirtual 36, 3) := by decide +kernel
theorem dX1_findFault_39 : decode cX1_findFault 39 = .ok (.ifCond .eq 7, 3) := by decide +kernel
theorem dX1_findFault_42 : decode cX1_findFault 42 = .ok (.iconst (-1), 1) := by decide +kernel
theorem dX1_findFault_43 : decode cX1_findFault 43 = .ok (.goto 4, 3) := by decide +kernel
theorem dX1_findFault_46 : decode cX1_findFault 46 = .ok (.iload_n 2, 1) := by decide +kernel
theorem dX1_findFault_47 : decode cX1_findFault 47 = .ok (.ireturn, 1) := by decide +kernel
theorem dX1_beginNumber_0 : decode cX1_beginNumber 0 = .ok (.aload_n 0, 1) := by decide +kernel
theorem dX1_beginNumber_1 : decode cX1_beginNumber 1 = .ok (.iload_n 1, 1) := by decide +kernel
theorem dX1_beginNumber_2 : decode cX1_beginNumber 2 = .ok (.putfield 19, 3) := by decide +kernel
theorem dX1_beginNumber_5 : decode cX1_beginNumber 5 = .ok (.aload_n 0, 1) := by decide +kernel
theorem dX1_beginNumber_6 : decode cX1_beginNumber 6 = .ok (.iconst (-1), 1) := by decide +kernel
theorem dX1_beginNumber_7 : decode cX1_beginNumber 7 = .ok (.putfield 22, 3) := by decide +kernel
theorem dX1_beginNumber_10 : decode cX1_beginNumber 10 = .ok (.return_, 1) := by decide +kernel
set_option maxRecDepth 20000 in
theorem ggX1_takes_X1_takesComma : GoodIn wsX1_takes wsX1_takesComma := goodIn_r _ [5, 6, 7, 8, 9, 10, 11, 4, 12, 67, 68, 69, 70, 71] (by decide +kernel) (by decide +kernel)
set_option maxRecDepth 20000 in
theorem gX1_takes_X1_takesComma : GoodIn wsX1_takes (wsV RX1 40 RX1 yX1_takesComma wsX1_takesComma) := goodIn_app (goodIn_of _ (by decide +kernel)) ggX1_takes_X1_takesComma
set_option maxRecDepth 20000 in
theorem ggX1_takes_X1_endsNote : GoodIn wsX1_takes wsX1_endsNote := goodIn_r _ [16, 6, 7, 17, 18, 19, 8, 20, 21, 22, 23, 24, 25, 26, 27, 28, 29, 30, 31, 32, 33, 67, 68, 69, 70, 71, 72, 73, 74, 75, 76, 77, 78, 79] (by decide +kernel) (by decide +kernel)
set_option maxRecDepth 20000 in
theorem gX1_takes_X1_endsNote : GoodIn wsX1_takes (wsV RX1 36 RX1 yX1_endsNote wsX1_endsNote) := goodIn_app (goodIn_of _ (by decide +kernel)) ggX1_takes_X1_endsNote
set_option maxRecDepth 20000 in
theorem ggX1_takes_X1_takesStar : GoodIn wsX1_takes wsX1_takesStar := goodIn_r _ [37, 18, 19, 38, 39, 40, 23, 41, 42, 25, 43, 44, 45, 46, 47, 48, 49, 50, 27, 51, 52, 53, 54, 55, 56, 57, 58, 67, 68, 69, 70, 71, 72, 73, 74, 75, 76, 77, 78, 79] (by decide +kernel) (by decide +kernel)
set_option maxRecDepth 20000 in
theorem gX1_takes_X1_takesStar : GoodIn wsX1_takes (wsV RX1 43 RX1 yX1_takesStar wsX1_takesStar) := goodIn_app (goodIn_of _ (by decide +kernel)) ggX1_takes_X1_takesStar
set_option maxRecDepth 20000 in
theorem ggX1_takes_X1_takesSemicolon : GoodIn wsX1_takes wsX1_takesSemicolon := goodIn_r _ [62, 13, 14, 15, 4, 16, 6, 7, 17, 18, 19, 8, 20, 21, 22, 23, 24, 25, 26, 27, 28, 29, 30, 31, 32, 33, 9, 10, 11, 12, 67, 68, 69, 70, 71, 72, 73, 74, 75, 76, 77, 78, 79] (by decide +kernel) (by decide +kernel)
set_option maxRecDepth 20000 in
theorem gX1_takes_X1_takesSemicolon : GoodIn wsX1_takes (wsV RX1 46 RX1 yX1_takesSemicolon wsX1_takesSemicolon) := goodIn_app (goodIn_of _ (by decide +kernel)) ggX1_takes_X1_takesSemicolon
set_option maxRecDepth 20000 in
theorem ggX1_takes_X1_takesDigit : GoodIn wsX1_takes wsX1_takesDigit := goodIn_r _ [66, 6, 7, 67, 68, 69, 70, 71] (by decide +kernel) (by decide +kernel)
set_option maxRecDepth 20000 in
theorem gX1_takes_X1_takesDigit : GoodIn wsX1_takes (wsV RX1 49 RX1 yX1_takesDigit wsX1_takesDigit) := goodIn_app (goodIn_of _ (by decide +kernel)) ggX1_takes_X1_takesDigit
theorem dX1_takes_0 : decode cX1_takes 0 = .ok (.iload_n 1, 1) := by decide +kernel
theorem dX1_takes_1 : decode cX1_takes 1 = .ok (.lookupswitch 65 #[(42, 40), (44, 35), (59, 60)], 35) := by decide +kernel
theorem dX1_takes_36 : decode cX1_takes 36 = .ok (.aload_n 0, 1) := by decide +kernel
theorem dX1_takes_37 : decode cX1_takes 37 = .ok (.invokevirtual 40, 3) := by decide +kernel
theorem dX1_takes_40 : decode cX1_takes 40 = .ok (.ireturn, 1) := by decide +kernel
theorem dX1_takes_41 : decode cX1_takes 41 = .ok (.aload_n 0, 1) := by decide +kernel
theorem dX1_takes_42 : decode cX1_takes 42 = .ok (.invokevirtual 36, 3) := by decide +kernel
theorem dX1_takes_45 : decode cX1_takes 45 = .ok (.ifCond .eq 14, 3) := by decide +kernel
theorem dX1_takes_48 : decode cX1_takes 48 = .ok (.aload_n 0, 1) := by decide +kernel
theorem dX1_takes_49 : decode cX1_takes 49 = .ok (.invokevirtual 43, 3) := by decide +kernel
theorem dX1_takes_52 : decode cX1_takes 52 = .ok (.ifCond .eq 7, 3) := by decide +kernel
theorem dX1_takes_55 : decode cX1_takes 55 = .ok (.iconst 1, 1) := by decide +kernel
theorem dX1_takes_56 : decode cX1_takes 56 = .ok (.goto 4, 3) := by decide +kernel
theorem dX1_takes_59 : decode cX1_takes 59 = .ok (.iconst 0, 1) := by decide +kernel
theorem dX1_takes_60 : decode cX1_takes 60 = .ok (.ireturn, 1) := by decide +kernel
theorem dX1_takes_61 : decode cX1_takes 61 = .ok (.aload_n 0, 1) := by decide +kernel
theorem dX1_takes_62 : decode cX1_takes 62 = .ok (.invokevirtual 46, 3) := by decide +kernel
theorem dX1_takes_65 : decode cX1_takes 65 = .ok (.ireturn, 1) := by decide +kernel
theorem dX1_takes_66 : decode cX1_takes 66 = .ok (.iload_n 1, 1) := by decide +kernel
theorem dX1_takes_67 : decode cX1_takes 67 = .ok (.bipush 48, 2) := by decide +kernel
theorem dX1_takes_69 : decode cX1_takes 69 = .ok (.if_icmp .lt 24, 3) := by decide +kernel
theorem dX1_takes_72 : decode cX1_takes 72 = .ok (.iload_n 1, 1) := by decide +kernel
theorem dX1_takes_73 : decode cX1_takes 73 = .ok (.bipush 57, 2) := by decide +kernel
theorem dX1_takes_75 : decode cX1_takes 75 = .ok (.if_icmp .gt 18, 3) := by decide +kernel
theorem dX1_takes_78 : decode cX1_takes 78 = .ok (.aload_n 0, 1) := by decide +kernel
theorem dX1_takes_79 : decode cX1_takes 79 = .ok (.iload_n 1, 1) := by decide +kernel
theorem dX1_takes_80 : decode cX1_takes 80 = .ok (.bipush 48, 2) := by decide +kernel
theorem dX1_takes_82 : decode cX1_takes 82 = .ok (.isub, 1) := by decide +kernel
theorem dX1_takes_83 : decode cX1_takes 83 = .ok (.invokevirtual 49, 3) := by decide +kernel
theorem dX1_takes_86 : decode cX1_takes 86 = .ok (.ifCond .eq 7, 3) := by decide +kernel
theorem dX1_takes_89 : decode cX1_takes 89 = .ok (.iconst 1, 1) := by decide +kernel
theorem dX1_takes_90 : decode cX1_takes 90 = .ok (.goto 4, 3) := by decide +kernel
theorem dX1_takes_93 : decode cX1_takes 93 = .ok (.iconst 0, 1) := by decide +kernel
theorem dX1_takes_94 : decode cX1_takes 94 = .ok (.ireturn, 1) := by decide +kernel
theorem dX1_takesDigit_0 : decode cX1_takesDigit 0 = .ok (.aload_n 0, 1) := by decide +kernel
theorem dX1_takesDigit_1 : decode cX1_takesDigit 1 = .ok (.getfield 19, 3) := by decide +kernel
theorem dX1_takesDigit_4 : decode cX1_takesDigit 4 = .ok (.iconst 2, 1) := by decide +kernel
theorem dX1_takesDigit_5 : decode cX1_takesDigit 5 = .ok (.if_icmp .ne 5, 3) := by decide +kernel
theorem dX1_takesDigit_8 : decode cX1_takesDigit 8 = .ok (.iconst 0, 1) := by decide +kernel
theorem dX1_takesDigit_9 : decode cX1_takesDigit 9 = .ok (.ireturn, 1) := by decide +kernel
theorem dX1_takesDigit_10 : decode cX1_takesDigit 10 = .ok (.aload_n 0, 1) := by decide +kernel
theorem dX1_takesDigit_11 : decode cX1_takesDigit 11 = .ok (.getfield 22, 3) := by decide +kernel
theorem dX1_takesDigit_14 : decode cX1_takesDigit 14 = .ok (.iconst (-1), 1) := by decide +kernel
theorem dX1_takesDigit_15 : decode cX1_takesDigit 15 = .ok (.if_icmp .ne 10, 3) := by decide +kernel
theorem dX1_takesDigit_18 : decode cX1_takesDigit 18 = .ok (.aload_n 0, 1) := by decide +kernel
theorem dX1_takesDigit_19 : decode cX1_takesDigit 19 = .ok (.iload_n 1, 1) := by decide +kernel
theorem dX1_takesDigit_20 : decode cX1_takesDigit 20 = .ok (.putfield 22, 3) := by decide +kernel
theorem dX1_takesDigit_23 : decode cX1_takesDigit 23 = .ok (.iconst 1, 1) := by decide +kernel
theorem dX1_takesDigit_24 : decode cX1_takesDigit 24 = .ok (.ireturn, 1) := by decide +kernel
theorem dX1_takesDigit_25 : decode cX1_takesDigit 25 = .ok (.aload_n 0, 1) := by decide +kernel
theorem dX1_takesDigit_26 : decode cX1_takesDigit 26 = .ok (.getfield 19, 3) := by decide +kernel
theorem dX1_takesDigit_29 : decode cX1_takesDigit 29 = .ok (.ifCond .ne 8, 3) := by decide +kernel
theorem dX1_takesDigit_32 : decode cX1_takesDigit 32 = .ok (.bipush 29, 2) := by decide +kernel
theorem dX1_takesDigit_34 : decode cX1_takesDigit 34 = .ok (.goto 5, 3) := by decide +kernel
theorem dX1_takesDigit_37 : decode cX1_takesDigit 37 = .ok (.bipush 19, 2) := by decide +kernel
theorem dX1_takesDigit_39 : decode cX1_takesDigit 39 = .ok (.istore_n 2, 1) := by decide +kernel
theorem dX1_takesDigit_40 : decode cX1_takesDigit 40 = .ok (.aload_n 0, 1) := by decide +kernel
theorem dX1_takesDigit_41 : decode cX1_takesDigit 41 = .ok (.getfield 22, 3) := by decide +kernel
theorem dX1_takesDigit_44 : decode cX1_takesDigit 44 = .ok (.ifCond .eq 16, 3) := by decide +kernel
theorem dX1_takesDigit_47 : decode cX1_takesDigit 47 = .ok (.aload_n 0, 1) := by decide +kernel
theorem dX1_takesDigit_48 : decode cX1_takesDigit 48 = .ok (.getfield 22, 3) := by decide +kernel
theorem dX1_takesDigit_51 : decode cX1_takesDigit 51 = .ok (.bipush 10, 2) := by decide +kernel
theorem dX1_takesDigit_53 : decode cX1_takesDigit 53 = .ok (.imul, 1) := by decide +kernel
theorem dX1_takesDigit_54 : decode cX1_takesDigit 54 = .ok (.iload_n 1, 1) := by decide +kernel
theorem dX1_takesDigit_55 : decode cX1_takesDigit 55 = .ok (.iadd, 1) := by decide +kernel
theorem dX1_takesDigit_56 : decode cX1_takesDigit 56 = .ok (.iload_n 2, 1) := by decide +kernel
theorem dX1_takesDigit_57 : decode cX1_takesDigit 57 = .ok (.if_icmp .le 5, 3) := by decide +kernel
theorem dX1_takesDigit_60 : decode cX1_takesDigit 60 = .ok (.iconst 0, 1) := by decide +kernel
theorem dX1_takesDigit_61 : decode cX1_takesDigit 61 = .ok (.ireturn, 1) := by decide +kernel
theorem dX1_takesDigit_62 : decode cX1_takesDigit 62 = .ok (.aload_n 0, 1) := by decide +kernel
theorem dX1_takesDigit_63 : decode cX1_takesDigit 63 = .ok (.aload_n 0, 1) := by decide +kernel
theorem dX1_takesDigit_64 : decode cX1_takesDigit 64 = .ok (.getfield 22, 3) := by decide +kernel
theorem dX1_takesDigit_67 : decode cX1_takesDigit 67 = .ok (.bipush 10, 2) := by decide +kernel
theorem dX1_takesDigit_69 : decode cX1_takesDigit 69 = .ok (.imul, 1) := by decide +kernel
theorem dX1_takesDigit_70 : decode cX1_takesDigit 70 = .ok (.iload_n 1, 1) := by decide +kernel
theorem dX1_takesDigit_71 : decode cX1_takesDigit 71 = .ok (.iadd, 1) := by decide +kernel
theorem dX1_takesDigit_72 : decode cX1_takesDigit 72 = .ok (.putfield 22, 3) := by decide +kernel
theorem dX1_takesDigit_75 : decode cX1_takesDigit 75 = .ok (.iconst 1, 1) := by decide +kernel
theorem dX1_takesDigit_76 : decode cX1_takesDigit 76 = .ok (.ireturn, 1) := by decide +kernel
set_option maxRecDepth 20000 in
theorem ggX1_takesComma_X1_beginNumber : GoodIn wsX1_takesComma wsX1_beginNumber := goodIn_r _ [8, 1, 2, 9, 10, 11, 12, 13] (by decide +kernel) (by decide +kernel)
set_option maxRecDepth 20000 in
theorem gX1_takesComma_X1_beginNumber : GoodIn wsX1_takesComma (wsV RX1 28 RX1 yX1_beginNumber wsX1_beginNumber) := goodIn_app (goodIn_of _ (by decide +kernel)) ggX1_takesComma_X1_beginNumber
theorem dX1_takesComma_0 : decode cX1_takesComma 0 = .ok (.aload_n 0, 1) := by decide +kernel
theorem dX1_takesComma_1 : decode cX1_takesComma 1 = .ok (.getfield 19, 3) := by decide +kernel
theorem dX1_takesComma_4 : decode cX1_takesComma 4 = .ok (.ifCond .ne 11, 3) := by decide +kernel
theorem dX1_takesComma_7 : decode cX1_takesComma 7 = .ok (.aload_n 0, 1) := by decide +kernel
theorem dX1_takesComma_8 : decode cX1_takesComma 8 = .ok (.getfield 22, 3) := by decide +kernel
theorem dX1_takesComma_11 : decode cX1_takesComma 11 = .ok (.iconst (-1), 1) := by decide +kernel
theorem dX1_takesComma_12 : decode cX1_takesComma 12 = .ok (.if_icmp .ne 5, 3) := by decide +kernel
theorem dX1_takesComma_15 : decode cX1_takesComma 15 = .ok (.iconst 0, 1) := by decide +kernel
theorem dX1_takesComma_16 : decode cX1_takesComma 16 = .ok (.ireturn, 1) := by decide +kernel
theorem dX1_takesComma_17 : decode cX1_takesComma 17 = .ok (.aload_n 0, 1) := by decide +kernel
theorem dX1_takesComma_18 : decode cX1_takesComma 18 = .ok (.aload_n 0, 1) := by decide +kernel
theorem dX1_takesComma_19 : decode cX1_takesComma 19 = .ok (.getfield 22, 3) := by decide +kernel
theorem dX1_takesComma_22 : decode cX1_takesComma 22 = .ok (.putfield 25, 3) := by decide +kernel
theorem dX1_takesComma_25 : decode cX1_takesComma 25 = .ok (.aload_n 0, 1) := by decide +kernel
theorem dX1_takesComma_26 : decode cX1_takesComma 26 = .ok (.iconst 1, 1) := by decide +kernel
theorem dX1_takesComma_27 : decode cX1_takesComma 27 = .ok (.invokevirtual 28, 3) := by decide +kernel
theorem dX1_takesComma_30 : decode cX1_takesComma 30 = .ok (.iconst 1, 1) := by decide +kernel
theorem dX1_takesComma_31 : decode cX1_takesComma 31 = .ok (.ireturn, 1) := by decide +kernel
set_option maxRecDepth 20000 in
theorem ggX1_takesSemicolon_X1_endsNote : GoodIn wsX1_takesSemicolon wsX1_endsNote := goodIn_r _ [5, 6, 7, 8, 9, 10, 11, 12, 13, 14, 15, 16, 17, 18, 19, 20, 21, 22, 23, 24, 25, 30, 31, 32, 33, 34, 35, 36, 37, 38, 39, 40, 41, 42] (by decide +kernel) (by decide +kernel)
set_option maxRecDepth 20000 in
theorem gX1_takesSemicolon_X1_endsNote : GoodIn wsX1_takesSemicolon (wsV RX1 36 RX1 yX1_endsNote wsX1_endsNote) := goodIn_app (goodIn_of _ (by decide +kernel)) ggX1_takesSemicolon_X1_endsNote
set_option maxRecDepth 20000 in
theorem ggX1_takesSemicolon_X1_beginNumber : GoodIn wsX1_takesSemicolon wsX1_beginNumber := goodIn_r _ [29, 6, 7, 30, 31, 32, 33, 34] (by decide +kernel) (by decide +kernel)
set_option maxRecDepth 20000 in
theorem gX1_takesSemicolon_X1_beginNumber : GoodIn wsX1_takesSemicolon (wsV RX1 28 RX1 yX1_beginNumber wsX1_beginNumber) := goodIn_app (goodIn_of _ (by decide +kernel)) ggX1_takesSemicolon_X1_beginNumber
theorem dX1_takesSemicolon_0 : decode cX1_takesSemicolon 0 = .ok (.aload_n 0, 1) := by decide +kernel
theorem dX1_takesSemicolon_1 : decode cX1_takesSemicolon 1 = .ok (.invokevirtual 36, 3) := by decide +kernel
theorem dX1_takesSemicolon_4 : decode cX1_takesSemicolon 4 = .ok (.ifCond .ne 5, 3) := by decide +kernel
theorem dX1_takesSemicolon_7 : decode cX1_takesSemicolon 7 = .ok (.iconst 0, 1) := by decide +kernel
theorem dX1_takesSemicolon_8 : decode cX1_takesSemicolon 8 = .ok (.ireturn, 1) := by decide +kernel
theorem dX1_takesSemicolon_9 : decode cX1_takesSemicolon 9 = .ok (.aload_n 0, 1) := by decide +kernel
theorem dX1_takesSemicolon_10 : decode cX1_takesSemicolon 10 = .ok (.iconst 0, 1) := by decide +kernel
theorem dX1_takesSemicolon_11 : decode cX1_takesSemicolon 11 = .ok (.invokevirtual 28, 3) := by decide +kernel
theorem dX1_takesSemicolon_14 : decode cX1_takesSemicolon 14 = .ok (.iconst 1, 1) := by decide +kernel
theorem dX1_takesSemicolon_15 : decode cX1_takesSemicolon 15 = .ok (.ireturn, 1) := by decide +kernel
set_option maxRecDepth 20000 in
theorem ggX1_endsNote_X0_addNote : GoodIn wsX1_endsNote wsX0_addNote := goodIn_r _ [11, 12, 13, 14, 15, 16, 17, 10, 18, 19, 20, 26, 27, 28, 29, 30, 31, 32, 33] (by decide +kernel) (by decide +kernel)
set_option maxRecDepth 20000 in
theorem gX1_endsNote_X0_addNote : GoodIn wsX1_endsNote (wsV RX1 58 RX0 yX0_addNote wsX0_addNote) := goodIn_app (goodIn_of _ (by decide +kernel)) ggX1_endsNote_X0_addNote
theorem dX1_endsNote_0 : decode cX1_endsNote 0 = .ok (.aload_n 0, 1) := by decide +kernel
theorem dX1_endsNote_1 : decode cX1_endsNote 1 = .ok (.getfield 19, 3) := by decide +kernel
theorem dX1_endsNote_4 : decode cX1_endsNote 4 = .ok (.iconst 1, 1) := by decide +kernel
theorem dX1_endsNote_5 : decode cX1_endsNote 5 = .ok (.if_icmp .ne 53, 3) := by decide +kernel
theorem dX1_endsNote_8 : decode cX1_endsNote 8 = .ok (.aload_n 0, 1) := by decide +kernel
theorem dX1_endsNote_9 : decode cX1_endsNote 9 = .ok (.getfield 22, 3) := by decide +kernel
theorem dX1_endsNote_12 : decode cX1_endsNote 12 = .ok (.iconst (-1), 1) := by decide +kernel
theorem dX1_endsNote_13 : decode cX1_endsNote 13 = .ok (.if_icmp .eq 45, 3) := by decide +kernel
theorem dX1_endsNote_16 : decode cX1_endsNote 16 = .ok (.aload_n 0, 1) := by decide +kernel
theorem dX1_endsNote_17 : decode cX1_endsNote 17 = .ok (.iconst 2, 1) := by decide +kernel
theorem dX1_endsNote_18 : decode cX1_endsNote 18 = .ok (.putfield 19, 3) := by decide +kernel
theorem dX1_endsNote_21 : decode cX1_endsNote 21 = .ok (.aload_n 0, 1) := by decide +kernel
theorem dX1_endsNote_22 : decode cX1_endsNote 22 = .ok (.dup, 1) := by decide +kernel
theorem dX1_endsNote_23 : decode cX1_endsNote 23 = .ok (.getfield 15, 3) := by decide +kernel
theorem dX1_endsNote_26 : decode cX1_endsNote 26 = .ok (.iconst 1, 1) := by decide +kernel
theorem dX1_endsNote_27 : decode cX1_endsNote 27 = .ok (.iadd, 1) := by decide +kernel
theorem dX1_endsNote_28 : decode cX1_endsNote 28 = .ok (.putfield 15, 3) := by decide +kernel
theorem dX1_endsNote_31 : decode cX1_endsNote 31 = .ok (.aload_n 0, 1) := by decide +kernel
theorem dX1_endsNote_32 : decode cX1_endsNote 32 = .ok (.getfield 9, 3) := by decide +kernel
theorem dX1_endsNote_35 : decode cX1_endsNote 35 = .ok (.getfield 53, 3) := by decide +kernel
theorem dX1_endsNote_38 : decode cX1_endsNote 38 = .ok (.bipush 20, 2) := by decide +kernel
theorem dX1_endsNote_40 : decode cX1_endsNote 40 = .ok (.if_icmp .ge 18, 3) := by decide +kernel
theorem dX1_endsNote_43 : decode cX1_endsNote 43 = .ok (.aload_n 0, 1) := by decide +kernel
theorem dX1_endsNote_44 : decode cX1_endsNote 44 = .ok (.getfield 9, 3) := by decide +kernel
theorem dX1_endsNote_47 : decode cX1_endsNote 47 = .ok (.aload_n 0, 1) := by decide +kernel
theorem dX1_endsNote_48 : decode cX1_endsNote 48 = .ok (.getfield 25, 3) := by decide +kernel
theorem dX1_endsNote_51 : decode cX1_endsNote 51 = .ok (.aload_n 0, 1) := by decide +kernel
theorem dX1_endsNote_52 : decode cX1_endsNote 52 = .ok (.getfield 22, 3) := by decide +kernel
theorem dX1_endsNote_55 : decode cX1_endsNote 55 = .ok (.invokevirtual 58, 3) := by decide +kernel
theorem dX1_endsNote_58 : decode cX1_endsNote 58 = .ok (.aload_n 0, 1) := by decide +kernel
theorem dX1_endsNote_59 : decode cX1_endsNote 59 = .ok (.getfield 19, 3) := by decide +kernel
theorem dX1_endsNote_62 : decode cX1_endsNote 62 = .ok (.iconst 2, 1) := by decide +kernel
theorem dX1_endsNote_63 : decode cX1_endsNote 63 = .ok (.if_icmp .ne 7, 3) := by decide +kernel
theorem dX1_endsNote_66 : decode cX1_endsNote 66 = .ok (.iconst 1, 1) := by decide +kernel
theorem dX1_endsNote_67 : decode cX1_endsNote 67 = .ok (.goto 4, 3) := by decide +kernel
theorem dX1_endsNote_70 : decode cX1_endsNote 70 = .ok (.iconst 0, 1) := by decide +kernel
theorem dX1_endsNote_71 : decode cX1_endsNote 71 = .ok (.ireturn, 1) := by decide +kernel
set_option maxRecDepth 20000 in
theorem ggX1_takesStar_X0_dotsLeft : GoodIn wsX1_takesStar wsX0_dotsLeft := goodIn_r _ [7, 8, 9, 10, 11, 12, 13, 14, 15, 16, 6, 17, 18, 32, 33, 34, 35, 36, 37, 38, 39] (by decide +kernel) (by decide +kernel)
set_option maxRecDepth 20000 in
theorem gX1_takesStar_X0_dotsLeft : GoodIn wsX1_takesStar (wsV RX1 62 RX0 yX0_dotsLeft wsX0_dotsLeft) := goodIn_app (goodIn_of _ (by decide +kernel)) ggX1_takesStar_X0_dotsLeft
set_option maxRecDepth 20000 in
theorem ggX1_takesStar_X0_hasMostDots : GoodIn wsX1_takesStar wsX0_hasMostDots := goodIn_r _ [22, 8, 14, 15, 16, 6, 17, 18, 32, 33, 34, 35, 36, 37, 38, 39] (by decide +kernel) (by decide +kernel)
set_option maxRecDepth 20000 in
theorem gX1_takesStar_X0_hasMostDots : GoodIn wsX1_takesStar (wsV RX1 66 RX0 yX0_hasMostDots wsX0_hasMostDots) := goodIn_app (goodIn_of _ (by decide +kernel)) ggX1_takesStar_X0_hasMostDots
set_option maxRecDepth 20000 in
theorem ggX1_takesStar_X0_addDots : GoodIn wsX1_takesStar wsX0_addDots := goodIn_r _ [26, 18, 32, 33, 34, 35, 36, 37, 38, 39] (by decide +kernel) (by decide +kernel)
set_option maxRecDepth 20000 in
theorem gX1_takesStar_X0_addDots : GoodIn wsX1_takesStar (wsV RX1 70 RX0 yX0_addDots wsX0_addDots) := goodIn_app (goodIn_of _ (by decide +kernel)) ggX1_takesStar_X0_addDots
theorem dX1_takesStar_0 : decode cX1_takesStar 0 = .ok (.aload_n 0, 1) := by decide +kernel
theorem dX1_takesStar_1 : decode cX1_takesStar 1 = .ok (.getfield 9, 3) := by decide +kernel
theorem dX1_takesStar_4 : decode cX1_takesStar 4 = .ok (.getfield 53, 3) := by decide +kernel
theorem dX1_takesStar_7 : decode cX1_takesStar 7 = .ok (.iconst 1, 1) := by decide +kernel
theorem dX1_takesStar_8 : decode cX1_takesStar 8 = .ok (.isub, 1) := by decide +kernel
theorem dX1_takesStar_9 : decode cX1_takesStar 9 = .ok (.istore_n 1, 1) := by decide +kernel
theorem dX1_takesStar_10 : decode cX1_takesStar 10 = .ok (.aload_n 0, 1) := by decide +kernel
theorem dX1_takesStar_11 : decode cX1_takesStar 11 = .ok (.getfield 9, 3) := by decide +kernel
theorem dX1_takesStar_14 : decode cX1_takesStar 14 = .ok (.iconst 0, 1) := by decide +kernel
theorem dX1_takesStar_15 : decode cX1_takesStar 15 = .ok (.invokevirtual 62, 3) := by decide +kernel
theorem dX1_takesStar_18 : decode cX1_takesStar 18 = .ok (.ifCond .eq 15, 3) := by decide +kernel
theorem dX1_takesStar_21 : decode cX1_takesStar 21 = .ok (.aload_n 0, 1) := by decide +kernel
theorem dX1_takesStar_22 : decode cX1_takesStar 22 = .ok (.getfield 9, 3) := by decide +kernel
theorem dX1_takesStar_25 : decode cX1_takesStar 25 = .ok (.iconst 0, 1) := by decide +kernel
theorem dX1_takesStar_26 : decode cX1_takesStar 26 = .ok (.iload_n 1, 1) := by decide +kernel
theorem dX1_takesStar_27 : decode cX1_takesStar 27 = .ok (.invokevirtual 66, 3) := by decide +kernel
theorem dX1_takesStar_30 : decode cX1_takesStar 30 = .ok (.ifCond .eq 5, 3) := by decide +kernel
theorem dX1_takesStar_33 : decode cX1_takesStar 33 = .ok (.iconst 0, 1) := by decide +kernel
theorem dX1_takesStar_34 : decode cX1_takesStar 34 = .ok (.ireturn, 1) := by decide +kernel
theorem dX1_takesStar_35 : decode cX1_takesStar 35 = .ok (.aload_n 0, 1) := by decide +kernel
theorem dX1_takesStar_36 : decode cX1_takesStar 36 = .ok (.getfield 9, 3) := by decide +kernel
theorem dX1_takesStar_39 : decode cX1_takesStar 39 = .ok (.iconst 0, 1) := by decide +kernel
theorem dX1_takesStar_40 : decode cX1_takesStar 40 = .ok (.iload_n 1, 1) := by decide +kernel
theorem dX1_takesStar_41 : decode cX1_takesStar 41 = .ok (.iconst 1, 1) := by decide +kernel
theorem dX1_takesStar_42 : decode cX1_takesStar 42 = .ok (.invokevirtual 70, 3) := by decide +kernel
theorem dX1_takesStar_45 : decode cX1_takesStar 45 = .ok (.iconst 1, 1) := by decide +kernel
theorem dX1_takesStar_46 : decode cX1_takesStar 46 = .ok (.ireturn, 1) := by decide +kernel
