theorem dX6_set_27 : decode cX6_set 27 = .ok (.goto 5, 3) := by decide +kernel
theorem dX6_set_30 : decode cX6_set 30 = .ok (.bipush 9, 2) := by decide +kernel
theorem dX6_set_32 : decode cX6_set 32 = .ok (.invokestatic 43, 3) := by decide +kernel
theorem dX6_set_35 : decode cX6_set 35 = .ok (.ifCond .ne 6, 3) := by decide +kernel
theorem dX6_set_38 : decode cX6_set 38 = .ok (.bipush (-2), 2) := by decide +kernel
theorem dX6_set_40 : decode cX6_set 40 = .ok (.ireturn, 1) := by decide +kernel
theorem dX6_set_41 : decode cX6_set 41 = .ok (.aload_n 0, 1) := by decide +kernel
theorem dX6_set_42 : decode cX6_set 42 = .ok (.getfield 7, 3) := by decide +kernel
theorem dX6_set_45 : decode cX6_set 45 = .ok (.iconst 2, 1) := by decide +kernel
theorem dX6_set_46 : decode cX6_set 46 = .ok (.iload_n 1, 1) := by decide +kernel
theorem dX6_set_47 : decode cX6_set 47 = .ok (.iadd, 1) := by decide +kernel
theorem dX6_set_48 : decode cX6_set 48 = .ok (.iaload, 1) := by decide +kernel
theorem dX6_set_49 : decode cX6_set 49 = .ok (.istore_n 3, 1) := by decide +kernel
theorem dX6_set_50 : decode cX6_set 50 = .ok (.iload_n 3, 1) := by decide +kernel
theorem dX6_set_51 : decode cX6_set 51 = .ok (.iload_n 2, 1) := by decide +kernel
theorem dX6_set_52 : decode cX6_set 52 = .ok (.if_icmp .ne 6, 3) := by decide +kernel
theorem dX6_set_55 : decode cX6_set 55 = .ok (.bipush (-5), 2) := by decide +kernel
theorem dX6_set_57 : decode cX6_set 57 = .ok (.ireturn, 1) := by decide +kernel
theorem dX6_set_58 : decode cX6_set 58 = .ok (.aload_n 0, 1) := by decide +kernel
theorem dX6_set_59 : decode cX6_set 59 = .ok (.invokevirtual 92, 3) := by decide +kernel
theorem dX6_set_62 : decode cX6_set 62 = .ok (.aload_n 0, 1) := by decide +kernel
theorem dX6_set_63 : decode cX6_set 63 = .ok (.getfield 7, 3) := by decide +kernel
theorem dX6_set_66 : decode cX6_set 66 = .ok (.iconst 2, 1) := by decide +kernel
theorem dX6_set_67 : decode cX6_set 67 = .ok (.iload_n 1, 1) := by decide +kernel
theorem dX6_set_68 : decode cX6_set 68 = .ok (.iadd, 1) := by decide +kernel
theorem dX6_set_69 : decode cX6_set 69 = .ok (.iload_n 2, 1) := by decide +kernel
theorem dX6_set_70 : decode cX6_set 70 = .ok (.iastore, 1) := by decide +kernel
theorem dX6_set_71 : decode cX6_set 71 = .ok (.iload_n 3, 1) := by decide +kernel
theorem dX6_set_72 : decode cX6_set 72 = .ok (.ireturn, 1) := by decide +kernel
theorem dX6_type_0 : decode cX6_type 0 = .ok (.aload_n 0, 1) := by decide +kernel
theorem dX6_type_1 : decode cX6_type 1 = .ok (.getfield 133, 3) := by decide +kernel
theorem dX6_type_4 : decode cX6_type 4 = .ok (.bipush 80, 2) := by decide +kernel
theorem dX6_type_6 : decode cX6_type 6 = .ok (.if_icmp .ne 6, 3) := by decide +kernel
theorem dX6_type_9 : decode cX6_type 9 = .ok (.bipush (-3), 2) := by decide +kernel
theorem dX6_type_11 : decode cX6_type 11 = .ok (.ireturn, 1) := by decide +kernel
theorem dX6_type_12 : decode cX6_type 12 = .ok (.aload_n 0, 1) := by decide +kernel
theorem dX6_type_13 : decode cX6_type 13 = .ok (.getfield 19, 3) := by decide +kernel
theorem dX6_type_16 : decode cX6_type 16 = .ok (.aload_n 0, 1) := by decide +kernel
theorem dX6_type_17 : decode cX6_type 17 = .ok (.getfield 133, 3) := by decide +kernel
theorem dX6_type_20 : decode cX6_type 20 = .ok (.iload_n 1, 1) := by decide +kernel
theorem dX6_type_21 : decode cX6_type 21 = .ok (.castore, 1) := by decide +kernel
theorem dX6_type_22 : decode cX6_type 22 = .ok (.aload_n 0, 1) := by decide +kernel
theorem dX6_type_23 : decode cX6_type 23 = .ok (.dup, 1) := by decide +kernel
theorem dX6_type_24 : decode cX6_type 24 = .ok (.getfield 133, 3) := by decide +kernel
theorem dX6_type_27 : decode cX6_type 27 = .ok (.iconst 1, 1) := by decide +kernel
theorem dX6_type_28 : decode cX6_type 28 = .ok (.iadd, 1) := by decide +kernel
theorem dX6_type_29 : decode cX6_type 29 = .ok (.putfield 133, 3) := by decide +kernel
theorem dX6_type_32 : decode cX6_type 32 = .ok (.aload_n 0, 1) := by decide +kernel
theorem dX6_type_33 : decode cX6_type 33 = .ok (.getfield 133, 3) := by decide +kernel
theorem dX6_type_36 : decode cX6_type 36 = .ok (.ireturn, 1) := by decide +kernel
theorem dX6_clearText_0 : decode cX6_clearText 0 = .ok (.aload_n 0, 1) := by decide +kernel
theorem dX6_clearText_1 : decode cX6_clearText 1 = .ok (.getfield 133, 3) := by decide +kernel
theorem dX6_clearText_4 : decode cX6_clearText 4 = .ok (.istore_n 1, 1) := by decide +kernel
theorem dX6_clearText_5 : decode cX6_clearText 5 = .ok (.aload_n 0, 1) := by decide +kernel
theorem dX6_clearText_6 : decode cX6_clearText 6 = .ok (.iconst 0, 1) := by decide +kernel
theorem dX6_clearText_7 : decode cX6_clearText 7 = .ok (.putfield 133, 3) := by decide +kernel
theorem dX6_clearText_10 : decode cX6_clearText 10 = .ok (.iload_n 1, 1) := by decide +kernel
theorem dX6_clearText_11 : decode cX6_clearText 11 = .ok (.ireturn, 1) := by decide +kernel
theorem dX6_here_0 : decode cX6_here 0 = .ok (.aload_n 0, 1) := by decide +kernel
theorem dX6_here_1 : decode cX6_here 1 = .ok (.getfield 136, 3) := by decide +kernel
theorem dX6_here_4 : decode cX6_here 4 = .ok (.aload_n 0, 1) := by decide +kernel
theorem dX6_here_5 : decode cX6_here 5 = .ok (.getfield 133, 3) := by decide +kernel
theorem dX6_here_8 : decode cX6_here 8 = .ok (.if_icmp .ge 15, 3) := by decide +kernel
theorem dX6_here_11 : decode cX6_here 11 = .ok (.aload_n 0, 1) := by decide +kernel
theorem dX6_here_12 : decode cX6_here 12 = .ok (.getfield 19, 3) := by decide +kernel
theorem dX6_here_15 : decode cX6_here 15 = .ok (.aload_n 0, 1) := by decide +kernel
theorem dX6_here_16 : decode cX6_here 16 = .ok (.getfield 136, 3) := by decide +kernel
theorem dX6_here_19 : decode cX6_here 19 = .ok (.caload, 1) := by decide +kernel
theorem dX6_here_20 : decode cX6_here 20 = .ok (.goto 5, 3) := by decide +kernel
theorem dX6_here_23 : decode cX6_here 23 = .ok (.bipush (-5), 2) := by decide +kernel
theorem dX6_here_25 : decode cX6_here 25 = .ok (.ireturn, 1) := by decide +kernel
set_option maxRecDepth 20000 in
theorem ggX6_number_X6_here : GoodIn wsX6_number wsX6_here := goodIn_r _ [6, 1, 7, 8, 12, 13, 14, 15, 16, 17, 18, 19, 20, 21, 22, 23, 24, 25, 26] (by decide +kernel) (by decide +kernel)
set_option maxRecDepth 20000 in
theorem gX6_number_X6_here : GoodIn wsX6_number (wsV RX6 139 RX6 yX6_here wsX6_here) := goodIn_app (goodIn_of _ (by decide +kernel)) ggX6_number_X6_here
set_option maxRecDepth 20000 in
theorem ggX6_number_X6_in : GoodIn wsX6_number wsX6_in := goodIn_r _ [11] (by decide +kernel) (by decide +kernel)
set_option maxRecDepth 20000 in
theorem gX6_number_X6_in : GoodIn wsX6_number (va_wsS RX6 43 yX6_in wsX6_in) := goodIn_app (goodIn_of _ (by decide +kernel)) ggX6_number_X6_in
theorem dX6_number_0 : decode cX6_number 0 = .ok (.aload_n 0, 1) := by decide +kernel
theorem dX6_number_1 : decode cX6_number 1 = .ok (.invokevirtual 139, 3) := by decide +kernel
theorem dX6_number_4 : decode cX6_number 4 = .ok (.bipush 48, 2) := by decide +kernel
theorem dX6_number_6 : decode cX6_number 6 = .ok (.bipush 57, 2) := by decide +kernel
theorem dX6_number_8 : decode cX6_number 8 = .ok (.invokestatic 43, 3) := by decide +kernel
theorem dX6_number_11 : decode cX6_number 11 = .ok (.ifCond .ne 6, 3) := by decide +kernel
theorem dX6_number_14 : decode cX6_number 14 = .ok (.bipush (-5), 2) := by decide +kernel
theorem dX6_number_16 : decode cX6_number 16 = .ok (.ireturn, 1) := by decide +kernel
theorem dX6_number_17 : decode cX6_number 17 = .ok (.aload_n 0, 1) := by decide +kernel
theorem dX6_number_18 : decode cX6_number 18 = .ok (.invokevirtual 139, 3) := by decide +kernel
theorem dX6_number_21 : decode cX6_number 21 = .ok (.bipush 48, 2) := by decide +kernel
theorem dX6_number_23 : decode cX6_number 23 = .ok (.isub, 1) := by decide +kernel
theorem dX6_number_24 : decode cX6_number 24 = .ok (.istore_n 2, 1) := by decide +kernel
theorem dX6_number_25 : decode cX6_number 25 = .ok (.aload_n 0, 1) := by decide +kernel
theorem dX6_number_26 : decode cX6_number 26 = .ok (.dup, 1) := by decide +kernel
theorem dX6_number_27 : decode cX6_number 27 = .ok (.getfield 136, 3) := by decide +kernel
theorem dX6_number_30 : decode cX6_number 30 = .ok (.iconst 1, 1) := by decide +kernel
theorem dX6_number_31 : decode cX6_number 31 = .ok (.iadd, 1) := by decide +kernel
theorem dX6_number_32 : decode cX6_number 32 = .ok (.putfield 136, 3) := by decide +kernel
theorem dX6_number_35 : decode cX6_number 35 = .ok (.iload_n 2, 1) := by decide +kernel
theorem dX6_number_36 : decode cX6_number 36 = .ok (.ifCond .le 56, 3) := by decide +kernel
theorem dX6_number_39 : decode cX6_number 39 = .ok (.aload_n 0, 1) := by decide +kernel
theorem dX6_number_40 : decode cX6_number 40 = .ok (.invokevirtual 139, 3) := by decide +kernel
theorem dX6_number_43 : decode cX6_number 43 = .ok (.bipush 48, 2) := by decide +kernel
theorem dX6_number_45 : decode cX6_number 45 = .ok (.bipush 57, 2) := by decide +kernel
theorem dX6_number_47 : decode cX6_number 47 = .ok (.invokestatic 43, 3) := by decide +kernel
theorem dX6_number_50 : decode cX6_number 50 = .ok (.ifCond .eq 42, 3) := by decide +kernel
theorem dX6_number_53 : decode cX6_number 53 = .ok (.bipush 10, 2) := by decide +kernel
theorem dX6_number_55 : decode cX6_number 55 = .ok (.iload_n 2, 1) := by decide +kernel
theorem dX6_number_56 : decode cX6_number 56 = .ok (.imul, 1) := by decide +kernel
theorem dX6_number_57 : decode cX6_number 57 = .ok (.aload_n 0, 1) := by decide +kernel
theorem dX6_number_58 : decode cX6_number 58 = .ok (.invokevirtual 139, 3) := by decide +kernel
theorem dX6_number_61 : decode cX6_number 61 = .ok (.iadd, 1) := by decide +kernel
theorem dX6_number_62 : decode cX6_number 62 = .ok (.bipush 48, 2) := by decide +kernel
theorem dX6_number_64 : decode cX6_number 64 = .ok (.isub, 1) := by decide +kernel
theorem dX6_number_65 : decode cX6_number 65 = .ok (.iload_n 1, 1) := by decide +kernel
theorem dX6_number_66 : decode cX6_number 66 = .ok (.if_icmp .gt 26, 3) := by decide +kernel
theorem dX6_number_69 : decode cX6_number 69 = .ok (.bipush 10, 2) := by decide +kernel
theorem dX6_number_71 : decode cX6_number 71 = .ok (.iload_n 2, 1) := by decide +kernel
theorem dX6_number_72 : decode cX6_number 72 = .ok (.imul, 1) := by decide +kernel
theorem dX6_number_73 : decode cX6_number 73 = .ok (.aload_n 0, 1) := by decide +kernel
theorem dX6_number_74 : decode cX6_number 74 = .ok (.invokevirtual 139, 3) := by decide +kernel
theorem dX6_number_77 : decode cX6_number 77 = .ok (.iadd, 1) := by decide +kernel
theorem dX6_number_78 : decode cX6_number 78 = .ok (.bipush 48, 2) := by decide +kernel
theorem dX6_number_80 : decode cX6_number 80 = .ok (.isub, 1) := by decide +kernel
theorem dX6_number_81 : decode cX6_number 81 = .ok (.istore_n 2, 1) := by decide +kernel
theorem dX6_number_82 : decode cX6_number 82 = .ok (.aload_n 0, 1) := by decide +kernel
theorem dX6_number_83 : decode cX6_number 83 = .ok (.dup, 1) := by decide +kernel
theorem dX6_number_84 : decode cX6_number 84 = .ok (.getfield 136, 3) := by decide +kernel
theorem dX6_number_87 : decode cX6_number 87 = .ok (.iconst 1, 1) := by decide +kernel
theorem dX6_number_88 : decode cX6_number 88 = .ok (.iadd, 1) := by decide +kernel
theorem dX6_number_89 : decode cX6_number 89 = .ok (.putfield 136, 3) := by decide +kernel
theorem dX6_number_92 : decode cX6_number 92 = .ok (.iload_n 2, 1) := by decide +kernel
theorem dX6_number_93 : decode cX6_number 93 = .ok (.ireturn, 1) := by decide +kernel
set_option maxRecDepth 20000 in
theorem ggX6_takes_X6_here : GoodIn wsX6_takes wsX6_here := goodIn_r _ [6, 1, 7, 8, 9, 10, 11, 12, 13, 14, 15, 16, 17, 18, 19, 20, 21, 22, 23] (by decide +kernel) (by decide +kernel)
set_option maxRecDepth 20000 in
theorem gX6_takes_X6_here : GoodIn wsX6_takes (wsV RX6 139 RX6 yX6_here wsX6_here) := goodIn_app (goodIn_of _ (by decide +kernel)) ggX6_takes_X6_here
theorem dX6_takes_0 : decode cX6_takes 0 = .ok (.aload_n 0, 1) := by decide +kernel
theorem dX6_takes_1 : decode cX6_takes 1 = .ok (.invokevirtual 139, 3) := by decide +kernel
theorem dX6_takes_4 : decode cX6_takes 4 = .ok (.iload_n 1, 1) := by decide +kernel
theorem dX6_takes_5 : decode cX6_takes 5 = .ok (.if_icmp .ne 7, 3) := by decide +kernel
theorem dX6_takes_8 : decode cX6_takes 8 = .ok (.iconst 1, 1) := by decide +kernel
theorem dX6_takes_9 : decode cX6_takes 9 = .ok (.goto 4, 3) := by decide +kernel
theorem dX6_takes_12 : decode cX6_takes 12 = .ok (.iconst 0, 1) := by decide +kernel
theorem dX6_takes_13 : decode cX6_takes 13 = .ok (.istore_n 2, 1) := by decide +kernel
theorem dX6_takes_14 : decode cX6_takes 14 = .ok (.aload_n 0, 1) := by decide +kernel
theorem dX6_takes_15 : decode cX6_takes 15 = .ok (.dup, 1) := by decide +kernel
theorem dX6_takes_16 : decode cX6_takes 16 = .ok (.getfield 136, 3) := by decide +kernel
theorem dX6_takes_19 : decode cX6_takes 19 = .ok (.iload_n 2, 1) := by decide +kernel
theorem dX6_takes_20 : decode cX6_takes 20 = .ok (.ifCond .eq 7, 3) := by decide +kernel
theorem dX6_takes_23 : decode cX6_takes 23 = .ok (.iconst 1, 1) := by decide +kernel
theorem dX6_takes_24 : decode cX6_takes 24 = .ok (.goto 4, 3) := by decide +kernel
theorem dX6_takes_27 : decode cX6_takes 27 = .ok (.iconst 0, 1) := by decide +kernel
theorem dX6_takes_28 : decode cX6_takes 28 = .ok (.iadd, 1) := by decide +kernel
theorem dX6_takes_29 : decode cX6_takes 29 = .ok (.putfield 136, 3) := by decide +kernel
theorem dX6_takes_32 : decode cX6_takes 32 = .ok (.iload_n 2, 1) := by decide +kernel
theorem dX6_takes_33 : decode cX6_takes 33 = .ok (.ireturn, 1) := by decide +kernel
set_option maxRecDepth 20000 in
theorem ggX6_takesNote_X6_number : GoodIn wsX6_takesNote wsX6_number := goodIn_r _ [9, 10, 11, 12, 13, 8, 14, 15, 16, 17, 18, 19, 24, 25, 26, 27, 28, 29, 30, 31, 32, 33, 34, 35, 36, 37, 38] (by decide +kernel) (by decide +kernel)
set_option maxRecDepth 20000 in
theorem gX6_takesNote_X6_number : GoodIn wsX6_takesNote (wsV RX6 142 RX6 yX6_number wsX6_number) := goodIn_app (goodIn_of _ (by decide +kernel)) ggX6_takesNote_X6_number
set_option maxRecDepth 20000 in
theorem ggX6_takesNote_X6_takes : GoodIn wsX6_takesNote wsX6_takes := goodIn_r _ [23, 10, 11, 12, 13, 8, 14, 15, 16, 24, 25, 26, 27, 28, 29, 30, 31, 32, 33, 34, 35, 36, 37, 38] (by decide +kernel) (by decide +kernel)
set_option maxRecDepth 20000 in
theorem gX6_takesNote_X6_takes : GoodIn wsX6_takesNote (wsV RX6 145 RX6 yX6_takes wsX6_takes) := goodIn_app (goodIn_of _ (by decide +kernel)) ggX6_takesNote_X6_takes
theorem dX6_takesNote_0 : decode cX6_takesNote 0 = .ok (.aload_n 0, 1) := by decide +kernel
theorem dX6_takesNote_1 : decode cX6_takesNote 1 = .ok (.bipush 29, 2) := by decide +kernel
theorem dX6_takesNote_3 : decode cX6_takesNote 3 = .ok (.invokevirtual 142, 3) := by decide +kernel
theorem dX6_takesNote_6 : decode cX6_takesNote 6 = .ok (.istore_n 1, 1) := by decide +kernel
theorem dX6_takesNote_7 : decode cX6_takesNote 7 = .ok (.iload_n 1, 1) := by decide +kernel
theorem dX6_takesNote_8 : decode cX6_takesNote 8 = .ok (.bipush (-5), 2) := by decide +kernel
theorem dX6_takesNote_10 : decode cX6_takesNote 10 = .ok (.if_icmp .eq 12, 3) := by decide +kernel
theorem dX6_takesNote_13 : decode cX6_takesNote 13 = .ok (.aload_n 0, 1) := by decide +kernel
theorem dX6_takesNote_14 : decode cX6_takesNote 14 = .ok (.bipush 44, 2) := by decide +kernel
theorem dX6_takesNote_16 : decode cX6_takesNote 16 = .ok (.invokevirtual 145, 3) := by decide +kernel
theorem dX6_takesNote_19 : decode cX6_takesNote 19 = .ok (.ifCond .ne 5, 3) := by decide +kernel
theorem dX6_takesNote_22 : decode cX6_takesNote 22 = .ok (.iconst 0, 1) := by decide +kernel
theorem dX6_takesNote_23 : decode cX6_takesNote 23 = .ok (.ireturn, 1) := by decide +kernel
theorem dX6_takesNote_24 : decode cX6_takesNote 24 = .ok (.aload_n 0, 1) := by decide +kernel
theorem dX6_takesNote_25 : decode cX6_takesNote 25 = .ok (.bipush 19, 2) := by decide +kernel
theorem dX6_takesNote_27 : decode cX6_takesNote 27 = .ok (.invokevirtual 142, 3) := by decide +kernel
theorem dX6_takesNote_30 : decode cX6_takesNote 30 = .ok (.istore_n 2, 1) := by decide +kernel
theorem dX6_takesNote_31 : decode cX6_takesNote 31 = .ok (.iload_n 2, 1) := by decide +kernel
theorem dX6_takesNote_32 : decode cX6_takesNote 32 = .ok (.bipush (-5), 2) := by decide +kernel
theorem dX6_takesNote_34 : decode cX6_takesNote 34 = .ok (.if_icmp .ne 5, 3) := by decide +kernel
theorem dX6_takesNote_37 : decode cX6_takesNote 37 = .ok (.iconst 0, 1) := by decide +kernel
theorem dX6_takesNote_38 : decode cX6_takesNote 38 = .ok (.ireturn, 1) := by decide +kernel
theorem dX6_takesNote_39 : decode cX6_takesNote 39 = .ok (.iconst 0, 1) := by decide +kernel
theorem dX6_takesNote_40 : decode cX6_takesNote 40 = .ok (.istore_n 3, 1) := by decide +kernel
theorem dX6_takesNote_41 : decode cX6_takesNote 41 = .ok (.iload_n 3, 1) := by decide +kernel
theorem dX6_takesNote_42 : decode cX6_takesNote 42 = .ok (.aload_n 0, 1) := by decide +kernel
theorem dX6_takesNote_43 : decode cX6_takesNote 43 = .ok (.getfield 7, 3) := by decide +kernel
theorem dX6_takesNote_46 : decode cX6_takesNote 46 = .ok (.iconst 4, 1) := by decide +kernel
theorem dX6_takesNote_47 : decode cX6_takesNote 47 = .ok (.iaload, 1) := by decide +kernel
theorem dX6_takesNote_48 : decode cX6_takesNote 48 = .ok (.if_icmp .ge 41, 3) := by decide +kernel
theorem dX6_takesNote_51 : decode cX6_takesNote 51 = .ok (.aload_n 0, 1) := by decide +kernel
theorem dX6_takesNote_52 : decode cX6_takesNote 52 = .ok (.getfield 148, 3) := by decide +kernel
theorem dX6_takesNote_55 : decode cX6_takesNote 55 = .ok (.aload_n 0, 1) := by decide +kernel
theorem dX6_takesNote_56 : decode cX6_takesNote 56 = .ok (.getfield 7, 3) := by decide +kernel
theorem dX6_takesNote_59 : decode cX6_takesNote 59 = .ok (.iconst 3, 1) := by decide +kernel
theorem dX6_takesNote_60 : decode cX6_takesNote 60 = .ok (.iaload, 1) := by decide +kernel
theorem dX6_takesNote_61 : decode cX6_takesNote 61 = .ok (.if_icmp .ge 28, 3) := by decide +kernel
theorem dX6_takesNote_64 : decode cX6_takesNote 64 = .ok (.aload_n 0, 1) := by decide +kernel
theorem dX6_takesNote_65 : decode cX6_takesNote 65 = .ok (.bipush 42, 2) := by decide +kernel
theorem dX6_takesNote_67 : decode cX6_takesNote 67 = .ok (.invokevirtual 145, 3) := by decide +kernel
theorem dX6_takesNote_70 : decode cX6_takesNote 70 = .ok (.ifCond .eq 19, 3) := by decide +kernel
theorem dX6_takesNote_73 : decode cX6_takesNote 73 = .ok (.iinc 3 1, 3) := by decide +kernel
theorem dX6_takesNote_76 : decode cX6_takesNote 76 = .ok (.aload_n 0, 1) := by decide +kernel
theorem dX6_takesNote_77 : decode cX6_takesNote 77 = .ok (.dup, 1) := by decide +kernel
theorem dX6_takesNote_78 : decode cX6_takesNote 78 = .ok (.getfield 148, 3) := by decide +kernel
theorem dX6_takesNote_81 : decode cX6_takesNote 81 = .ok (.iconst 1, 1) := by decide +kernel
theorem dX6_takesNote_82 : decode cX6_takesNote 82 = .ok (.iadd, 1) := by decide +kernel
theorem dX6_takesNote_83 : decode cX6_takesNote 83 = .ok (.putfield 148, 3) := by decide +kernel
theorem dX6_takesNote_86 : decode cX6_takesNote 86 = .ok (.goto (-45), 3) := by decide +kernel
theorem dX6_takesNote_89 : decode cX6_takesNote 89 = .ok (.aload_n 0, 1) := by decide +kernel
theorem dX6_takesNote_90 : decode cX6_takesNote 90 = .ok (.getfield 29, 3) := by decide +kernel
theorem dX6_takesNote_93 : decode cX6_takesNote 93 = .ok (.iconst 3, 1) := by decide +kernel
theorem dX6_takesNote_94 : decode cX6_takesNote 94 = .ok (.aload_n 0, 1) := by decide +kernel
theorem dX6_takesNote_95 : decode cX6_takesNote 95 = .ok (.getfield 151, 3) := by decide +kernel
theorem dX6_takesNote_98 : decode cX6_takesNote 98 = .ok (.imul, 1) := by decide +kernel
theorem dX6_takesNote_99 : decode cX6_takesNote 99 = .ok (.iload_n 1, 1) := by decide +kernel
theorem dX6_takesNote_100 : decode cX6_takesNote 100 = .ok (.iastore, 1) := by decide +kernel
theorem dX6_takesNote_101 : decode cX6_takesNote 101 = .ok (.aload_n 0, 1) := by decide +kernel
theorem dX6_takesNote_102 : decode cX6_takesNote 102 = .ok (.getfield 29, 3) := by decide +kernel
theorem dX6_takesNote_105 : decode cX6_takesNote 105 = .ok (.iconst 3, 1) := by decide +kernel
theorem dX6_takesNote_106 : decode cX6_takesNote 106 = .ok (.aload_n 0, 1) := by decide +kernel
theorem dX6_takesNote_107 : decode cX6_takesNote 107 = .ok (.getfield 151, 3) := by decide +kernel
theorem dX6_takesNote_110 : decode cX6_takesNote 110 = .ok (.imul, 1) := by decide +kernel
theorem dX6_takesNote_111 : decode cX6_takesNote 111 = .ok (.iconst 1, 1) := by decide +kernel
theorem dX6_takesNote_112 : decode cX6_takesNote 112 = .ok (.iadd, 1) := by decide +kernel
theorem dX6_takesNote_113 : decode cX6_takesNote 113 = .ok (.iload_n 2, 1) := by decide +kernel
theorem dX6_takesNote_114 : decode cX6_takesNote 114 = .ok (.iastore, 1) := by decide +kernel
theorem dX6_takesNote_115 : decode cX6_takesNote 115 = .ok (.aload_n 0, 1) := by decide +kernel
theorem dX6_takesNote_116 : decode cX6_takesNote 116 = .ok (.getfield 29, 3) := by decide +kernel
theorem dX6_takesNote_119 : decode cX6_takesNote 119 = .ok (.iconst 3, 1) := by decide +kernel
theorem dX6_takesNote_120 : decode cX6_takesNote 120 = .ok (.aload_n 0, 1) := by decide +kernel
theorem dX6_takesNote_121 : decode cX6_takesNote 121 = .ok (.getfield 151, 3) := by decide +kernel
theorem dX6_takesNote_124 : decode cX6_takesNote 124 = .ok (.imul, 1) := by decide +kernel
theorem dX6_takesNote_125 : decode cX6_takesNote 125 = .ok (.iconst 2, 1) := by decide +kernel
theorem dX6_takesNote_126 : decode cX6_takesNote 126 = .ok (.iadd, 1) := by decide +kernel
theorem dX6_takesNote_127 : decode cX6_takesNote 127 = .ok (.iload_n 3, 1) := by decide +kernel
theorem dX6_takesNote_128 : decode cX6_takesNote 128 = .ok (.iastore, 1) := by decide +kernel
theorem dX6_takesNote_129 : decode cX6_takesNote 129 = .ok (.aload_n 0, 1) := by decide +kernel
theorem dX6_takesNote_130 : decode cX6_takesNote 130 = .ok (.dup, 1) := by decide +kernel
theorem dX6_takesNote_131 : decode cX6_takesNote 131 = .ok (.getfield 151, 3) := by decide +kernel
theorem dX6_takesNote_134 : decode cX6_takesNote 134 = .ok (.iconst 1, 1) := by decide +kernel
theorem dX6_takesNote_135 : decode cX6_takesNote 135 = .ok (.iadd, 1) := by decide +kernel
theorem dX6_takesNote_136 : decode cX6_takesNote 136 = .ok (.putfield 151, 3) := by decide +kernel
theorem dX6_takesNote_139 : decode cX6_takesNote 139 = .ok (.iconst 1, 1) := by decide +kernel
theorem dX6_takesNote_140 : decode cX6_takesNote 140 = .ok (.ireturn, 1) := by decide +kernel
set_option maxRecDepth 20000 in
theorem ggX6_isBoard_X6_takesNote : GoodIn wsX6_isBoard wsX6_takesNote := goodIn_r _ [9, 10, 3, 11, 2, 12, 13, 14, 8, 15, 1, 16, 17, 18, 19, 4, 20, 21, 22, 23, 24, 25, 26, 27, 28, 29, 30, 31, 32, 33, 34, 35, 36, 37, 38, 39, 40, 41, 42] (by decide +kernel) (by decide +kernel)
set_option maxRecDepth 20000 in
theorem gX6_isBoard_X6_takesNote : GoodIn wsX6_isBoard (wsV RX6 154 RX6 yX6_takesNote wsX6_takesNote) := goodIn_app (goodIn_of _ (by decide +kernel)) ggX6_isBoard_X6_takesNote
set_option maxRecDepth 20000 in
theorem ggX6_isBoard_X6_takes : GoodIn wsX6_isBoard wsX6_takes := goodIn_r _ [27, 1, 16, 17, 18, 8, 19, 4, 20, 28, 29, 30, 31, 32, 33, 34, 35, 36, 37, 38, 39, 40, 41, 42] (by decide +kernel) (by decide +kernel)
set_option maxRecDepth 20000 in
theorem gX6_isBoard_X6_takes : GoodIn wsX6_isBoard (wsV RX6 145 RX6 yX6_takes wsX6_takes) := goodIn_app (goodIn_of _ (by decide +kernel)) ggX6_isBoard_X6_takes
theorem dX6_isBoard_0 : decode cX6_isBoard 0 = .ok (.aload_n 0, 1) := by decide +kernel
theorem dX6_isBoard_1 : decode cX6_isBoard 1 = .ok (.iconst 0, 1) := by decide +kernel
theorem dX6_isBoard_2 : decode cX6_isBoard 2 = .ok (.putfield 136, 3) := by decide +kernel
theorem dX6_isBoard_5 : decode cX6_isBoard 5 = .ok (.aload_n 0, 1) := by decide +kernel
theorem dX6_isBoard_6 : decode cX6_isBoard 6 = .ok (.iconst 0, 1) := by decide +kernel
theorem dX6_isBoard_7 : decode cX6_isBoard 7 = .ok (.putfield 151, 3) := by decide +kernel
theorem dX6_isBoard_10 : decode cX6_isBoard 10 = .ok (.aload_n 0, 1) := by decide +kernel
theorem dX6_isBoard_11 : decode cX6_isBoard 11 = .ok (.iconst 0, 1) := by decide +kernel
theorem dX6_isBoard_12 : decode cX6_isBoard 12 = .ok (.putfield 148, 3) := by decide +kernel
theorem dX6_isBoard_15 : decode cX6_isBoard 15 = .ok (.aload_n 0, 1) := by decide +kernel
theorem dX6_isBoard_16 : decode cX6_isBoard 16 = .ok (.invokevirtual 154, 3) := by decide +kernel
theorem dX6_isBoard_19 : decode cX6_isBoard 19 = .ok (.istore_n 1, 1) := by decide +kernel
theorem dX6_isBoard_20 : decode cX6_isBoard 20 = .ok (.iload_n 1, 1) := by decide +kernel
theorem dX6_isBoard_21 : decode cX6_isBoard 21 = .ok (.ifCond .eq 39, 3) := by decide +kernel
theorem dX6_isBoard_24 : decode cX6_isBoard 24 = .ok (.aload_n 0, 1) := by decide +kernel
theorem dX6_isBoard_25 : decode cX6_isBoard 25 = .ok (.getfield 136, 3) := by decide +kernel
theorem dX6_isBoard_28 : decode cX6_isBoard 28 = .ok (.aload_n 0, 1) := by decide +kernel
theorem dX6_isBoard_29 : decode cX6_isBoard 29 = .ok (.getfield 133, 3) := by decide +kernel
theorem dX6_isBoard_32 : decode cX6_isBoard 32 = .ok (.if_icmp .ge 28, 3) := by decide +kernel
theorem dX6_isBoard_35 : decode cX6_isBoard 35 = .ok (.aload_n 0, 1) := by decide +kernel
theorem dX6_isBoard_36 : decode cX6_isBoard 36 = .ok (.bipush 59, 2) := by decide +kernel
theorem dX6_isBoard_38 : decode cX6_isBoard 38 = .ok (.invokevirtual 145, 3) := by decide +kernel
theorem dX6_isBoard_41 : decode cX6_isBoard 41 = .ok (.ifCond .eq 14, 3) := by decide +kernel
theorem dX6_isBoard_44 : decode cX6_isBoard 44 = .ok (.aload_n 0, 1) := by decide +kernel
theorem dX6_isBoard_45 : decode cX6_isBoard 45 = .ok (.invokevirtual 154, 3) := by decide +kernel
theorem dX6_isBoard_48 : decode cX6_isBoard 48 = .ok (.ifCond .eq 7, 3) := by decide +kernel
theorem dX6_isBoard_51 : decode cX6_isBoard 51 = .ok (.iconst 1, 1) := by decide +kernel
theorem dX6_isBoard_52 : decode cX6_isBoard 52 = .ok (.goto 4, 3) := by decide +kernel
theorem dX6_isBoard_55 : decode cX6_isBoard 55 = .ok (.iconst 0, 1) := by decide +kernel
theorem dX6_isBoard_56 : decode cX6_isBoard 56 = .ok (.istore_n 1, 1) := by decide +kernel
theorem dX6_isBoard_57 : decode cX6_isBoard 57 = .ok (.goto (-37), 3) := by decide +kernel
theorem dX6_isBoard_60 : decode cX6_isBoard 60 = .ok (.iload_n 1, 1) := by decide +kernel
theorem dX6_isBoard_61 : decode cX6_isBoard 61 = .ok (.ireturn, 1) := by decide +kernel
set_option maxRecDepth 20000 in
theorem ggX6_load_X6_isBoard : GoodIn wsX6_load wsX6_isBoard := goodIn_r _ [9, 1, 2, 10, 11, 12, 13, 14, 8, 15, 3, 4, 16, 17, 18, 19, 20, 21, 22, 23, 24, 25, 26, 27, 28, 29, 30, 31, 49, 50, 51, 52, 53, 54, 55, 56, 57, 58, 59, 60, 61, 62, 63] (by decide +kernel) (by decide +kernel)
set_option maxRecDepth 20000 in
theorem gX6_load_X6_isBoard : GoodIn wsX6_load (wsV RX6 158 RX6 yX6_isBoard wsX6_isBoard) := goodIn_app (goodIn_of _ (by decide +kernel)) ggX6_load_X6_isBoard
set_option maxRecDepth 20000 in
theorem ggX6_load_X6_records : GoodIn wsX6_load wsX6_records := goodIn_r _ [35, 36, 37, 3, 38, 39, 8, 40, 49, 50, 51, 52, 53, 54, 55, 56, 57, 58, 59, 60, 61, 62, 63] (by decide +kernel) (by decide +kernel)
set_option maxRecDepth 20000 in
theorem gX6_load_X6_records : GoodIn wsX6_load (wsV RX6 92 RX6 yX6_records wsX6_records) := goodIn_app (goodIn_of _ (by decide +kernel)) ggX6_load_X6_records
set_option maxRecDepth 20000 in
theorem ggX6_load_X6_adds : GoodIn wsX6_load wsX6_adds := goodIn_r _ [44, 3, 45, 46, 47, 8, 48, 49, 50, 51, 52, 53, 54, 55, 56, 57, 58, 59, 60, 61, 62, 63] (by decide +kernel) (by decide +kernel)
set_option maxRecDepth 20000 in
theorem gX6_load_X6_adds : GoodIn wsX6_load (wsV RX6 95 RX6 yX6_adds wsX6_adds) := goodIn_app (goodIn_of _ (by decide +kernel)) ggX6_load_X6_adds
set_option maxRecDepth 20000 in
theorem ggX6_load_X6_lays : GoodIn wsX6_load wsX6_lays := goodIn_r _ [48, 3, 49, 50, 51, 52, 53, 54, 55, 56, 57, 58, 59, 60, 61, 62, 63] (by decide +kernel) (by decide +kernel)
set_option maxRecDepth 20000 in
theorem gX6_load_X6_lays : GoodIn wsX6_load (wsV RX6 71 RX6 yX6_lays wsX6_lays) := goodIn_app (goodIn_of _ (by decide +kernel)) ggX6_load_X6_lays
theorem dX6_load_0 : decode cX6_load 0 = .ok (.aload_n 0, 1) := by decide +kernel
theorem dX6_load_1 : decode cX6_load 1 = .ok (.invokevirtual 158, 3) := by decide +kernel
theorem dX6_load_4 : decode cX6_load 4 = .ok (.ifCond .ne 11, 3) := by decide +kernel
theorem dX6_load_7 : decode cX6_load 7 = .ok (.bipush (-100), 2) := by decide +kernel
theorem dX6_load_9 : decode cX6_load 9 = .ok (.aload_n 0, 1) := by decide +kernel
theorem dX6_load_10 : decode cX6_load 10 = .ok (.getfield 136, 3) := by decide +kernel
theorem dX6_load_13 : decode cX6_load 13 = .ok (.isub, 1) := by decide +kernel
theorem dX6_load_14 : decode cX6_load 14 = .ok (.ireturn, 1) := by decide +kernel
theorem dX6_load_15 : decode cX6_load 15 = .ok (.aload_n 0, 1) := by decide +kernel
theorem dX6_load_16 : decode cX6_load 16 = .ok (.getfield 151, 3) := by decide +kernel
theorem dX6_load_19 : decode cX6_load 19 = .ok (.bipush 20, 2) := by decide +kernel
theorem dX6_load_21 : decode cX6_load 21 = .ok (.if_icmp .le 6, 3) := by decide +kernel
theorem dX6_load_24 : decode cX6_load 24 = .ok (.bipush (-3), 2) := by decide +kernel
theorem dX6_load_26 : decode cX6_load 26 = .ok (.ireturn, 1) := by decide +kernel
theorem dX6_load_27 : decode cX6_load 27 = .ok (.aload_n 0, 1) := by decide +kernel
theorem dX6_load_28 : decode cX6_load 28 = .ok (.invokevirtual 92, 3) := by decide +kernel
theorem dX6_load_31 : decode cX6_load 31 = .ok (.iconst 5, 1) := by decide +kernel
theorem dX6_load_32 : decode cX6_load 32 = .ok (.istore_n 1, 1) := by decide +kernel
theorem dX6_load_33 : decode cX6_load 33 = .ok (.iload_n 1, 1) := by decide +kernel
theorem dX6_load_34 : decode cX6_load 34 = .ok (.sipush 233, 3) := by decide +kernel
theorem dX6_load_37 : decode cX6_load 37 = .ok (.if_icmp .ge 16, 3) := by decide +kernel
theorem dX6_load_40 : decode cX6_load 40 = .ok (.aload_n 0, 1) := by decide +kernel
theorem dX6_load_41 : decode cX6_load 41 = .ok (.getfield 7, 3) := by decide +kernel
theorem dX6_load_44 : decode cX6_load 44 = .ok (.iload_n 1, 1) := by decide +kernel
theorem dX6_load_45 : decode cX6_load 45 = .ok (.iconst 0, 1) := by decide +kernel
theorem dX6_load_46 : decode cX6_load 46 = .ok (.iastore, 1) := by decide +kernel
theorem dX6_load_47 : decode cX6_load 47 = .ok (.iinc 1 1, 3) := by decide +kernel
theorem dX6_load_50 : decode cX6_load 50 = .ok (.goto (-17), 3) := by decide +kernel
theorem dX6_load_53 : decode cX6_load 53 = .ok (.aload_n 0, 1) := by decide +kernel
theorem dX6_load_54 : decode cX6_load 54 = .ok (.getfield 7, 3) := by decide +kernel
theorem dX6_load_57 : decode cX6_load 57 = .ok (.iconst 0, 1) := by decide +kernel
theorem dX6_load_58 : decode cX6_load 58 = .ok (.iconst 0, 1) := by decide +kernel
theorem dX6_load_59 : decode cX6_load 59 = .ok (.iastore, 1) := by decide +kernel
theorem dX6_load_60 : decode cX6_load 60 = .ok (.aload_n 0, 1) := by decide +kernel
theorem dX6_load_61 : decode cX6_load 61 = .ok (.getfield 7, 3) := by decide +kernel
theorem dX6_load_64 : decode cX6_load 64 = .ok (.iconst 1, 1) := by decide +kernel
theorem dX6_load_65 : decode cX6_load 65 = .ok (.iconst 0, 1) := by decide +kernel
theorem dX6_load_66 : decode cX6_load 66 = .ok (.iastore, 1) := by decide +kernel
theorem dX6_load_67 : decode cX6_load 67 = .ok (.iconst 0, 1) := by decide +kernel
theorem dX6_load_68 : decode cX6_load 68 = .ok (.istore_n 1, 1) := by decide +kernel
theorem dX6_load_69 : decode cX6_load 69 = .ok (.iload_n 1, 1) := by decide +kernel
theorem dX6_load_70 : decode cX6_load 70 = .ok (.aload_n 0, 1) := by decide +kernel
theorem dX6_load_71 : decode cX6_load 71 = .ok (.getfield 151, 3) := by decide +kernel
theorem dX6_load_74 : decode cX6_load 74 = .ok (.if_icmp .ge 48, 3) := by decide +kernel
theorem dX6_load_77 : decode cX6_load 77 = .ok (.aload_n 0, 1) := by decide +kernel
theorem dX6_load_78 : decode cX6_load 78 = .ok (.aload_n 0, 1) := by decide +kernel
theorem dX6_load_79 : decode cX6_load 79 = .ok (.getfield 29, 3) := by decide +kernel
theorem dX6_load_82 : decode cX6_load 82 = .ok (.iconst 3, 1) := by decide +kernel
theorem dX6_load_83 : decode cX6_load 83 = .ok (.iload_n 1, 1) := by decide +kernel
theorem dX6_load_84 : decode cX6_load 84 = .ok (.imul, 1) := by decide +kernel
theorem dX6_load_85 : decode cX6_load 85 = .ok (.iaload, 1) := by decide +kernel
theorem dX6_load_86 : decode cX6_load 86 = .ok (.aload_n 0, 1) := by decide +kernel
theorem dX6_load_87 : decode cX6_load 87 = .ok (.getfield 29, 3) := by decide +kernel
theorem dX6_load_90 : decode cX6_load 90 = .ok (.iconst 3, 1) := by decide +kernel
theorem dX6_load_91 : decode cX6_load 91 = .ok (.iload_n 1, 1) := by decide +kernel
theorem dX6_load_92 : decode cX6_load 92 = .ok (.imul, 1) := by decide +kernel
theorem dX6_load_93 : decode cX6_load 93 = .ok (.iconst 1, 1) := by decide +kernel
theorem dX6_load_94 : decode cX6_load 94 = .ok (.iadd, 1) := by decide +kernel
theorem dX6_load_95 : decode cX6_load 95 = .ok (.iaload, 1) := by decide +kernel
theorem dX6_load_96 : decode cX6_load 96 = .ok (.invokevirtual 95, 3) := by decide +kernel
theorem dX6_load_99 : decode cX6_load 99 = .ok (.istore_n 2, 1) := by decide +kernel
theorem dX6_load_100 : decode cX6_load 100 = .ok (.aload_n 0, 1) := by decide +kernel
theorem dX6_load_101 : decode cX6_load 101 = .ok (.iload_n 2, 1) := by decide +kernel
theorem dX6_load_102 : decode cX6_load 102 = .ok (.iconst 3, 1) := by decide +kernel
theorem dX6_load_103 : decode cX6_load 103 = .ok (.aload_n 0, 1) := by decide +kernel
theorem dX6_load_104 : decode cX6_load 104 = .ok (.getfield 29, 3) := by decide +kernel
theorem dX6_load_107 : decode cX6_load 107 = .ok (.iconst 3, 1) := by decide +kernel
theorem dX6_load_108 : decode cX6_load 108 = .ok (.iload_n 1, 1) := by decide +kernel
theorem dX6_load_109 : decode cX6_load 109 = .ok (.imul, 1) := by decide +kernel
theorem dX6_load_110 : decode cX6_load 110 = .ok (.iconst 2, 1) := by decide +kernel
theorem dX6_load_111 : decode cX6_load 111 = .ok (.iadd, 1) := by decide +kernel
theorem dX6_load_112 : decode cX6_load 112 = .ok (.iaload, 1) := by decide +kernel
theorem dX6_load_113 : decode cX6_load 113 = .ok (.invokevirtual 71, 3) := by decide +kernel
theorem dX6_load_116 : decode cX6_load 116 = .ok (.iinc 1 1, 3) := by decide +kernel
theorem dX6_load_119 : decode cX6_load 119 = .ok (.goto (-50), 3) := by decide +kernel
theorem dX6_load_122 : decode cX6_load 122 = .ok (.aload_n 0, 1) := by decide +kernel
theorem dX6_load_123 : decode cX6_load 123 = .ok (.getfield 7, 3) := by decide +kernel
theorem dX6_load_126 : decode cX6_load 126 = .ok (.iconst 0, 1) := by decide +kernel
theorem dX6_load_127 : decode cX6_load 127 = .ok (.iaload, 1) := by decide +kernel
theorem dX6_load_128 : decode cX6_load 128 = .ok (.ireturn, 1) := by decide +kernel
set_option maxRecDepth 20000 in
theorem ggX6_undo_X6_copies : GoodIn wsX6_undo wsX6_copies := goodIn_r _ [7] (by decide +kernel) (by decide +kernel)
set_option maxRecDepth 20000 in
theorem gX6_undo_X6_copies : GoodIn wsX6_undo (va_wsS RX6 39 yX6_copies wsX6_copies) := goodIn_app (goodIn_of _ (by decide +kernel)) ggX6_undo_X6_copies
theorem dX6_undo_0 : decode cX6_undo 0 = .ok (.aload_n 0, 1) := by decide +kernel
theorem dX6_undo_1 : decode cX6_undo 1 = .ok (.getfield 35, 3) := by decide +kernel
theorem dX6_undo_4 : decode cX6_undo 4 = .ok (.ifCond .ne 6, 3) := by decide +kernel
theorem dX6_undo_7 : decode cX6_undo 7 = .ok (.bipush (-5), 2) := by decide +kernel
theorem dX6_undo_9 : decode cX6_undo 9 = .ok (.ireturn, 1) := by decide +kernel
theorem dX6_undo_10 : decode cX6_undo 10 = .ok (.aload_n 0, 1) := by decide +kernel
theorem dX6_undo_11 : decode cX6_undo 11 = .ok (.dup, 1) := by decide +kernel
theorem dX6_undo_12 : decode cX6_undo 12 = .ok (.getfield 35, 3) := by decide +kernel
theorem dX6_undo_15 : decode cX6_undo 15 = .ok (.iconst 1, 1) := by decide +kernel
theorem dX6_undo_16 : decode cX6_undo 16 = .ok (.isub, 1) := by decide +kernel
theorem dX6_undo_17 : decode cX6_undo 17 = .ok (.putfield 35, 3) := by decide +kernel
theorem dX6_undo_20 : decode cX6_undo 20 = .ok (.aload_n 0, 1) := by decide +kernel
theorem dX6_undo_21 : decode cX6_undo 21 = .ok (.getfield 13, 3) := by decide +kernel
theorem dX6_undo_24 : decode cX6_undo 24 = .ok (.sipush 233, 3) := by decide +kernel
theorem dX6_undo_27 : decode cX6_undo 27 = .ok (.aload_n 0, 1) := by decide +kernel
theorem dX6_undo_28 : decode cX6_undo 28 = .ok (.getfield 35, 3) := by decide +kernel
theorem dX6_undo_31 : decode cX6_undo 31 = .ok (.imul, 1) := by decide +kernel
theorem dX6_undo_32 : decode cX6_undo 32 = .ok (.aload_n 0, 1) := by decide +kernel
theorem dX6_undo_33 : decode cX6_undo 33 = .ok (.getfield 7, 3) := by decide +kernel
theorem dX6_undo_36 : decode cX6_undo 36 = .ok (.iconst 0, 1) := by decide +kernel
theorem dX6_undo_37 : decode cX6_undo 37 = .ok (.invokestatic 39, 3) := by decide +kernel
theorem dX6_undo_40 : decode cX6_undo 40 = .ok (.aload_n 0, 1) := by decide +kernel
theorem dX6_undo_41 : decode cX6_undo 41 = .ok (.getfield 35, 3) := by decide +kernel
theorem dX6_undo_44 : decode cX6_undo 44 = .ok (.ireturn, 1) := by decide +kernel
set_option maxRecDepth 20000 in
theorem ggX6_keep_X6_copies : GoodIn wsX6_keep wsX6_copies := goodIn_r _ [7] (by decide +kernel) (by decide +kernel)
set_option maxRecDepth 20000 in
theorem gX6_keep_X6_copies : GoodIn wsX6_keep (va_wsS RX6 39 yX6_copies wsX6_copies) := goodIn_app (goodIn_of _ (by decide +kernel)) ggX6_keep_X6_copies
theorem dX6_keep_0 : decode cX6_keep 0 = .ok (.aload_n 0, 1) := by decide +kernel
theorem dX6_keep_1 : decode cX6_keep 1 = .ok (.getfield 7, 3) := by decide +kernel
theorem dX6_keep_4 : decode cX6_keep 4 = .ok (.iconst 0, 1) := by decide +kernel
theorem dX6_keep_5 : decode cX6_keep 5 = .ok (.aload_n 0, 1) := by decide +kernel
theorem dX6_keep_6 : decode cX6_keep 6 = .ok (.getfield 16, 3) := by decide +kernel
theorem dX6_keep_9 : decode cX6_keep 9 = .ok (.iconst 0, 1) := by decide +kernel
theorem dX6_keep_10 : decode cX6_keep 10 = .ok (.invokestatic 39, 3) := by decide +kernel
theorem dX6_keep_13 : decode cX6_keep 13 = .ok (.aload_n 0, 1) := by decide +kernel
theorem dX6_keep_14 : decode cX6_keep 14 = .ok (.iconst 1, 1) := by decide +kernel
theorem dX6_keep_15 : decode cX6_keep 15 = .ok (.putfield 161, 3) := by decide +kernel
theorem dX6_keep_18 : decode cX6_keep 18 = .ok (.aload_n 0, 1) := by decide +kernel
theorem dX6_keep_19 : decode cX6_keep 19 = .ok (.getfield 7, 3) := by decide +kernel
theorem dX6_keep_22 : decode cX6_keep 22 = .ok (.iconst 0, 1) := by decide +kernel
theorem dX6_keep_23 : decode cX6_keep 23 = .ok (.iaload, 1) := by decide +kernel
theorem dX6_keep_24 : decode cX6_keep 24 = .ok (.ireturn, 1) := by decide +kernel
set_option maxRecDepth 20000 in
theorem ggX6_restore_X6_records : GoodIn wsX6_restore wsX6_records := goodIn_r _ [8, 9, 10, 3, 11, 12, 7, 13, 14, 15, 16, 17, 18, 19, 20, 21, 22, 23, 24, 25, 26, 27, 28] (by decide +kernel) (by decide +kernel)
set_option maxRecDepth 20000 in
theorem gX6_restore_X6_records : GoodIn wsX6_restore (wsV RX6 92 RX6 yX6_records wsX6_records) := goodIn_app (goodIn_of _ (by decide +kernel)) ggX6_restore_X6_records
set_option maxRecDepth 20000 in
theorem ggX6_restore_X6_copies : GoodIn wsX6_restore wsX6_copies := goodIn_r _ [13] (by decide +kernel) (by decide +kernel)
set_option maxRecDepth 20000 in
theorem gX6_restore_X6_copies : GoodIn wsX6_restore (va_wsS RX6 39 yX6_copies wsX6_copies) := goodIn_app (goodIn_of _ (by decide +kernel)) ggX6_restore_X6_copies
theorem dX6_restore_0 : decode cX6_restore 0 = .ok (.aload_n 0, 1) := by decide +kernel
theorem dX6_restore_1 : decode cX6_restore 1 = .ok (.getfield 161, 3) := by decide +kernel
theorem dX6_restore_4 : decode cX6_restore 4 = .ok (.ifCond .ne 6, 3) := by decide +kernel
theorem dX6_restore_7 : decode cX6_restore 7 = .ok (.bipush (-5), 2) := by decide +kernel
theorem dX6_restore_9 : decode cX6_restore 9 = .ok (.ireturn, 1) := by decide +kernel
theorem dX6_restore_10 : decode cX6_restore 10 = .ok (.aload_n 0, 1) := by decide +kernel
theorem dX6_restore_11 : decode cX6_restore 11 = .ok (.invokevirtual 92, 3) := by decide +kernel
theorem dX6_restore_14 : decode cX6_restore 14 = .ok (.aload_n 0, 1) := by decide +kernel
theorem dX6_restore_15 : decode cX6_restore 15 = .ok (.getfield 16, 3) := by decide +kernel
theorem dX6_restore_18 : decode cX6_restore 18 = .ok (.iconst 0, 1) := by decide +kernel
theorem dX6_restore_19 : decode cX6_restore 19 = .ok (.aload_n 0, 1) := by decide +kernel
theorem dX6_restore_20 : decode cX6_restore 20 = .ok (.getfield 7, 3) := by decide +kernel
theorem dX6_restore_23 : decode cX6_restore 23 = .ok (.iconst 0, 1) := by decide +kernel
theorem dX6_restore_24 : decode cX6_restore 24 = .ok (.invokestatic 39, 3) := by decide +kernel
theorem dX6_restore_27 : decode cX6_restore 27 = .ok (.aload_n 0, 1) := by decide +kernel
theorem dX6_restore_28 : decode cX6_restore 28 = .ok (.getfield 7, 3) := by decide +kernel
theorem dX6_restore_31 : decode cX6_restore 31 = .ok (.iconst 0, 1) := by decide +kernel
theorem dX6_restore_32 : decode cX6_restore 32 = .ok (.iaload, 1) := by decide +kernel
theorem dX6_restore_33 : decode cX6_restore 33 = .ok (.ireturn, 1) := by decide +kernel
set_option maxRecDepth 20000 in
theorem ggX6_near_X6_distance : GoodIn wsX6_near wsX6_distance := goodIn_r _ [6, 7, 8, 9, 5, 10, 1, 11, 12, 13, 14, 15, 16, 17, 18, 19, 20, 21, 22, 23, 24, 25, 26, 27, 28] (by decide +kernel) (by decide +kernel)
set_option maxRecDepth 20000 in
theorem gX6_near_X6_distance : GoodIn wsX6_near (wsV RX6 58 RX6 yX6_distance wsX6_distance) := goodIn_app (goodIn_of _ (by decide +kernel)) ggX6_near_X6_distance
theorem dX6_near_0 : decode cX6_near 0 = .ok (.iconst 0, 1) := by decide +kernel
theorem dX6_near_1 : decode cX6_near 1 = .ok (.istore_n 2, 1) := by decide +kernel
theorem dX6_near_2 : decode cX6_near 2 = .ok (.iconst 0, 1) := by decide +kernel
theorem dX6_near_3 : decode cX6_near 3 = .ok (.istore_n 3, 1) := by decide +kernel
theorem dX6_near_4 : decode cX6_near 4 = .ok (.iload_n 3, 1) := by decide +kernel
theorem dX6_near_5 : decode cX6_near 5 = .ok (.aload_n 0, 1) := by decide +kernel
theorem dX6_near_6 : decode cX6_near 6 = .ok (.getfield 7, 3) := by decide +kernel
theorem dX6_near_9 : decode cX6_near 9 = .ok (.iconst 0, 1) := by decide +kernel
theorem dX6_near_10 : decode cX6_near 10 = .ok (.iaload, 1) := by decide +kernel
theorem dX6_near_11 : decode cX6_near 11 = .ok (.if_icmp .ge 37, 3) := by decide +kernel
theorem dX6_near_14 : decode cX6_near 14 = .ok (.iload_n 2, 1) := by decide +kernel
theorem dX6_near_15 : decode cX6_near 15 = .ok (.iload_n 3, 1) := by decide +kernel
theorem dX6_near_16 : decode cX6_near 16 = .ok (.iload_n 1, 1) := by decide +kernel
theorem dX6_near_17 : decode cX6_near 17 = .ok (.if_icmp .eq 22, 3) := by decide +kernel
theorem dX6_near_20 : decode cX6_near 20 = .ok (.aload_n 0, 1) := by decide +kernel
theorem dX6_near_21 : decode cX6_near 21 = .ok (.iload_n 3, 1) := by decide +kernel
theorem dX6_near_22 : decode cX6_near 22 = .ok (.iload_n 1, 1) := by decide +kernel
theorem dX6_near_23 : decode cX6_near 23 = .ok (.invokevirtual 58, 3) := by decide +kernel
theorem dX6_near_26 : decode cX6_near 26 = .ok (.aload_n 0, 1) := by decide +kernel
theorem dX6_near_27 : decode cX6_near 27 = .ok (.getfield 7, 3) := by decide +kernel
theorem dX6_near_30 : decode cX6_near 30 = .ok (.iconst 2, 1) := by decide +kernel
theorem dX6_near_31 : decode cX6_near 31 = .ok (.iaload, 1) := by decide +kernel
theorem dX6_near_32 : decode cX6_near 32 = .ok (.if_icmp .gt 7, 3) := by decide +kernel
theorem dX6_near_35 : decode cX6_near 35 = .ok (.iconst 1, 1) := by decide +kernel
theorem dX6_near_36 : decode cX6_near 36 = .ok (.goto 4, 3) := by decide +kernel
theorem dX6_near_39 : decode cX6_near 39 = .ok (.iconst 0, 1) := by decide +kernel
theorem dX6_near_40 : decode cX6_near 40 = .ok (.iadd, 1) := by decide +kernel
theorem dX6_near_41 : decode cX6_near 41 = .ok (.istore_n 2, 1) := by decide +kernel
theorem dX6_near_42 : decode cX6_near 42 = .ok (.iinc 3 1, 3) := by decide +kernel
theorem dX6_near_45 : decode cX6_near 45 = .ok (.goto (-41), 3) := by decide +kernel
theorem dX6_near_48 : decode cX6_near 48 = .ok (.iload_n 2, 1) := by decide +kernel
theorem dX6_near_49 : decode cX6_near 49 = .ok (.ireturn, 1) := by decide +kernel
set_option maxRecDepth 20000 in
theorem ggX6_holdsTogether_X6_laysNow : GoodIn wsX6_holdsTogether wsX6_laysNow := goodIn_r _ [7, 2, 8, 9, 10, 6, 11, 12, 1, 13, 14, 15, 16, 17, 18, 19, 20, 21, 22, 23, 24, 25, 26, 27, 28, 33, 34, 35, 36, 37, 38, 39, 40, 41, 42, 43, 44, 45, 46, 47] (by decide +kernel) (by decide +kernel)
set_option maxRecDepth 20000 in
theorem gX6_holdsTogether_X6_laysNow : GoodIn wsX6_holdsTogether (wsV RX6 111 RX6 yX6_laysNow wsX6_laysNow) := goodIn_app (goodIn_of _ (by decide +kernel)) ggX6_holdsTogether_X6_laysNow
set_option maxRecDepth 20000 in
theorem ggX6_holdsTogether_X6_notesIn : GoodIn wsX6_holdsTogether wsX6_notesIn := goodIn_r _ [32, 2, 1, 33, 34, 35, 36, 37, 38, 39, 40, 41, 42, 43, 44, 45, 46, 47] (by decide +kernel) (by decide +kernel)
set_option maxRecDepth 20000 in
theorem gX6_holdsTogether_X6_notesIn : GoodIn wsX6_holdsTogether (wsV RX6 165 RX6 yX6_notesIn wsX6_notesIn) := goodIn_app (goodIn_of _ (by decide +kernel)) ggX6_holdsTogether_X6_notesIn
set_option maxRecDepth 20000 in
theorem ggX6_holdsTogether_X6_laysHeaps : GoodIn wsX6_holdsTogether wsX6_laysHeaps := goodIn_r _ [11, 12, 1, 2, 13, 14, 15, 6, 16, 17, 18, 19, 20, 21, 22, 23, 24, 25, 26, 27, 28, 33, 34, 35, 36, 37, 38, 39, 40, 41, 42, 43, 44, 45, 46, 47] (by decide +kernel) (by decide +kernel)
set_option maxRecDepth 20000 in
theorem gX6_holdsTogether_X6_laysHeaps : GoodIn wsX6_holdsTogether (wsV RX6 65 RX6 yX6_laysHeaps wsX6_laysHeaps) := goodIn_app (goodIn_of _ (by decide +kernel)) ggX6_holdsTogether_X6_laysHeaps
theorem dX6_holdsTogether_0 : decode cX6_holdsTogether 0 = .ok (.aload_n 0, 1) := by decide +kernel
theorem dX6_holdsTogether_1 : decode cX6_holdsTogether 1 = .ok (.invokevirtual 111, 3) := by decide +kernel
theorem dX6_holdsTogether_4 : decode cX6_holdsTogether 4 = .ok (.istore_n 2, 1) := by decide +kernel
theorem dX6_holdsTogether_5 : decode cX6_holdsTogether 5 = .ok (.aload_n 0, 1) := by decide +kernel
theorem dX6_holdsTogether_6 : decode cX6_holdsTogether 6 = .ok (.aload_n 0, 1) := by decide +kernel
theorem dX6_holdsTogether_7 : decode cX6_holdsTogether 7 = .ok (.getfield 23, 3) := by decide +kernel
theorem dX6_holdsTogether_10 : decode cX6_holdsTogether 10 = .ok (.iload_n 1, 1) := by decide +kernel
theorem dX6_holdsTogether_11 : decode cX6_holdsTogether 11 = .ok (.iaload, 1) := by decide +kernel
theorem dX6_holdsTogether_12 : decode cX6_holdsTogether 12 = .ok (.invokevirtual 165, 3) := by decide +kernel
theorem dX6_holdsTogether_15 : decode cX6_holdsTogether 15 = .ok (.iconst 1, 1) := by decide +kernel
theorem dX6_holdsTogether_16 : decode cX6_holdsTogether 16 = .ok (.if_icmp .ne 7, 3) := by decide +kernel
theorem dX6_holdsTogether_19 : decode cX6_holdsTogether 19 = .ok (.iconst 1, 1) := by decide +kernel
theorem dX6_holdsTogether_20 : decode cX6_holdsTogether 20 = .ok (.goto 4, 3) := by decide +kernel
theorem dX6_holdsTogether_23 : decode cX6_holdsTogether 23 = .ok (.iconst 0, 1) := by decide +kernel
theorem dX6_holdsTogether_24 : decode cX6_holdsTogether 24 = .ok (.istore_n 3, 1) := by decide +kernel
theorem dX6_holdsTogether_25 : decode cX6_holdsTogether 25 = .ok (.aload_n 0, 1) := by decide +kernel
theorem dX6_holdsTogether_26 : decode cX6_holdsTogether 26 = .ok (.aload_n 0, 1) := by decide +kernel
theorem dX6_holdsTogether_27 : decode cX6_holdsTogether 27 = .ok (.getfield 7, 3) := by decide +kernel
theorem dX6_holdsTogether_30 : decode cX6_holdsTogether 30 = .ok (.iconst 2, 1) := by decide +kernel
theorem dX6_holdsTogether_31 : decode cX6_holdsTogether 31 = .ok (.iaload, 1) := by decide +kernel
theorem dX6_holdsTogether_32 : decode cX6_holdsTogether 32 = .ok (.iload_n 1, 1) := by decide +kernel
theorem dX6_holdsTogether_33 : decode cX6_holdsTogether 33 = .ok (.invokevirtual 65, 3) := by decide +kernel
theorem dX6_holdsTogether_36 : decode cX6_holdsTogether 36 = .ok (.istore 4, 2) := by decide +kernel
theorem dX6_holdsTogether_38 : decode cX6_holdsTogether 38 = .ok (.iload_n 3, 1) := by decide +kernel
theorem dX6_holdsTogether_39 : decode cX6_holdsTogether 39 = .ok (.ifCond .ne 13, 3) := by decide +kernel
theorem dX6_holdsTogether_42 : decode cX6_holdsTogether 42 = .ok (.iload 4, 2) := by decide +kernel
theorem dX6_holdsTogether_44 : decode cX6_holdsTogether 44 = .ok (.iload_n 2, 1) := by decide +kernel
theorem dX6_holdsTogether_45 : decode cX6_holdsTogether 45 = .ok (.if_icmp .le 7, 3) := by decide +kernel
theorem dX6_holdsTogether_48 : decode cX6_holdsTogether 48 = .ok (.iconst 1, 1) := by decide +kernel
theorem dX6_holdsTogether_49 : decode cX6_holdsTogether 49 = .ok (.goto 4, 3) := by decide +kernel
theorem dX6_holdsTogether_52 : decode cX6_holdsTogether 52 = .ok (.iconst 0, 1) := by decide +kernel
theorem dX6_holdsTogether_53 : decode cX6_holdsTogether 53 = .ok (.ireturn, 1) := by decide +kernel
set_option maxRecDepth 20000 in
theorem ggX6_heapNow_X6_laysNow : GoodIn wsX6_heapNow wsX6_laysNow := goodIn_r _ [6, 7, 8, 9, 10, 5, 11, 12, 1, 13, 14, 15, 16, 17, 18, 19, 20, 21, 22, 23, 24, 25, 26, 27, 28, 29, 30, 31, 32, 33, 34, 35, 36, 37, 38, 39, 40, 41, 42, 43] (by decide +kernel) (by decide +kernel)
set_option maxRecDepth 20000 in
theorem gX6_heapNow_X6_laysNow : GoodIn wsX6_heapNow (wsV RX6 111 RX6 yX6_laysNow wsX6_laysNow) := goodIn_app (goodIn_of _ (by decide +kernel)) ggX6_heapNow_X6_laysNow
theorem dX6_heapNow_0 : decode cX6_heapNow 0 = .ok (.aload_n 0, 1) := by decide +kernel
theorem dX6_heapNow_1 : decode cX6_heapNow 1 = .ok (.invokevirtual 111, 3) := by decide +kernel
theorem dX6_heapNow_4 : decode cX6_heapNow 4 = .ok (.istore_n 2, 1) := by decide +kernel
theorem dX6_heapNow_5 : decode cX6_heapNow 5 = .ok (.aload_n 0, 1) := by decide +kernel
theorem dX6_heapNow_6 : decode cX6_heapNow 6 = .ok (.getfield 23, 3) := by decide +kernel
theorem dX6_heapNow_9 : decode cX6_heapNow 9 = .ok (.iload_n 1, 1) := by decide +kernel
theorem dX6_heapNow_10 : decode cX6_heapNow 10 = .ok (.iaload, 1) := by decide +kernel
theorem dX6_heapNow_11 : decode cX6_heapNow 11 = .ok (.ireturn, 1) := by decide +kernel
set_option maxRecDepth 20000 in
theorem ggX6_note_X6_isNote : GoodIn wsX6_note wsX6_isNote := goodIn_r _ [5, 6, 7, 8, 4, 9, 60, 61, 62, 63, 64, 65, 66, 67, 68, 69, 70, 71, 72, 73, 74] (by decide +kernel) (by decide +kernel)
set_option maxRecDepth 20000 in
theorem gX6_note_X6_isNote : GoodIn wsX6_note (wsV RX6 98 RX6 yX6_isNote wsX6_isNote) := goodIn_app (goodIn_of _ (by decide +kernel)) ggX6_note_X6_isNote
set_option maxRecDepth 20000 in
theorem ggX6_note_X6_of : GoodIn wsX6_note wsX6_of := goodIn_r _ [13, 6, 60, 61, 62, 63, 64, 65, 66, 67, 68, 69, 70, 71, 72, 73, 74] (by decide +kernel) (by decide +kernel)
set_option maxRecDepth 20000 in
theorem gX6_note_X6_of : GoodIn wsX6_note (wsV RX6 47 RX6 yX6_of wsX6_of) := goodIn_app (goodIn_of _ (by decide +kernel)) ggX6_note_X6_of
set_option maxRecDepth 20000 in
theorem ggX6_note_X6_dotsOf : GoodIn wsX6_note wsX6_dotsOf := goodIn_r _ [17, 10, 11, 12, 4, 13, 6, 60, 61, 62, 63, 64, 65, 66, 67, 68, 69, 70, 71, 72, 73, 74] (by decide +kernel) (by decide +kernel)
set_option maxRecDepth 20000 in
theorem gX6_note_X6_dotsOf : GoodIn wsX6_note (wsV RX6 102 RX6 yX6_dotsOf wsX6_dotsOf) := goodIn_app (goodIn_of _ (by decide +kernel)) ggX6_note_X6_dotsOf
set_option maxRecDepth 20000 in
theorem ggX6_note_X6_heapNow : GoodIn wsX6_note wsX6_heapNow := goodIn_r _ [21, 22, 23, 24, 25, 4, 26, 6, 27, 28, 29, 30, 31, 32, 33, 34, 35, 36, 37, 38, 39, 40, 10, 11, 12, 13, 41, 42, 43, 60, 61, 62, 63, 64, 65, 66, 67, 68, 69, 70, 71, 72, 73, 74] (by decide +kernel) (by decide +kernel)
set_option maxRecDepth 20000 in
theorem gX6_note_X6_heapNow : GoodIn wsX6_note (wsV RX6 168 RX6 yX6_heapNow wsX6_heapNow) := goodIn_app (goodIn_of _ (by decide +kernel)) ggX6_note_X6_heapNow
set_option maxRecDepth 20000 in
theorem ggX6_note_X6_themeOf : GoodIn wsX6_note wsX6_themeOf := goodIn_r _ [47, 10, 11, 12, 4, 13, 6, 60, 61, 62, 63, 64, 65, 66, 67, 68, 69, 70, 71, 72, 73, 74] (by decide +kernel) (by decide +kernel)
set_option maxRecDepth 20000 in
theorem gX6_note_X6_themeOf : GoodIn wsX6_note (wsV RX6 68 RX6 yX6_themeOf wsX6_themeOf) := goodIn_app (goodIn_of _ (by decide +kernel)) ggX6_note_X6_themeOf
set_option maxRecDepth 20000 in
theorem ggX6_note_X6_near : GoodIn wsX6_note wsX6_near := goodIn_r _ [51, 6, 37, 38, 39, 4, 40, 10, 11, 12, 13, 41, 42, 43, 60, 61, 62, 63, 64, 65, 66, 67, 68, 69, 70, 71, 72, 73, 74] (by decide +kernel) (by decide +kernel)
set_option maxRecDepth 20000 in
theorem gX6_note_X6_near : GoodIn wsX6_note (wsV RX6 171 RX6 yX6_near wsX6_near) := goodIn_app (goodIn_of _ (by decide +kernel)) ggX6_note_X6_near
set_option maxRecDepth 20000 in
theorem ggX6_note_X6_holdsTogether : GoodIn wsX6_note wsX6_holdsTogether := goodIn_r _ [55, 22, 6, 23, 24, 25, 4, 26, 27, 28, 29, 30, 31, 32, 33, 34, 35, 36, 37, 38, 39, 40, 10, 11, 12, 13, 41, 42, 43, 56, 57, 58, 59, 60, 61, 62, 63, 64, 65, 66, 67, 68, 69, 70, 71, 72, 73, 74] (by decide +kernel) (by decide +kernel)
set_option maxRecDepth 20000 in
theorem gX6_note_X6_holdsTogether : GoodIn wsX6_note (wsV RX6 174 RX6 yX6_holdsTogether wsX6_holdsTogether) := goodIn_app (goodIn_of _ (by decide +kernel)) ggX6_note_X6_holdsTogether
theorem dX6_note_0 : decode cX6_note 0 = .ok (.aload_n 0, 1) := by decide +kernel
theorem dX6_note_1 : decode cX6_note 1 = .ok (.iload_n 1, 1) := by decide +kernel
theorem dX6_note_2 : decode cX6_note 2 = .ok (.invokevirtual 98, 3) := by decide +kernel
theorem dX6_note_5 : decode cX6_note 5 = .ok (.ifCond .ne 5, 3) := by decide +kernel
theorem dX6_note_8 : decode cX6_note 8 = .ok (.iconst (-1), 1) := by decide +kernel
theorem dX6_note_9 : decode cX6_note 9 = .ok (.ireturn, 1) := by decide +kernel
theorem dX6_note_10 : decode cX6_note 10 = .ok (.iload_n 2, 1) := by decide +kernel
theorem dX6_note_11 : decode cX6_note 11 = .ok (.tableswitch 91 0 6 #[41, 41, 48, 54, 60, 79, 85], 41) := by decide +kernel
theorem dX6_note_52 : decode cX6_note 52 = .ok (.aload_n 0, 1) := by decide +kernel
theorem dX6_note_53 : decode cX6_note 53 = .ok (.iload_n 1, 1) := by decide +kernel
theorem dX6_note_54 : decode cX6_note 54 = .ok (.iload_n 2, 1) := by decide +kernel
theorem dX6_note_55 : decode cX6_note 55 = .ok (.invokevirtual 47, 3) := by decide +kernel
theorem dX6_note_58 : decode cX6_note 58 = .ok (.ireturn, 1) := by decide +kernel
theorem dX6_note_59 : decode cX6_note 59 = .ok (.aload_n 0, 1) := by decide +kernel
theorem dX6_note_60 : decode cX6_note 60 = .ok (.iload_n 1, 1) := by decide +kernel
theorem dX6_note_61 : decode cX6_note 61 = .ok (.invokevirtual 102, 3) := by decide +kernel
theorem dX6_note_64 : decode cX6_note 64 = .ok (.ireturn, 1) := by decide +kernel
theorem dX6_note_65 : decode cX6_note 65 = .ok (.aload_n 0, 1) := by decide +kernel
theorem dX6_note_66 : decode cX6_note 66 = .ok (.iload_n 1, 1) := by decide +kernel
theorem dX6_note_67 : decode cX6_note 67 = .ok (.invokevirtual 168, 3) := by decide +kernel
theorem dX6_note_70 : decode cX6_note 70 = .ok (.ireturn, 1) := by decide +kernel
theorem dX6_note_71 : decode cX6_note 71 = .ok (.aload_n 0, 1) := by decide +kernel
theorem dX6_note_72 : decode cX6_note 72 = .ok (.iload_n 1, 1) := by decide +kernel
theorem dX6_note_73 : decode cX6_note 73 = .ok (.invokevirtual 68, 3) := by decide +kernel
theorem dX6_note_76 : decode cX6_note 76 = .ok (.ifCond .ge 8, 3) := by decide +kernel
theorem dX6_note_79 : decode cX6_note 79 = .ok (.bipush (-5), 2) := by decide +kernel
theorem dX6_note_81 : decode cX6_note 81 = .ok (.goto 8, 3) := by decide +kernel
theorem dX6_note_84 : decode cX6_note 84 = .ok (.aload_n 0, 1) := by decide +kernel
theorem dX6_note_85 : decode cX6_note 85 = .ok (.iload_n 1, 1) := by decide +kernel
theorem dX6_note_86 : decode cX6_note 86 = .ok (.invokevirtual 68, 3) := by decide +kernel
theorem dX6_note_89 : decode cX6_note 89 = .ok (.ireturn, 1) := by decide +kernel
theorem dX6_note_90 : decode cX6_note 90 = .ok (.aload_n 0, 1) := by decide +kernel
theorem dX6_note_91 : decode cX6_note 91 = .ok (.iload_n 1, 1) := by decide +kernel
theorem dX6_note_92 : decode cX6_note 92 = .ok (.invokevirtual 171, 3) := by decide +kernel
theorem dX6_note_95 : decode cX6_note 95 = .ok (.ireturn, 1) := by decide +kernel
theorem dX6_note_96 : decode cX6_note 96 = .ok (.aload_n 0, 1) := by decide +kernel
theorem dX6_note_97 : decode cX6_note 97 = .ok (.iload_n 1, 1) := by decide +kernel
theorem dX6_note_98 : decode cX6_note 98 = .ok (.invokevirtual 174, 3) := by decide +kernel
theorem dX6_note_101 : decode cX6_note 101 = .ok (.ireturn, 1) := by decide +kernel
theorem dX6_note_102 : decode cX6_note 102 = .ok (.bipush (-2), 2) := by decide +kernel
theorem dX6_note_104 : decode cX6_note 104 = .ok (.ireturn, 1) := by decide +kernel
set_option maxRecDepth 20000 in
theorem ggX6_dots_X6_isPerson : GoodIn wsX6_dots wsX6_isPerson := goodIn_r _ [4, 5, 6, 3, 7] (by decide +kernel) (by decide +kernel)
set_option maxRecDepth 20000 in
theorem gX6_dots_X6_isPerson : GoodIn wsX6_dots (va_wsS RX6 118 yX6_isPerson wsX6_isPerson) := goodIn_app (goodIn_of _ (by decide +kernel)) ggX6_dots_X6_isPerson
set_option maxRecDepth 20000 in
theorem ggX6_dots_X6_isNote : GoodIn wsX6_dots wsX6_isNote := goodIn_r _ [11, 12, 5, 6, 3, 7, 17, 18, 19, 20, 21, 22, 23, 24, 25, 26, 27, 28, 29, 30, 31] (by decide +kernel) (by decide +kernel)
set_option maxRecDepth 20000 in
theorem gX6_dots_X6_isNote : GoodIn wsX6_dots (wsV RX6 98 RX6 yX6_isNote wsX6_isNote) := goodIn_app (goodIn_of _ (by decide +kernel)) ggX6_dots_X6_isNote
set_option maxRecDepth 20000 in
theorem ggX6_dots_X6_of : GoodIn wsX6_dots wsX6_of := goodIn_r _ [16, 12, 17, 18, 19, 20, 21, 22, 23, 24, 25, 26, 27, 28, 29, 30, 31] (by decide +kernel) (by decide +kernel)
set_option maxRecDepth 20000 in
theorem gX6_dots_X6_of : GoodIn wsX6_dots (wsV RX6 47 RX6 yX6_of wsX6_of) := goodIn_app (goodIn_of _ (by decide +kernel)) ggX6_dots_X6_of
theorem dX6_dots_0 : decode cX6_dots 0 = .ok (.iload_n 1, 1) := by decide +kernel
theorem dX6_dots_1 : decode cX6_dots 1 = .ok (.invokestatic 118, 3) := by decide +kernel
theorem dX6_dots_4 : decode cX6_dots 4 = .ok (.ifCond .eq 22, 3) := by decide +kernel
theorem dX6_dots_7 : decode cX6_dots 7 = .ok (.aload_n 0, 1) := by decide +kernel
theorem dX6_dots_8 : decode cX6_dots 8 = .ok (.iload_n 2, 1) := by decide +kernel
theorem dX6_dots_9 : decode cX6_dots 9 = .ok (.invokevirtual 98, 3) := by decide +kernel
theorem dX6_dots_12 : decode cX6_dots 12 = .ok (.ifCond .eq 14, 3) := by decide +kernel
theorem dX6_dots_15 : decode cX6_dots 15 = .ok (.aload_n 0, 1) := by decide +kernel
theorem dX6_dots_16 : decode cX6_dots 16 = .ok (.iload_n 2, 1) := by decide +kernel
theorem dX6_dots_17 : decode cX6_dots 17 = .ok (.iconst 3, 1) := by decide +kernel
theorem dX6_dots_18 : decode cX6_dots 18 = .ok (.iload_n 1, 1) := by decide +kernel
theorem dX6_dots_19 : decode cX6_dots 19 = .ok (.iadd, 1) := by decide +kernel
theorem dX6_dots_20 : decode cX6_dots 20 = .ok (.invokevirtual 47, 3) := by decide +kernel
theorem dX6_dots_23 : decode cX6_dots 23 = .ok (.goto 4, 3) := by decide +kernel
theorem dX6_dots_26 : decode cX6_dots 26 = .ok (.iconst (-1), 1) := by decide +kernel
theorem dX6_dots_27 : decode cX6_dots 27 = .ok (.ireturn, 1) := by decide +kernel
theorem dX6_lowestOf_0 : decode cX6_lowestOf 0 = .ok (.bipush (-5), 2) := by decide +kernel
theorem dX6_lowestOf_2 : decode cX6_lowestOf 2 = .ok (.istore_n 2, 1) := by decide +kernel
theorem dX6_lowestOf_3 : decode cX6_lowestOf 3 = .ok (.aload_n 0, 1) := by decide +kernel
theorem dX6_lowestOf_4 : decode cX6_lowestOf 4 = .ok (.getfield 7, 3) := by decide +kernel
theorem dX6_lowestOf_7 : decode cX6_lowestOf 7 = .ok (.iconst 0, 1) := by decide +kernel
theorem dX6_lowestOf_8 : decode cX6_lowestOf 8 = .ok (.iaload, 1) := by decide +kernel
theorem dX6_lowestOf_9 : decode cX6_lowestOf 9 = .ok (.iconst 1, 1) := by decide +kernel
theorem dX6_lowestOf_10 : decode cX6_lowestOf 10 = .ok (.isub, 1) := by decide +kernel
theorem dX6_lowestOf_11 : decode cX6_lowestOf 11 = .ok (.istore_n 3, 1) := by decide +kernel
theorem dX6_lowestOf_12 : decode cX6_lowestOf 12 = .ok (.iload_n 3, 1) := by decide +kernel
theorem dX6_lowestOf_13 : decode cX6_lowestOf 13 = .ok (.ifCond .lt 25, 3) := by decide +kernel
theorem dX6_lowestOf_16 : decode cX6_lowestOf 16 = .ok (.aload_n 0, 1) := by decide +kernel
theorem dX6_lowestOf_17 : decode cX6_lowestOf 17 = .ok (.getfield 23, 3) := by decide +kernel
theorem dX6_lowestOf_20 : decode cX6_lowestOf 20 = .ok (.iload_n 3, 1) := by decide +kernel
theorem dX6_lowestOf_21 : decode cX6_lowestOf 21 = .ok (.iaload, 1) := by decide +kernel
theorem dX6_lowestOf_22 : decode cX6_lowestOf 22 = .ok (.iload_n 1, 1) := by decide +kernel
theorem dX6_lowestOf_23 : decode cX6_lowestOf 23 = .ok (.if_icmp .ne 7, 3) := by decide +kernel
theorem dX6_lowestOf_26 : decode cX6_lowestOf 26 = .ok (.iload_n 3, 1) := by decide +kernel
theorem dX6_lowestOf_27 : decode cX6_lowestOf 27 = .ok (.goto 4, 3) := by decide +kernel
theorem dX6_lowestOf_30 : decode cX6_lowestOf 30 = .ok (.iload_n 2, 1) := by decide +kernel
theorem dX6_lowestOf_31 : decode cX6_lowestOf 31 = .ok (.istore_n 2, 1) := by decide +kernel
theorem dX6_lowestOf_32 : decode cX6_lowestOf 32 = .ok (.iinc 3 (-1), 3) := by decide +kernel
theorem dX6_lowestOf_35 : decode cX6_lowestOf 35 = .ok (.goto (-23), 3) := by decide +kernel
theorem dX6_lowestOf_38 : decode cX6_lowestOf 38 = .ok (.iload_n 2, 1) := by decide +kernel
theorem dX6_lowestOf_39 : decode cX6_lowestOf 39 = .ok (.ireturn, 1) := by decide +kernel
set_option maxRecDepth 20000 in
theorem ggX6_dotsIn_X6_dotsOf : GoodIn wsX6_dotsIn wsX6_dotsOf := goodIn_r _ [7, 8, 9, 10, 6, 11, 1, 12, 13, 14, 15, 16, 17, 18, 19, 20, 21, 22, 23, 24, 25, 26] (by decide +kernel) (by decide +kernel)
set_option maxRecDepth 20000 in
theorem gX6_dotsIn_X6_dotsOf : GoodIn wsX6_dotsIn (wsV RX6 102 RX6 yX6_dotsOf wsX6_dotsOf) := goodIn_app (goodIn_of _ (by decide +kernel)) ggX6_dotsIn_X6_dotsOf
theorem dX6_dotsIn_0 : decode cX6_dotsIn 0 = .ok (.iconst 0, 1) := by decide +kernel
theorem dX6_dotsIn_1 : decode cX6_dotsIn 1 = .ok (.istore_n 2, 1) := by decide +kernel
theorem dX6_dotsIn_2 : decode cX6_dotsIn 2 = .ok (.iconst 0, 1) := by decide +kernel
theorem dX6_dotsIn_3 : decode cX6_dotsIn 3 = .ok (.istore_n 3, 1) := by decide +kernel
theorem dX6_dotsIn_4 : decode cX6_dotsIn 4 = .ok (.iload_n 3, 1) := by decide +kernel
theorem dX6_dotsIn_5 : decode cX6_dotsIn 5 = .ok (.aload_n 0, 1) := by decide +kernel
theorem dX6_dotsIn_6 : decode cX6_dotsIn 6 = .ok (.getfield 7, 3) := by decide +kernel
theorem dX6_dotsIn_9 : decode cX6_dotsIn 9 = .ok (.iconst 0, 1) := by decide +kernel
theorem dX6_dotsIn_10 : decode cX6_dotsIn 10 = .ok (.iaload, 1) := by decide +kernel
theorem dX6_dotsIn_11 : decode cX6_dotsIn 11 = .ok (.if_icmp .ge 31, 3) := by decide +kernel
theorem dX6_dotsIn_14 : decode cX6_dotsIn 14 = .ok (.iload_n 2, 1) := by decide +kernel
theorem dX6_dotsIn_15 : decode cX6_dotsIn 15 = .ok (.aload_n 0, 1) := by decide +kernel
theorem dX6_dotsIn_16 : decode cX6_dotsIn 16 = .ok (.getfield 23, 3) := by decide +kernel
theorem dX6_dotsIn_19 : decode cX6_dotsIn 19 = .ok (.iload_n 3, 1) := by decide +kernel
theorem dX6_dotsIn_20 : decode cX6_dotsIn 20 = .ok (.iaload, 1) := by decide +kernel
theorem dX6_dotsIn_21 : decode cX6_dotsIn 21 = .ok (.iload_n 1, 1) := by decide +kernel
theorem dX6_dotsIn_22 : decode cX6_dotsIn 22 = .ok (.if_icmp .ne 11, 3) := by decide +kernel
theorem dX6_dotsIn_25 : decode cX6_dotsIn 25 = .ok (.aload_n 0, 1) := by decide +kernel
theorem dX6_dotsIn_26 : decode cX6_dotsIn 26 = .ok (.iload_n 3, 1) := by decide +kernel
theorem dX6_dotsIn_27 : decode cX6_dotsIn 27 = .ok (.invokevirtual 102, 3) := by decide +kernel
theorem dX6_dotsIn_30 : decode cX6_dotsIn 30 = .ok (.goto 4, 3) := by decide +kernel
theorem dX6_dotsIn_33 : decode cX6_dotsIn 33 = .ok (.iconst 0, 1) := by decide +kernel
theorem dX6_dotsIn_34 : decode cX6_dotsIn 34 = .ok (.iadd, 1) := by decide +kernel
theorem dX6_dotsIn_35 : decode cX6_dotsIn 35 = .ok (.istore_n 2, 1) := by decide +kernel
theorem dX6_dotsIn_36 : decode cX6_dotsIn 36 = .ok (.iinc 3 1, 3) := by decide +kernel
theorem dX6_dotsIn_39 : decode cX6_dotsIn 39 = .ok (.goto (-35), 3) := by decide +kernel
theorem dX6_dotsIn_42 : decode cX6_dotsIn 42 = .ok (.iload_n 2, 1) := by decide +kernel
theorem dX6_dotsIn_43 : decode cX6_dotsIn 43 = .ok (.ireturn, 1) := by decide +kernel
set_option maxRecDepth 20000 in
theorem ggX6_themesIn_X6_themeOf : GoodIn wsX6_themesIn wsX6_themeOf := goodIn_r _ [7, 8, 9, 10, 6, 11, 1, 12, 13, 14, 15, 16, 17, 18, 19, 20, 21, 22, 23, 24, 25, 26] (by decide +kernel) (by decide +kernel)
set_option maxRecDepth 20000 in
theorem gX6_themesIn_X6_themeOf : GoodIn wsX6_themesIn (wsV RX6 68 RX6 yX6_themeOf wsX6_themeOf) := goodIn_app (goodIn_of _ (by decide +kernel)) ggX6_themesIn_X6_themeOf
theorem dX6_themesIn_0 : decode cX6_themesIn 0 = .ok (.iconst 0, 1) := by decide +kernel
theorem dX6_themesIn_1 : decode cX6_themesIn 1 = .ok (.istore_n 2, 1) := by decide +kernel
theorem dX6_themesIn_2 : decode cX6_themesIn 2 = .ok (.iconst 0, 1) := by decide +kernel
theorem dX6_themesIn_3 : decode cX6_themesIn 3 = .ok (.istore_n 3, 1) := by decide +kernel
theorem dX6_themesIn_4 : decode cX6_themesIn 4 = .ok (.iload_n 3, 1) := by decide +kernel
theorem dX6_themesIn_5 : decode cX6_themesIn 5 = .ok (.aload_n 0, 1) := by decide +kernel
theorem dX6_themesIn_6 : decode cX6_themesIn 6 = .ok (.getfield 7, 3) := by decide +kernel
theorem dX6_themesIn_9 : decode cX6_themesIn 9 = .ok (.iconst 1, 1) := by decide +kernel
theorem dX6_themesIn_10 : decode cX6_themesIn 10 = .ok (.iaload, 1) := by decide +kernel
theorem dX6_themesIn_11 : decode cX6_themesIn 11 = .ok (.if_icmp .ge 68, 3) := by decide +kernel
theorem dX6_themesIn_14 : decode cX6_themesIn 14 = .ok (.iconst 0, 1) := by decide +kernel
theorem dX6_themesIn_15 : decode cX6_themesIn 15 = .ok (.istore 4, 2) := by decide +kernel
theorem dX6_themesIn_17 : decode cX6_themesIn 17 = .ok (.iconst 0, 1) := by decide +kernel
theorem dX6_themesIn_18 : decode cX6_themesIn 18 = .ok (.istore 5, 2) := by decide +kernel
theorem dX6_themesIn_20 : decode cX6_themesIn 20 = .ok (.iload 5, 2) := by decide +kernel
theorem dX6_themesIn_22 : decode cX6_themesIn 22 = .ok (.aload_n 0, 1) := by decide +kernel
theorem dX6_themesIn_23 : decode cX6_themesIn 23 = .ok (.getfield 7, 3) := by decide +kernel
theorem dX6_themesIn_26 : decode cX6_themesIn 26 = .ok (.iconst 0, 1) := by decide +kernel
theorem dX6_themesIn_27 : decode cX6_themesIn 27 = .ok (.iaload, 1) := by decide +kernel
theorem dX6_themesIn_28 : decode cX6_themesIn 28 = .ok (.if_icmp .ge 40, 3) := by decide +kernel
theorem dX6_themesIn_31 : decode cX6_themesIn 31 = .ok (.iload 4, 2) := by decide +kernel
theorem dX6_themesIn_33 : decode cX6_themesIn 33 = .ok (.aload_n 0, 1) := by decide +kernel
theorem dX6_themesIn_34 : decode cX6_themesIn 34 = .ok (.getfield 23, 3) := by decide +kernel
theorem dX6_themesIn_37 : decode cX6_themesIn 37 = .ok (.iload 5, 2) := by decide +kernel
theorem dX6_themesIn_39 : decode cX6_themesIn 39 = .ok (.iaload, 1) := by decide +kernel
theorem dX6_themesIn_40 : decode cX6_themesIn 40 = .ok (.iload_n 1, 1) := by decide +kernel
theorem dX6_themesIn_41 : decode cX6_themesIn 41 = .ok (.if_icmp .ne 17, 3) := by decide +kernel
theorem dX6_themesIn_44 : decode cX6_themesIn 44 = .ok (.aload_n 0, 1) := by decide +kernel
theorem dX6_themesIn_45 : decode cX6_themesIn 45 = .ok (.iload 5, 2) := by decide +kernel
theorem dX6_themesIn_47 : decode cX6_themesIn 47 = .ok (.invokevirtual 68, 3) := by decide +kernel
theorem dX6_themesIn_50 : decode cX6_themesIn 50 = .ok (.iload_n 3, 1) := by decide +kernel
theorem dX6_themesIn_51 : decode cX6_themesIn 51 = .ok (.if_icmp .ne 7, 3) := by decide +kernel
theorem dX6_themesIn_54 : decode cX6_themesIn 54 = .ok (.iconst 1, 1) := by decide +kernel
theorem dX6_themesIn_55 : decode cX6_themesIn 55 = .ok (.goto 4, 3) := by decide +kernel
theorem dX6_themesIn_58 : decode cX6_themesIn 58 = .ok (.iconst 0, 1) := by decide +kernel
theorem dX6_themesIn_59 : decode cX6_themesIn 59 = .ok (.ior, 1) := by decide +kernel
theorem dX6_themesIn_60 : decode cX6_themesIn 60 = .ok (.istore 4, 2) := by decide +kernel
theorem dX6_themesIn_62 : decode cX6_themesIn 62 = .ok (.iinc 5 1, 3) := by decide +kernel
theorem dX6_themesIn_65 : decode cX6_themesIn 65 = .ok (.goto (-45), 3) := by decide +kernel
theorem dX6_themesIn_68 : decode cX6_themesIn 68 = .ok (.iload_n 2, 1) := by decide +kernel
theorem dX6_themesIn_69 : decode cX6_themesIn 69 = .ok (.iload 4, 2) := by decide +kernel
theorem dX6_themesIn_71 : decode cX6_themesIn 71 = .ok (.iadd, 1) := by decide +kernel
theorem dX6_themesIn_72 : decode cX6_themesIn 72 = .ok (.istore_n 2, 1) := by decide +kernel
theorem dX6_themesIn_73 : decode cX6_themesIn 73 = .ok (.iinc 3 1, 3) := by decide +kernel
theorem dX6_themesIn_76 : decode cX6_themesIn 76 = .ok (.goto (-72), 3) := by decide +kernel
theorem dX6_themesIn_79 : decode cX6_themesIn 79 = .ok (.iload_n 2, 1) := by decide +kernel
theorem dX6_themesIn_80 : decode cX6_themesIn 80 = .ok (.ireturn, 1) := by decide +kernel
set_option maxRecDepth 20000 in
theorem ggX6_middleOf_X6_distance : GoodIn wsX6_middleOf wsX6_distance := goodIn_r _ [7, 8, 9, 10, 6, 11, 1, 12, 13, 14, 15, 16, 17, 18, 19, 20, 21, 22, 23, 24, 25, 26, 27, 28, 29] (by decide +kernel) (by decide +kernel)
set_option maxRecDepth 20000 in
theorem gX6_middleOf_X6_distance : GoodIn wsX6_middleOf (wsV RX6 58 RX6 yX6_distance wsX6_distance) := goodIn_app (goodIn_of _ (by decide +kernel)) ggX6_middleOf_X6_distance
theorem dX6_middleOf_0 : decode cX6_middleOf 0 = .ok (.bipush (-5), 2) := by decide +kernel
theorem dX6_middleOf_2 : decode cX6_middleOf 2 = .ok (.istore_n 2, 1) := by decide +kernel
theorem dX6_middleOf_3 : decode cX6_middleOf 3 = .ok (.iconst 0, 1) := by decide +kernel
theorem dX6_middleOf_4 : decode cX6_middleOf 4 = .ok (.istore_n 3, 1) := by decide +kernel
theorem dX6_middleOf_5 : decode cX6_middleOf 5 = .ok (.iconst 0, 1) := by decide +kernel
theorem dX6_middleOf_6 : decode cX6_middleOf 6 = .ok (.istore 4, 2) := by decide +kernel
theorem dX6_middleOf_8 : decode cX6_middleOf 8 = .ok (.iload 4, 2) := by decide +kernel
theorem dX6_middleOf_10 : decode cX6_middleOf 10 = .ok (.aload_n 0, 1) := by decide +kernel
theorem dX6_middleOf_11 : decode cX6_middleOf 11 = .ok (.getfield 7, 3) := by decide +kernel
theorem dX6_middleOf_14 : decode cX6_middleOf 14 = .ok (.iconst 0, 1) := by decide +kernel
theorem dX6_middleOf_15 : decode cX6_middleOf 15 = .ok (.iaload, 1) := by decide +kernel
theorem dX6_middleOf_16 : decode cX6_middleOf 16 = .ok (.if_icmp .ge 114, 3) := by decide +kernel
theorem dX6_middleOf_19 : decode cX6_middleOf 19 = .ok (.iconst 0, 1) := by decide +kernel
theorem dX6_middleOf_20 : decode cX6_middleOf 20 = .ok (.istore 5, 2) := by decide +kernel
theorem dX6_middleOf_22 : decode cX6_middleOf 22 = .ok (.iconst 0, 1) := by decide +kernel
theorem dX6_middleOf_23 : decode cX6_middleOf 23 = .ok (.istore 6, 2) := by decide +kernel
theorem dX6_middleOf_25 : decode cX6_middleOf 25 = .ok (.iload 6, 2) := by decide +kernel
theorem dX6_middleOf_27 : decode cX6_middleOf 27 = .ok (.aload_n 0, 1) := by decide +kernel
theorem dX6_middleOf_28 : decode cX6_middleOf 28 = .ok (.getfield 7, 3) := by decide +kernel
theorem dX6_middleOf_31 : decode cX6_middleOf 31 = .ok (.iconst 0, 1) := by decide +kernel
theorem dX6_middleOf_32 : decode cX6_middleOf 32 = .ok (.iaload, 1) := by decide +kernel
theorem dX6_middleOf_33 : decode cX6_middleOf 33 = .ok (.if_icmp .ge 37, 3) := by decide +kernel
theorem dX6_middleOf_36 : decode cX6_middleOf 36 = .ok (.iload 5, 2) := by decide +kernel
theorem dX6_middleOf_38 : decode cX6_middleOf 38 = .ok (.aload_n 0, 1) := by decide +kernel
theorem dX6_middleOf_39 : decode cX6_middleOf 39 = .ok (.getfield 23, 3) := by decide +kernel
theorem dX6_middleOf_42 : decode cX6_middleOf 42 = .ok (.iload 6, 2) := by decide +kernel
theorem dX6_middleOf_44 : decode cX6_middleOf 44 = .ok (.iaload, 1) := by decide +kernel
theorem dX6_middleOf_45 : decode cX6_middleOf 45 = .ok (.iload_n 1, 1) := by decide +kernel
theorem dX6_middleOf_46 : decode cX6_middleOf 46 = .ok (.if_icmp .ne 14, 3) := by decide +kernel
theorem dX6_middleOf_49 : decode cX6_middleOf 49 = .ok (.aload_n 0, 1) := by decide +kernel
theorem dX6_middleOf_50 : decode cX6_middleOf 50 = .ok (.iload 6, 2) := by decide +kernel
theorem dX6_middleOf_52 : decode cX6_middleOf 52 = .ok (.iload 4, 2) := by decide +kernel
theorem dX6_middleOf_54 : decode cX6_middleOf 54 = .ok (.invokevirtual 58, 3) := by decide +kernel
theorem dX6_middleOf_57 : decode cX6_middleOf 57 = .ok (.goto 4, 3) := by decide +kernel
theorem dX6_middleOf_60 : decode cX6_middleOf 60 = .ok (.iconst 0, 1) := by decide +kernel
theorem dX6_middleOf_61 : decode cX6_middleOf 61 = .ok (.iadd, 1) := by decide +kernel
theorem dX6_middleOf_62 : decode cX6_middleOf 62 = .ok (.istore 5, 2) := by decide +kernel
theorem dX6_middleOf_64 : decode cX6_middleOf 64 = .ok (.iinc 6 1, 3) := by decide +kernel
theorem dX6_middleOf_67 : decode cX6_middleOf 67 = .ok (.goto (-42), 3) := by decide +kernel
theorem dX6_middleOf_70 : decode cX6_middleOf 70 = .ok (.aload_n 0, 1) := by decide +kernel
theorem dX6_middleOf_71 : decode cX6_middleOf 71 = .ok (.getfield 23, 3) := by decide +kernel
theorem dX6_middleOf_74 : decode cX6_middleOf 74 = .ok (.iload 4, 2) := by decide +kernel
theorem dX6_middleOf_76 : decode cX6_middleOf 76 = .ok (.iaload, 1) := by decide +kernel
theorem dX6_middleOf_77 : decode cX6_middleOf 77 = .ok (.iload_n 1, 1) := by decide +kernel
theorem dX6_middleOf_78 : decode cX6_middleOf 78 = .ok (.if_icmp .ne 19, 3) := by decide +kernel
theorem dX6_middleOf_81 : decode cX6_middleOf 81 = .ok (.iload_n 2, 1) := by decide +kernel
theorem dX6_middleOf_82 : decode cX6_middleOf 82 = .ok (.bipush (-5), 2) := by decide +kernel
theorem dX6_middleOf_84 : decode cX6_middleOf 84 = .ok (.if_icmp .eq 9, 3) := by decide +kernel
theorem dX6_middleOf_87 : decode cX6_middleOf 87 = .ok (.iload 5, 2) := by decide +kernel
theorem dX6_middleOf_89 : decode cX6_middleOf 89 = .ok (.iload_n 3, 1) := by decide +kernel
theorem dX6_middleOf_90 : decode cX6_middleOf 90 = .ok (.if_icmp .ge 7, 3) := by decide +kernel
theorem dX6_middleOf_93 : decode cX6_middleOf 93 = .ok (.iconst 1, 1) := by decide +kernel
theorem dX6_middleOf_94 : decode cX6_middleOf 94 = .ok (.goto 4, 3) := by decide +kernel
theorem dX6_middleOf_97 : decode cX6_middleOf 97 = .ok (.iconst 0, 1) := by decide +kernel
theorem dX6_middleOf_98 : decode cX6_middleOf 98 = .ok (.istore 6, 2) := by decide +kernel
theorem dX6_middleOf_100 : decode cX6_middleOf 100 = .ok (.iload 6, 2) := by decide +kernel
theorem dX6_middleOf_102 : decode cX6_middleOf 102 = .ok (.ifCond .eq 8, 3) := by decide +kernel
theorem dX6_middleOf_105 : decode cX6_middleOf 105 = .ok (.iload 4, 2) := by decide +kernel
theorem dX6_middleOf_107 : decode cX6_middleOf 107 = .ok (.goto 4, 3) := by decide +kernel
theorem dX6_middleOf_110 : decode cX6_middleOf 110 = .ok (.iload_n 2, 1) := by decide +kernel
theorem dX6_middleOf_111 : decode cX6_middleOf 111 = .ok (.istore_n 2, 1) := by decide +kernel
theorem dX6_middleOf_112 : decode cX6_middleOf 112 = .ok (.iload 6, 2) := by decide +kernel
theorem dX6_middleOf_114 : decode cX6_middleOf 114 = .ok (.ifCond .eq 8, 3) := by decide +kernel
theorem dX6_middleOf_117 : decode cX6_middleOf 117 = .ok (.iload 5, 2) := by decide +kernel
theorem dX6_middleOf_119 : decode cX6_middleOf 119 = .ok (.goto 4, 3) := by decide +kernel
theorem dX6_middleOf_122 : decode cX6_middleOf 122 = .ok (.iload_n 3, 1) := by decide +kernel
theorem dX6_middleOf_123 : decode cX6_middleOf 123 = .ok (.istore_n 3, 1) := by decide +kernel
theorem dX6_middleOf_124 : decode cX6_middleOf 124 = .ok (.iinc 4 1, 3) := by decide +kernel
theorem dX6_middleOf_127 : decode cX6_middleOf 127 = .ok (.goto (-119), 3) := by decide +kernel
theorem dX6_middleOf_130 : decode cX6_middleOf 130 = .ok (.iload_n 2, 1) := by decide +kernel
theorem dX6_middleOf_131 : decode cX6_middleOf 131 = .ok (.ireturn, 1) := by decide +kernel
set_option maxRecDepth 20000 in
theorem ggX6_widthOf_X6_distance : GoodIn wsX6_widthOf wsX6_distance := goodIn_r _ [7, 8, 9, 10, 6, 11, 1, 12, 13, 14, 15, 16, 17, 18, 19, 20, 21, 22, 23, 24, 25, 26, 27, 28, 29] (by decide +kernel) (by decide +kernel)
set_option maxRecDepth 20000 in
theorem gX6_widthOf_X6_distance : GoodIn wsX6_widthOf (wsV RX6 58 RX6 yX6_distance wsX6_distance) := goodIn_app (goodIn_of _ (by decide +kernel)) ggX6_widthOf_X6_distance
theorem dX6_widthOf_0 : decode cX6_widthOf 0 = .ok (.iconst 0, 1) := by decide +kernel
theorem dX6_widthOf_1 : decode cX6_widthOf 1 = .ok (.istore_n 2, 1) := by decide +kernel
theorem dX6_widthOf_2 : decode cX6_widthOf 2 = .ok (.iconst 0, 1) := by decide +kernel
theorem dX6_widthOf_3 : decode cX6_widthOf 3 = .ok (.istore_n 3, 1) := by decide +kernel
theorem dX6_widthOf_4 : decode cX6_widthOf 4 = .ok (.iload_n 3, 1) := by decide +kernel
theorem dX6_widthOf_5 : decode cX6_widthOf 5 = .ok (.bipush 20, 2) := by decide +kernel
theorem dX6_widthOf_7 : decode cX6_widthOf 7 = .ok (.aload_n 0, 1) := by decide +kernel
theorem dX6_widthOf_8 : decode cX6_widthOf 8 = .ok (.getfield 7, 3) := by decide +kernel
theorem dX6_widthOf_11 : decode cX6_widthOf 11 = .ok (.iconst 0, 1) := by decide +kernel
theorem dX6_widthOf_12 : decode cX6_widthOf 12 = .ok (.iaload, 1) := by decide +kernel
theorem dX6_widthOf_13 : decode cX6_widthOf 13 = .ok (.imul, 1) := by decide +kernel
theorem dX6_widthOf_14 : decode cX6_widthOf 14 = .ok (.if_icmp .ge 91, 3) := by decide +kernel
theorem dX6_widthOf_17 : decode cX6_widthOf 17 = .ok (.iload_n 3, 1) := by decide +kernel
theorem dX6_widthOf_18 : decode cX6_widthOf 18 = .ok (.bipush 20, 2) := by decide +kernel
theorem dX6_widthOf_20 : decode cX6_widthOf 20 = .ok (.idiv, 1) := by decide +kernel
theorem dX6_widthOf_21 : decode cX6_widthOf 21 = .ok (.istore 4, 2) := by decide +kernel
theorem dX6_widthOf_23 : decode cX6_widthOf 23 = .ok (.iload_n 3, 1) := by decide +kernel
theorem dX6_widthOf_24 : decode cX6_widthOf 24 = .ok (.bipush 20, 2) := by decide +kernel
theorem dX6_widthOf_26 : decode cX6_widthOf 26 = .ok (.irem, 1) := by decide +kernel
theorem dX6_widthOf_27 : decode cX6_widthOf 27 = .ok (.istore 5, 2) := by decide +kernel
theorem dX6_widthOf_29 : decode cX6_widthOf 29 = .ok (.iload 5, 2) := by decide +kernel
theorem dX6_widthOf_31 : decode cX6_widthOf 31 = .ok (.aload_n 0, 1) := by decide +kernel
theorem dX6_widthOf_32 : decode cX6_widthOf 32 = .ok (.getfield 7, 3) := by decide +kernel
theorem dX6_widthOf_35 : decode cX6_widthOf 35 = .ok (.iconst 0, 1) := by decide +kernel
theorem dX6_widthOf_36 : decode cX6_widthOf 36 = .ok (.iaload, 1) := by decide +kernel
theorem dX6_widthOf_37 : decode cX6_widthOf 37 = .ok (.if_icmp .ge 29, 3) := by decide +kernel
theorem dX6_widthOf_40 : decode cX6_widthOf 40 = .ok (.aload_n 0, 1) := by decide +kernel
theorem dX6_widthOf_41 : decode cX6_widthOf 41 = .ok (.getfield 23, 3) := by decide +kernel
theorem dX6_widthOf_44 : decode cX6_widthOf 44 = .ok (.iload 4, 2) := by decide +kernel
theorem dX6_widthOf_46 : decode cX6_widthOf 46 = .ok (.iaload, 1) := by decide +kernel
theorem dX6_widthOf_47 : decode cX6_widthOf 47 = .ok (.iload_n 1, 1) := by decide +kernel
theorem dX6_widthOf_48 : decode cX6_widthOf 48 = .ok (.if_icmp .ne 18, 3) := by decide +kernel
theorem dX6_widthOf_51 : decode cX6_widthOf 51 = .ok (.aload_n 0, 1) := by decide +kernel
theorem dX6_widthOf_52 : decode cX6_widthOf 52 = .ok (.getfield 23, 3) := by decide +kernel
theorem dX6_widthOf_55 : decode cX6_widthOf 55 = .ok (.iload 5, 2) := by decide +kernel
theorem dX6_widthOf_57 : decode cX6_widthOf 57 = .ok (.iaload, 1) := by decide +kernel
theorem dX6_widthOf_58 : decode cX6_widthOf 58 = .ok (.iload_n 1, 1) := by decide +kernel
theorem dX6_widthOf_59 : decode cX6_widthOf 59 = .ok (.if_icmp .ne 7, 3) := by decide +kernel
theorem dX6_widthOf_62 : decode cX6_widthOf 62 = .ok (.iconst 1, 1) := by decide +kernel
theorem dX6_widthOf_63 : decode cX6_widthOf 63 = .ok (.goto 4, 3) := by decide +kernel
theorem dX6_widthOf_66 : decode cX6_widthOf 66 = .ok (.iconst 0, 1) := by decide +kernel
theorem dX6_widthOf_67 : decode cX6_widthOf 67 = .ok (.istore 6, 2) := by decide +kernel
theorem dX6_widthOf_69 : decode cX6_widthOf 69 = .ok (.iload 6, 2) := by decide +kernel
theorem dX6_widthOf_71 : decode cX6_widthOf 71 = .ok (.ifCond .eq 26, 3) := by decide +kernel
theorem dX6_widthOf_74 : decode cX6_widthOf 74 = .ok (.aload_n 0, 1) := by decide +kernel
theorem dX6_widthOf_75 : decode cX6_widthOf 75 = .ok (.iload 4, 2) := by decide +kernel
theorem dX6_widthOf_77 : decode cX6_widthOf 77 = .ok (.iload 5, 2) := by decide +kernel
theorem dX6_widthOf_79 : decode cX6_widthOf 79 = .ok (.invokevirtual 58, 3) := by decide +kernel
theorem dX6_widthOf_82 : decode cX6_widthOf 82 = .ok (.iload_n 2, 1) := by decide +kernel
theorem dX6_widthOf_83 : decode cX6_widthOf 83 = .ok (.if_icmp .le 14, 3) := by decide +kernel
theorem dX6_widthOf_86 : decode cX6_widthOf 86 = .ok (.aload_n 0, 1) := by decide +kernel
theorem dX6_widthOf_87 : decode cX6_widthOf 87 = .ok (.iload 4, 2) := by decide +kernel
theorem dX6_widthOf_89 : decode cX6_widthOf 89 = .ok (.iload 5, 2) := by decide +kernel
theorem dX6_widthOf_91 : decode cX6_widthOf 91 = .ok (.invokevirtual 58, 3) := by decide +kernel
theorem dX6_widthOf_94 : decode cX6_widthOf 94 = .ok (.goto 4, 3) := by decide +kernel
theorem dX6_widthOf_97 : decode cX6_widthOf 97 = .ok (.iload_n 2, 1) := by decide +kernel
theorem dX6_widthOf_98 : decode cX6_widthOf 98 = .ok (.istore_n 2, 1) := by decide +kernel
theorem dX6_widthOf_99 : decode cX6_widthOf 99 = .ok (.iinc 3 1, 3) := by decide +kernel
theorem dX6_widthOf_102 : decode cX6_widthOf 102 = .ok (.goto (-98), 3) := by decide +kernel
theorem dX6_widthOf_105 : decode cX6_widthOf 105 = .ok (.iload_n 2, 1) := by decide +kernel
theorem dX6_widthOf_106 : decode cX6_widthOf 106 = .ok (.ireturn, 1) := by decide +kernel
set_option maxRecDepth 20000 in
theorem ggX6_heap_X6_laysNow : GoodIn wsX6_heap wsX6_laysNow := goodIn_r _ [5, 6, 7, 8, 9, 4, 10, 11, 12, 13, 14, 15, 16, 17, 18, 19, 20, 21, 22, 23, 24, 25, 26, 27, 28, 68, 69, 70, 71, 72, 73, 74, 75, 76, 77, 78, 79, 80, 81, 82] (by decide +kernel) (by decide +kernel)
set_option maxRecDepth 20000 in
theorem gX6_heap_X6_laysNow : GoodIn wsX6_heap (wsV RX6 111 RX6 yX6_laysNow wsX6_laysNow) := goodIn_app (goodIn_of _ (by decide +kernel)) ggX6_heap_X6_laysNow
set_option maxRecDepth 20000 in
theorem ggX6_heap_X6_in : GoodIn wsX6_heap wsX6_in := goodIn_r _ [31] (by decide +kernel) (by decide +kernel)
set_option maxRecDepth 20000 in
theorem gX6_heap_X6_in : GoodIn wsX6_heap (va_wsS RX6 43 yX6_in wsX6_in) := goodIn_app (goodIn_of _ (by decide +kernel)) ggX6_heap_X6_in
set_option maxRecDepth 20000 in
theorem ggX6_heap_X6_notesIn : GoodIn wsX6_heap wsX6_notesIn := goodIn_r _ [35, 6, 12, 68, 69, 70, 71, 72, 73, 74, 75, 76, 77, 78, 79, 80, 81, 82] (by decide +kernel) (by decide +kernel)
set_option maxRecDepth 20000 in
theorem gX6_heap_X6_notesIn : GoodIn wsX6_heap (wsV RX6 165 RX6 yX6_notesIn wsX6_notesIn) := goodIn_app (goodIn_of _ (by decide +kernel)) ggX6_heap_X6_notesIn
set_option maxRecDepth 20000 in
theorem ggX6_heap_X6_lowestOf : GoodIn wsX6_heap wsX6_lowestOf := goodIn_r _ [39, 6, 12, 68, 69, 70, 71, 72, 73, 74, 75, 76, 77, 78, 79, 80, 81, 82] (by decide +kernel) (by decide +kernel)
set_option maxRecDepth 20000 in
theorem gX6_heap_X6_lowestOf : GoodIn wsX6_heap (wsV RX6 177 RX6 yX6_lowestOf wsX6_lowestOf) := goodIn_app (goodIn_of _ (by decide +kernel)) ggX6_heap_X6_lowestOf
set_option maxRecDepth 20000 in
theorem ggX6_heap_X6_dotsIn : GoodIn wsX6_heap wsX6_dotsIn := goodIn_r _ [43, 6, 12, 44, 45, 46, 4, 47, 22, 23, 24, 25, 68, 69, 70, 71, 72, 73, 74, 75, 76, 77, 78, 79, 80, 81, 82] (by decide +kernel) (by decide +kernel)
set_option maxRecDepth 20000 in
theorem gX6_heap_X6_dotsIn : GoodIn wsX6_heap (wsV RX6 180 RX6 yX6_dotsIn wsX6_dotsIn) := goodIn_app (goodIn_of _ (by decide +kernel)) ggX6_heap_X6_dotsIn
set_option maxRecDepth 20000 in
theorem ggX6_heap_X6_themesIn : GoodIn wsX6_heap wsX6_themesIn := goodIn_r _ [51, 6, 12, 52, 53, 54, 4, 55, 22, 23, 24, 25, 68, 69, 70, 71, 72, 73, 74, 75, 76, 77, 78, 79, 80, 81, 82] (by decide +kernel) (by decide +kernel)
set_option maxRecDepth 20000 in
theorem gX6_heap_X6_themesIn : GoodIn wsX6_heap (wsV RX6 183 RX6 yX6_themesIn wsX6_themesIn) := goodIn_app (goodIn_of _ (by decide +kernel)) ggX6_heap_X6_themesIn
set_option maxRecDepth 20000 in
theorem ggX6_heap_X6_without : GoodIn wsX6_heap wsX6_without := goodIn_r _ [59, 6, 12, 52, 53, 54, 4, 55, 22, 23, 24, 25, 68, 69, 70, 71, 72, 73, 74, 75, 76, 77, 78, 79, 80, 81, 82] (by decide +kernel) (by decide +kernel)
set_option maxRecDepth 20000 in
theorem gX6_heap_X6_without : GoodIn wsX6_heap (wsV RX6 124 RX6 yX6_without wsX6_without) := goodIn_app (goodIn_of _ (by decide +kernel)) ggX6_heap_X6_without
set_option maxRecDepth 20000 in
theorem ggX6_heap_X6_middleOf : GoodIn wsX6_heap wsX6_middleOf := goodIn_r _ [63, 6, 12, 18, 19, 20, 4, 21, 22, 23, 24, 25, 26, 27, 28, 68, 69, 70, 71, 72, 73, 74, 75, 76, 77, 78, 79, 80, 81, 82] (by decide +kernel) (by decide +kernel)
set_option maxRecDepth 20000 in
theorem gX6_heap_X6_middleOf : GoodIn wsX6_heap (wsV RX6 186 RX6 yX6_middleOf wsX6_middleOf) := goodIn_app (goodIn_of _ (by decide +kernel)) ggX6_heap_X6_middleOf
set_option maxRecDepth 20000 in
theorem ggX6_heap_X6_widthOf : GoodIn wsX6_heap wsX6_widthOf := goodIn_r _ [67, 6, 12, 18, 19, 20, 4, 21, 22, 23, 24, 25, 26, 27, 28, 68, 69, 70, 71, 72, 73, 74, 75, 76, 77, 78, 79, 80, 81, 82] (by decide +kernel) (by decide +kernel)
set_option maxRecDepth 20000 in
theorem gX6_heap_X6_widthOf : GoodIn wsX6_heap (wsV RX6 189 RX6 yX6_widthOf wsX6_widthOf) := goodIn_app (goodIn_of _ (by decide +kernel)) ggX6_heap_X6_widthOf
theorem dX6_heap_0 : decode cX6_heap 0 = .ok (.iload_n 1, 1) := by decide +kernel
theorem dX6_heap_1 : decode cX6_heap 1 = .ok (.iconst 0, 1) := by decide +kernel
theorem dX6_heap_2 : decode cX6_heap 2 = .ok (.aload_n 0, 1) := by decide +kernel
theorem dX6_heap_3 : decode cX6_heap 3 = .ok (.invokevirtual 111, 3) := by decide +kernel
theorem dX6_heap_6 : decode cX6_heap 6 = .ok (.iconst 1, 1) := by decide +kernel
theorem dX6_heap_7 : decode cX6_heap 7 = .ok (.isub, 1) := by decide +kernel
theorem dX6_heap_8 : decode cX6_heap 8 = .ok (.invokestatic 43, 3) := by decide +kernel
theorem dX6_heap_11 : decode cX6_heap 11 = .ok (.ifCond .ne 5, 3) := by decide +kernel
theorem dX6_heap_14 : decode cX6_heap 14 = .ok (.iconst (-1), 1) := by decide +kernel
theorem dX6_heap_15 : decode cX6_heap 15 = .ok (.ireturn, 1) := by decide +kernel
theorem dX6_heap_16 : decode cX6_heap 16 = .ok (.iload_n 2, 1) := by decide +kernel
theorem dX6_heap_17 : decode cX6_heap 17 = .ok (.tableswitch 85 0 6 #[43, 49, 55, 61, 67, 73, 79], 43) := by decide +kernel
theorem dX6_heap_60 : decode cX6_heap 60 = .ok (.aload_n 0, 1) := by decide +kernel
theorem dX6_heap_61 : decode cX6_heap 61 = .ok (.iload_n 1, 1) := by decide +kernel
theorem dX6_heap_62 : decode cX6_heap 62 = .ok (.invokevirtual 165, 3) := by decide +kernel
theorem dX6_heap_65 : decode cX6_heap 65 = .ok (.ireturn, 1) := by decide +kernel
theorem dX6_heap_66 : decode cX6_heap 66 = .ok (.aload_n 0, 1) := by decide +kernel
theorem dX6_heap_67 : decode cX6_heap 67 = .ok (.iload_n 1, 1) := by decide +kernel
theorem dX6_heap_68 : decode cX6_heap 68 = .ok (.invokevirtual 177, 3) := by decide +kernel
theorem dX6_heap_71 : decode cX6_heap 71 = .ok (.ireturn, 1) := by decide +kernel
theorem dX6_heap_72 : decode cX6_heap 72 = .ok (.aload_n 0, 1) := by decide +kernel
theorem dX6_heap_73 : decode cX6_heap 73 = .ok (.iload_n 1, 1) := by decide +kernel
theorem dX6_heap_74 : decode cX6_heap 74 = .ok (.invokevirtual 180, 3) := by decide +kernel
theorem dX6_heap_77 : decode cX6_heap 77 = .ok (.ireturn, 1) := by decide +kernel
theorem dX6_heap_78 : decode cX6_heap 78 = .ok (.aload_n 0, 1) := by decide +kernel
theorem dX6_heap_79 : decode cX6_heap 79 = .ok (.iload_n 1, 1) := by decide +kernel
theorem dX6_heap_80 : decode cX6_heap 80 = .ok (.invokevirtual 183, 3) := by decide +kernel
theorem dX6_heap_83 : decode cX6_heap 83 = .ok (.ireturn, 1) := by decide +kernel
theorem dX6_heap_84 : decode cX6_heap 84 = .ok (.aload_n 0, 1) := by decide +kernel
theorem dX6_heap_85 : decode cX6_heap 85 = .ok (.iload_n 1, 1) := by decide +kernel
theorem dX6_heap_86 : decode cX6_heap 86 = .ok (.invokevirtual 124, 3) := by decide +kernel
theorem dX6_heap_89 : decode cX6_heap 89 = .ok (.ireturn, 1) := by decide +kernel
theorem dX6_heap_90 : decode cX6_heap 90 = .ok (.aload_n 0, 1) := by decide +kernel
theorem dX6_heap_91 : decode cX6_heap 91 = .ok (.iload_n 1, 1) := by decide +kernel
theorem dX6_heap_92 : decode cX6_heap 92 = .ok (.invokevirtual 186, 3) := by decide +kernel
theorem dX6_heap_95 : decode cX6_heap 95 = .ok (.ireturn, 1) := by decide +kernel
theorem dX6_heap_96 : decode cX6_heap 96 = .ok (.aload_n 0, 1) := by decide +kernel
theorem dX6_heap_97 : decode cX6_heap 97 = .ok (.iload_n 1, 1) := by decide +kernel
theorem dX6_heap_98 : decode cX6_heap 98 = .ok (.invokevirtual 189, 3) := by decide +kernel
theorem dX6_heap_101 : decode cX6_heap 101 = .ok (.ireturn, 1) := by decide +kernel
theorem dX6_heap_102 : decode cX6_heap 102 = .ok (.bipush (-2), 2) := by decide +kernel
theorem dX6_heap_104 : decode cX6_heap 104 = .ok (.ireturn, 1) := by decide +kernel
set_option maxRecDepth 20000 in
theorem ggX6_dotsOfTheme_X6_themeOf : GoodIn wsX6_dotsOfTheme wsX6_themeOf := goodIn_r _ [6, 7, 8, 9, 5, 10, 1, 15, 16, 17, 18, 19, 20, 21, 22, 23, 24, 25, 26, 27, 28, 29] (by decide +kernel) (by decide +kernel)
set_option maxRecDepth 20000 in
theorem gX6_dotsOfTheme_X6_themeOf : GoodIn wsX6_dotsOfTheme (wsV RX6 68 RX6 yX6_themeOf wsX6_themeOf) := goodIn_app (goodIn_of _ (by decide +kernel)) ggX6_dotsOfTheme_X6_themeOf
set_option maxRecDepth 20000 in
theorem ggX6_dotsOfTheme_X6_dotsOf : GoodIn wsX6_dotsOfTheme wsX6_dotsOf := goodIn_r _ [14, 7, 8, 9, 5, 10, 1, 15, 16, 17, 18, 19, 20, 21, 22, 23, 24, 25, 26, 27, 28, 29] (by decide +kernel) (by decide +kernel)
set_option maxRecDepth 20000 in
theorem gX6_dotsOfTheme_X6_dotsOf : GoodIn wsX6_dotsOfTheme (wsV RX6 102 RX6 yX6_dotsOf wsX6_dotsOf) := goodIn_app (goodIn_of _ (by decide +kernel)) ggX6_dotsOfTheme_X6_dotsOf
theorem dX6_dotsOfTheme_0 : decode cX6_dotsOfTheme 0 = .ok (.iconst 0, 1) := by decide +kernel
theorem dX6_dotsOfTheme_1 : decode cX6_dotsOfTheme 1 = .ok (.istore_n 2, 1) := by decide +kernel
theorem dX6_dotsOfTheme_2 : decode cX6_dotsOfTheme 2 = .ok (.iconst 0, 1) := by decide +kernel
theorem dX6_dotsOfTheme_3 : decode cX6_dotsOfTheme 3 = .ok (.istore_n 3, 1) := by decide +kernel
theorem dX6_dotsOfTheme_4 : decode cX6_dotsOfTheme 4 = .ok (.iload_n 3, 1) := by decide +kernel
theorem dX6_dotsOfTheme_5 : decode cX6_dotsOfTheme 5 = .ok (.aload_n 0, 1) := by decide +kernel
theorem dX6_dotsOfTheme_6 : decode cX6_dotsOfTheme 6 = .ok (.getfield 7, 3) := by decide +kernel
theorem dX6_dotsOfTheme_9 : decode cX6_dotsOfTheme 9 = .ok (.iconst 0, 1) := by decide +kernel
theorem dX6_dotsOfTheme_10 : decode cX6_dotsOfTheme 10 = .ok (.iaload, 1) := by decide +kernel
theorem dX6_dotsOfTheme_11 : decode cX6_dotsOfTheme 11 = .ok (.if_icmp .ge 30, 3) := by decide +kernel
theorem dX6_dotsOfTheme_14 : decode cX6_dotsOfTheme 14 = .ok (.iload_n 2, 1) := by decide +kernel
theorem dX6_dotsOfTheme_15 : decode cX6_dotsOfTheme 15 = .ok (.aload_n 0, 1) := by decide +kernel
theorem dX6_dotsOfTheme_16 : decode cX6_dotsOfTheme 16 = .ok (.iload_n 3, 1) := by decide +kernel
theorem dX6_dotsOfTheme_17 : decode cX6_dotsOfTheme 17 = .ok (.invokevirtual 68, 3) := by decide +kernel
theorem dX6_dotsOfTheme_20 : decode cX6_dotsOfTheme 20 = .ok (.iload_n 1, 1) := by decide +kernel
theorem dX6_dotsOfTheme_21 : decode cX6_dotsOfTheme 21 = .ok (.if_icmp .ne 11, 3) := by decide +kernel
theorem dX6_dotsOfTheme_24 : decode cX6_dotsOfTheme 24 = .ok (.aload_n 0, 1) := by decide +kernel
theorem dX6_dotsOfTheme_25 : decode cX6_dotsOfTheme 25 = .ok (.iload_n 3, 1) := by decide +kernel
theorem dX6_dotsOfTheme_26 : decode cX6_dotsOfTheme 26 = .ok (.invokevirtual 102, 3) := by decide +kernel
theorem dX6_dotsOfTheme_29 : decode cX6_dotsOfTheme 29 = .ok (.goto 4, 3) := by decide +kernel
theorem dX6_dotsOfTheme_32 : decode cX6_dotsOfTheme 32 = .ok (.iconst 0, 1) := by decide +kernel
theorem dX6_dotsOfTheme_33 : decode cX6_dotsOfTheme 33 = .ok (.iadd, 1) := by decide +kernel
theorem dX6_dotsOfTheme_34 : decode cX6_dotsOfTheme 34 = .ok (.istore_n 2, 1) := by decide +kernel
theorem dX6_dotsOfTheme_35 : decode cX6_dotsOfTheme 35 = .ok (.iinc 3 1, 3) := by decide +kernel
theorem dX6_dotsOfTheme_38 : decode cX6_dotsOfTheme 38 = .ok (.goto (-34), 3) := by decide +kernel
theorem dX6_dotsOfTheme_41 : decode cX6_dotsOfTheme 41 = .ok (.iload_n 2, 1) := by decide +kernel
theorem dX6_dotsOfTheme_42 : decode cX6_dotsOfTheme 42 = .ok (.ireturn, 1) := by decide +kernel
set_option maxRecDepth 20000 in
theorem ggX6_rankOf_X6_dotsOfTheme : GoodIn wsX6_rankOf wsX6_dotsOfTheme := goodIn_r _ [6, 1, 7, 8, 9, 5, 10, 11, 12, 13, 14, 15, 16, 17, 18, 19, 20, 21, 22, 23, 24, 25, 26, 27, 28, 29, 30, 31, 32, 33] (by decide +kernel) (by decide +kernel)
set_option maxRecDepth 20000 in
theorem gX6_rankOf_X6_dotsOfTheme : GoodIn wsX6_rankOf (wsV RX6 192 RX6 yX6_dotsOfTheme wsX6_dotsOfTheme) := goodIn_app (goodIn_of _ (by decide +kernel)) ggX6_rankOf_X6_dotsOfTheme
theorem dX6_rankOf_0 : decode cX6_rankOf 0 = .ok (.iconst 0, 1) := by decide +kernel
theorem dX6_rankOf_1 : decode cX6_rankOf 1 = .ok (.istore_n 2, 1) := by decide +kernel
theorem dX6_rankOf_2 : decode cX6_rankOf 2 = .ok (.iconst 0, 1) := by decide +kernel
theorem dX6_rankOf_3 : decode cX6_rankOf 3 = .ok (.istore_n 3, 1) := by decide +kernel
theorem dX6_rankOf_4 : decode cX6_rankOf 4 = .ok (.iload_n 3, 1) := by decide +kernel
theorem dX6_rankOf_5 : decode cX6_rankOf 5 = .ok (.aload_n 0, 1) := by decide +kernel
theorem dX6_rankOf_6 : decode cX6_rankOf 6 = .ok (.getfield 7, 3) := by decide +kernel
theorem dX6_rankOf_9 : decode cX6_rankOf 9 = .ok (.iconst 1, 1) := by decide +kernel
theorem dX6_rankOf_10 : decode cX6_rankOf 10 = .ok (.iaload, 1) := by decide +kernel
theorem dX6_rankOf_11 : decode cX6_rankOf 11 = .ok (.if_icmp .ge 45, 3) := by decide +kernel
theorem dX6_rankOf_14 : decode cX6_rankOf 14 = .ok (.aload_n 0, 1) := by decide +kernel
theorem dX6_rankOf_15 : decode cX6_rankOf 15 = .ok (.iload_n 3, 1) := by decide +kernel
theorem dX6_rankOf_16 : decode cX6_rankOf 16 = .ok (.invokevirtual 192, 3) := by decide +kernel
theorem dX6_rankOf_19 : decode cX6_rankOf 19 = .ok (.aload_n 0, 1) := by decide +kernel
theorem dX6_rankOf_20 : decode cX6_rankOf 20 = .ok (.iload_n 1, 1) := by decide +kernel
theorem dX6_rankOf_21 : decode cX6_rankOf 21 = .ok (.invokevirtual 192, 3) := by decide +kernel
theorem dX6_rankOf_24 : decode cX6_rankOf 24 = .ok (.isub, 1) := by decide +kernel
theorem dX6_rankOf_25 : decode cX6_rankOf 25 = .ok (.istore 4, 2) := by decide +kernel
theorem dX6_rankOf_27 : decode cX6_rankOf 27 = .ok (.iload_n 2, 1) := by decide +kernel
theorem dX6_rankOf_28 : decode cX6_rankOf 28 = .ok (.iload 4, 2) := by decide +kernel
theorem dX6_rankOf_30 : decode cX6_rankOf 30 = .ok (.ifCond .gt 13, 3) := by decide +kernel
theorem dX6_rankOf_33 : decode cX6_rankOf 33 = .ok (.iload 4, 2) := by decide +kernel
theorem dX6_rankOf_35 : decode cX6_rankOf 35 = .ok (.ifCond .ne 12, 3) := by decide +kernel
theorem dX6_rankOf_38 : decode cX6_rankOf 38 = .ok (.iload_n 3, 1) := by decide +kernel
theorem dX6_rankOf_39 : decode cX6_rankOf 39 = .ok (.iload_n 1, 1) := by decide +kernel
theorem dX6_rankOf_40 : decode cX6_rankOf 40 = .ok (.if_icmp .ge 7, 3) := by decide +kernel
theorem dX6_rankOf_43 : decode cX6_rankOf 43 = .ok (.iconst 1, 1) := by decide +kernel
theorem dX6_rankOf_44 : decode cX6_rankOf 44 = .ok (.goto 4, 3) := by decide +kernel
theorem dX6_rankOf_47 : decode cX6_rankOf 47 = .ok (.iconst 0, 1) := by decide +kernel
theorem dX6_rankOf_48 : decode cX6_rankOf 48 = .ok (.iadd, 1) := by decide +kernel
theorem dX6_rankOf_49 : decode cX6_rankOf 49 = .ok (.istore_n 2, 1) := by decide +kernel
theorem dX6_rankOf_50 : decode cX6_rankOf 50 = .ok (.iinc 3 1, 3) := by decide +kernel
theorem dX6_rankOf_53 : decode cX6_rankOf 53 = .ok (.goto (-49), 3) := by decide +kernel
theorem dX6_rankOf_56 : decode cX6_rankOf 56 = .ok (.iload_n 2, 1) := by decide +kernel
theorem dX6_rankOf_57 : decode cX6_rankOf 57 = .ok (.ireturn, 1) := by decide +kernel
set_option maxRecDepth 20000 in
theorem ggX6_heapsOfTheme_X6_laysNow : GoodIn wsX6_heapsOfTheme wsX6_laysNow := goodIn_r _ [7, 1, 8, 9, 10, 6, 11, 12, 2, 13, 14, 15, 16, 17, 18, 19, 20, 21, 22, 23, 24, 25, 26, 27, 28, 33, 34, 35, 36, 37, 38, 39, 40, 41, 42, 43, 44, 45, 46, 47] (by decide +kernel) (by decide +kernel)
set_option maxRecDepth 20000 in
theorem gX6_heapsOfTheme_X6_laysNow : GoodIn wsX6_heapsOfTheme (wsV RX6 111 RX6 yX6_laysNow wsX6_laysNow) := goodIn_app (goodIn_of _ (by decide +kernel)) ggX6_heapsOfTheme_X6_laysNow
set_option maxRecDepth 20000 in
theorem ggX6_heapsOfTheme_X6_themeOf : GoodIn wsX6_heapsOfTheme wsX6_themeOf := goodIn_r _ [32, 22, 23, 24, 6, 25, 1, 33, 34, 35, 36, 37, 38, 39, 40, 41, 42, 43, 44, 45, 46, 47] (by decide +kernel) (by decide +kernel)
set_option maxRecDepth 20000 in
theorem gX6_heapsOfTheme_X6_themeOf : GoodIn wsX6_heapsOfTheme (wsV RX6 68 RX6 yX6_themeOf wsX6_themeOf) := goodIn_app (goodIn_of _ (by decide +kernel)) ggX6_heapsOfTheme_X6_themeOf
theorem dX6_heapsOfTheme_0 : decode cX6_heapsOfTheme 0 = .ok (.iconst 0, 1) := by decide +kernel
theorem dX6_heapsOfTheme_1 : decode cX6_heapsOfTheme 1 = .ok (.istore_n 2, 1) := by decide +kernel
theorem dX6_heapsOfTheme_2 : decode cX6_heapsOfTheme 2 = .ok (.aload_n 0, 1) := by decide +kernel
theorem dX6_heapsOfTheme_3 : decode cX6_heapsOfTheme 3 = .ok (.invokevirtual 111, 3) := by decide +kernel
theorem dX6_heapsOfTheme_6 : decode cX6_heapsOfTheme 6 = .ok (.istore_n 3, 1) := by decide +kernel
theorem dX6_heapsOfTheme_7 : decode cX6_heapsOfTheme 7 = .ok (.iconst 0, 1) := by decide +kernel
theorem dX6_heapsOfTheme_8 : decode cX6_heapsOfTheme 8 = .ok (.istore 4, 2) := by decide +kernel
theorem dX6_heapsOfTheme_10 : decode cX6_heapsOfTheme 10 = .ok (.iload 4, 2) := by decide +kernel
theorem dX6_heapsOfTheme_12 : decode cX6_heapsOfTheme 12 = .ok (.aload_n 0, 1) := by decide +kernel
theorem dX6_heapsOfTheme_13 : decode cX6_heapsOfTheme 13 = .ok (.getfield 7, 3) := by decide +kernel
theorem dX6_heapsOfTheme_16 : decode cX6_heapsOfTheme 16 = .ok (.iconst 0, 1) := by decide +kernel
theorem dX6_heapsOfTheme_17 : decode cX6_heapsOfTheme 17 = .ok (.iaload, 1) := by decide +kernel
theorem dX6_heapsOfTheme_18 : decode cX6_heapsOfTheme 18 = .ok (.if_icmp .ge 35, 3) := by decide +kernel
theorem dX6_heapsOfTheme_21 : decode cX6_heapsOfTheme 21 = .ok (.iload_n 2, 1) := by decide +kernel
theorem dX6_heapsOfTheme_22 : decode cX6_heapsOfTheme 22 = .ok (.aload_n 0, 1) := by decide +kernel
theorem dX6_heapsOfTheme_23 : decode cX6_heapsOfTheme 23 = .ok (.iload 4, 2) := by decide +kernel
theorem dX6_heapsOfTheme_25 : decode cX6_heapsOfTheme 25 = .ok (.invokevirtual 68, 3) := by decide +kernel
theorem dX6_heapsOfTheme_28 : decode cX6_heapsOfTheme 28 = .ok (.iload_n 1, 1) := by decide +kernel
theorem dX6_heapsOfTheme_29 : decode cX6_heapsOfTheme 29 = .ok (.if_icmp .ne 15, 3) := by decide +kernel
theorem dX6_heapsOfTheme_32 : decode cX6_heapsOfTheme 32 = .ok (.iconst 1, 1) := by decide +kernel
theorem dX6_heapsOfTheme_33 : decode cX6_heapsOfTheme 33 = .ok (.aload_n 0, 1) := by decide +kernel
theorem dX6_heapsOfTheme_34 : decode cX6_heapsOfTheme 34 = .ok (.getfield 23, 3) := by decide +kernel
theorem dX6_heapsOfTheme_37 : decode cX6_heapsOfTheme 37 = .ok (.iload 4, 2) := by decide +kernel
theorem dX6_heapsOfTheme_39 : decode cX6_heapsOfTheme 39 = .ok (.iaload, 1) := by decide +kernel
theorem dX6_heapsOfTheme_40 : decode cX6_heapsOfTheme 40 = .ok (.ishl, 1) := by decide +kernel
theorem dX6_heapsOfTheme_41 : decode cX6_heapsOfTheme 41 = .ok (.goto 4, 3) := by decide +kernel
theorem dX6_heapsOfTheme_44 : decode cX6_heapsOfTheme 44 = .ok (.iconst 0, 1) := by decide +kernel
theorem dX6_heapsOfTheme_45 : decode cX6_heapsOfTheme 45 = .ok (.ior, 1) := by decide +kernel
theorem dX6_heapsOfTheme_46 : decode cX6_heapsOfTheme 46 = .ok (.istore_n 2, 1) := by decide +kernel
theorem dX6_heapsOfTheme_47 : decode cX6_heapsOfTheme 47 = .ok (.iinc 4 1, 3) := by decide +kernel
theorem dX6_heapsOfTheme_50 : decode cX6_heapsOfTheme 50 = .ok (.goto (-40), 3) := by decide +kernel
theorem dX6_heapsOfTheme_53 : decode cX6_heapsOfTheme 53 = .ok (.iconst 0, 1) := by decide +kernel
theorem dX6_heapsOfTheme_54 : decode cX6_heapsOfTheme 54 = .ok (.istore 4, 2) := by decide +kernel
theorem dX6_heapsOfTheme_56 : decode cX6_heapsOfTheme 56 = .ok (.iload_n 2, 1) := by decide +kernel
theorem dX6_heapsOfTheme_57 : decode cX6_heapsOfTheme 57 = .ok (.istore 5, 2) := by decide +kernel
theorem dX6_heapsOfTheme_59 : decode cX6_heapsOfTheme 59 = .ok (.iload 5, 2) := by decide +kernel
theorem dX6_heapsOfTheme_61 : decode cX6_heapsOfTheme 61 = .ok (.ifCond .eq 18, 3) := by decide +kernel
theorem dX6_heapsOfTheme_64 : decode cX6_heapsOfTheme 64 = .ok (.iinc 4 1, 3) := by decide +kernel
theorem dX6_heapsOfTheme_67 : decode cX6_heapsOfTheme 67 = .ok (.iload 5, 2) := by decide +kernel
theorem dX6_heapsOfTheme_69 : decode cX6_heapsOfTheme 69 = .ok (.iload 5, 2) := by decide +kernel
theorem dX6_heapsOfTheme_71 : decode cX6_heapsOfTheme 71 = .ok (.iconst 1, 1) := by decide +kernel
theorem dX6_heapsOfTheme_72 : decode cX6_heapsOfTheme 72 = .ok (.isub, 1) := by decide +kernel
theorem dX6_heapsOfTheme_73 : decode cX6_heapsOfTheme 73 = .ok (.iand, 1) := by decide +kernel
theorem dX6_heapsOfTheme_74 : decode cX6_heapsOfTheme 74 = .ok (.istore 5, 2) := by decide +kernel
theorem dX6_heapsOfTheme_76 : decode cX6_heapsOfTheme 76 = .ok (.goto (-17), 3) := by decide +kernel
theorem dX6_heapsOfTheme_79 : decode cX6_heapsOfTheme 79 = .ok (.iload 4, 2) := by decide +kernel
theorem dX6_heapsOfTheme_81 : decode cX6_heapsOfTheme 81 = .ok (.ireturn, 1) := by decide +kernel
set_option maxRecDepth 20000 in
theorem ggX6_voted_X6_voteOf : GoodIn wsX6_voted wsX6_voteOf := goodIn_r _ [5, 6, 7, 8, 9, 10, 11, 12, 13, 14, 15, 16, 17, 18, 19, 20, 21] (by decide +kernel) (by decide +kernel)
set_option maxRecDepth 20000 in
theorem gX6_voted_X6_voteOf : GoodIn wsX6_voted (wsV RX6 82 RX6 yX6_voteOf wsX6_voteOf) := goodIn_app (goodIn_of _ (by decide +kernel)) ggX6_voted_X6_voteOf
theorem dX6_voted_0 : decode cX6_voted 0 = .ok (.iconst 0, 1) := by decide +kernel
theorem dX6_voted_1 : decode cX6_voted 1 = .ok (.istore_n 2, 1) := by decide +kernel
theorem dX6_voted_2 : decode cX6_voted 2 = .ok (.iconst 0, 1) := by decide +kernel
theorem dX6_voted_3 : decode cX6_voted 3 = .ok (.istore_n 3, 1) := by decide +kernel
theorem dX6_voted_4 : decode cX6_voted 4 = .ok (.iload_n 3, 1) := by decide +kernel
theorem dX6_voted_5 : decode cX6_voted 5 = .ok (.bipush 6, 2) := by decide +kernel
theorem dX6_voted_7 : decode cX6_voted 7 = .ok (.if_icmp .ge 26, 3) := by decide +kernel
theorem dX6_voted_10 : decode cX6_voted 10 = .ok (.iload_n 2, 1) := by decide +kernel
theorem dX6_voted_11 : decode cX6_voted 11 = .ok (.aload_n 0, 1) := by decide +kernel
theorem dX6_voted_12 : decode cX6_voted 12 = .ok (.iload_n 1, 1) := by decide +kernel
theorem dX6_voted_13 : decode cX6_voted 13 = .ok (.iload_n 3, 1) := by decide +kernel
theorem dX6_voted_14 : decode cX6_voted 14 = .ok (.invokevirtual 82, 3) := by decide +kernel
theorem dX6_voted_17 : decode cX6_voted 17 = .ok (.ifCond .lt 7, 3) := by decide +kernel
theorem dX6_voted_20 : decode cX6_voted 20 = .ok (.iconst 1, 1) := by decide +kernel
theorem dX6_voted_21 : decode cX6_voted 21 = .ok (.goto 4, 3) := by decide +kernel
theorem dX6_voted_24 : decode cX6_voted 24 = .ok (.iconst 0, 1) := by decide +kernel
theorem dX6_voted_25 : decode cX6_voted 25 = .ok (.iadd, 1) := by decide +kernel
theorem dX6_voted_26 : decode cX6_voted 26 = .ok (.istore_n 2, 1) := by decide +kernel
theorem dX6_voted_27 : decode cX6_voted 27 = .ok (.iinc 3 1, 3) := by decide +kernel
theorem dX6_voted_30 : decode cX6_voted 30 = .ok (.goto (-26), 3) := by decide +kernel
theorem dX6_voted_33 : decode cX6_voted 33 = .ok (.iload_n 2, 1) := by decide +kernel
theorem dX6_voted_34 : decode cX6_voted 34 = .ok (.ireturn, 1) := by decide +kernel
set_option maxRecDepth 20000 in
theorem ggX6_theme_X6_isTheme : GoodIn wsX6_theme wsX6_isTheme := goodIn_r _ [5, 6, 7, 8, 4, 9, 76, 77, 78, 79, 80, 81, 82, 83, 84, 85, 86, 87, 88, 89, 90] (by decide +kernel) (by decide +kernel)
set_option maxRecDepth 20000 in
theorem gX6_theme_X6_isTheme : GoodIn wsX6_theme (wsV RX6 127 RX6 yX6_isTheme wsX6_isTheme) := goodIn_app (goodIn_of _ (by decide +kernel)) ggX6_theme_X6_isTheme
set_option maxRecDepth 20000 in
theorem ggX6_theme_X6_notesOf : GoodIn wsX6_theme wsX6_notesOf := goodIn_r _ [13, 6, 14, 15, 16, 4, 17, 18, 19, 20, 21, 76, 77, 78, 79, 80, 81, 82, 83, 84, 85, 86, 87, 88, 89, 90] (by decide +kernel) (by decide +kernel)
set_option maxRecDepth 20000 in
theorem gX6_theme_X6_notesOf : GoodIn wsX6_theme (wsV RX6 75 RX6 yX6_notesOf wsX6_notesOf) := goodIn_app (goodIn_of _ (by decide +kernel)) ggX6_theme_X6_notesOf
set_option maxRecDepth 20000 in
theorem ggX6_theme_X6_dotsOfTheme : GoodIn wsX6_theme wsX6_dotsOfTheme := goodIn_r _ [25, 6, 14, 15, 16, 4, 17, 18, 19, 20, 21, 26, 27, 28, 29, 76, 77, 78, 79, 80, 81, 82, 83, 84, 85, 86, 87, 88, 89, 90] (by decide +kernel) (by decide +kernel)
set_option maxRecDepth 20000 in
theorem gX6_theme_X6_dotsOfTheme : GoodIn wsX6_theme (wsV RX6 192 RX6 yX6_dotsOfTheme wsX6_dotsOfTheme) := goodIn_app (goodIn_of _ (by decide +kernel)) ggX6_theme_X6_dotsOfTheme
set_option maxRecDepth 20000 in
theorem ggX6_theme_X6_nameOf : GoodIn wsX6_theme wsX6_nameOf := goodIn_r _ [33, 34, 35, 36, 4, 37, 38, 39, 40, 41, 6, 76, 77, 78, 79, 80, 81, 82, 83, 84, 85, 86, 87, 88, 89, 90] (by decide +kernel) (by decide +kernel)
set_option maxRecDepth 20000 in
theorem gX6_theme_X6_nameOf : GoodIn wsX6_theme (wsV RX6 130 RX6 yX6_nameOf wsX6_nameOf) := goodIn_app (goodIn_of _ (by decide +kernel)) ggX6_theme_X6_nameOf
set_option maxRecDepth 20000 in
theorem ggX6_theme_X6_rankOf : GoodIn wsX6_theme wsX6_rankOf := goodIn_r _ [45, 6, 22, 23, 24, 4, 25, 14, 15, 16, 17, 18, 19, 20, 21, 26, 27, 28, 29, 76, 77, 78, 79, 80, 81, 82, 83, 84, 85, 86, 87, 88, 89, 90] (by decide +kernel) (by decide +kernel)
set_option maxRecDepth 20000 in
theorem gX6_theme_X6_rankOf : GoodIn wsX6_theme (wsV RX6 195 RX6 yX6_rankOf wsX6_rankOf) := goodIn_app (goodIn_of _ (by decide +kernel)) ggX6_theme_X6_rankOf
set_option maxRecDepth 20000 in
theorem ggX6_theme_X6_heapsOfTheme : GoodIn wsX6_theme wsX6_heapsOfTheme := goodIn_r _ [49, 6, 50, 51, 52, 53, 4, 54, 55, 56, 57, 58, 59, 60, 61, 62, 63, 64, 65, 66, 67, 68, 18, 19, 20, 21, 69, 70, 71, 14, 15, 16, 17, 76, 77, 78, 79, 80, 81, 82, 83, 84, 85, 86, 87, 88, 89, 90] (by decide +kernel) (by decide +kernel)
set_option maxRecDepth 20000 in
theorem gX6_theme_X6_heapsOfTheme : GoodIn wsX6_theme (wsV RX6 198 RX6 yX6_heapsOfTheme wsX6_heapsOfTheme) := goodIn_app (goodIn_of _ (by decide +kernel)) ggX6_theme_X6_heapsOfTheme
set_option maxRecDepth 20000 in
theorem ggX6_theme_X6_voted : GoodIn wsX6_theme wsX6_voted := goodIn_r _ [75, 38, 39, 40, 4, 41, 6, 76, 77, 78, 79, 80, 81, 82, 83, 84, 85, 86, 87, 88, 89, 90] (by decide +kernel) (by decide +kernel)
set_option maxRecDepth 20000 in
theorem gX6_theme_X6_voted : GoodIn wsX6_theme (wsV RX6 201 RX6 yX6_voted wsX6_voted) := goodIn_app (goodIn_of _ (by decide +kernel)) ggX6_theme_X6_voted
theorem dX6_theme_0 : decode cX6_theme 0 = .ok (.aload_n 0, 1) := by decide +kernel
theorem dX6_theme_1 : decode cX6_theme 1 = .ok (.iload_n 1, 1) := by decide +kernel
theorem dX6_theme_2 : decode cX6_theme 2 = .ok (.invokevirtual 127, 3) := by decide +kernel
theorem dX6_theme_5 : decode cX6_theme 5 = .ok (.ifCond .ne 5, 3) := by decide +kernel
theorem dX6_theme_8 : decode cX6_theme 8 = .ok (.iconst (-1), 1) := by decide +kernel
theorem dX6_theme_9 : decode cX6_theme 9 = .ok (.ireturn, 1) := by decide +kernel
theorem dX6_theme_10 : decode cX6_theme 10 = .ok (.iload_n 2, 1) := by decide +kernel
theorem dX6_theme_11 : decode cX6_theme 11 = .ok (.tableswitch 73 0 5 #[37, 43, 49, 55, 61, 67], 37) := by decide +kernel
theorem dX6_theme_48 : decode cX6_theme 48 = .ok (.aload_n 0, 1) := by decide +kernel
theorem dX6_theme_49 : decode cX6_theme 49 = .ok (.iload_n 1, 1) := by decide +kernel
theorem dX6_theme_50 : decode cX6_theme 50 = .ok (.invokevirtual 75, 3) := by decide +kernel
theorem dX6_theme_53 : decode cX6_theme 53 = .ok (.ireturn, 1) := by decide +kernel
theorem dX6_theme_54 : decode cX6_theme 54 = .ok (.aload_n 0, 1) := by decide +kernel
theorem dX6_theme_55 : decode cX6_theme 55 = .ok (.iload_n 1, 1) := by decide +kernel
theorem dX6_theme_56 : decode cX6_theme 56 = .ok (.invokevirtual 192, 3) := by decide +kernel
theorem dX6_theme_59 : decode cX6_theme 59 = .ok (.ireturn, 1) := by decide +kernel
theorem dX6_theme_60 : decode cX6_theme 60 = .ok (.aload_n 0, 1) := by decide +kernel
theorem dX6_theme_61 : decode cX6_theme 61 = .ok (.iload_n 1, 1) := by decide +kernel
theorem dX6_theme_62 : decode cX6_theme 62 = .ok (.invokevirtual 130, 3) := by decide +kernel
theorem dX6_theme_65 : decode cX6_theme 65 = .ok (.ireturn, 1) := by decide +kernel
theorem dX6_theme_66 : decode cX6_theme 66 = .ok (.aload_n 0, 1) := by decide +kernel
theorem dX6_theme_67 : decode cX6_theme 67 = .ok (.iload_n 1, 1) := by decide +kernel
theorem dX6_theme_68 : decode cX6_theme 68 = .ok (.invokevirtual 195, 3) := by decide +kernel
theorem dX6_theme_71 : decode cX6_theme 71 = .ok (.ireturn, 1) := by decide +kernel
theorem dX6_theme_72 : decode cX6_theme 72 = .ok (.aload_n 0, 1) := by decide +kernel
theorem dX6_theme_73 : decode cX6_theme 73 = .ok (.iload_n 1, 1) := by decide +kernel
theorem dX6_theme_74 : decode cX6_theme 74 = .ok (.invokevirtual 198, 3) := by decide +kernel
theorem dX6_theme_77 : decode cX6_theme 77 = .ok (.ireturn, 1) := by decide +kernel
theorem dX6_theme_78 : decode cX6_theme 78 = .ok (.aload_n 0, 1) := by decide +kernel
theorem dX6_theme_79 : decode cX6_theme 79 = .ok (.iload_n 1, 1) := by decide +kernel
theorem dX6_theme_80 : decode cX6_theme 80 = .ok (.invokevirtual 201, 3) := by decide +kernel
theorem dX6_theme_83 : decode cX6_theme 83 = .ok (.ireturn, 1) := by decide +kernel
theorem dX6_theme_84 : decode cX6_theme 84 = .ok (.bipush (-2), 2) := by decide +kernel
theorem dX6_theme_86 : decode cX6_theme 86 = .ok (.ireturn, 1) := by decide +kernel
set_option maxRecDepth 20000 in
theorem ggX6_votes_X6_isTheme : GoodIn wsX6_votes wsX6_isTheme := goodIn_r _ [5, 6, 7, 8, 4, 9, 18, 19, 20, 21, 22, 23, 24, 25, 26, 27, 28, 29, 30, 31, 32] (by decide +kernel) (by decide +kernel)
set_option maxRecDepth 20000 in
theorem gX6_votes_X6_isTheme : GoodIn wsX6_votes (wsV RX6 127 RX6 yX6_isTheme wsX6_isTheme) := goodIn_app (goodIn_of _ (by decide +kernel)) ggX6_votes_X6_isTheme
set_option maxRecDepth 20000 in
theorem ggX6_votes_X6_in : GoodIn wsX6_votes wsX6_in := goodIn_r _ [9] (by decide +kernel) (by decide +kernel)
set_option maxRecDepth 20000 in
theorem gX6_votes_X6_in : GoodIn wsX6_votes (va_wsS RX6 43 yX6_in wsX6_in) := goodIn_app (goodIn_of _ (by decide +kernel)) ggX6_votes_X6_in
set_option maxRecDepth 20000 in
theorem ggX6_votes_X6_votesFor : GoodIn wsX6_votes wsX6_votesFor := goodIn_r _ [13, 14, 15, 16, 4, 17, 6, 18, 19, 20, 21, 22, 23, 24, 25, 26, 27, 28, 29, 30, 31, 32] (by decide +kernel) (by decide +kernel)
set_option maxRecDepth 20000 in
theorem gX6_votes_X6_votesFor : GoodIn wsX6_votes (wsV RX6 85 RX6 yX6_votesFor wsX6_votesFor) := goodIn_app (goodIn_of _ (by decide +kernel)) ggX6_votes_X6_votesFor
theorem dX6_votes_0 : decode cX6_votes 0 = .ok (.aload_n 0, 1) := by decide +kernel
theorem dX6_votes_1 : decode cX6_votes 1 = .ok (.iload_n 1, 1) := by decide +kernel
theorem dX6_votes_2 : decode cX6_votes 2 = .ok (.invokevirtual 127, 3) := by decide +kernel
theorem dX6_votes_5 : decode cX6_votes 5 = .ok (.ifCond .ne 5, 3) := by decide +kernel
theorem dX6_votes_8 : decode cX6_votes 8 = .ok (.iconst (-1), 1) := by decide +kernel
theorem dX6_votes_9 : decode cX6_votes 9 = .ok (.ireturn, 1) := by decide +kernel
theorem dX6_votes_10 : decode cX6_votes 10 = .ok (.iload_n 2, 1) := by decide +kernel
theorem dX6_votes_11 : decode cX6_votes 11 = .ok (.iconst 0, 1) := by decide +kernel
theorem dX6_votes_12 : decode cX6_votes 12 = .ok (.bipush 9, 2) := by decide +kernel
theorem dX6_votes_14 : decode cX6_votes 14 = .ok (.invokestatic 43, 3) := by decide +kernel
theorem dX6_votes_17 : decode cX6_votes 17 = .ok (.ifCond .eq 12, 3) := by decide +kernel
theorem dX6_votes_20 : decode cX6_votes 20 = .ok (.aload_n 0, 1) := by decide +kernel
theorem dX6_votes_21 : decode cX6_votes 21 = .ok (.iload_n 1, 1) := by decide +kernel
theorem dX6_votes_22 : decode cX6_votes 22 = .ok (.iload_n 2, 1) := by decide +kernel
theorem dX6_votes_23 : decode cX6_votes 23 = .ok (.invokevirtual 85, 3) := by decide +kernel
theorem dX6_votes_26 : decode cX6_votes 26 = .ok (.goto 5, 3) := by decide +kernel
theorem dX6_votes_29 : decode cX6_votes 29 = .ok (.bipush (-2), 2) := by decide +kernel
theorem dX6_votes_31 : decode cX6_votes 31 = .ok (.ireturn, 1) := by decide +kernel
set_option maxRecDepth 20000 in
theorem ggX6_ifDragged_X6_isNote : GoodIn wsX6_ifDragged wsX6_isNote := goodIn_r _ [8, 3, 9, 10, 7, 11, 52, 53, 54, 55, 56, 57, 58, 59, 60, 61, 62, 63, 64, 65, 66] (by decide +kernel) (by decide +kernel)
set_option maxRecDepth 20000 in
theorem gX6_ifDragged_X6_isNote : GoodIn wsX6_ifDragged (wsV RX6 98 RX6 yX6_isNote wsX6_isNote) := goodIn_app (goodIn_of _ (by decide +kernel)) ggX6_ifDragged_X6_isNote
set_option maxRecDepth 20000 in
theorem ggX6_ifDragged_X6_isPlace : GoodIn wsX6_ifDragged wsX6_isPlace := goodIn_r _ [14, 9, 10, 7, 11] (by decide +kernel) (by decide +kernel)
set_option maxRecDepth 20000 in
theorem gX6_ifDragged_X6_isPlace : GoodIn wsX6_ifDragged (va_wsS RX6 88 yX6_isPlace wsX6_isPlace) := goodIn_app (goodIn_of _ (by decide +kernel)) ggX6_ifDragged_X6_isPlace
set_option maxRecDepth 20000 in
theorem ggX6_ifDragged_X6_in : GoodIn wsX6_ifDragged wsX6_in := goodIn_r _ [11] (by decide +kernel) (by decide +kernel)
set_option maxRecDepth 20000 in
theorem gX6_ifDragged_X6_in : GoodIn wsX6_ifDragged (va_wsS RX6 43 yX6_in wsX6_in) := goodIn_app (goodIn_of _ (by decide +kernel)) ggX6_ifDragged_X6_in
set_option maxRecDepth 20000 in
theorem ggX6_ifDragged_X6_laysNow : GoodIn wsX6_ifDragged wsX6_laysNow := goodIn_r _ [18, 3, 19, 20, 21, 7, 22, 23, 2, 24, 25, 26, 27, 28, 29, 30, 31, 32, 33, 34, 35, 36, 37, 38, 39, 52, 53, 54, 55, 56, 57, 58, 59, 60, 61, 62, 63, 64, 65, 66] (by decide +kernel) (by decide +kernel)
set_option maxRecDepth 20000 in
theorem gX6_ifDragged_X6_laysNow : GoodIn wsX6_ifDragged (wsV RX6 111 RX6 yX6_laysNow wsX6_laysNow) := goodIn_app (goodIn_of _ (by decide +kernel)) ggX6_ifDragged_X6_laysNow
set_option maxRecDepth 20000 in
theorem ggX6_ifDragged_X6_of : GoodIn wsX6_ifDragged wsX6_of := goodIn_r _ [36, 3, 52, 53, 54, 55, 56, 57, 58, 59, 60, 61, 62, 63, 64, 65, 66] (by decide +kernel) (by decide +kernel)
set_option maxRecDepth 20000 in
theorem gX6_ifDragged_X6_of : GoodIn wsX6_ifDragged (wsV RX6 47 RX6 yX6_of wsX6_of) := goodIn_app (goodIn_of _ (by decide +kernel)) ggX6_ifDragged_X6_of
set_option maxRecDepth 20000 in
theorem ggX6_ifDragged_X6_comes : GoodIn wsX6_ifDragged wsX6_comes := goodIn_r _ [43, 44, 45, 46, 7, 47, 3, 52, 53, 54, 55, 56, 57, 58, 59, 60, 61, 62, 63, 64, 65, 66] (by decide +kernel) (by decide +kernel)
set_option maxRecDepth 20000 in
theorem gX6_ifDragged_X6_comes : GoodIn wsX6_ifDragged (wsV RX6 108 RX6 yX6_comes wsX6_comes) := goodIn_app (goodIn_of _ (by decide +kernel)) ggX6_ifDragged_X6_comes
set_option maxRecDepth 20000 in
theorem ggX6_ifDragged_X6_notesIn : GoodIn wsX6_ifDragged wsX6_notesIn := goodIn_r _ [51, 3, 2, 52, 53, 54, 55, 56, 57, 58, 59, 60, 61, 62, 63, 64, 65, 66] (by decide +kernel) (by decide +kernel)
set_option maxRecDepth 20000 in
theorem gX6_ifDragged_X6_notesIn : GoodIn wsX6_ifDragged (wsV RX6 165 RX6 yX6_notesIn wsX6_notesIn) := goodIn_app (goodIn_of _ (by decide +kernel)) ggX6_ifDragged_X6_notesIn
theorem dX6_ifDragged_0 : decode cX6_ifDragged 0 = .ok (.aload_n 0, 1) := by decide +kernel
theorem dX6_ifDragged_1 : decode cX6_ifDragged 1 = .ok (.iload_n 1, 1) := by decide +kernel
theorem dX6_ifDragged_2 : decode cX6_ifDragged 2 = .ok (.invokevirtual 98, 3) := by decide +kernel
theorem dX6_ifDragged_5 : decode cX6_ifDragged 5 = .ok (.ifCond .eq 11, 3) := by decide +kernel
theorem dX6_ifDragged_8 : decode cX6_ifDragged 8 = .ok (.iload_n 2, 1) := by decide +kernel
theorem dX6_ifDragged_9 : decode cX6_ifDragged 9 = .ok (.iload_n 3, 1) := by decide +kernel
theorem dX6_ifDragged_10 : decode cX6_ifDragged 10 = .ok (.invokestatic 88, 3) := by decide +kernel
theorem dX6_ifDragged_13 : decode cX6_ifDragged 13 = .ok (.ifCond .ne 5, 3) := by decide +kernel
theorem dX6_ifDragged_16 : decode cX6_ifDragged 16 = .ok (.iconst (-1), 1) := by decide +kernel
theorem dX6_ifDragged_17 : decode cX6_ifDragged 17 = .ok (.ireturn, 1) := by decide +kernel
theorem dX6_ifDragged_18 : decode cX6_ifDragged 18 = .ok (.iload 4, 2) := by decide +kernel
theorem dX6_ifDragged_20 : decode cX6_ifDragged 20 = .ok (.iconst 0, 1) := by decide +kernel
theorem dX6_ifDragged_21 : decode cX6_ifDragged 21 = .ok (.iconst 2, 1) := by decide +kernel
theorem dX6_ifDragged_22 : decode cX6_ifDragged 22 = .ok (.invokestatic 43, 3) := by decide +kernel
theorem dX6_ifDragged_25 : decode cX6_ifDragged 25 = .ok (.ifCond .ne 6, 3) := by decide +kernel
theorem dX6_ifDragged_28 : decode cX6_ifDragged 28 = .ok (.bipush (-2), 2) := by decide +kernel
theorem dX6_ifDragged_30 : decode cX6_ifDragged 30 = .ok (.ireturn, 1) := by decide +kernel
theorem dX6_ifDragged_31 : decode cX6_ifDragged 31 = .ok (.aload_n 0, 1) := by decide +kernel
theorem dX6_ifDragged_32 : decode cX6_ifDragged 32 = .ok (.invokevirtual 111, 3) := by decide +kernel
theorem dX6_ifDragged_35 : decode cX6_ifDragged 35 = .ok (.istore 5, 2) := by decide +kernel
theorem dX6_ifDragged_37 : decode cX6_ifDragged 37 = .ok (.iconst 0, 1) := by decide +kernel
theorem dX6_ifDragged_38 : decode cX6_ifDragged 38 = .ok (.istore 6, 2) := by decide +kernel
theorem dX6_ifDragged_40 : decode cX6_ifDragged 40 = .ok (.iload 6, 2) := by decide +kernel
theorem dX6_ifDragged_42 : decode cX6_ifDragged 42 = .ok (.bipush 20, 2) := by decide +kernel
theorem dX6_ifDragged_44 : decode cX6_ifDragged 44 = .ok (.if_icmp .ge 23, 3) := by decide +kernel
theorem dX6_ifDragged_47 : decode cX6_ifDragged 47 = .ok (.aload_n 0, 1) := by decide +kernel
theorem dX6_ifDragged_48 : decode cX6_ifDragged 48 = .ok (.getfield 32, 3) := by decide +kernel
theorem dX6_ifDragged_51 : decode cX6_ifDragged 51 = .ok (.iload 6, 2) := by decide +kernel
theorem dX6_ifDragged_53 : decode cX6_ifDragged 53 = .ok (.aload_n 0, 1) := by decide +kernel
theorem dX6_ifDragged_54 : decode cX6_ifDragged 54 = .ok (.getfield 23, 3) := by decide +kernel
theorem dX6_ifDragged_57 : decode cX6_ifDragged 57 = .ok (.iload 6, 2) := by decide +kernel
theorem dX6_ifDragged_59 : decode cX6_ifDragged 59 = .ok (.iaload, 1) := by decide +kernel
theorem dX6_ifDragged_60 : decode cX6_ifDragged 60 = .ok (.iastore, 1) := by decide +kernel
theorem dX6_ifDragged_61 : decode cX6_ifDragged 61 = .ok (.iinc 6 1, 3) := by decide +kernel
theorem dX6_ifDragged_64 : decode cX6_ifDragged 64 = .ok (.goto (-24), 3) := by decide +kernel
theorem dX6_ifDragged_67 : decode cX6_ifDragged 67 = .ok (.aload_n 0, 1) := by decide +kernel
theorem dX6_ifDragged_68 : decode cX6_ifDragged 68 = .ok (.iload_n 1, 1) := by decide +kernel
theorem dX6_ifDragged_69 : decode cX6_ifDragged 69 = .ok (.iconst 0, 1) := by decide +kernel
theorem dX6_ifDragged_70 : decode cX6_ifDragged 70 = .ok (.invokevirtual 47, 3) := by decide +kernel
theorem dX6_ifDragged_73 : decode cX6_ifDragged 73 = .ok (.istore 6, 2) := by decide +kernel
theorem dX6_ifDragged_75 : decode cX6_ifDragged 75 = .ok (.aload_n 0, 1) := by decide +kernel
theorem dX6_ifDragged_76 : decode cX6_ifDragged 76 = .ok (.iload_n 1, 1) := by decide +kernel
theorem dX6_ifDragged_77 : decode cX6_ifDragged 77 = .ok (.iconst 1, 1) := by decide +kernel
theorem dX6_ifDragged_78 : decode cX6_ifDragged 78 = .ok (.invokevirtual 47, 3) := by decide +kernel
theorem dX6_ifDragged_81 : decode cX6_ifDragged 81 = .ok (.istore 7, 2) := by decide +kernel
theorem dX6_ifDragged_83 : decode cX6_ifDragged 83 = .ok (.aload_n 0, 1) := by decide +kernel
theorem dX6_ifDragged_84 : decode cX6_ifDragged 84 = .ok (.iload_n 1, 1) := by decide +kernel
theorem dX6_ifDragged_85 : decode cX6_ifDragged 85 = .ok (.iload_n 2, 1) := by decide +kernel
theorem dX6_ifDragged_86 : decode cX6_ifDragged 86 = .ok (.iload_n 3, 1) := by decide +kernel
theorem dX6_ifDragged_87 : decode cX6_ifDragged 87 = .ok (.invokevirtual 108, 3) := by decide +kernel
theorem dX6_ifDragged_90 : decode cX6_ifDragged 90 = .ok (.aload_n 0, 1) := by decide +kernel
theorem dX6_ifDragged_91 : decode cX6_ifDragged 91 = .ok (.invokevirtual 111, 3) := by decide +kernel
theorem dX6_ifDragged_94 : decode cX6_ifDragged 94 = .ok (.istore 8, 2) := by decide +kernel
theorem dX6_ifDragged_96 : decode cX6_ifDragged 96 = .ok (.iconst 0, 1) := by decide +kernel
theorem dX6_ifDragged_97 : decode cX6_ifDragged 97 = .ok (.istore 9, 2) := by decide +kernel
theorem dX6_ifDragged_99 : decode cX6_ifDragged 99 = .ok (.iconst 0, 1) := by decide +kernel
theorem dX6_ifDragged_100 : decode cX6_ifDragged 100 = .ok (.istore 10, 2) := by decide +kernel
theorem dX6_ifDragged_102 : decode cX6_ifDragged 102 = .ok (.iload 10, 2) := by decide +kernel
theorem dX6_ifDragged_104 : decode cX6_ifDragged 104 = .ok (.aload_n 0, 1) := by decide +kernel
theorem dX6_ifDragged_105 : decode cX6_ifDragged 105 = .ok (.getfield 7, 3) := by decide +kernel
theorem dX6_ifDragged_108 : decode cX6_ifDragged 108 = .ok (.iconst 0, 1) := by decide +kernel
theorem dX6_ifDragged_109 : decode cX6_ifDragged 109 = .ok (.iaload, 1) := by decide +kernel
theorem dX6_ifDragged_110 : decode cX6_ifDragged 110 = .ok (.if_icmp .ge 51, 3) := by decide +kernel
theorem dX6_ifDragged_113 : decode cX6_ifDragged 113 = .ok (.iload 9, 2) := by decide +kernel
theorem dX6_ifDragged_115 : decode cX6_ifDragged 115 = .ok (.aload_n 0, 1) := by decide +kernel
theorem dX6_ifDragged_116 : decode cX6_ifDragged 116 = .ok (.getfield 32, 3) := by decide +kernel
theorem dX6_ifDragged_119 : decode cX6_ifDragged 119 = .ok (.iload 10, 2) := by decide +kernel
theorem dX6_ifDragged_121 : decode cX6_ifDragged 121 = .ok (.iaload, 1) := by decide +kernel
theorem dX6_ifDragged_122 : decode cX6_ifDragged 122 = .ok (.aload_n 0, 1) := by decide +kernel
theorem dX6_ifDragged_123 : decode cX6_ifDragged 123 = .ok (.getfield 32, 3) := by decide +kernel
theorem dX6_ifDragged_126 : decode cX6_ifDragged 126 = .ok (.iload_n 1, 1) := by decide +kernel
theorem dX6_ifDragged_127 : decode cX6_ifDragged 127 = .ok (.iaload, 1) := by decide +kernel
theorem dX6_ifDragged_128 : decode cX6_ifDragged 128 = .ok (.if_icmp .ne 23, 3) := by decide +kernel
theorem dX6_ifDragged_131 : decode cX6_ifDragged 131 = .ok (.aload_n 0, 1) := by decide +kernel
theorem dX6_ifDragged_132 : decode cX6_ifDragged 132 = .ok (.getfield 23, 3) := by decide +kernel
theorem dX6_ifDragged_135 : decode cX6_ifDragged 135 = .ok (.iload 10, 2) := by decide +kernel
theorem dX6_ifDragged_137 : decode cX6_ifDragged 137 = .ok (.iaload, 1) := by decide +kernel
theorem dX6_ifDragged_138 : decode cX6_ifDragged 138 = .ok (.aload_n 0, 1) := by decide +kernel
theorem dX6_ifDragged_139 : decode cX6_ifDragged 139 = .ok (.getfield 23, 3) := by decide +kernel
theorem dX6_ifDragged_142 : decode cX6_ifDragged 142 = .ok (.iload_n 1, 1) := by decide +kernel
theorem dX6_ifDragged_143 : decode cX6_ifDragged 143 = .ok (.iaload, 1) := by decide +kernel
theorem dX6_ifDragged_144 : decode cX6_ifDragged 144 = .ok (.if_icmp .eq 7, 3) := by decide +kernel
theorem dX6_ifDragged_147 : decode cX6_ifDragged 147 = .ok (.iconst 1, 1) := by decide +kernel
theorem dX6_ifDragged_148 : decode cX6_ifDragged 148 = .ok (.goto 4, 3) := by decide +kernel
theorem dX6_ifDragged_151 : decode cX6_ifDragged 151 = .ok (.iconst 0, 1) := by decide +kernel
theorem dX6_ifDragged_152 : decode cX6_ifDragged 152 = .ok (.iadd, 1) := by decide +kernel
theorem dX6_ifDragged_153 : decode cX6_ifDragged 153 = .ok (.istore 9, 2) := by decide +kernel
theorem dX6_ifDragged_155 : decode cX6_ifDragged 155 = .ok (.iinc 10 1, 3) := by decide +kernel
theorem dX6_ifDragged_158 : decode cX6_ifDragged 158 = .ok (.goto (-56), 3) := by decide +kernel
theorem dX6_ifDragged_161 : decode cX6_ifDragged 161 = .ok (.aload_n 0, 1) := by decide +kernel
theorem dX6_ifDragged_162 : decode cX6_ifDragged 162 = .ok (.iload_n 1, 1) := by decide +kernel
theorem dX6_ifDragged_163 : decode cX6_ifDragged 163 = .ok (.iload 6, 2) := by decide +kernel
theorem dX6_ifDragged_165 : decode cX6_ifDragged 165 = .ok (.iload 7, 2) := by decide +kernel
theorem dX6_ifDragged_167 : decode cX6_ifDragged 167 = .ok (.invokevirtual 108, 3) := by decide +kernel
theorem dX6_ifDragged_170 : decode cX6_ifDragged 170 = .ok (.iload 4, 2) := by decide +kernel
theorem dX6_ifDragged_172 : decode cX6_ifDragged 172 = .ok (.ifCond .ne 8, 3) := by decide +kernel
theorem dX6_ifDragged_175 : decode cX6_ifDragged 175 = .ok (.iload 8, 2) := by decide +kernel
theorem dX6_ifDragged_177 : decode cX6_ifDragged 177 = .ok (.goto 24, 3) := by decide +kernel
theorem dX6_ifDragged_180 : decode cX6_ifDragged 180 = .ok (.iload 4, 2) := by decide +kernel
theorem dX6_ifDragged_182 : decode cX6_ifDragged 182 = .ok (.iconst 1, 1) := by decide +kernel
theorem dX6_ifDragged_183 : decode cX6_ifDragged 183 = .ok (.if_icmp .ne 16, 3) := by decide +kernel
theorem dX6_ifDragged_186 : decode cX6_ifDragged 186 = .ok (.aload_n 0, 1) := by decide +kernel
theorem dX6_ifDragged_187 : decode cX6_ifDragged 187 = .ok (.aload_n 0, 1) := by decide +kernel
theorem dX6_ifDragged_188 : decode cX6_ifDragged 188 = .ok (.getfield 23, 3) := by decide +kernel
theorem dX6_ifDragged_191 : decode cX6_ifDragged 191 = .ok (.iload_n 1, 1) := by decide +kernel
theorem dX6_ifDragged_192 : decode cX6_ifDragged 192 = .ok (.iaload, 1) := by decide +kernel
theorem dX6_ifDragged_193 : decode cX6_ifDragged 193 = .ok (.invokevirtual 165, 3) := by decide +kernel
theorem dX6_ifDragged_196 : decode cX6_ifDragged 196 = .ok (.goto 5, 3) := by decide +kernel
theorem dX6_ifDragged_199 : decode cX6_ifDragged 199 = .ok (.iload 9, 2) := by decide +kernel
theorem dX6_ifDragged_201 : decode cX6_ifDragged 201 = .ok (.ireturn, 1) := by decide +kernel
set_option maxRecDepth 20000 in
theorem ggX6_reachFor_X6_in : GoodIn wsX6_reachFor wsX6_in := goodIn_r _ [4] (by decide +kernel) (by decide +kernel)
set_option maxRecDepth 20000 in
theorem gX6_reachFor_X6_in : GoodIn wsX6_reachFor (va_wsS RX6 43 yX6_in wsX6_in) := goodIn_app (goodIn_of _ (by decide +kernel)) ggX6_reachFor_X6_in
set_option maxRecDepth 20000 in
theorem ggX6_reachFor_X6_laysHeaps : GoodIn wsX6_reachFor wsX6_laysHeaps := goodIn_r _ [8, 9, 10, 11, 12, 13, 14, 3, 15, 16, 17, 18, 19, 20, 21, 22, 23, 24, 25, 26, 27, 28, 29, 30, 31, 32, 33, 34, 35, 36, 37, 38, 39, 40, 41, 42] (by decide +kernel) (by decide +kernel)
set_option maxRecDepth 20000 in
theorem gX6_reachFor_X6_laysHeaps : GoodIn wsX6_reachFor (wsV RX6 65 RX6 yX6_laysHeaps wsX6_laysHeaps) := goodIn_app (goodIn_of _ (by decide +kernel)) ggX6_reachFor_X6_laysHeaps
theorem dX6_reachFor_0 : decode cX6_reachFor 0 = .ok (.iload_n 1, 1) := by decide +kernel
theorem dX6_reachFor_1 : decode cX6_reachFor 1 = .ok (.iconst 1, 1) := by decide +kernel
theorem dX6_reachFor_2 : decode cX6_reachFor 2 = .ok (.bipush 20, 2) := by decide +kernel
theorem dX6_reachFor_4 : decode cX6_reachFor 4 = .ok (.invokestatic 43, 3) := by decide +kernel
theorem dX6_reachFor_7 : decode cX6_reachFor 7 = .ok (.ifCond .ne 6, 3) := by decide +kernel
theorem dX6_reachFor_10 : decode cX6_reachFor 10 = .ok (.bipush (-2), 2) := by decide +kernel
theorem dX6_reachFor_12 : decode cX6_reachFor 12 = .ok (.ireturn, 1) := by decide +kernel
theorem dX6_reachFor_13 : decode cX6_reachFor 13 = .ok (.iconst 0, 1) := by decide +kernel
theorem dX6_reachFor_14 : decode cX6_reachFor 14 = .ok (.istore_n 2, 1) := by decide +kernel
theorem dX6_reachFor_15 : decode cX6_reachFor 15 = .ok (.aload_n 0, 1) := by decide +kernel
theorem dX6_reachFor_16 : decode cX6_reachFor 16 = .ok (.iload_n 2, 1) := by decide +kernel
theorem dX6_reachFor_17 : decode cX6_reachFor 17 = .ok (.bipush (-5), 2) := by decide +kernel
theorem dX6_reachFor_19 : decode cX6_reachFor 19 = .ok (.invokevirtual 65, 3) := by decide +kernel
theorem dX6_reachFor_22 : decode cX6_reachFor 22 = .ok (.iload_n 1, 1) := by decide +kernel
theorem dX6_reachFor_23 : decode cX6_reachFor 23 = .ok (.if_icmp .le 9, 3) := by decide +kernel
theorem dX6_reachFor_26 : decode cX6_reachFor 26 = .ok (.iinc 2 1, 3) := by decide +kernel
theorem dX6_reachFor_29 : decode cX6_reachFor 29 = .ok (.goto (-14), 3) := by decide +kernel
theorem dX6_reachFor_32 : decode cX6_reachFor 32 = .ok (.iload_n 2, 1) := by decide +kernel
theorem dX6_reachFor_33 : decode cX6_reachFor 33 = .ok (.ireturn, 1) := by decide +kernel
set_option maxRecDepth 20000 in
theorem ggX6_nearest_X6_isNote : GoodIn wsX6_nearest wsX6_isNote := goodIn_r _ [6, 1, 7, 8, 5, 9, 25, 26, 27, 28, 29, 30, 31, 32, 33, 34, 35, 36, 37, 38, 39] (by decide +kernel) (by decide +kernel)
set_option maxRecDepth 20000 in
theorem gX6_nearest_X6_isNote : GoodIn wsX6_nearest (wsV RX6 98 RX6 yX6_isNote wsX6_isNote) := goodIn_app (goodIn_of _ (by decide +kernel)) ggX6_nearest_X6_isNote
set_option maxRecDepth 20000 in
theorem ggX6_nearest_X6_themeOf : GoodIn wsX6_nearest wsX6_themeOf := goodIn_r _ [13, 14, 15, 16, 5, 17, 1, 25, 26, 27, 28, 29, 30, 31, 32, 33, 34, 35, 36, 37, 38, 39] (by decide +kernel) (by decide +kernel)
set_option maxRecDepth 20000 in
theorem gX6_nearest_X6_themeOf : GoodIn wsX6_nearest (wsV RX6 68 RX6 yX6_themeOf wsX6_themeOf) := goodIn_app (goodIn_of _ (by decide +kernel)) ggX6_nearest_X6_themeOf
set_option maxRecDepth 20000 in
theorem ggX6_nearest_X6_distance : GoodIn wsX6_nearest wsX6_distance := goodIn_r _ [21, 14, 15, 16, 5, 17, 1, 22, 23, 24, 25, 26, 27, 28, 29, 30, 31, 32, 33, 34, 35, 36, 37, 38, 39] (by decide +kernel) (by decide +kernel)
set_option maxRecDepth 20000 in
theorem gX6_nearest_X6_distance : GoodIn wsX6_nearest (wsV RX6 58 RX6 yX6_distance wsX6_distance) := goodIn_app (goodIn_of _ (by decide +kernel)) ggX6_nearest_X6_distance
theorem dX6_nearest_0 : decode cX6_nearest 0 = .ok (.aload_n 0, 1) := by decide +kernel
theorem dX6_nearest_1 : decode cX6_nearest 1 = .ok (.iload_n 1, 1) := by decide +kernel
theorem dX6_nearest_2 : decode cX6_nearest 2 = .ok (.invokevirtual 98, 3) := by decide +kernel
theorem dX6_nearest_5 : decode cX6_nearest 5 = .ok (.ifCond .ne 5, 3) := by decide +kernel
theorem dX6_nearest_8 : decode cX6_nearest 8 = .ok (.iconst (-1), 1) := by decide +kernel
theorem dX6_nearest_9 : decode cX6_nearest 9 = .ok (.ireturn, 1) := by decide +kernel
theorem dX6_nearest_10 : decode cX6_nearest 10 = .ok (.bipush (-5), 2) := by decide +kernel
theorem dX6_nearest_12 : decode cX6_nearest 12 = .ok (.istore_n 2, 1) := by decide +kernel
theorem dX6_nearest_13 : decode cX6_nearest 13 = .ok (.bipush 49, 2) := by decide +kernel
theorem dX6_nearest_15 : decode cX6_nearest 15 = .ok (.istore_n 3, 1) := by decide +kernel
theorem dX6_nearest_16 : decode cX6_nearest 16 = .ok (.iconst 0, 1) := by decide +kernel
theorem dX6_nearest_17 : decode cX6_nearest 17 = .ok (.istore 4, 2) := by decide +kernel
theorem dX6_nearest_19 : decode cX6_nearest 19 = .ok (.iload 4, 2) := by decide +kernel
theorem dX6_nearest_21 : decode cX6_nearest 21 = .ok (.aload_n 0, 1) := by decide +kernel
theorem dX6_nearest_22 : decode cX6_nearest 22 = .ok (.getfield 7, 3) := by decide +kernel
theorem dX6_nearest_25 : decode cX6_nearest 25 = .ok (.iconst 1, 1) := by decide +kernel
theorem dX6_nearest_26 : decode cX6_nearest 26 = .ok (.iaload, 1) := by decide +kernel
theorem dX6_nearest_27 : decode cX6_nearest 27 = .ok (.if_icmp .ge 93, 3) := by decide +kernel
theorem dX6_nearest_30 : decode cX6_nearest 30 = .ok (.iconst 0, 1) := by decide +kernel
theorem dX6_nearest_31 : decode cX6_nearest 31 = .ok (.istore 5, 2) := by decide +kernel
theorem dX6_nearest_33 : decode cX6_nearest 33 = .ok (.iload 5, 2) := by decide +kernel
theorem dX6_nearest_35 : decode cX6_nearest 35 = .ok (.aload_n 0, 1) := by decide +kernel
theorem dX6_nearest_36 : decode cX6_nearest 36 = .ok (.getfield 7, 3) := by decide +kernel
theorem dX6_nearest_39 : decode cX6_nearest 39 = .ok (.iconst 0, 1) := by decide +kernel
theorem dX6_nearest_40 : decode cX6_nearest 40 = .ok (.iaload, 1) := by decide +kernel
theorem dX6_nearest_41 : decode cX6_nearest 41 = .ok (.if_icmp .ge 73, 3) := by decide +kernel
theorem dX6_nearest_44 : decode cX6_nearest 44 = .ok (.iload 5, 2) := by decide +kernel
theorem dX6_nearest_46 : decode cX6_nearest 46 = .ok (.iload_n 1, 1) := by decide +kernel
theorem dX6_nearest_47 : decode cX6_nearest 47 = .ok (.if_icmp .eq 29, 3) := by decide +kernel
theorem dX6_nearest_50 : decode cX6_nearest 50 = .ok (.aload_n 0, 1) := by decide +kernel
theorem dX6_nearest_51 : decode cX6_nearest 51 = .ok (.iload 5, 2) := by decide +kernel
theorem dX6_nearest_53 : decode cX6_nearest 53 = .ok (.invokevirtual 68, 3) := by decide +kernel
theorem dX6_nearest_56 : decode cX6_nearest 56 = .ok (.iload 4, 2) := by decide +kernel
theorem dX6_nearest_58 : decode cX6_nearest 58 = .ok (.if_icmp .ne 18, 3) := by decide +kernel
theorem dX6_nearest_61 : decode cX6_nearest 61 = .ok (.aload_n 0, 1) := by decide +kernel
theorem dX6_nearest_62 : decode cX6_nearest 62 = .ok (.iload 5, 2) := by decide +kernel
theorem dX6_nearest_64 : decode cX6_nearest 64 = .ok (.iload_n 1, 1) := by decide +kernel
theorem dX6_nearest_65 : decode cX6_nearest 65 = .ok (.invokevirtual 58, 3) := by decide +kernel
theorem dX6_nearest_68 : decode cX6_nearest 68 = .ok (.iload_n 3, 1) := by decide +kernel
theorem dX6_nearest_69 : decode cX6_nearest 69 = .ok (.if_icmp .ge 7, 3) := by decide +kernel
theorem dX6_nearest_72 : decode cX6_nearest 72 = .ok (.iconst 1, 1) := by decide +kernel
theorem dX6_nearest_73 : decode cX6_nearest 73 = .ok (.goto 4, 3) := by decide +kernel
theorem dX6_nearest_76 : decode cX6_nearest 76 = .ok (.iconst 0, 1) := by decide +kernel
theorem dX6_nearest_77 : decode cX6_nearest 77 = .ok (.istore 6, 2) := by decide +kernel
theorem dX6_nearest_79 : decode cX6_nearest 79 = .ok (.iload 6, 2) := by decide +kernel
theorem dX6_nearest_81 : decode cX6_nearest 81 = .ok (.ifCond .eq 8, 3) := by decide +kernel
theorem dX6_nearest_84 : decode cX6_nearest 84 = .ok (.iload 4, 2) := by decide +kernel
theorem dX6_nearest_86 : decode cX6_nearest 86 = .ok (.goto 4, 3) := by decide +kernel
theorem dX6_nearest_89 : decode cX6_nearest 89 = .ok (.iload_n 2, 1) := by decide +kernel
theorem dX6_nearest_90 : decode cX6_nearest 90 = .ok (.istore_n 2, 1) := by decide +kernel
theorem dX6_nearest_91 : decode cX6_nearest 91 = .ok (.iload 6, 2) := by decide +kernel
theorem dX6_nearest_93 : decode cX6_nearest 93 = .ok (.ifCond .eq 13, 3) := by decide +kernel
theorem dX6_nearest_96 : decode cX6_nearest 96 = .ok (.aload_n 0, 1) := by decide +kernel
theorem dX6_nearest_97 : decode cX6_nearest 97 = .ok (.iload 5, 2) := by decide +kernel
theorem dX6_nearest_99 : decode cX6_nearest 99 = .ok (.iload_n 1, 1) := by decide +kernel
theorem dX6_nearest_100 : decode cX6_nearest 100 = .ok (.invokevirtual 58, 3) := by decide +kernel
theorem dX6_nearest_103 : decode cX6_nearest 103 = .ok (.goto 4, 3) := by decide +kernel
theorem dX6_nearest_106 : decode cX6_nearest 106 = .ok (.iload_n 3, 1) := by decide +kernel
theorem dX6_nearest_107 : decode cX6_nearest 107 = .ok (.istore_n 3, 1) := by decide +kernel
theorem dX6_nearest_108 : decode cX6_nearest 108 = .ok (.iinc 5 1, 3) := by decide +kernel
theorem dX6_nearest_111 : decode cX6_nearest 111 = .ok (.goto (-78), 3) := by decide +kernel
theorem dX6_nearest_114 : decode cX6_nearest 114 = .ok (.iinc 4 1, 3) := by decide +kernel
theorem dX6_nearest_117 : decode cX6_nearest 117 = .ok (.goto (-98), 3) := by decide +kernel
theorem dX6_nearest_120 : decode cX6_nearest 120 = .ok (.iload_n 2, 1) := by decide +kernel
theorem dX6_nearest_121 : decode cX6_nearest 121 = .ok (.ireturn, 1) := by decide +kernel
set_option maxRecDepth 20000 in
theorem ggX6_stuck_X6_dotsOf : GoodIn wsX6_stuck wsX6_dotsOf := goodIn_r _ [6, 7, 8, 9, 5, 10, 1, 11, 12, 13, 14, 15, 16, 17, 18, 19, 20, 21, 22, 23, 24, 25] (by decide +kernel) (by decide +kernel)
set_option maxRecDepth 20000 in
theorem gX6_stuck_X6_dotsOf : GoodIn wsX6_stuck (wsV RX6 102 RX6 yX6_dotsOf wsX6_dotsOf) := goodIn_app (goodIn_of _ (by decide +kernel)) ggX6_stuck_X6_dotsOf
theorem dX6_stuck_0 : decode cX6_stuck 0 = .ok (.iconst 0, 1) := by decide +kernel
theorem dX6_stuck_1 : decode cX6_stuck 1 = .ok (.istore_n 1, 1) := by decide +kernel
theorem dX6_stuck_2 : decode cX6_stuck 2 = .ok (.iconst 0, 1) := by decide +kernel
theorem dX6_stuck_3 : decode cX6_stuck 3 = .ok (.istore_n 2, 1) := by decide +kernel
theorem dX6_stuck_4 : decode cX6_stuck 4 = .ok (.iload_n 2, 1) := by decide +kernel
theorem dX6_stuck_5 : decode cX6_stuck 5 = .ok (.aload_n 0, 1) := by decide +kernel
theorem dX6_stuck_6 : decode cX6_stuck 6 = .ok (.getfield 7, 3) := by decide +kernel
theorem dX6_stuck_9 : decode cX6_stuck 9 = .ok (.iconst 0, 1) := by decide +kernel
theorem dX6_stuck_10 : decode cX6_stuck 10 = .ok (.iaload, 1) := by decide +kernel
theorem dX6_stuck_11 : decode cX6_stuck 11 = .ok (.if_icmp .ge 17, 3) := by decide +kernel
theorem dX6_stuck_14 : decode cX6_stuck 14 = .ok (.iload_n 1, 1) := by decide +kernel
theorem dX6_stuck_15 : decode cX6_stuck 15 = .ok (.aload_n 0, 1) := by decide +kernel
theorem dX6_stuck_16 : decode cX6_stuck 16 = .ok (.iload_n 2, 1) := by decide +kernel
theorem dX6_stuck_17 : decode cX6_stuck 17 = .ok (.invokevirtual 102, 3) := by decide +kernel
theorem dX6_stuck_20 : decode cX6_stuck 20 = .ok (.iadd, 1) := by decide +kernel
theorem dX6_stuck_21 : decode cX6_stuck 21 = .ok (.istore_n 1, 1) := by decide +kernel
theorem dX6_stuck_22 : decode cX6_stuck 22 = .ok (.iinc 2 1, 3) := by decide +kernel
theorem dX6_stuck_25 : decode cX6_stuck 25 = .ok (.goto (-21), 3) := by decide +kernel
theorem dX6_stuck_28 : decode cX6_stuck 28 = .ok (.iload_n 1, 1) := by decide +kernel
theorem dX6_stuck_29 : decode cX6_stuck 29 = .ok (.ireturn, 1) := by decide +kernel
set_option maxRecDepth 20000 in
theorem ggX6_left_X6_stuckBy : GoodIn wsX6_left wsX6_stuckBy := goodIn_r _ [6, 1, 7, 8, 9, 5, 10, 11, 12, 13, 14, 15, 16, 17, 18, 19, 20, 21, 22, 23, 24, 25] (by decide +kernel) (by decide +kernel)
set_option maxRecDepth 20000 in
theorem gX6_left_X6_stuckBy : GoodIn wsX6_left (wsV RX6 121 RX6 yX6_stuckBy wsX6_stuckBy) := goodIn_app (goodIn_of _ (by decide +kernel)) ggX6_left_X6_stuckBy
theorem dX6_left_0 : decode cX6_left 0 = .ok (.iconst 0, 1) := by decide +kernel
theorem dX6_left_1 : decode cX6_left 1 = .ok (.istore_n 1, 1) := by decide +kernel
theorem dX6_left_2 : decode cX6_left 2 = .ok (.iconst 0, 1) := by decide +kernel
theorem dX6_left_3 : decode cX6_left 3 = .ok (.istore_n 2, 1) := by decide +kernel
theorem dX6_left_4 : decode cX6_left 4 = .ok (.iload_n 2, 1) := by decide +kernel
theorem dX6_left_5 : decode cX6_left 5 = .ok (.bipush 6, 2) := by decide +kernel
theorem dX6_left_7 : decode cX6_left 7 = .ok (.if_icmp .ge 34, 3) := by decide +kernel
theorem dX6_left_10 : decode cX6_left 10 = .ok (.aload_n 0, 1) := by decide +kernel
theorem dX6_left_11 : decode cX6_left 11 = .ok (.getfield 7, 3) := by decide +kernel
theorem dX6_left_14 : decode cX6_left 14 = .ok (.iconst 3, 1) := by decide +kernel
theorem dX6_left_15 : decode cX6_left 15 = .ok (.iaload, 1) := by decide +kernel
theorem dX6_left_16 : decode cX6_left 16 = .ok (.aload_n 0, 1) := by decide +kernel
theorem dX6_left_17 : decode cX6_left 17 = .ok (.iload_n 2, 1) := by decide +kernel
theorem dX6_left_18 : decode cX6_left 18 = .ok (.invokevirtual 121, 3) := by decide +kernel
theorem dX6_left_21 : decode cX6_left 21 = .ok (.isub, 1) := by decide +kernel
theorem dX6_left_22 : decode cX6_left 22 = .ok (.istore_n 3, 1) := by decide +kernel
theorem dX6_left_23 : decode cX6_left 23 = .ok (.iload_n 1, 1) := by decide +kernel
theorem dX6_left_24 : decode cX6_left 24 = .ok (.iload_n 3, 1) := by decide +kernel
theorem dX6_left_25 : decode cX6_left 25 = .ok (.ifCond .le 7, 3) := by decide +kernel
theorem dX6_left_28 : decode cX6_left 28 = .ok (.iload_n 3, 1) := by decide +kernel
theorem dX6_left_29 : decode cX6_left 29 = .ok (.goto 4, 3) := by decide +kernel
theorem dX6_left_32 : decode cX6_left 32 = .ok (.iconst 0, 1) := by decide +kernel
theorem dX6_left_33 : decode cX6_left 33 = .ok (.iadd, 1) := by decide +kernel
theorem dX6_left_34 : decode cX6_left 34 = .ok (.istore_n 1, 1) := by decide +kernel
theorem dX6_left_35 : decode cX6_left 35 = .ok (.iinc 2 1, 3) := by decide +kernel
theorem dX6_left_38 : decode cX6_left 38 = .ok (.goto (-34), 3) := by decide +kernel
theorem dX6_left_41 : decode cX6_left 41 = .ok (.iload_n 1, 1) := by decide +kernel
theorem dX6_left_42 : decode cX6_left 42 = .ok (.ireturn, 1) := by decide +kernel
set_option maxRecDepth 20000 in
theorem ggX6_named_X6_nameOf : GoodIn wsX6_named wsX6_nameOf := goodIn_r _ [6, 7, 8, 9, 5, 10, 11, 12, 13, 14, 1, 15, 16, 17, 18, 19, 20, 21, 22, 23, 24, 25, 26, 27, 28, 29] (by decide +kernel) (by decide +kernel)
set_option maxRecDepth 20000 in
theorem gX6_named_X6_nameOf : GoodIn wsX6_named (wsV RX6 130 RX6 yX6_nameOf wsX6_nameOf) := goodIn_app (goodIn_of _ (by decide +kernel)) ggX6_named_X6_nameOf
theorem dX6_named_0 : decode cX6_named 0 = .ok (.iconst 0, 1) := by decide +kernel
theorem dX6_named_1 : decode cX6_named 1 = .ok (.istore_n 1, 1) := by decide +kernel
theorem dX6_named_2 : decode cX6_named 2 = .ok (.iconst 0, 1) := by decide +kernel
theorem dX6_named_3 : decode cX6_named 3 = .ok (.istore_n 2, 1) := by decide +kernel
theorem dX6_named_4 : decode cX6_named 4 = .ok (.iload_n 2, 1) := by decide +kernel
theorem dX6_named_5 : decode cX6_named 5 = .ok (.aload_n 0, 1) := by decide +kernel
theorem dX6_named_6 : decode cX6_named 6 = .ok (.getfield 7, 3) := by decide +kernel
theorem dX6_named_9 : decode cX6_named 9 = .ok (.iconst 1, 1) := by decide +kernel
theorem dX6_named_10 : decode cX6_named 10 = .ok (.iaload, 1) := by decide +kernel
theorem dX6_named_11 : decode cX6_named 11 = .ok (.if_icmp .ge 27, 3) := by decide +kernel
theorem dX6_named_14 : decode cX6_named 14 = .ok (.iload_n 1, 1) := by decide +kernel
theorem dX6_named_15 : decode cX6_named 15 = .ok (.aload_n 0, 1) := by decide +kernel
theorem dX6_named_16 : decode cX6_named 16 = .ok (.iload_n 2, 1) := by decide +kernel
theorem dX6_named_17 : decode cX6_named 17 = .ok (.invokevirtual 130, 3) := by decide +kernel
theorem dX6_named_20 : decode cX6_named 20 = .ok (.bipush (-5), 2) := by decide +kernel
theorem dX6_named_22 : decode cX6_named 22 = .ok (.if_icmp .ne 7, 3) := by decide +kernel
theorem dX6_named_25 : decode cX6_named 25 = .ok (.iconst 0, 1) := by decide +kernel
theorem dX6_named_26 : decode cX6_named 26 = .ok (.goto 4, 3) := by decide +kernel
theorem dX6_named_29 : decode cX6_named 29 = .ok (.iconst 1, 1) := by decide +kernel
theorem dX6_named_30 : decode cX6_named 30 = .ok (.iadd, 1) := by decide +kernel
theorem dX6_named_31 : decode cX6_named 31 = .ok (.istore_n 1, 1) := by decide +kernel
theorem dX6_named_32 : decode cX6_named 32 = .ok (.iinc 2 1, 3) := by decide +kernel
theorem dX6_named_35 : decode cX6_named 35 = .ok (.goto (-31), 3) := by decide +kernel
theorem dX6_named_38 : decode cX6_named 38 = .ok (.iload_n 1, 1) := by decide +kernel
theorem dX6_named_39 : decode cX6_named 39 = .ok (.ireturn, 1) := by decide +kernel
set_option maxRecDepth 20000 in
theorem ggX6_alone_X6_near : GoodIn wsX6_alone wsX6_near := goodIn_r _ [6, 1, 7, 8, 9, 5, 10, 11, 12, 13, 14, 15, 16, 17, 18, 19, 20, 21, 22, 23, 24, 25, 26, 27, 28, 29, 30, 31, 32] (by decide +kernel) (by decide +kernel)
set_option maxRecDepth 20000 in
theorem gX6_alone_X6_near : GoodIn wsX6_alone (wsV RX6 171 RX6 yX6_near wsX6_near) := goodIn_app (goodIn_of _ (by decide +kernel)) ggX6_alone_X6_near
theorem dX6_alone_0 : decode cX6_alone 0 = .ok (.iconst 0, 1) := by decide +kernel
theorem dX6_alone_1 : decode cX6_alone 1 = .ok (.istore_n 1, 1) := by decide +kernel
theorem dX6_alone_2 : decode cX6_alone 2 = .ok (.iconst 0, 1) := by decide +kernel
theorem dX6_alone_3 : decode cX6_alone 3 = .ok (.istore_n 2, 1) := by decide +kernel
theorem dX6_alone_4 : decode cX6_alone 4 = .ok (.iload_n 2, 1) := by decide +kernel
theorem dX6_alone_5 : decode cX6_alone 5 = .ok (.aload_n 0, 1) := by decide +kernel
theorem dX6_alone_6 : decode cX6_alone 6 = .ok (.getfield 7, 3) := by decide +kernel
theorem dX6_alone_9 : decode cX6_alone 9 = .ok (.iconst 0, 1) := by decide +kernel
theorem dX6_alone_10 : decode cX6_alone 10 = .ok (.iaload, 1) := by decide +kernel
theorem dX6_alone_11 : decode cX6_alone 11 = .ok (.if_icmp .ge 25, 3) := by decide +kernel
theorem dX6_alone_14 : decode cX6_alone 14 = .ok (.iload_n 1, 1) := by decide +kernel
theorem dX6_alone_15 : decode cX6_alone 15 = .ok (.aload_n 0, 1) := by decide +kernel
theorem dX6_alone_16 : decode cX6_alone 16 = .ok (.iload_n 2, 1) := by decide +kernel
theorem dX6_alone_17 : decode cX6_alone 17 = .ok (.invokevirtual 171, 3) := by decide +kernel
theorem dX6_alone_20 : decode cX6_alone 20 = .ok (.ifCond .ne 7, 3) := by decide +kernel
theorem dX6_alone_23 : decode cX6_alone 23 = .ok (.iconst 1, 1) := by decide +kernel
theorem dX6_alone_24 : decode cX6_alone 24 = .ok (.goto 4, 3) := by decide +kernel
theorem dX6_alone_27 : decode cX6_alone 27 = .ok (.iconst 0, 1) := by decide +kernel
theorem dX6_alone_28 : decode cX6_alone 28 = .ok (.iadd, 1) := by decide +kernel
theorem dX6_alone_29 : decode cX6_alone 29 = .ok (.istore_n 1, 1) := by decide +kernel
theorem dX6_alone_30 : decode cX6_alone 30 = .ok (.iinc 2 1, 3) := by decide +kernel
theorem dX6_alone_33 : decode cX6_alone 33 = .ok (.goto (-29), 3) := by decide +kernel
theorem dX6_alone_36 : decode cX6_alone 36 = .ok (.iload_n 1, 1) := by decide +kernel
theorem dX6_alone_37 : decode cX6_alone 37 = .ok (.ireturn, 1) := by decide +kernel
set_option maxRecDepth 20000 in
theorem ggX6_count_X6_in : GoodIn wsX6_count wsX6_in := goodIn_r _ [7] (by decide +kernel) (by decide +kernel)
set_option maxRecDepth 20000 in
theorem gX6_count_X6_in : GoodIn wsX6_count (va_wsS RX6 43 yX6_in wsX6_in) := goodIn_app (goodIn_of _ (by decide +kernel)) ggX6_count_X6_in
set_option maxRecDepth 20000 in
theorem ggX6_count_X6_laysNow : GoodIn wsX6_count wsX6_laysNow := goodIn_r _ [11, 1, 12, 13, 14, 6, 15, 16, 17, 18, 19, 20, 21, 22, 23, 24, 25, 26, 27, 28, 29, 30, 31, 32, 33, 82, 83, 84, 85, 86, 87, 88, 89, 90, 91, 92, 93, 94, 95, 96] (by decide +kernel) (by decide +kernel)
set_option maxRecDepth 20000 in
theorem gX6_count_X6_laysNow : GoodIn wsX6_count (wsV RX6 111 RX6 yX6_laysNow wsX6_laysNow) := goodIn_app (goodIn_of _ (by decide +kernel)) ggX6_count_X6_laysNow
set_option maxRecDepth 20000 in
theorem ggX6_count_X6_stuck : GoodIn wsX6_count wsX6_stuck := goodIn_r _ [37, 1, 38, 39, 40, 6, 41, 27, 28, 29, 30, 82, 83, 84, 85, 86, 87, 88, 89, 90, 91, 92, 93, 94, 95, 96] (by decide +kernel) (by decide +kernel)
set_option maxRecDepth 20000 in
theorem gX6_count_X6_stuck : GoodIn wsX6_count (wsV RX6 204 RX6 yX6_stuck wsX6_stuck) := goodIn_app (goodIn_of _ (by decide +kernel)) ggX6_count_X6_stuck
set_option maxRecDepth 20000 in
theorem ggX6_count_X6_left : GoodIn wsX6_count wsX6_left := goodIn_r _ [45, 1, 46, 47, 48, 6, 49, 27, 28, 29, 30, 82, 83, 84, 85, 86, 87, 88, 89, 90, 91, 92, 93, 94, 95, 96] (by decide +kernel) (by decide +kernel)
set_option maxRecDepth 20000 in
theorem gX6_count_X6_left : GoodIn wsX6_count (wsV RX6 207 RX6 yX6_left wsX6_left) := goodIn_app (goodIn_of _ (by decide +kernel)) ggX6_count_X6_left
set_option maxRecDepth 20000 in
theorem ggX6_count_X6_notesOf : GoodIn wsX6_count wsX6_notesOf := goodIn_r _ [53, 1, 54, 55, 56, 6, 57, 27, 28, 29, 30, 82, 83, 84, 85, 86, 87, 88, 89, 90, 91, 92, 93, 94, 95, 96] (by decide +kernel) (by decide +kernel)
set_option maxRecDepth 20000 in
theorem gX6_count_X6_notesOf : GoodIn wsX6_count (wsV RX6 75 RX6 yX6_notesOf wsX6_notesOf) := goodIn_app (goodIn_of _ (by decide +kernel)) ggX6_count_X6_notesOf
set_option maxRecDepth 20000 in
theorem ggX6_count_X6_named : GoodIn wsX6_count wsX6_named := goodIn_r _ [61, 1, 62, 63, 64, 6, 65, 66, 67, 68, 69, 70, 71, 72, 73, 82, 83, 84, 85, 86, 87, 88, 89, 90, 91, 92, 93, 94, 95, 96] (by decide +kernel) (by decide +kernel)
set_option maxRecDepth 20000 in
theorem gX6_count_X6_named : GoodIn wsX6_count (wsV RX6 210 RX6 yX6_named wsX6_named) := goodIn_app (goodIn_of _ (by decide +kernel)) ggX6_count_X6_named
set_option maxRecDepth 20000 in
theorem ggX6_count_X6_alone : GoodIn wsX6_count wsX6_alone := goodIn_r _ [77, 1, 78, 79, 80, 6, 81, 23, 24, 25, 26, 27, 28, 29, 30, 31, 32, 33, 82, 83, 84, 85, 86, 87, 88, 89, 90, 91, 92, 93, 94, 95, 96] (by decide +kernel) (by decide +kernel)
set_option maxRecDepth 20000 in
theorem gX6_count_X6_alone : GoodIn wsX6_count (wsV RX6 213 RX6 yX6_alone wsX6_alone) := goodIn_app (goodIn_of _ (by decide +kernel)) ggX6_count_X6_alone
theorem dX6_count_0 : decode cX6_count 0 = .ok (.iload_n 1, 1) := by decide +kernel
theorem dX6_count_1 : decode cX6_count 1 = .ok (.bipush 8, 2) := by decide +kernel
theorem dX6_count_3 : decode cX6_count 3 = .ok (.bipush 10, 2) := by decide +kernel
theorem dX6_count_5 : decode cX6_count 5 = .ok (.invokestatic 43, 3) := by decide +kernel
theorem dX6_count_8 : decode cX6_count 8 = .ok (.ifCond .eq 15, 3) := by decide +kernel
theorem dX6_count_11 : decode cX6_count 11 = .ok (.aload_n 0, 1) := by decide +kernel
theorem dX6_count_12 : decode cX6_count 12 = .ok (.getfield 7, 3) := by decide +kernel
theorem dX6_count_15 : decode cX6_count 15 = .ok (.iconst 2, 1) := by decide +kernel
theorem dX6_count_16 : decode cX6_count 16 = .ok (.iload_n 1, 1) := by decide +kernel
theorem dX6_count_17 : decode cX6_count 17 = .ok (.iadd, 1) := by decide +kernel
theorem dX6_count_18 : decode cX6_count 18 = .ok (.bipush 8, 2) := by decide +kernel
theorem dX6_count_20 : decode cX6_count 20 = .ok (.isub, 1) := by decide +kernel
theorem dX6_count_21 : decode cX6_count 21 = .ok (.iaload, 1) := by decide +kernel
theorem dX6_count_22 : decode cX6_count 22 = .ok (.ireturn, 1) := by decide +kernel
theorem dX6_count_23 : decode cX6_count 23 = .ok (.iload_n 1, 1) := by decide +kernel
theorem dX6_count_24 : decode cX6_count 24 = .ok (.tableswitch 123 0 12 #[68, 75, 80, 87, 92, 97, 103, 108, 123, 123, 123, 113, 118], 68) := by decide +kernel
theorem dX6_count_92 : decode cX6_count 92 = .ok (.aload_n 0, 1) := by decide +kernel
theorem dX6_count_93 : decode cX6_count 93 = .ok (.getfield 7, 3) := by decide +kernel
theorem dX6_count_96 : decode cX6_count 96 = .ok (.iconst 0, 1) := by decide +kernel
theorem dX6_count_97 : decode cX6_count 97 = .ok (.iaload, 1) := by decide +kernel
theorem dX6_count_98 : decode cX6_count 98 = .ok (.ireturn, 1) := by decide +kernel
theorem dX6_count_99 : decode cX6_count 99 = .ok (.aload_n 0, 1) := by decide +kernel
theorem dX6_count_100 : decode cX6_count 100 = .ok (.invokevirtual 111, 3) := by decide +kernel
theorem dX6_count_103 : decode cX6_count 103 = .ok (.ireturn, 1) := by decide +kernel
theorem dX6_count_104 : decode cX6_count 104 = .ok (.aload_n 0, 1) := by decide +kernel
theorem dX6_count_105 : decode cX6_count 105 = .ok (.getfield 7, 3) := by decide +kernel
theorem dX6_count_108 : decode cX6_count 108 = .ok (.iconst 1, 1) := by decide +kernel
theorem dX6_count_109 : decode cX6_count 109 = .ok (.iaload, 1) := by decide +kernel
theorem dX6_count_110 : decode cX6_count 110 = .ok (.ireturn, 1) := by decide +kernel
theorem dX6_count_111 : decode cX6_count 111 = .ok (.aload_n 0, 1) := by decide +kernel
theorem dX6_count_112 : decode cX6_count 112 = .ok (.invokevirtual 204, 3) := by decide +kernel
theorem dX6_count_115 : decode cX6_count 115 = .ok (.ireturn, 1) := by decide +kernel
theorem dX6_count_116 : decode cX6_count 116 = .ok (.aload_n 0, 1) := by decide +kernel
theorem dX6_count_117 : decode cX6_count 117 = .ok (.invokevirtual 207, 3) := by decide +kernel
theorem dX6_count_120 : decode cX6_count 120 = .ok (.ireturn, 1) := by decide +kernel
theorem dX6_count_121 : decode cX6_count 121 = .ok (.aload_n 0, 1) := by decide +kernel
theorem dX6_count_122 : decode cX6_count 122 = .ok (.iconst (-1), 1) := by decide +kernel
theorem dX6_count_123 : decode cX6_count 123 = .ok (.invokevirtual 75, 3) := by decide +kernel
theorem dX6_count_126 : decode cX6_count 126 = .ok (.ireturn, 1) := by decide +kernel
theorem dX6_count_127 : decode cX6_count 127 = .ok (.aload_n 0, 1) := by decide +kernel
theorem dX6_count_128 : decode cX6_count 128 = .ok (.invokevirtual 210, 3) := by decide +kernel
theorem dX6_count_131 : decode cX6_count 131 = .ok (.ireturn, 1) := by decide +kernel
theorem dX6_count_132 : decode cX6_count 132 = .ok (.aload_n 0, 1) := by decide +kernel
theorem dX6_count_133 : decode cX6_count 133 = .ok (.invokevirtual 213, 3) := by decide +kernel
theorem dX6_count_136 : decode cX6_count 136 = .ok (.ireturn, 1) := by decide +kernel
theorem dX6_count_137 : decode cX6_count 137 = .ok (.aload_n 0, 1) := by decide +kernel
theorem dX6_count_138 : decode cX6_count 138 = .ok (.getfield 35, 3) := by decide +kernel
theorem dX6_count_141 : decode cX6_count 141 = .ok (.ireturn, 1) := by decide +kernel
theorem dX6_count_142 : decode cX6_count 142 = .ok (.aload_n 0, 1) := by decide +kernel
theorem dX6_count_143 : decode cX6_count 143 = .ok (.getfield 133, 3) := by decide +kernel
theorem dX6_count_146 : decode cX6_count 146 = .ok (.ireturn, 1) := by decide +kernel
theorem dX6_count_147 : decode cX6_count 147 = .ok (.bipush (-2), 2) := by decide +kernel
theorem dX6_count_149 : decode cX6_count 149 = .ok (.ireturn, 1) := by decide +kernel
