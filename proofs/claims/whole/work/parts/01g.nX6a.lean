theorem dX6_init_0 : decode cX6_init 0 = .ok (.aload_n 0, 1) := by decide +kernel
theorem dX6_init_1 : decode cX6_init 1 = .ok (.invokespecial 1, 3) := by decide +kernel
theorem dX6_init_4 : decode cX6_init 4 = .ok (.aload_n 0, 1) := by decide +kernel
theorem dX6_init_5 : decode cX6_init 5 = .ok (.sipush 233, 3) := by decide +kernel
theorem dX6_init_8 : decode cX6_init 8 = .ok (.newarray .int, 2) := by decide +kernel
theorem dX6_init_10 : decode cX6_init 10 = .ok (.putfield 7, 3) := by decide +kernel
theorem dX6_init_13 : decode cX6_init 13 = .ok (.aload_n 0, 1) := by decide +kernel
theorem dX6_init_14 : decode cX6_init 14 = .ok (.sipush 932, 3) := by decide +kernel
theorem dX6_init_17 : decode cX6_init 17 = .ok (.newarray .int, 2) := by decide +kernel
theorem dX6_init_19 : decode cX6_init 19 = .ok (.putfield 13, 3) := by decide +kernel
theorem dX6_init_22 : decode cX6_init 22 = .ok (.aload_n 0, 1) := by decide +kernel
theorem dX6_init_23 : decode cX6_init 23 = .ok (.sipush 233, 3) := by decide +kernel
theorem dX6_init_26 : decode cX6_init 26 = .ok (.newarray .int, 2) := by decide +kernel
theorem dX6_init_28 : decode cX6_init 28 = .ok (.putfield 16, 3) := by decide +kernel
theorem dX6_init_31 : decode cX6_init 31 = .ok (.aload_n 0, 1) := by decide +kernel
theorem dX6_init_32 : decode cX6_init 32 = .ok (.bipush 80, 2) := by decide +kernel
theorem dX6_init_34 : decode cX6_init 34 = .ok (.newarray .char, 2) := by decide +kernel
theorem dX6_init_36 : decode cX6_init 36 = .ok (.putfield 19, 3) := by decide +kernel
theorem dX6_init_39 : decode cX6_init 39 = .ok (.aload_n 0, 1) := by decide +kernel
theorem dX6_init_40 : decode cX6_init 40 = .ok (.bipush 20, 2) := by decide +kernel
theorem dX6_init_42 : decode cX6_init 42 = .ok (.newarray .int, 2) := by decide +kernel
theorem dX6_init_44 : decode cX6_init 44 = .ok (.putfield 23, 3) := by decide +kernel
theorem dX6_init_47 : decode cX6_init 47 = .ok (.aload_n 0, 1) := by decide +kernel
theorem dX6_init_48 : decode cX6_init 48 = .ok (.bipush 20, 2) := by decide +kernel
theorem dX6_init_50 : decode cX6_init 50 = .ok (.newarray .int, 2) := by decide +kernel
theorem dX6_init_52 : decode cX6_init 52 = .ok (.putfield 26, 3) := by decide +kernel
theorem dX6_init_55 : decode cX6_init 55 = .ok (.aload_n 0, 1) := by decide +kernel
theorem dX6_init_56 : decode cX6_init 56 = .ok (.bipush 60, 2) := by decide +kernel
theorem dX6_init_58 : decode cX6_init 58 = .ok (.newarray .int, 2) := by decide +kernel
theorem dX6_init_60 : decode cX6_init 60 = .ok (.putfield 29, 3) := by decide +kernel
theorem dX6_init_63 : decode cX6_init 63 = .ok (.aload_n 0, 1) := by decide +kernel
theorem dX6_init_64 : decode cX6_init 64 = .ok (.bipush 20, 2) := by decide +kernel
theorem dX6_init_66 : decode cX6_init 66 = .ok (.newarray .int, 2) := by decide +kernel
theorem dX6_init_68 : decode cX6_init 68 = .ok (.putfield 32, 3) := by decide +kernel
theorem dX6_init_71 : decode cX6_init 71 = .ok (.aload_n 0, 1) := by decide +kernel
theorem dX6_init_72 : decode cX6_init 72 = .ok (.getfield 7, 3) := by decide +kernel
theorem dX6_init_75 : decode cX6_init 75 = .ok (.iconst 2, 1) := by decide +kernel
theorem dX6_init_76 : decode cX6_init 76 = .ok (.iconst 3, 1) := by decide +kernel
theorem dX6_init_77 : decode cX6_init 77 = .ok (.iastore, 1) := by decide +kernel
theorem dX6_init_78 : decode cX6_init 78 = .ok (.aload_n 0, 1) := by decide +kernel
theorem dX6_init_79 : decode cX6_init 79 = .ok (.getfield 7, 3) := by decide +kernel
theorem dX6_init_82 : decode cX6_init 82 = .ok (.iconst 3, 1) := by decide +kernel
theorem dX6_init_83 : decode cX6_init 83 = .ok (.iconst 4, 1) := by decide +kernel
theorem dX6_init_84 : decode cX6_init 84 = .ok (.iastore, 1) := by decide +kernel
theorem dX6_init_85 : decode cX6_init 85 = .ok (.aload_n 0, 1) := by decide +kernel
theorem dX6_init_86 : decode cX6_init 86 = .ok (.getfield 7, 3) := by decide +kernel
theorem dX6_init_89 : decode cX6_init 89 = .ok (.iconst 4, 1) := by decide +kernel
theorem dX6_init_90 : decode cX6_init 90 = .ok (.iconst 2, 1) := by decide +kernel
theorem dX6_init_91 : decode cX6_init 91 = .ok (.iastore, 1) := by decide +kernel
theorem dX6_init_92 : decode cX6_init 92 = .ok (.return_, 1) := by decide +kernel
theorem dX6_in_0 : decode cX6_in 0 = .ok (.iload_n 0, 1) := by decide +kernel
theorem dX6_in_1 : decode cX6_in 1 = .ok (.iload_n 1, 1) := by decide +kernel
theorem dX6_in_2 : decode cX6_in 2 = .ok (.if_icmp .lt 12, 3) := by decide +kernel
theorem dX6_in_5 : decode cX6_in 5 = .ok (.iload_n 0, 1) := by decide +kernel
theorem dX6_in_6 : decode cX6_in 6 = .ok (.iload_n 2, 1) := by decide +kernel
theorem dX6_in_7 : decode cX6_in 7 = .ok (.if_icmp .gt 7, 3) := by decide +kernel
theorem dX6_in_10 : decode cX6_in 10 = .ok (.iconst 1, 1) := by decide +kernel
theorem dX6_in_11 : decode cX6_in 11 = .ok (.goto 4, 3) := by decide +kernel
theorem dX6_in_14 : decode cX6_in 14 = .ok (.iconst 0, 1) := by decide +kernel
theorem dX6_in_15 : decode cX6_in 15 = .ok (.ireturn, 1) := by decide +kernel
theorem dX6_copies_0 : decode cX6_copies 0 = .ok (.iconst 0, 1) := by decide +kernel
theorem dX6_copies_1 : decode cX6_copies 1 = .ok (.istore 4, 2) := by decide +kernel
theorem dX6_copies_3 : decode cX6_copies 3 = .ok (.iload 4, 2) := by decide +kernel
theorem dX6_copies_5 : decode cX6_copies 5 = .ok (.sipush 233, 3) := by decide +kernel
theorem dX6_copies_8 : decode cX6_copies 8 = .ok (.if_icmp .ge 21, 3) := by decide +kernel
theorem dX6_copies_11 : decode cX6_copies 11 = .ok (.aload_n 2, 1) := by decide +kernel
theorem dX6_copies_12 : decode cX6_copies 12 = .ok (.iload_n 3, 1) := by decide +kernel
theorem dX6_copies_13 : decode cX6_copies 13 = .ok (.iload 4, 2) := by decide +kernel
theorem dX6_copies_15 : decode cX6_copies 15 = .ok (.iadd, 1) := by decide +kernel
theorem dX6_copies_16 : decode cX6_copies 16 = .ok (.aload_n 0, 1) := by decide +kernel
theorem dX6_copies_17 : decode cX6_copies 17 = .ok (.iload_n 1, 1) := by decide +kernel
theorem dX6_copies_18 : decode cX6_copies 18 = .ok (.iload 4, 2) := by decide +kernel
theorem dX6_copies_20 : decode cX6_copies 20 = .ok (.iadd, 1) := by decide +kernel
theorem dX6_copies_21 : decode cX6_copies 21 = .ok (.iaload, 1) := by decide +kernel
theorem dX6_copies_22 : decode cX6_copies 22 = .ok (.iastore, 1) := by decide +kernel
theorem dX6_copies_23 : decode cX6_copies 23 = .ok (.iinc 4 1, 3) := by decide +kernel
theorem dX6_copies_26 : decode cX6_copies 26 = .ok (.goto (-23), 3) := by decide +kernel
theorem dX6_copies_29 : decode cX6_copies 29 = .ok (.return_, 1) := by decide +kernel
set_option maxRecDepth 20000 in
theorem ggX6_records_X6_copies : GoodIn wsX6_records wsX6_copies := goodIn_r _ [7] (by decide +kernel) (by decide +kernel)
set_option maxRecDepth 20000 in
theorem gX6_records_X6_copies : GoodIn wsX6_records (va_wsS RX6 39 yX6_copies wsX6_copies) := goodIn_app (goodIn_of _ (by decide +kernel)) ggX6_records_X6_copies
theorem dX6_records_0 : decode cX6_records 0 = .ok (.aload_n 0, 1) := by decide +kernel
theorem dX6_records_1 : decode cX6_records 1 = .ok (.getfield 35, 3) := by decide +kernel
theorem dX6_records_4 : decode cX6_records 4 = .ok (.iconst 4, 1) := by decide +kernel
theorem dX6_records_5 : decode cX6_records 5 = .ok (.if_icmp .ne 44, 3) := by decide +kernel
theorem dX6_records_8 : decode cX6_records 8 = .ok (.iconst 0, 1) := by decide +kernel
theorem dX6_records_9 : decode cX6_records 9 = .ok (.istore_n 1, 1) := by decide +kernel
theorem dX6_records_10 : decode cX6_records 10 = .ok (.iload_n 1, 1) := by decide +kernel
theorem dX6_records_11 : decode cX6_records 11 = .ok (.sipush 699, 3) := by decide +kernel
theorem dX6_records_14 : decode cX6_records 14 = .ok (.if_icmp .ge 25, 3) := by decide +kernel
theorem dX6_records_17 : decode cX6_records 17 = .ok (.aload_n 0, 1) := by decide +kernel
theorem dX6_records_18 : decode cX6_records 18 = .ok (.getfield 13, 3) := by decide +kernel
theorem dX6_records_21 : decode cX6_records 21 = .ok (.iload_n 1, 1) := by decide +kernel
theorem dX6_records_22 : decode cX6_records 22 = .ok (.aload_n 0, 1) := by decide +kernel
theorem dX6_records_23 : decode cX6_records 23 = .ok (.getfield 13, 3) := by decide +kernel
theorem dX6_records_26 : decode cX6_records 26 = .ok (.iload_n 1, 1) := by decide +kernel
theorem dX6_records_27 : decode cX6_records 27 = .ok (.sipush 233, 3) := by decide +kernel
theorem dX6_records_30 : decode cX6_records 30 = .ok (.iadd, 1) := by decide +kernel
theorem dX6_records_31 : decode cX6_records 31 = .ok (.iaload, 1) := by decide +kernel
theorem dX6_records_32 : decode cX6_records 32 = .ok (.iastore, 1) := by decide +kernel
theorem dX6_records_33 : decode cX6_records 33 = .ok (.iinc 1 1, 3) := by decide +kernel
theorem dX6_records_36 : decode cX6_records 36 = .ok (.goto (-26), 3) := by decide +kernel
theorem dX6_records_39 : decode cX6_records 39 = .ok (.aload_n 0, 1) := by decide +kernel
theorem dX6_records_40 : decode cX6_records 40 = .ok (.dup, 1) := by decide +kernel
theorem dX6_records_41 : decode cX6_records 41 = .ok (.getfield 35, 3) := by decide +kernel
theorem dX6_records_44 : decode cX6_records 44 = .ok (.iconst 1, 1) := by decide +kernel
theorem dX6_records_45 : decode cX6_records 45 = .ok (.isub, 1) := by decide +kernel
theorem dX6_records_46 : decode cX6_records 46 = .ok (.putfield 35, 3) := by decide +kernel
theorem dX6_records_49 : decode cX6_records 49 = .ok (.aload_n 0, 1) := by decide +kernel
theorem dX6_records_50 : decode cX6_records 50 = .ok (.getfield 7, 3) := by decide +kernel
theorem dX6_records_53 : decode cX6_records 53 = .ok (.iconst 0, 1) := by decide +kernel
theorem dX6_records_54 : decode cX6_records 54 = .ok (.aload_n 0, 1) := by decide +kernel
theorem dX6_records_55 : decode cX6_records 55 = .ok (.getfield 13, 3) := by decide +kernel
theorem dX6_records_58 : decode cX6_records 58 = .ok (.sipush 233, 3) := by decide +kernel
theorem dX6_records_61 : decode cX6_records 61 = .ok (.aload_n 0, 1) := by decide +kernel
theorem dX6_records_62 : decode cX6_records 62 = .ok (.getfield 35, 3) := by decide +kernel
theorem dX6_records_65 : decode cX6_records 65 = .ok (.imul, 1) := by decide +kernel
theorem dX6_records_66 : decode cX6_records 66 = .ok (.invokestatic 39, 3) := by decide +kernel
theorem dX6_records_69 : decode cX6_records 69 = .ok (.aload_n 0, 1) := by decide +kernel
theorem dX6_records_70 : decode cX6_records 70 = .ok (.dup, 1) := by decide +kernel
theorem dX6_records_71 : decode cX6_records 71 = .ok (.getfield 35, 3) := by decide +kernel
theorem dX6_records_74 : decode cX6_records 74 = .ok (.iconst 1, 1) := by decide +kernel
theorem dX6_records_75 : decode cX6_records 75 = .ok (.iadd, 1) := by decide +kernel
theorem dX6_records_76 : decode cX6_records 76 = .ok (.putfield 35, 3) := by decide +kernel
theorem dX6_records_79 : decode cX6_records 79 = .ok (.return_, 1) := by decide +kernel
set_option maxRecDepth 20000 in
theorem ggX6_isNote_X6_in : GoodIn wsX6_isNote wsX6_in := goodIn_r _ [5] (by decide +kernel) (by decide +kernel)
set_option maxRecDepth 20000 in
theorem gX6_isNote_X6_in : GoodIn wsX6_isNote (va_wsS RX6 43 yX6_in wsX6_in) := goodIn_app (goodIn_of _ (by decide +kernel)) ggX6_isNote_X6_in
theorem dX6_isNote_0 : decode cX6_isNote 0 = .ok (.iload_n 1, 1) := by decide +kernel
theorem dX6_isNote_1 : decode cX6_isNote 1 = .ok (.iconst 0, 1) := by decide +kernel
theorem dX6_isNote_2 : decode cX6_isNote 2 = .ok (.aload_n 0, 1) := by decide +kernel
theorem dX6_isNote_3 : decode cX6_isNote 3 = .ok (.getfield 7, 3) := by decide +kernel
theorem dX6_isNote_6 : decode cX6_isNote 6 = .ok (.iconst 0, 1) := by decide +kernel
theorem dX6_isNote_7 : decode cX6_isNote 7 = .ok (.iaload, 1) := by decide +kernel
theorem dX6_isNote_8 : decode cX6_isNote 8 = .ok (.iconst 1, 1) := by decide +kernel
theorem dX6_isNote_9 : decode cX6_isNote 9 = .ok (.isub, 1) := by decide +kernel
theorem dX6_isNote_10 : decode cX6_isNote 10 = .ok (.invokestatic 43, 3) := by decide +kernel
theorem dX6_isNote_13 : decode cX6_isNote 13 = .ok (.ireturn, 1) := by decide +kernel
set_option maxRecDepth 20000 in
theorem ggX6_isTheme_X6_in : GoodIn wsX6_isTheme wsX6_in := goodIn_r _ [5] (by decide +kernel) (by decide +kernel)
set_option maxRecDepth 20000 in
theorem gX6_isTheme_X6_in : GoodIn wsX6_isTheme (va_wsS RX6 43 yX6_in wsX6_in) := goodIn_app (goodIn_of _ (by decide +kernel)) ggX6_isTheme_X6_in
theorem dX6_isTheme_0 : decode cX6_isTheme 0 = .ok (.iload_n 1, 1) := by decide +kernel
theorem dX6_isTheme_1 : decode cX6_isTheme 1 = .ok (.iconst 0, 1) := by decide +kernel
theorem dX6_isTheme_2 : decode cX6_isTheme 2 = .ok (.aload_n 0, 1) := by decide +kernel
theorem dX6_isTheme_3 : decode cX6_isTheme 3 = .ok (.getfield 7, 3) := by decide +kernel
theorem dX6_isTheme_6 : decode cX6_isTheme 6 = .ok (.iconst 1, 1) := by decide +kernel
theorem dX6_isTheme_7 : decode cX6_isTheme 7 = .ok (.iaload, 1) := by decide +kernel
theorem dX6_isTheme_8 : decode cX6_isTheme 8 = .ok (.iconst 1, 1) := by decide +kernel
theorem dX6_isTheme_9 : decode cX6_isTheme 9 = .ok (.isub, 1) := by decide +kernel
theorem dX6_isTheme_10 : decode cX6_isTheme 10 = .ok (.invokestatic 43, 3) := by decide +kernel
theorem dX6_isTheme_13 : decode cX6_isTheme 13 = .ok (.ireturn, 1) := by decide +kernel
set_option maxRecDepth 20000 in
theorem ggX6_isPerson_X6_in : GoodIn wsX6_isPerson wsX6_in := goodIn_r _ [4] (by decide +kernel) (by decide +kernel)
set_option maxRecDepth 20000 in
theorem gX6_isPerson_X6_in : GoodIn wsX6_isPerson (va_wsS RX6 43 yX6_in wsX6_in) := goodIn_app (goodIn_of _ (by decide +kernel)) ggX6_isPerson_X6_in
theorem dX6_isPerson_0 : decode cX6_isPerson 0 = .ok (.iload_n 0, 1) := by decide +kernel
theorem dX6_isPerson_1 : decode cX6_isPerson 1 = .ok (.iconst 0, 1) := by decide +kernel
theorem dX6_isPerson_2 : decode cX6_isPerson 2 = .ok (.iconst 5, 1) := by decide +kernel
theorem dX6_isPerson_3 : decode cX6_isPerson 3 = .ok (.invokestatic 43, 3) := by decide +kernel
theorem dX6_isPerson_6 : decode cX6_isPerson 6 = .ok (.ireturn, 1) := by decide +kernel
set_option maxRecDepth 20000 in
theorem ggX6_isPlace_X6_in : GoodIn wsX6_isPlace wsX6_in := goodIn_r _ [4] (by decide +kernel) (by decide +kernel)
set_option maxRecDepth 20000 in
theorem gX6_isPlace_X6_in : GoodIn wsX6_isPlace (va_wsS RX6 43 yX6_in wsX6_in) := goodIn_app (goodIn_of _ (by decide +kernel)) ggX6_isPlace_X6_in
theorem dX6_isPlace_0 : decode cX6_isPlace 0 = .ok (.iload_n 0, 1) := by decide +kernel
theorem dX6_isPlace_1 : decode cX6_isPlace 1 = .ok (.iconst 0, 1) := by decide +kernel
theorem dX6_isPlace_2 : decode cX6_isPlace 2 = .ok (.bipush 29, 2) := by decide +kernel
theorem dX6_isPlace_4 : decode cX6_isPlace 4 = .ok (.invokestatic 43, 3) := by decide +kernel
theorem dX6_isPlace_7 : decode cX6_isPlace 7 = .ok (.ifCond .eq 17, 3) := by decide +kernel
theorem dX6_isPlace_10 : decode cX6_isPlace 10 = .ok (.iload_n 1, 1) := by decide +kernel
theorem dX6_isPlace_11 : decode cX6_isPlace 11 = .ok (.iconst 0, 1) := by decide +kernel
theorem dX6_isPlace_12 : decode cX6_isPlace 12 = .ok (.bipush 19, 2) := by decide +kernel
theorem dX6_isPlace_14 : decode cX6_isPlace 14 = .ok (.invokestatic 43, 3) := by decide +kernel
theorem dX6_isPlace_17 : decode cX6_isPlace 17 = .ok (.ifCond .eq 7, 3) := by decide +kernel
theorem dX6_isPlace_20 : decode cX6_isPlace 20 = .ok (.iconst 1, 1) := by decide +kernel
theorem dX6_isPlace_21 : decode cX6_isPlace 21 = .ok (.goto 4, 3) := by decide +kernel
theorem dX6_isPlace_24 : decode cX6_isPlace 24 = .ok (.iconst 0, 1) := by decide +kernel
theorem dX6_isPlace_25 : decode cX6_isPlace 25 = .ok (.ireturn, 1) := by decide +kernel
theorem dX6_of_0 : decode cX6_of 0 = .ok (.aload_n 0, 1) := by decide +kernel
theorem dX6_of_1 : decode cX6_of 1 = .ok (.getfield 7, 3) := by decide +kernel
theorem dX6_of_4 : decode cX6_of 4 = .ok (.iconst 5, 1) := by decide +kernel
theorem dX6_of_5 : decode cX6_of 5 = .ok (.bipush 9, 2) := by decide +kernel
theorem dX6_of_7 : decode cX6_of 7 = .ok (.iload_n 1, 1) := by decide +kernel
theorem dX6_of_8 : decode cX6_of 8 = .ok (.imul, 1) := by decide +kernel
theorem dX6_of_9 : decode cX6_of 9 = .ok (.iadd, 1) := by decide +kernel
theorem dX6_of_10 : decode cX6_of 10 = .ok (.iload_n 2, 1) := by decide +kernel
theorem dX6_of_11 : decode cX6_of 11 = .ok (.iadd, 1) := by decide +kernel
theorem dX6_of_12 : decode cX6_of 12 = .ok (.iaload, 1) := by decide +kernel
theorem dX6_of_13 : decode cX6_of 13 = .ok (.ireturn, 1) := by decide +kernel
theorem dX6_lays_0 : decode cX6_lays 0 = .ok (.aload_n 0, 1) := by decide +kernel
theorem dX6_lays_1 : decode cX6_lays 1 = .ok (.getfield 7, 3) := by decide +kernel
theorem dX6_lays_4 : decode cX6_lays 4 = .ok (.iconst 5, 1) := by decide +kernel
theorem dX6_lays_5 : decode cX6_lays 5 = .ok (.bipush 9, 2) := by decide +kernel
theorem dX6_lays_7 : decode cX6_lays 7 = .ok (.iload_n 1, 1) := by decide +kernel
theorem dX6_lays_8 : decode cX6_lays 8 = .ok (.imul, 1) := by decide +kernel
theorem dX6_lays_9 : decode cX6_lays 9 = .ok (.iadd, 1) := by decide +kernel
theorem dX6_lays_10 : decode cX6_lays 10 = .ok (.iload_n 2, 1) := by decide +kernel
theorem dX6_lays_11 : decode cX6_lays 11 = .ok (.iadd, 1) := by decide +kernel
theorem dX6_lays_12 : decode cX6_lays 12 = .ok (.iload_n 3, 1) := by decide +kernel
theorem dX6_lays_13 : decode cX6_lays 13 = .ok (.iastore, 1) := by decide +kernel
theorem dX6_lays_14 : decode cX6_lays 14 = .ok (.return_, 1) := by decide +kernel
set_option maxRecDepth 20000 in
theorem ggX6_themeOf_X6_of : GoodIn wsX6_themeOf wsX6_of := goodIn_r _ [5, 6, 7, 8, 9, 10, 11, 12, 13, 14, 15, 16, 17, 18, 19, 20, 21] (by decide +kernel) (by decide +kernel)
set_option maxRecDepth 20000 in
theorem gX6_themeOf_X6_of : GoodIn wsX6_themeOf (wsV RX6 47 RX6 yX6_of wsX6_of) := goodIn_app (goodIn_of _ (by decide +kernel)) ggX6_themeOf_X6_of
theorem dX6_themeOf_0 : decode cX6_themeOf 0 = .ok (.aload_n 0, 1) := by decide +kernel
theorem dX6_themeOf_1 : decode cX6_themeOf 1 = .ok (.iload_n 1, 1) := by decide +kernel
theorem dX6_themeOf_2 : decode cX6_themeOf 2 = .ok (.iconst 2, 1) := by decide +kernel
theorem dX6_themeOf_3 : decode cX6_themeOf 3 = .ok (.invokevirtual 47, 3) := by decide +kernel
theorem dX6_themeOf_6 : decode cX6_themeOf 6 = .ok (.iconst 1, 1) := by decide +kernel
theorem dX6_themeOf_7 : decode cX6_themeOf 7 = .ok (.isub, 1) := by decide +kernel
theorem dX6_themeOf_8 : decode cX6_themeOf 8 = .ok (.ireturn, 1) := by decide +kernel
theorem dX6_size_0 : decode cX6_size 0 = .ok (.iload_n 0, 1) := by decide +kernel
theorem dX6_size_1 : decode cX6_size 1 = .ok (.ifCond .ge 8, 3) := by decide +kernel
theorem dX6_size_4 : decode cX6_size 4 = .ok (.iload_n 0, 1) := by decide +kernel
theorem dX6_size_5 : decode cX6_size 5 = .ok (.ineg, 1) := by decide +kernel
theorem dX6_size_6 : decode cX6_size 6 = .ok (.goto 4, 3) := by decide +kernel
theorem dX6_size_9 : decode cX6_size 9 = .ok (.iload_n 0, 1) := by decide +kernel
theorem dX6_size_10 : decode cX6_size 10 = .ok (.ireturn, 1) := by decide +kernel
set_option maxRecDepth 20000 in
theorem ggX6_distance_X6_of : GoodIn wsX6_distance wsX6_of := goodIn_r _ [5, 6, 10, 11, 12, 13, 14, 15, 16, 17, 18, 19, 20, 21, 22, 23, 24] (by decide +kernel) (by decide +kernel)
set_option maxRecDepth 20000 in
theorem gX6_distance_X6_of : GoodIn wsX6_distance (wsV RX6 47 RX6 yX6_of wsX6_of) := goodIn_app (goodIn_of _ (by decide +kernel)) ggX6_distance_X6_of
set_option maxRecDepth 20000 in
theorem ggX6_distance_X6_size : GoodIn wsX6_distance wsX6_size := goodIn_r _ [9] (by decide +kernel) (by decide +kernel)
set_option maxRecDepth 20000 in
theorem gX6_distance_X6_size : GoodIn wsX6_distance (va_wsS RX6 51 yX6_size wsX6_size) := goodIn_app (goodIn_of _ (by decide +kernel)) ggX6_distance_X6_size
theorem dX6_distance_0 : decode cX6_distance 0 = .ok (.aload_n 0, 1) := by decide +kernel
theorem dX6_distance_1 : decode cX6_distance 1 = .ok (.iload_n 1, 1) := by decide +kernel
theorem dX6_distance_2 : decode cX6_distance 2 = .ok (.iconst 0, 1) := by decide +kernel
theorem dX6_distance_3 : decode cX6_distance 3 = .ok (.invokevirtual 47, 3) := by decide +kernel
theorem dX6_distance_6 : decode cX6_distance 6 = .ok (.aload_n 0, 1) := by decide +kernel
theorem dX6_distance_7 : decode cX6_distance 7 = .ok (.iload_n 2, 1) := by decide +kernel
theorem dX6_distance_8 : decode cX6_distance 8 = .ok (.iconst 0, 1) := by decide +kernel
theorem dX6_distance_9 : decode cX6_distance 9 = .ok (.invokevirtual 47, 3) := by decide +kernel
theorem dX6_distance_12 : decode cX6_distance 12 = .ok (.isub, 1) := by decide +kernel
theorem dX6_distance_13 : decode cX6_distance 13 = .ok (.invokestatic 51, 3) := by decide +kernel
theorem dX6_distance_16 : decode cX6_distance 16 = .ok (.aload_n 0, 1) := by decide +kernel
theorem dX6_distance_17 : decode cX6_distance 17 = .ok (.iload_n 1, 1) := by decide +kernel
theorem dX6_distance_18 : decode cX6_distance 18 = .ok (.iconst 1, 1) := by decide +kernel
theorem dX6_distance_19 : decode cX6_distance 19 = .ok (.invokevirtual 47, 3) := by decide +kernel
theorem dX6_distance_22 : decode cX6_distance 22 = .ok (.aload_n 0, 1) := by decide +kernel
theorem dX6_distance_23 : decode cX6_distance 23 = .ok (.iload_n 2, 1) := by decide +kernel
theorem dX6_distance_24 : decode cX6_distance 24 = .ok (.iconst 1, 1) := by decide +kernel
theorem dX6_distance_25 : decode cX6_distance 25 = .ok (.invokevirtual 47, 3) := by decide +kernel
theorem dX6_distance_28 : decode cX6_distance 28 = .ok (.isub, 1) := by decide +kernel
theorem dX6_distance_29 : decode cX6_distance 29 = .ok (.invokestatic 51, 3) := by decide +kernel
theorem dX6_distance_32 : decode cX6_distance 32 = .ok (.iadd, 1) := by decide +kernel
theorem dX6_distance_33 : decode cX6_distance 33 = .ok (.ireturn, 1) := by decide +kernel
set_option maxRecDepth 20000 in
theorem ggX6_spreads_X6_distance : GoodIn wsX6_spreads wsX6_distance := goodIn_r _ [9, 10, 11, 12, 8, 13, 4, 14, 15, 16, 17, 18, 19, 20, 21, 22, 23, 24, 25, 26, 27, 28, 29, 30, 31] (by decide +kernel) (by decide +kernel)
set_option maxRecDepth 20000 in
theorem gX6_spreads_X6_distance : GoodIn wsX6_spreads (wsV RX6 58 RX6 yX6_distance wsX6_distance) := goodIn_app (goodIn_of _ (by decide +kernel)) ggX6_spreads_X6_distance
theorem dX6_spreads_0 : decode cX6_spreads 0 = .ok (.iconst 1, 1) := by decide +kernel
theorem dX6_spreads_1 : decode cX6_spreads 1 = .ok (.istore 4, 2) := by decide +kernel
theorem dX6_spreads_3 : decode cX6_spreads 3 = .ok (.aload_n 0, 1) := by decide +kernel
theorem dX6_spreads_4 : decode cX6_spreads 4 = .ok (.getfield 26, 3) := by decide +kernel
theorem dX6_spreads_7 : decode cX6_spreads 7 = .ok (.iconst 0, 1) := by decide +kernel
theorem dX6_spreads_8 : decode cX6_spreads 8 = .ok (.iload_n 1, 1) := by decide +kernel
theorem dX6_spreads_9 : decode cX6_spreads 9 = .ok (.iastore, 1) := by decide +kernel
theorem dX6_spreads_10 : decode cX6_spreads 10 = .ok (.aload_n 0, 1) := by decide +kernel
theorem dX6_spreads_11 : decode cX6_spreads 11 = .ok (.getfield 23, 3) := by decide +kernel
theorem dX6_spreads_14 : decode cX6_spreads 14 = .ok (.iload_n 1, 1) := by decide +kernel
theorem dX6_spreads_15 : decode cX6_spreads 15 = .ok (.aload_n 0, 1) := by decide +kernel
theorem dX6_spreads_16 : decode cX6_spreads 16 = .ok (.getfield 55, 3) := by decide +kernel
theorem dX6_spreads_19 : decode cX6_spreads 19 = .ok (.iastore, 1) := by decide +kernel
theorem dX6_spreads_20 : decode cX6_spreads 20 = .ok (.iconst 0, 1) := by decide +kernel
theorem dX6_spreads_21 : decode cX6_spreads 21 = .ok (.istore 5, 2) := by decide +kernel
theorem dX6_spreads_23 : decode cX6_spreads 23 = .ok (.iload 5, 2) := by decide +kernel
theorem dX6_spreads_25 : decode cX6_spreads 25 = .ok (.iload 4, 2) := by decide +kernel
theorem dX6_spreads_27 : decode cX6_spreads 27 = .ok (.if_icmp .ge 87, 3) := by decide +kernel
theorem dX6_spreads_30 : decode cX6_spreads 30 = .ok (.iconst 0, 1) := by decide +kernel
theorem dX6_spreads_31 : decode cX6_spreads 31 = .ok (.istore 6, 2) := by decide +kernel
theorem dX6_spreads_33 : decode cX6_spreads 33 = .ok (.iload 6, 2) := by decide +kernel
theorem dX6_spreads_35 : decode cX6_spreads 35 = .ok (.aload_n 0, 1) := by decide +kernel
theorem dX6_spreads_36 : decode cX6_spreads 36 = .ok (.getfield 7, 3) := by decide +kernel
theorem dX6_spreads_39 : decode cX6_spreads 39 = .ok (.iconst 0, 1) := by decide +kernel
theorem dX6_spreads_40 : decode cX6_spreads 40 = .ok (.iaload, 1) := by decide +kernel
theorem dX6_spreads_41 : decode cX6_spreads 41 = .ok (.if_icmp .ge 67, 3) := by decide +kernel
theorem dX6_spreads_44 : decode cX6_spreads 44 = .ok (.aload_n 0, 1) := by decide +kernel
theorem dX6_spreads_45 : decode cX6_spreads 45 = .ok (.getfield 23, 3) := by decide +kernel
theorem dX6_spreads_48 : decode cX6_spreads 48 = .ok (.iload 6, 2) := by decide +kernel
theorem dX6_spreads_50 : decode cX6_spreads 50 = .ok (.iaload, 1) := by decide +kernel
theorem dX6_spreads_51 : decode cX6_spreads 51 = .ok (.bipush (-5), 2) := by decide +kernel
theorem dX6_spreads_53 : decode cX6_spreads 53 = .ok (.if_icmp .ne 49, 3) := by decide +kernel
theorem dX6_spreads_56 : decode cX6_spreads 56 = .ok (.iload 6, 2) := by decide +kernel
theorem dX6_spreads_58 : decode cX6_spreads 58 = .ok (.iload_n 3, 1) := by decide +kernel
theorem dX6_spreads_59 : decode cX6_spreads 59 = .ok (.if_icmp .eq 43, 3) := by decide +kernel
theorem dX6_spreads_62 : decode cX6_spreads 62 = .ok (.aload_n 0, 1) := by decide +kernel
theorem dX6_spreads_63 : decode cX6_spreads 63 = .ok (.aload_n 0, 1) := by decide +kernel
theorem dX6_spreads_64 : decode cX6_spreads 64 = .ok (.getfield 26, 3) := by decide +kernel
theorem dX6_spreads_67 : decode cX6_spreads 67 = .ok (.iload 5, 2) := by decide +kernel
theorem dX6_spreads_69 : decode cX6_spreads 69 = .ok (.iaload, 1) := by decide +kernel
theorem dX6_spreads_70 : decode cX6_spreads 70 = .ok (.iload 6, 2) := by decide +kernel
theorem dX6_spreads_72 : decode cX6_spreads 72 = .ok (.invokevirtual 58, 3) := by decide +kernel
theorem dX6_spreads_75 : decode cX6_spreads 75 = .ok (.iload_n 2, 1) := by decide +kernel
theorem dX6_spreads_76 : decode cX6_spreads 76 = .ok (.if_icmp .gt 26, 3) := by decide +kernel
theorem dX6_spreads_79 : decode cX6_spreads 79 = .ok (.aload_n 0, 1) := by decide +kernel
theorem dX6_spreads_80 : decode cX6_spreads 80 = .ok (.getfield 23, 3) := by decide +kernel
theorem dX6_spreads_83 : decode cX6_spreads 83 = .ok (.iload 6, 2) := by decide +kernel
theorem dX6_spreads_85 : decode cX6_spreads 85 = .ok (.aload_n 0, 1) := by decide +kernel
theorem dX6_spreads_86 : decode cX6_spreads 86 = .ok (.getfield 55, 3) := by decide +kernel
theorem dX6_spreads_89 : decode cX6_spreads 89 = .ok (.iastore, 1) := by decide +kernel
theorem dX6_spreads_90 : decode cX6_spreads 90 = .ok (.aload_n 0, 1) := by decide +kernel
theorem dX6_spreads_91 : decode cX6_spreads 91 = .ok (.getfield 26, 3) := by decide +kernel
theorem dX6_spreads_94 : decode cX6_spreads 94 = .ok (.iload 4, 2) := by decide +kernel
theorem dX6_spreads_96 : decode cX6_spreads 96 = .ok (.iload 6, 2) := by decide +kernel
theorem dX6_spreads_98 : decode cX6_spreads 98 = .ok (.iastore, 1) := by decide +kernel
theorem dX6_spreads_99 : decode cX6_spreads 99 = .ok (.iinc 4 1, 3) := by decide +kernel
theorem dX6_spreads_102 : decode cX6_spreads 102 = .ok (.iinc 6 1, 3) := by decide +kernel
theorem dX6_spreads_105 : decode cX6_spreads 105 = .ok (.goto (-72), 3) := by decide +kernel
theorem dX6_spreads_108 : decode cX6_spreads 108 = .ok (.iinc 5 1, 3) := by decide +kernel
theorem dX6_spreads_111 : decode cX6_spreads 111 = .ok (.goto (-88), 3) := by decide +kernel
theorem dX6_spreads_114 : decode cX6_spreads 114 = .ok (.aload_n 0, 1) := by decide +kernel
theorem dX6_spreads_115 : decode cX6_spreads 115 = .ok (.dup, 1) := by decide +kernel
theorem dX6_spreads_116 : decode cX6_spreads 116 = .ok (.getfield 55, 3) := by decide +kernel
theorem dX6_spreads_119 : decode cX6_spreads 119 = .ok (.iconst 1, 1) := by decide +kernel
theorem dX6_spreads_120 : decode cX6_spreads 120 = .ok (.iadd, 1) := by decide +kernel
theorem dX6_spreads_121 : decode cX6_spreads 121 = .ok (.putfield 55, 3) := by decide +kernel
theorem dX6_spreads_124 : decode cX6_spreads 124 = .ok (.iload 4, 2) := by decide +kernel
theorem dX6_spreads_126 : decode cX6_spreads 126 = .ok (.ireturn, 1) := by decide +kernel
set_option maxRecDepth 20000 in
theorem ggX6_laysHeaps_X6_spreads : GoodIn wsX6_laysHeaps wsX6_spreads := goodIn_r _ [8, 9, 2, 1, 3, 10, 11, 12, 7, 13, 14, 15, 16, 17, 18, 19, 20, 21, 22, 23, 24, 25, 26, 27, 28, 29, 30, 31, 32, 33, 34, 35] (by decide +kernel) (by decide +kernel)
set_option maxRecDepth 20000 in
theorem gX6_laysHeaps_X6_spreads : GoodIn wsX6_laysHeaps (wsV RX6 61 RX6 yX6_spreads wsX6_spreads) := goodIn_app (goodIn_of _ (by decide +kernel)) ggX6_laysHeaps_X6_spreads
theorem dX6_laysHeaps_0 : decode cX6_laysHeaps 0 = .ok (.aload_n 0, 1) := by decide +kernel
theorem dX6_laysHeaps_1 : decode cX6_laysHeaps 1 = .ok (.iconst 0, 1) := by decide +kernel
theorem dX6_laysHeaps_2 : decode cX6_laysHeaps 2 = .ok (.putfield 55, 3) := by decide +kernel
theorem dX6_laysHeaps_5 : decode cX6_laysHeaps 5 = .ok (.iconst 0, 1) := by decide +kernel
theorem dX6_laysHeaps_6 : decode cX6_laysHeaps 6 = .ok (.istore_n 3, 1) := by decide +kernel
theorem dX6_laysHeaps_7 : decode cX6_laysHeaps 7 = .ok (.iload_n 3, 1) := by decide +kernel
theorem dX6_laysHeaps_8 : decode cX6_laysHeaps 8 = .ok (.bipush 20, 2) := by decide +kernel
theorem dX6_laysHeaps_10 : decode cX6_laysHeaps 10 = .ok (.if_icmp .ge 17, 3) := by decide +kernel
theorem dX6_laysHeaps_13 : decode cX6_laysHeaps 13 = .ok (.aload_n 0, 1) := by decide +kernel
theorem dX6_laysHeaps_14 : decode cX6_laysHeaps 14 = .ok (.getfield 23, 3) := by decide +kernel
theorem dX6_laysHeaps_17 : decode cX6_laysHeaps 17 = .ok (.iload_n 3, 1) := by decide +kernel
theorem dX6_laysHeaps_18 : decode cX6_laysHeaps 18 = .ok (.bipush (-5), 2) := by decide +kernel
theorem dX6_laysHeaps_20 : decode cX6_laysHeaps 20 = .ok (.iastore, 1) := by decide +kernel
theorem dX6_laysHeaps_21 : decode cX6_laysHeaps 21 = .ok (.iinc 3 1, 3) := by decide +kernel
theorem dX6_laysHeaps_24 : decode cX6_laysHeaps 24 = .ok (.goto (-17), 3) := by decide +kernel
theorem dX6_laysHeaps_27 : decode cX6_laysHeaps 27 = .ok (.iconst 0, 1) := by decide +kernel
theorem dX6_laysHeaps_28 : decode cX6_laysHeaps 28 = .ok (.istore_n 3, 1) := by decide +kernel
theorem dX6_laysHeaps_29 : decode cX6_laysHeaps 29 = .ok (.iload_n 3, 1) := by decide +kernel
theorem dX6_laysHeaps_30 : decode cX6_laysHeaps 30 = .ok (.aload_n 0, 1) := by decide +kernel
theorem dX6_laysHeaps_31 : decode cX6_laysHeaps 31 = .ok (.getfield 7, 3) := by decide +kernel
theorem dX6_laysHeaps_34 : decode cX6_laysHeaps 34 = .ok (.iconst 0, 1) := by decide +kernel
theorem dX6_laysHeaps_35 : decode cX6_laysHeaps 35 = .ok (.iaload, 1) := by decide +kernel
theorem dX6_laysHeaps_36 : decode cX6_laysHeaps 36 = .ok (.if_icmp .ge 38, 3) := by decide +kernel
theorem dX6_laysHeaps_39 : decode cX6_laysHeaps 39 = .ok (.aload_n 0, 1) := by decide +kernel
theorem dX6_laysHeaps_40 : decode cX6_laysHeaps 40 = .ok (.getfield 23, 3) := by decide +kernel
theorem dX6_laysHeaps_43 : decode cX6_laysHeaps 43 = .ok (.iload_n 3, 1) := by decide +kernel
theorem dX6_laysHeaps_44 : decode cX6_laysHeaps 44 = .ok (.iaload, 1) := by decide +kernel
theorem dX6_laysHeaps_45 : decode cX6_laysHeaps 45 = .ok (.bipush (-5), 2) := by decide +kernel
theorem dX6_laysHeaps_47 : decode cX6_laysHeaps 47 = .ok (.if_icmp .ne 18, 3) := by decide +kernel
theorem dX6_laysHeaps_50 : decode cX6_laysHeaps 50 = .ok (.iload_n 3, 1) := by decide +kernel
theorem dX6_laysHeaps_51 : decode cX6_laysHeaps 51 = .ok (.iload_n 2, 1) := by decide +kernel
theorem dX6_laysHeaps_52 : decode cX6_laysHeaps 52 = .ok (.if_icmp .eq 13, 3) := by decide +kernel
theorem dX6_laysHeaps_55 : decode cX6_laysHeaps 55 = .ok (.aload_n 0, 1) := by decide +kernel
theorem dX6_laysHeaps_56 : decode cX6_laysHeaps 56 = .ok (.iload_n 3, 1) := by decide +kernel
theorem dX6_laysHeaps_57 : decode cX6_laysHeaps 57 = .ok (.iload_n 1, 1) := by decide +kernel
theorem dX6_laysHeaps_58 : decode cX6_laysHeaps 58 = .ok (.iload_n 2, 1) := by decide +kernel
theorem dX6_laysHeaps_59 : decode cX6_laysHeaps 59 = .ok (.invokevirtual 61, 3) := by decide +kernel
theorem dX6_laysHeaps_62 : decode cX6_laysHeaps 62 = .ok (.goto 4, 3) := by decide +kernel
theorem dX6_laysHeaps_65 : decode cX6_laysHeaps 65 = .ok (.iconst 0, 1) := by decide +kernel
theorem dX6_laysHeaps_66 : decode cX6_laysHeaps 66 = .ok (.istore 4, 2) := by decide +kernel
theorem dX6_laysHeaps_68 : decode cX6_laysHeaps 68 = .ok (.iinc 3 1, 3) := by decide +kernel
theorem dX6_laysHeaps_71 : decode cX6_laysHeaps 71 = .ok (.goto (-42), 3) := by decide +kernel
theorem dX6_laysHeaps_74 : decode cX6_laysHeaps 74 = .ok (.aload_n 0, 1) := by decide +kernel
theorem dX6_laysHeaps_75 : decode cX6_laysHeaps 75 = .ok (.getfield 55, 3) := by decide +kernel
theorem dX6_laysHeaps_78 : decode cX6_laysHeaps 78 = .ok (.ireturn, 1) := by decide +kernel
set_option maxRecDepth 20000 in
theorem ggX6_laysNow_X6_laysHeaps : GoodIn wsX6_laysNow wsX6_laysHeaps := goodIn_r _ [6, 7, 8, 1, 9, 10, 11, 5, 12, 13, 14, 15, 16, 17, 18, 19, 20, 21, 22, 23, 24, 25, 26, 27, 28, 29, 30, 31, 32, 33, 34, 35, 36, 37, 38, 39] (by decide +kernel) (by decide +kernel)
set_option maxRecDepth 20000 in
theorem gX6_laysNow_X6_laysHeaps : GoodIn wsX6_laysNow (wsV RX6 65 RX6 yX6_laysHeaps wsX6_laysHeaps) := goodIn_app (goodIn_of _ (by decide +kernel)) ggX6_laysNow_X6_laysHeaps
theorem dX6_laysNow_0 : decode cX6_laysNow 0 = .ok (.aload_n 0, 1) := by decide +kernel
theorem dX6_laysNow_1 : decode cX6_laysNow 1 = .ok (.aload_n 0, 1) := by decide +kernel
theorem dX6_laysNow_2 : decode cX6_laysNow 2 = .ok (.getfield 7, 3) := by decide +kernel
theorem dX6_laysNow_5 : decode cX6_laysNow 5 = .ok (.iconst 2, 1) := by decide +kernel
theorem dX6_laysNow_6 : decode cX6_laysNow 6 = .ok (.iaload, 1) := by decide +kernel
theorem dX6_laysNow_7 : decode cX6_laysNow 7 = .ok (.bipush (-5), 2) := by decide +kernel
theorem dX6_laysNow_9 : decode cX6_laysNow 9 = .ok (.invokevirtual 65, 3) := by decide +kernel
theorem dX6_laysNow_12 : decode cX6_laysNow 12 = .ok (.ireturn, 1) := by decide +kernel
theorem dX6_notesIn_0 : decode cX6_notesIn 0 = .ok (.iconst 0, 1) := by decide +kernel
theorem dX6_notesIn_1 : decode cX6_notesIn 1 = .ok (.istore_n 2, 1) := by decide +kernel
theorem dX6_notesIn_2 : decode cX6_notesIn 2 = .ok (.iconst 0, 1) := by decide +kernel
theorem dX6_notesIn_3 : decode cX6_notesIn 3 = .ok (.istore_n 3, 1) := by decide +kernel
theorem dX6_notesIn_4 : decode cX6_notesIn 4 = .ok (.iload_n 3, 1) := by decide +kernel
theorem dX6_notesIn_5 : decode cX6_notesIn 5 = .ok (.aload_n 0, 1) := by decide +kernel
theorem dX6_notesIn_6 : decode cX6_notesIn 6 = .ok (.getfield 7, 3) := by decide +kernel
theorem dX6_notesIn_9 : decode cX6_notesIn 9 = .ok (.iconst 0, 1) := by decide +kernel
theorem dX6_notesIn_10 : decode cX6_notesIn 10 = .ok (.iaload, 1) := by decide +kernel
theorem dX6_notesIn_11 : decode cX6_notesIn 11 = .ok (.if_icmp .ge 27, 3) := by decide +kernel
theorem dX6_notesIn_14 : decode cX6_notesIn 14 = .ok (.iload_n 2, 1) := by decide +kernel
theorem dX6_notesIn_15 : decode cX6_notesIn 15 = .ok (.aload_n 0, 1) := by decide +kernel
theorem dX6_notesIn_16 : decode cX6_notesIn 16 = .ok (.getfield 23, 3) := by decide +kernel
theorem dX6_notesIn_19 : decode cX6_notesIn 19 = .ok (.iload_n 3, 1) := by decide +kernel
theorem dX6_notesIn_20 : decode cX6_notesIn 20 = .ok (.iaload, 1) := by decide +kernel
theorem dX6_notesIn_21 : decode cX6_notesIn 21 = .ok (.iload_n 1, 1) := by decide +kernel
theorem dX6_notesIn_22 : decode cX6_notesIn 22 = .ok (.if_icmp .ne 7, 3) := by decide +kernel
theorem dX6_notesIn_25 : decode cX6_notesIn 25 = .ok (.iconst 1, 1) := by decide +kernel
theorem dX6_notesIn_26 : decode cX6_notesIn 26 = .ok (.goto 4, 3) := by decide +kernel
theorem dX6_notesIn_29 : decode cX6_notesIn 29 = .ok (.iconst 0, 1) := by decide +kernel
theorem dX6_notesIn_30 : decode cX6_notesIn 30 = .ok (.iadd, 1) := by decide +kernel
theorem dX6_notesIn_31 : decode cX6_notesIn 31 = .ok (.istore_n 2, 1) := by decide +kernel
theorem dX6_notesIn_32 : decode cX6_notesIn 32 = .ok (.iinc 3 1, 3) := by decide +kernel
theorem dX6_notesIn_35 : decode cX6_notesIn 35 = .ok (.goto (-31), 3) := by decide +kernel
theorem dX6_notesIn_38 : decode cX6_notesIn 38 = .ok (.iload_n 2, 1) := by decide +kernel
theorem dX6_notesIn_39 : decode cX6_notesIn 39 = .ok (.ireturn, 1) := by decide +kernel
set_option maxRecDepth 20000 in
theorem ggX6_dotsOf_X6_of : GoodIn wsX6_dotsOf wsX6_of := goodIn_r _ [5, 6, 7, 8, 9, 10, 11, 12, 13, 14, 15, 16, 17, 18, 19, 20, 21] (by decide +kernel) (by decide +kernel)
set_option maxRecDepth 20000 in
theorem gX6_dotsOf_X6_of : GoodIn wsX6_dotsOf (wsV RX6 47 RX6 yX6_of wsX6_of) := goodIn_app (goodIn_of _ (by decide +kernel)) ggX6_dotsOf_X6_of
theorem dX6_dotsOf_0 : decode cX6_dotsOf 0 = .ok (.iconst 0, 1) := by decide +kernel
theorem dX6_dotsOf_1 : decode cX6_dotsOf 1 = .ok (.istore_n 2, 1) := by decide +kernel
theorem dX6_dotsOf_2 : decode cX6_dotsOf 2 = .ok (.iconst 0, 1) := by decide +kernel
theorem dX6_dotsOf_3 : decode cX6_dotsOf 3 = .ok (.istore_n 3, 1) := by decide +kernel
theorem dX6_dotsOf_4 : decode cX6_dotsOf 4 = .ok (.iload_n 3, 1) := by decide +kernel
theorem dX6_dotsOf_5 : decode cX6_dotsOf 5 = .ok (.bipush 6, 2) := by decide +kernel
theorem dX6_dotsOf_7 : decode cX6_dotsOf 7 = .ok (.if_icmp .ge 20, 3) := by decide +kernel
theorem dX6_dotsOf_10 : decode cX6_dotsOf 10 = .ok (.iload_n 2, 1) := by decide +kernel
theorem dX6_dotsOf_11 : decode cX6_dotsOf 11 = .ok (.aload_n 0, 1) := by decide +kernel
theorem dX6_dotsOf_12 : decode cX6_dotsOf 12 = .ok (.iload_n 1, 1) := by decide +kernel
theorem dX6_dotsOf_13 : decode cX6_dotsOf 13 = .ok (.iconst 3, 1) := by decide +kernel
theorem dX6_dotsOf_14 : decode cX6_dotsOf 14 = .ok (.iload_n 3, 1) := by decide +kernel
theorem dX6_dotsOf_15 : decode cX6_dotsOf 15 = .ok (.iadd, 1) := by decide +kernel
theorem dX6_dotsOf_16 : decode cX6_dotsOf 16 = .ok (.invokevirtual 47, 3) := by decide +kernel
theorem dX6_dotsOf_19 : decode cX6_dotsOf 19 = .ok (.iadd, 1) := by decide +kernel
theorem dX6_dotsOf_20 : decode cX6_dotsOf 20 = .ok (.istore_n 2, 1) := by decide +kernel
theorem dX6_dotsOf_21 : decode cX6_dotsOf 21 = .ok (.iinc 3 1, 3) := by decide +kernel
theorem dX6_dotsOf_24 : decode cX6_dotsOf 24 = .ok (.goto (-20), 3) := by decide +kernel
theorem dX6_dotsOf_27 : decode cX6_dotsOf 27 = .ok (.iload_n 2, 1) := by decide +kernel
theorem dX6_dotsOf_28 : decode cX6_dotsOf 28 = .ok (.ireturn, 1) := by decide +kernel
set_option maxRecDepth 20000 in
theorem ggX6_stuckBy_X6_of : GoodIn wsX6_stuckBy wsX6_of := goodIn_r _ [6, 1, 7, 8, 9, 10, 11, 12, 13, 14, 15, 16, 17, 18, 19, 20, 21] (by decide +kernel) (by decide +kernel)
set_option maxRecDepth 20000 in
theorem gX6_stuckBy_X6_of : GoodIn wsX6_stuckBy (wsV RX6 47 RX6 yX6_of wsX6_of) := goodIn_app (goodIn_of _ (by decide +kernel)) ggX6_stuckBy_X6_of
theorem dX6_stuckBy_0 : decode cX6_stuckBy 0 = .ok (.iconst 0, 1) := by decide +kernel
theorem dX6_stuckBy_1 : decode cX6_stuckBy 1 = .ok (.istore_n 2, 1) := by decide +kernel
theorem dX6_stuckBy_2 : decode cX6_stuckBy 2 = .ok (.iconst 0, 1) := by decide +kernel
theorem dX6_stuckBy_3 : decode cX6_stuckBy 3 = .ok (.istore_n 3, 1) := by decide +kernel
theorem dX6_stuckBy_4 : decode cX6_stuckBy 4 = .ok (.iload_n 3, 1) := by decide +kernel
theorem dX6_stuckBy_5 : decode cX6_stuckBy 5 = .ok (.aload_n 0, 1) := by decide +kernel
theorem dX6_stuckBy_6 : decode cX6_stuckBy 6 = .ok (.getfield 7, 3) := by decide +kernel
theorem dX6_stuckBy_9 : decode cX6_stuckBy 9 = .ok (.iconst 0, 1) := by decide +kernel
theorem dX6_stuckBy_10 : decode cX6_stuckBy 10 = .ok (.iaload, 1) := by decide +kernel
theorem dX6_stuckBy_11 : decode cX6_stuckBy 11 = .ok (.if_icmp .ge 20, 3) := by decide +kernel
theorem dX6_stuckBy_14 : decode cX6_stuckBy 14 = .ok (.iload_n 2, 1) := by decide +kernel
theorem dX6_stuckBy_15 : decode cX6_stuckBy 15 = .ok (.aload_n 0, 1) := by decide +kernel
theorem dX6_stuckBy_16 : decode cX6_stuckBy 16 = .ok (.iload_n 3, 1) := by decide +kernel
theorem dX6_stuckBy_17 : decode cX6_stuckBy 17 = .ok (.iconst 3, 1) := by decide +kernel
theorem dX6_stuckBy_18 : decode cX6_stuckBy 18 = .ok (.iload_n 1, 1) := by decide +kernel
theorem dX6_stuckBy_19 : decode cX6_stuckBy 19 = .ok (.iadd, 1) := by decide +kernel
theorem dX6_stuckBy_20 : decode cX6_stuckBy 20 = .ok (.invokevirtual 47, 3) := by decide +kernel
theorem dX6_stuckBy_23 : decode cX6_stuckBy 23 = .ok (.iadd, 1) := by decide +kernel
theorem dX6_stuckBy_24 : decode cX6_stuckBy 24 = .ok (.istore_n 2, 1) := by decide +kernel
theorem dX6_stuckBy_25 : decode cX6_stuckBy 25 = .ok (.iinc 3 1, 3) := by decide +kernel
theorem dX6_stuckBy_28 : decode cX6_stuckBy 28 = .ok (.goto (-24), 3) := by decide +kernel
theorem dX6_stuckBy_31 : decode cX6_stuckBy 31 = .ok (.iload_n 2, 1) := by decide +kernel
theorem dX6_stuckBy_32 : decode cX6_stuckBy 32 = .ok (.ireturn, 1) := by decide +kernel
theorem dX6_voteOf_0 : decode cX6_voteOf 0 = .ok (.aload_n 0, 1) := by decide +kernel
theorem dX6_voteOf_1 : decode cX6_voteOf 1 = .ok (.getfield 7, 3) := by decide +kernel
theorem dX6_voteOf_4 : decode cX6_voteOf 4 = .ok (.sipush 185, 3) := by decide +kernel
theorem dX6_voteOf_7 : decode cX6_voteOf 7 = .ok (.bipush 6, 2) := by decide +kernel
theorem dX6_voteOf_9 : decode cX6_voteOf 9 = .ok (.iload_n 1, 1) := by decide +kernel
theorem dX6_voteOf_10 : decode cX6_voteOf 10 = .ok (.imul, 1) := by decide +kernel
theorem dX6_voteOf_11 : decode cX6_voteOf 11 = .ok (.iadd, 1) := by decide +kernel
theorem dX6_voteOf_12 : decode cX6_voteOf 12 = .ok (.iload_n 2, 1) := by decide +kernel
theorem dX6_voteOf_13 : decode cX6_voteOf 13 = .ok (.iadd, 1) := by decide +kernel
theorem dX6_voteOf_14 : decode cX6_voteOf 14 = .ok (.iaload, 1) := by decide +kernel
theorem dX6_voteOf_15 : decode cX6_voteOf 15 = .ok (.iconst 1, 1) := by decide +kernel
theorem dX6_voteOf_16 : decode cX6_voteOf 16 = .ok (.isub, 1) := by decide +kernel
theorem dX6_voteOf_17 : decode cX6_voteOf 17 = .ok (.ireturn, 1) := by decide +kernel
set_option maxRecDepth 20000 in
theorem ggX6_notesOf_X6_themeOf : GoodIn wsX6_notesOf wsX6_themeOf := goodIn_r _ [6, 7, 8, 9, 5, 10, 1, 11, 12, 13, 14, 15, 16, 17, 18, 19, 20, 21, 22, 23, 24, 25] (by decide +kernel) (by decide +kernel)
set_option maxRecDepth 20000 in
theorem gX6_notesOf_X6_themeOf : GoodIn wsX6_notesOf (wsV RX6 68 RX6 yX6_themeOf wsX6_themeOf) := goodIn_app (goodIn_of _ (by decide +kernel)) ggX6_notesOf_X6_themeOf
theorem dX6_notesOf_0 : decode cX6_notesOf 0 = .ok (.iconst 0, 1) := by decide +kernel
theorem dX6_notesOf_1 : decode cX6_notesOf 1 = .ok (.istore_n 2, 1) := by decide +kernel
theorem dX6_notesOf_2 : decode cX6_notesOf 2 = .ok (.iconst 0, 1) := by decide +kernel
theorem dX6_notesOf_3 : decode cX6_notesOf 3 = .ok (.istore_n 3, 1) := by decide +kernel
theorem dX6_notesOf_4 : decode cX6_notesOf 4 = .ok (.iload_n 3, 1) := by decide +kernel
theorem dX6_notesOf_5 : decode cX6_notesOf 5 = .ok (.aload_n 0, 1) := by decide +kernel
theorem dX6_notesOf_6 : decode cX6_notesOf 6 = .ok (.getfield 7, 3) := by decide +kernel
theorem dX6_notesOf_9 : decode cX6_notesOf 9 = .ok (.iconst 0, 1) := by decide +kernel
theorem dX6_notesOf_10 : decode cX6_notesOf 10 = .ok (.iaload, 1) := by decide +kernel
theorem dX6_notesOf_11 : decode cX6_notesOf 11 = .ok (.if_icmp .ge 26, 3) := by decide +kernel
theorem dX6_notesOf_14 : decode cX6_notesOf 14 = .ok (.iload_n 2, 1) := by decide +kernel
theorem dX6_notesOf_15 : decode cX6_notesOf 15 = .ok (.aload_n 0, 1) := by decide +kernel
theorem dX6_notesOf_16 : decode cX6_notesOf 16 = .ok (.iload_n 3, 1) := by decide +kernel
theorem dX6_notesOf_17 : decode cX6_notesOf 17 = .ok (.invokevirtual 68, 3) := by decide +kernel
theorem dX6_notesOf_20 : decode cX6_notesOf 20 = .ok (.iload_n 1, 1) := by decide +kernel
theorem dX6_notesOf_21 : decode cX6_notesOf 21 = .ok (.if_icmp .ne 7, 3) := by decide +kernel
theorem dX6_notesOf_24 : decode cX6_notesOf 24 = .ok (.iconst 1, 1) := by decide +kernel
theorem dX6_notesOf_25 : decode cX6_notesOf 25 = .ok (.goto 4, 3) := by decide +kernel
theorem dX6_notesOf_28 : decode cX6_notesOf 28 = .ok (.iconst 0, 1) := by decide +kernel
theorem dX6_notesOf_29 : decode cX6_notesOf 29 = .ok (.iadd, 1) := by decide +kernel
theorem dX6_notesOf_30 : decode cX6_notesOf 30 = .ok (.istore_n 2, 1) := by decide +kernel
theorem dX6_notesOf_31 : decode cX6_notesOf 31 = .ok (.iinc 3 1, 3) := by decide +kernel
theorem dX6_notesOf_34 : decode cX6_notesOf 34 = .ok (.goto (-30), 3) := by decide +kernel
theorem dX6_notesOf_37 : decode cX6_notesOf 37 = .ok (.iload_n 2, 1) := by decide +kernel
theorem dX6_notesOf_38 : decode cX6_notesOf 38 = .ok (.ireturn, 1) := by decide +kernel
set_option maxRecDepth 20000 in
theorem ggX6_dropsTheme_X6_of : GoodIn wsX6_dropsTheme wsX6_of := goodIn_r _ [6, 1, 15, 16, 17, 18, 19, 20, 21, 22, 23, 24, 25, 26, 27, 28, 29] (by decide +kernel) (by decide +kernel)
set_option maxRecDepth 20000 in
theorem gX6_dropsTheme_X6_of : GoodIn wsX6_dropsTheme (wsV RX6 47 RX6 yX6_of wsX6_of) := goodIn_app (goodIn_of _ (by decide +kernel)) ggX6_dropsTheme_X6_of
set_option maxRecDepth 20000 in
theorem ggX6_dropsTheme_X6_themeOf : GoodIn wsX6_dropsTheme wsX6_themeOf := goodIn_r _ [10, 2, 3, 4, 5, 6, 1, 15, 16, 17, 18, 19, 20, 21, 22, 23, 24, 25, 26, 27, 28, 29] (by decide +kernel) (by decide +kernel)
set_option maxRecDepth 20000 in
theorem gX6_dropsTheme_X6_themeOf : GoodIn wsX6_dropsTheme (wsV RX6 68 RX6 yX6_themeOf wsX6_themeOf) := goodIn_app (goodIn_of _ (by decide +kernel)) ggX6_dropsTheme_X6_themeOf
set_option maxRecDepth 20000 in
theorem ggX6_dropsTheme_X6_lays : GoodIn wsX6_dropsTheme wsX6_lays := goodIn_r _ [14, 1, 15, 16, 17, 18, 19, 20, 21, 22, 23, 24, 25, 26, 27, 28, 29] (by decide +kernel) (by decide +kernel)
set_option maxRecDepth 20000 in
theorem gX6_dropsTheme_X6_lays : GoodIn wsX6_dropsTheme (wsV RX6 71 RX6 yX6_lays wsX6_lays) := goodIn_app (goodIn_of _ (by decide +kernel)) ggX6_dropsTheme_X6_lays
theorem dX6_dropsTheme_0 : decode cX6_dropsTheme 0 = .ok (.iconst 0, 1) := by decide +kernel
theorem dX6_dropsTheme_1 : decode cX6_dropsTheme 1 = .ok (.istore_n 2, 1) := by decide +kernel
theorem dX6_dropsTheme_2 : decode cX6_dropsTheme 2 = .ok (.iload_n 2, 1) := by decide +kernel
theorem dX6_dropsTheme_3 : decode cX6_dropsTheme 3 = .ok (.aload_n 0, 1) := by decide +kernel
theorem dX6_dropsTheme_4 : decode cX6_dropsTheme 4 = .ok (.getfield 7, 3) := by decide +kernel
theorem dX6_dropsTheme_7 : decode cX6_dropsTheme 7 = .ok (.iconst 0, 1) := by decide +kernel
theorem dX6_dropsTheme_8 : decode cX6_dropsTheme 8 = .ok (.iaload, 1) := by decide +kernel
theorem dX6_dropsTheme_9 : decode cX6_dropsTheme 9 = .ok (.if_icmp .ge 36, 3) := by decide +kernel
theorem dX6_dropsTheme_12 : decode cX6_dropsTheme 12 = .ok (.aload_n 0, 1) := by decide +kernel
theorem dX6_dropsTheme_13 : decode cX6_dropsTheme 13 = .ok (.iload_n 2, 1) := by decide +kernel
theorem dX6_dropsTheme_14 : decode cX6_dropsTheme 14 = .ok (.iconst 2, 1) := by decide +kernel
theorem dX6_dropsTheme_15 : decode cX6_dropsTheme 15 = .ok (.aload_n 0, 1) := by decide +kernel
theorem dX6_dropsTheme_16 : decode cX6_dropsTheme 16 = .ok (.iload_n 2, 1) := by decide +kernel
theorem dX6_dropsTheme_17 : decode cX6_dropsTheme 17 = .ok (.iconst 2, 1) := by decide +kernel
theorem dX6_dropsTheme_18 : decode cX6_dropsTheme 18 = .ok (.invokevirtual 47, 3) := by decide +kernel
theorem dX6_dropsTheme_21 : decode cX6_dropsTheme 21 = .ok (.aload_n 0, 1) := by decide +kernel
theorem dX6_dropsTheme_22 : decode cX6_dropsTheme 22 = .ok (.iload_n 2, 1) := by decide +kernel
theorem dX6_dropsTheme_23 : decode cX6_dropsTheme 23 = .ok (.invokevirtual 68, 3) := by decide +kernel
theorem dX6_dropsTheme_26 : decode cX6_dropsTheme 26 = .ok (.iload_n 1, 1) := by decide +kernel
theorem dX6_dropsTheme_27 : decode cX6_dropsTheme 27 = .ok (.if_icmp .le 7, 3) := by decide +kernel
theorem dX6_dropsTheme_30 : decode cX6_dropsTheme 30 = .ok (.iconst 1, 1) := by decide +kernel
theorem dX6_dropsTheme_31 : decode cX6_dropsTheme 31 = .ok (.goto 4, 3) := by decide +kernel
theorem dX6_dropsTheme_34 : decode cX6_dropsTheme 34 = .ok (.iconst 0, 1) := by decide +kernel
theorem dX6_dropsTheme_35 : decode cX6_dropsTheme 35 = .ok (.isub, 1) := by decide +kernel
theorem dX6_dropsTheme_36 : decode cX6_dropsTheme 36 = .ok (.invokevirtual 71, 3) := by decide +kernel
theorem dX6_dropsTheme_39 : decode cX6_dropsTheme 39 = .ok (.iinc 2 1, 3) := by decide +kernel
theorem dX6_dropsTheme_42 : decode cX6_dropsTheme 42 = .ok (.goto (-40), 3) := by decide +kernel
theorem dX6_dropsTheme_45 : decode cX6_dropsTheme 45 = .ok (.sipush 185, 3) := by decide +kernel
theorem dX6_dropsTheme_48 : decode cX6_dropsTheme 48 = .ok (.bipush 6, 2) := by decide +kernel
theorem dX6_dropsTheme_50 : decode cX6_dropsTheme 50 = .ok (.iload_n 1, 1) := by decide +kernel
theorem dX6_dropsTheme_51 : decode cX6_dropsTheme 51 = .ok (.imul, 1) := by decide +kernel
theorem dX6_dropsTheme_52 : decode cX6_dropsTheme 52 = .ok (.iadd, 1) := by decide +kernel
theorem dX6_dropsTheme_53 : decode cX6_dropsTheme 53 = .ok (.istore_n 2, 1) := by decide +kernel
theorem dX6_dropsTheme_54 : decode cX6_dropsTheme 54 = .ok (.iload_n 2, 1) := by decide +kernel
theorem dX6_dropsTheme_55 : decode cX6_dropsTheme 55 = .ok (.sipush 233, 3) := by decide +kernel
theorem dX6_dropsTheme_58 : decode cX6_dropsTheme 58 = .ok (.if_icmp .ge 38, 3) := by decide +kernel
theorem dX6_dropsTheme_61 : decode cX6_dropsTheme 61 = .ok (.aload_n 0, 1) := by decide +kernel
theorem dX6_dropsTheme_62 : decode cX6_dropsTheme 62 = .ok (.getfield 7, 3) := by decide +kernel
theorem dX6_dropsTheme_65 : decode cX6_dropsTheme 65 = .ok (.iload_n 2, 1) := by decide +kernel
theorem dX6_dropsTheme_66 : decode cX6_dropsTheme 66 = .ok (.iload_n 2, 1) := by decide +kernel
theorem dX6_dropsTheme_67 : decode cX6_dropsTheme 67 = .ok (.bipush 6, 2) := by decide +kernel
theorem dX6_dropsTheme_69 : decode cX6_dropsTheme 69 = .ok (.iadd, 1) := by decide +kernel
theorem dX6_dropsTheme_70 : decode cX6_dropsTheme 70 = .ok (.sipush 233, 3) := by decide +kernel
theorem dX6_dropsTheme_73 : decode cX6_dropsTheme 73 = .ok (.if_icmp .ge 15, 3) := by decide +kernel
theorem dX6_dropsTheme_76 : decode cX6_dropsTheme 76 = .ok (.aload_n 0, 1) := by decide +kernel
theorem dX6_dropsTheme_77 : decode cX6_dropsTheme 77 = .ok (.getfield 7, 3) := by decide +kernel
theorem dX6_dropsTheme_80 : decode cX6_dropsTheme 80 = .ok (.iload_n 2, 1) := by decide +kernel
theorem dX6_dropsTheme_81 : decode cX6_dropsTheme 81 = .ok (.bipush 6, 2) := by decide +kernel
theorem dX6_dropsTheme_83 : decode cX6_dropsTheme 83 = .ok (.iadd, 1) := by decide +kernel
theorem dX6_dropsTheme_84 : decode cX6_dropsTheme 84 = .ok (.iaload, 1) := by decide +kernel
theorem dX6_dropsTheme_85 : decode cX6_dropsTheme 85 = .ok (.goto 4, 3) := by decide +kernel
theorem dX6_dropsTheme_88 : decode cX6_dropsTheme 88 = .ok (.iconst 0, 1) := by decide +kernel
theorem dX6_dropsTheme_89 : decode cX6_dropsTheme 89 = .ok (.iastore, 1) := by decide +kernel
theorem dX6_dropsTheme_90 : decode cX6_dropsTheme 90 = .ok (.iinc 2 1, 3) := by decide +kernel
theorem dX6_dropsTheme_93 : decode cX6_dropsTheme 93 = .ok (.goto (-39), 3) := by decide +kernel
theorem dX6_dropsTheme_96 : decode cX6_dropsTheme 96 = .ok (.aload_n 0, 1) := by decide +kernel
theorem dX6_dropsTheme_97 : decode cX6_dropsTheme 97 = .ok (.getfield 7, 3) := by decide +kernel
theorem dX6_dropsTheme_100 : decode cX6_dropsTheme 100 = .ok (.iconst 1, 1) := by decide +kernel
theorem dX6_dropsTheme_101 : decode cX6_dropsTheme 101 = .ok (.dup2, 1) := by decide +kernel
theorem dX6_dropsTheme_102 : decode cX6_dropsTheme 102 = .ok (.iaload, 1) := by decide +kernel
theorem dX6_dropsTheme_103 : decode cX6_dropsTheme 103 = .ok (.iconst 1, 1) := by decide +kernel
theorem dX6_dropsTheme_104 : decode cX6_dropsTheme 104 = .ok (.isub, 1) := by decide +kernel
theorem dX6_dropsTheme_105 : decode cX6_dropsTheme 105 = .ok (.iastore, 1) := by decide +kernel
theorem dX6_dropsTheme_106 : decode cX6_dropsTheme 106 = .ok (.return_, 1) := by decide +kernel
set_option maxRecDepth 20000 in
theorem ggX6_dropsEmpty_X6_notesOf : GoodIn wsX6_dropsEmpty wsX6_notesOf := goodIn_r _ [5, 6, 7, 8, 9, 4, 10, 11, 12, 13, 14, 23, 24, 25, 26, 27, 28, 29, 30, 31, 32, 33, 34, 35, 36, 37] (by decide +kernel) (by decide +kernel)
set_option maxRecDepth 20000 in
theorem gX6_dropsEmpty_X6_notesOf : GoodIn wsX6_dropsEmpty (wsV RX6 75 RX6 yX6_notesOf wsX6_notesOf) := goodIn_app (goodIn_of _ (by decide +kernel)) ggX6_dropsEmpty_X6_notesOf
set_option maxRecDepth 20000 in
theorem ggX6_dropsEmpty_X6_dropsTheme : GoodIn wsX6_dropsEmpty wsX6_dropsTheme := goodIn_r _ [18, 6, 11, 12, 13, 4, 14, 7, 8, 9, 10, 19, 20, 21, 22, 23, 24, 25, 26, 27, 28, 29, 30, 31, 32, 33, 34, 35, 36, 37] (by decide +kernel) (by decide +kernel)
set_option maxRecDepth 20000 in
theorem gX6_dropsEmpty_X6_dropsTheme : GoodIn wsX6_dropsEmpty (wsV RX6 78 RX6 yX6_dropsTheme wsX6_dropsTheme) := goodIn_app (goodIn_of _ (by decide +kernel)) ggX6_dropsEmpty_X6_dropsTheme
theorem dX6_dropsEmpty_0 : decode cX6_dropsEmpty 0 = .ok (.iload_n 1, 1) := by decide +kernel
theorem dX6_dropsEmpty_1 : decode cX6_dropsEmpty 1 = .ok (.ifCond .lt 16, 3) := by decide +kernel
theorem dX6_dropsEmpty_4 : decode cX6_dropsEmpty 4 = .ok (.aload_n 0, 1) := by decide +kernel
theorem dX6_dropsEmpty_5 : decode cX6_dropsEmpty 5 = .ok (.iload_n 1, 1) := by decide +kernel
theorem dX6_dropsEmpty_6 : decode cX6_dropsEmpty 6 = .ok (.invokevirtual 75, 3) := by decide +kernel
theorem dX6_dropsEmpty_9 : decode cX6_dropsEmpty 9 = .ok (.ifCond .ne 8, 3) := by decide +kernel
theorem dX6_dropsEmpty_12 : decode cX6_dropsEmpty 12 = .ok (.aload_n 0, 1) := by decide +kernel
theorem dX6_dropsEmpty_13 : decode cX6_dropsEmpty 13 = .ok (.iload_n 1, 1) := by decide +kernel
theorem dX6_dropsEmpty_14 : decode cX6_dropsEmpty 14 = .ok (.invokevirtual 78, 3) := by decide +kernel
theorem dX6_dropsEmpty_17 : decode cX6_dropsEmpty 17 = .ok (.return_, 1) := by decide +kernel
set_option maxRecDepth 20000 in
theorem ggX6_votesFor_X6_voteOf : GoodIn wsX6_votesFor wsX6_voteOf := goodIn_r _ [5, 6, 7, 8, 9, 10, 11, 12, 13, 14, 15, 16, 17, 18, 19, 20, 21] (by decide +kernel) (by decide +kernel)
set_option maxRecDepth 20000 in
theorem gX6_votesFor_X6_voteOf : GoodIn wsX6_votesFor (wsV RX6 82 RX6 yX6_voteOf wsX6_voteOf) := goodIn_app (goodIn_of _ (by decide +kernel)) ggX6_votesFor_X6_voteOf
theorem dX6_votesFor_0 : decode cX6_votesFor 0 = .ok (.iconst 0, 1) := by decide +kernel
theorem dX6_votesFor_1 : decode cX6_votesFor 1 = .ok (.istore_n 3, 1) := by decide +kernel
theorem dX6_votesFor_2 : decode cX6_votesFor 2 = .ok (.iconst 0, 1) := by decide +kernel
theorem dX6_votesFor_3 : decode cX6_votesFor 3 = .ok (.istore 4, 2) := by decide +kernel
theorem dX6_votesFor_5 : decode cX6_votesFor 5 = .ok (.iload 4, 2) := by decide +kernel
theorem dX6_votesFor_7 : decode cX6_votesFor 7 = .ok (.bipush 6, 2) := by decide +kernel
theorem dX6_votesFor_9 : decode cX6_votesFor 9 = .ok (.if_icmp .ge 28, 3) := by decide +kernel
theorem dX6_votesFor_12 : decode cX6_votesFor 12 = .ok (.iload_n 3, 1) := by decide +kernel
theorem dX6_votesFor_13 : decode cX6_votesFor 13 = .ok (.aload_n 0, 1) := by decide +kernel
theorem dX6_votesFor_14 : decode cX6_votesFor 14 = .ok (.iload_n 1, 1) := by decide +kernel
theorem dX6_votesFor_15 : decode cX6_votesFor 15 = .ok (.iload 4, 2) := by decide +kernel
theorem dX6_votesFor_17 : decode cX6_votesFor 17 = .ok (.invokevirtual 82, 3) := by decide +kernel
theorem dX6_votesFor_20 : decode cX6_votesFor 20 = .ok (.iload_n 2, 1) := by decide +kernel
theorem dX6_votesFor_21 : decode cX6_votesFor 21 = .ok (.if_icmp .ne 7, 3) := by decide +kernel
theorem dX6_votesFor_24 : decode cX6_votesFor 24 = .ok (.iconst 1, 1) := by decide +kernel
theorem dX6_votesFor_25 : decode cX6_votesFor 25 = .ok (.goto 4, 3) := by decide +kernel
theorem dX6_votesFor_28 : decode cX6_votesFor 28 = .ok (.iconst 0, 1) := by decide +kernel
theorem dX6_votesFor_29 : decode cX6_votesFor 29 = .ok (.iadd, 1) := by decide +kernel
theorem dX6_votesFor_30 : decode cX6_votesFor 30 = .ok (.istore_n 3, 1) := by decide +kernel
theorem dX6_votesFor_31 : decode cX6_votesFor 31 = .ok (.iinc 4 1, 3) := by decide +kernel
theorem dX6_votesFor_34 : decode cX6_votesFor 34 = .ok (.goto (-29), 3) := by decide +kernel
theorem dX6_votesFor_37 : decode cX6_votesFor 37 = .ok (.iload_n 3, 1) := by decide +kernel
theorem dX6_votesFor_38 : decode cX6_votesFor 38 = .ok (.ireturn, 1) := by decide +kernel
set_option maxRecDepth 20000 in
theorem ggX6_nameOf_X6_votesFor : GoodIn wsX6_nameOf wsX6_votesFor := goodIn_r _ [5, 6, 7, 8, 4, 9, 10, 11, 12, 13, 14, 15, 16, 17, 18, 19, 20, 21, 22, 23, 24, 25] (by decide +kernel) (by decide +kernel)
set_option maxRecDepth 20000 in
theorem gX6_nameOf_X6_votesFor : GoodIn wsX6_nameOf (wsV RX6 85 RX6 yX6_votesFor wsX6_votesFor) := goodIn_app (goodIn_of _ (by decide +kernel)) ggX6_nameOf_X6_votesFor
theorem dX6_nameOf_0 : decode cX6_nameOf 0 = .ok (.iconst 0, 1) := by decide +kernel
theorem dX6_nameOf_1 : decode cX6_nameOf 1 = .ok (.istore_n 2, 1) := by decide +kernel
theorem dX6_nameOf_2 : decode cX6_nameOf 2 = .ok (.bipush (-5), 2) := by decide +kernel
theorem dX6_nameOf_4 : decode cX6_nameOf 4 = .ok (.istore_n 3, 1) := by decide +kernel
theorem dX6_nameOf_5 : decode cX6_nameOf 5 = .ok (.iconst 0, 1) := by decide +kernel
theorem dX6_nameOf_6 : decode cX6_nameOf 6 = .ok (.istore 4, 2) := by decide +kernel
theorem dX6_nameOf_8 : decode cX6_nameOf 8 = .ok (.iload 4, 2) := by decide +kernel
theorem dX6_nameOf_10 : decode cX6_nameOf 10 = .ok (.iload_n 1, 1) := by decide +kernel
theorem dX6_nameOf_11 : decode cX6_nameOf 11 = .ok (.if_icmp .gt 108, 3) := by decide +kernel
theorem dX6_nameOf_14 : decode cX6_nameOf 14 = .ok (.iconst 1, 1) := by decide +kernel
theorem dX6_nameOf_15 : decode cX6_nameOf 15 = .ok (.istore 5, 2) := by decide +kernel
theorem dX6_nameOf_17 : decode cX6_nameOf 17 = .ok (.bipush (-5), 2) := by decide +kernel
theorem dX6_nameOf_19 : decode cX6_nameOf 19 = .ok (.istore_n 3, 1) := by decide +kernel
theorem dX6_nameOf_20 : decode cX6_nameOf 20 = .ok (.iconst 0, 1) := by decide +kernel
theorem dX6_nameOf_21 : decode cX6_nameOf 21 = .ok (.istore 6, 2) := by decide +kernel
theorem dX6_nameOf_23 : decode cX6_nameOf 23 = .ok (.iload 6, 2) := by decide +kernel
theorem dX6_nameOf_25 : decode cX6_nameOf 25 = .ok (.bipush 10, 2) := by decide +kernel
theorem dX6_nameOf_27 : decode cX6_nameOf 27 = .ok (.if_icmp .ge 70, 3) := by decide +kernel
theorem dX6_nameOf_30 : decode cX6_nameOf 30 = .ok (.iload_n 2, 1) := by decide +kernel
theorem dX6_nameOf_31 : decode cX6_nameOf 31 = .ok (.iload 6, 2) := by decide +kernel
theorem dX6_nameOf_33 : decode cX6_nameOf 33 = .ok (.ishr, 1) := by decide +kernel
theorem dX6_nameOf_34 : decode cX6_nameOf 34 = .ok (.iconst 1, 1) := by decide +kernel
theorem dX6_nameOf_35 : decode cX6_nameOf 35 = .ok (.iand, 1) := by decide +kernel
theorem dX6_nameOf_36 : decode cX6_nameOf 36 = .ok (.ifCond .ne 20, 3) := by decide +kernel
theorem dX6_nameOf_39 : decode cX6_nameOf 39 = .ok (.aload_n 0, 1) := by decide +kernel
theorem dX6_nameOf_40 : decode cX6_nameOf 40 = .ok (.iload 4, 2) := by decide +kernel
theorem dX6_nameOf_42 : decode cX6_nameOf 42 = .ok (.iload 6, 2) := by decide +kernel
theorem dX6_nameOf_44 : decode cX6_nameOf 44 = .ok (.invokevirtual 85, 3) := by decide +kernel
theorem dX6_nameOf_47 : decode cX6_nameOf 47 = .ok (.iload 5, 2) := by decide +kernel
theorem dX6_nameOf_49 : decode cX6_nameOf 49 = .ok (.if_icmp .le 7, 3) := by decide +kernel
theorem dX6_nameOf_52 : decode cX6_nameOf 52 = .ok (.iconst 1, 1) := by decide +kernel
theorem dX6_nameOf_53 : decode cX6_nameOf 53 = .ok (.goto 4, 3) := by decide +kernel
theorem dX6_nameOf_56 : decode cX6_nameOf 56 = .ok (.iconst 0, 1) := by decide +kernel
theorem dX6_nameOf_57 : decode cX6_nameOf 57 = .ok (.istore 7, 2) := by decide +kernel
theorem dX6_nameOf_59 : decode cX6_nameOf 59 = .ok (.iload 7, 2) := by decide +kernel
theorem dX6_nameOf_61 : decode cX6_nameOf 61 = .ok (.ifCond .eq 14, 3) := by decide +kernel
theorem dX6_nameOf_64 : decode cX6_nameOf 64 = .ok (.aload_n 0, 1) := by decide +kernel
theorem dX6_nameOf_65 : decode cX6_nameOf 65 = .ok (.iload 4, 2) := by decide +kernel
theorem dX6_nameOf_67 : decode cX6_nameOf 67 = .ok (.iload 6, 2) := by decide +kernel
theorem dX6_nameOf_69 : decode cX6_nameOf 69 = .ok (.invokevirtual 85, 3) := by decide +kernel
theorem dX6_nameOf_72 : decode cX6_nameOf 72 = .ok (.goto 5, 3) := by decide +kernel
theorem dX6_nameOf_75 : decode cX6_nameOf 75 = .ok (.iload 5, 2) := by decide +kernel
theorem dX6_nameOf_77 : decode cX6_nameOf 77 = .ok (.istore 5, 2) := by decide +kernel
theorem dX6_nameOf_79 : decode cX6_nameOf 79 = .ok (.iload 7, 2) := by decide +kernel
theorem dX6_nameOf_81 : decode cX6_nameOf 81 = .ok (.ifCond .eq 8, 3) := by decide +kernel
theorem dX6_nameOf_84 : decode cX6_nameOf 84 = .ok (.iload 6, 2) := by decide +kernel
theorem dX6_nameOf_86 : decode cX6_nameOf 86 = .ok (.goto 4, 3) := by decide +kernel
theorem dX6_nameOf_89 : decode cX6_nameOf 89 = .ok (.iload_n 3, 1) := by decide +kernel
theorem dX6_nameOf_90 : decode cX6_nameOf 90 = .ok (.istore_n 3, 1) := by decide +kernel
theorem dX6_nameOf_91 : decode cX6_nameOf 91 = .ok (.iinc 6 1, 3) := by decide +kernel
theorem dX6_nameOf_94 : decode cX6_nameOf 94 = .ok (.goto (-71), 3) := by decide +kernel
theorem dX6_nameOf_97 : decode cX6_nameOf 97 = .ok (.iload_n 2, 1) := by decide +kernel
theorem dX6_nameOf_98 : decode cX6_nameOf 98 = .ok (.iload_n 3, 1) := by decide +kernel
theorem dX6_nameOf_99 : decode cX6_nameOf 99 = .ok (.bipush (-5), 2) := by decide +kernel
theorem dX6_nameOf_101 : decode cX6_nameOf 101 = .ok (.if_icmp .ne 7, 3) := by decide +kernel
theorem dX6_nameOf_104 : decode cX6_nameOf 104 = .ok (.iconst 0, 1) := by decide +kernel
theorem dX6_nameOf_105 : decode cX6_nameOf 105 = .ok (.goto 6, 3) := by decide +kernel
theorem dX6_nameOf_108 : decode cX6_nameOf 108 = .ok (.iconst 1, 1) := by decide +kernel
theorem dX6_nameOf_109 : decode cX6_nameOf 109 = .ok (.iload_n 3, 1) := by decide +kernel
theorem dX6_nameOf_110 : decode cX6_nameOf 110 = .ok (.ishl, 1) := by decide +kernel
theorem dX6_nameOf_111 : decode cX6_nameOf 111 = .ok (.ior, 1) := by decide +kernel
theorem dX6_nameOf_112 : decode cX6_nameOf 112 = .ok (.istore_n 2, 1) := by decide +kernel
theorem dX6_nameOf_113 : decode cX6_nameOf 113 = .ok (.iinc 4 1, 3) := by decide +kernel
theorem dX6_nameOf_116 : decode cX6_nameOf 116 = .ok (.goto (-108), 3) := by decide +kernel
theorem dX6_nameOf_119 : decode cX6_nameOf 119 = .ok (.iload_n 3, 1) := by decide +kernel
theorem dX6_nameOf_120 : decode cX6_nameOf 120 = .ok (.ireturn, 1) := by decide +kernel
set_option maxRecDepth 20000 in
theorem ggX6_adds_X6_lays : GoodIn wsX6_adds wsX6_lays := goodIn_r _ [6, 1, 7, 8, 9, 10, 11, 12, 13, 14, 15, 16, 17, 18, 19, 20, 21] (by decide +kernel) (by decide +kernel)
set_option maxRecDepth 20000 in
theorem gX6_adds_X6_lays : GoodIn wsX6_adds (wsV RX6 71 RX6 yX6_lays wsX6_lays) := goodIn_app (goodIn_of _ (by decide +kernel)) ggX6_adds_X6_lays
theorem dX6_adds_0 : decode cX6_adds 0 = .ok (.aload_n 0, 1) := by decide +kernel
theorem dX6_adds_1 : decode cX6_adds 1 = .ok (.getfield 7, 3) := by decide +kernel
theorem dX6_adds_4 : decode cX6_adds 4 = .ok (.iconst 0, 1) := by decide +kernel
theorem dX6_adds_5 : decode cX6_adds 5 = .ok (.iaload, 1) := by decide +kernel
theorem dX6_adds_6 : decode cX6_adds 6 = .ok (.istore_n 3, 1) := by decide +kernel
theorem dX6_adds_7 : decode cX6_adds 7 = .ok (.iconst 0, 1) := by decide +kernel
theorem dX6_adds_8 : decode cX6_adds 8 = .ok (.istore 4, 2) := by decide +kernel
theorem dX6_adds_10 : decode cX6_adds 10 = .ok (.iload 4, 2) := by decide +kernel
theorem dX6_adds_12 : decode cX6_adds 12 = .ok (.bipush 9, 2) := by decide +kernel
theorem dX6_adds_14 : decode cX6_adds 14 = .ok (.if_icmp .ge 17, 3) := by decide +kernel
theorem dX6_adds_17 : decode cX6_adds 17 = .ok (.aload_n 0, 1) := by decide +kernel
theorem dX6_adds_18 : decode cX6_adds 18 = .ok (.iload_n 3, 1) := by decide +kernel
theorem dX6_adds_19 : decode cX6_adds 19 = .ok (.iload 4, 2) := by decide +kernel
theorem dX6_adds_21 : decode cX6_adds 21 = .ok (.iconst 0, 1) := by decide +kernel
theorem dX6_adds_22 : decode cX6_adds 22 = .ok (.invokevirtual 71, 3) := by decide +kernel
theorem dX6_adds_25 : decode cX6_adds 25 = .ok (.iinc 4 1, 3) := by decide +kernel
theorem dX6_adds_28 : decode cX6_adds 28 = .ok (.goto (-18), 3) := by decide +kernel
theorem dX6_adds_31 : decode cX6_adds 31 = .ok (.aload_n 0, 1) := by decide +kernel
theorem dX6_adds_32 : decode cX6_adds 32 = .ok (.iload_n 3, 1) := by decide +kernel
theorem dX6_adds_33 : decode cX6_adds 33 = .ok (.iconst 0, 1) := by decide +kernel
theorem dX6_adds_34 : decode cX6_adds 34 = .ok (.iload_n 1, 1) := by decide +kernel
theorem dX6_adds_35 : decode cX6_adds 35 = .ok (.invokevirtual 71, 3) := by decide +kernel
theorem dX6_adds_38 : decode cX6_adds 38 = .ok (.aload_n 0, 1) := by decide +kernel
theorem dX6_adds_39 : decode cX6_adds 39 = .ok (.iload_n 3, 1) := by decide +kernel
theorem dX6_adds_40 : decode cX6_adds 40 = .ok (.iconst 1, 1) := by decide +kernel
theorem dX6_adds_41 : decode cX6_adds 41 = .ok (.iload_n 2, 1) := by decide +kernel
theorem dX6_adds_42 : decode cX6_adds 42 = .ok (.invokevirtual 71, 3) := by decide +kernel
theorem dX6_adds_45 : decode cX6_adds 45 = .ok (.aload_n 0, 1) := by decide +kernel
theorem dX6_adds_46 : decode cX6_adds 46 = .ok (.getfield 7, 3) := by decide +kernel
theorem dX6_adds_49 : decode cX6_adds 49 = .ok (.iconst 0, 1) := by decide +kernel
theorem dX6_adds_50 : decode cX6_adds 50 = .ok (.dup2, 1) := by decide +kernel
theorem dX6_adds_51 : decode cX6_adds 51 = .ok (.iaload, 1) := by decide +kernel
theorem dX6_adds_52 : decode cX6_adds 52 = .ok (.iconst 1, 1) := by decide +kernel
theorem dX6_adds_53 : decode cX6_adds 53 = .ok (.iadd, 1) := by decide +kernel
theorem dX6_adds_54 : decode cX6_adds 54 = .ok (.iastore, 1) := by decide +kernel
theorem dX6_adds_55 : decode cX6_adds 55 = .ok (.iload_n 3, 1) := by decide +kernel
theorem dX6_adds_56 : decode cX6_adds 56 = .ok (.ireturn, 1) := by decide +kernel
set_option maxRecDepth 20000 in
theorem ggX6_put_X6_isPlace : GoodIn wsX6_put wsX6_isPlace := goodIn_r _ [5, 6, 7, 4, 8] (by decide +kernel) (by decide +kernel)
set_option maxRecDepth 20000 in
theorem gX6_put_X6_isPlace : GoodIn wsX6_put (va_wsS RX6 88 yX6_isPlace wsX6_isPlace) := goodIn_app (goodIn_of _ (by decide +kernel)) ggX6_put_X6_isPlace
set_option maxRecDepth 20000 in
theorem ggX6_put_X6_records : GoodIn wsX6_put wsX6_records := goodIn_r _ [12, 13, 14, 1, 15, 16, 4, 17, 26, 27, 28, 29, 30, 31, 32, 33, 34, 35, 36, 37, 38, 39, 40] (by decide +kernel) (by decide +kernel)
set_option maxRecDepth 20000 in
theorem gX6_put_X6_records : GoodIn wsX6_put (wsV RX6 92 RX6 yX6_records wsX6_records) := goodIn_app (goodIn_of _ (by decide +kernel)) ggX6_put_X6_records
set_option maxRecDepth 20000 in
theorem ggX6_put_X6_adds : GoodIn wsX6_put wsX6_adds := goodIn_r _ [21, 1, 22, 23, 24, 4, 25, 26, 27, 28, 29, 30, 31, 32, 33, 34, 35, 36, 37, 38, 39, 40] (by decide +kernel) (by decide +kernel)
set_option maxRecDepth 20000 in
theorem gX6_put_X6_adds : GoodIn wsX6_put (wsV RX6 95 RX6 yX6_adds wsX6_adds) := goodIn_app (goodIn_of _ (by decide +kernel)) ggX6_put_X6_adds
theorem dX6_put_0 : decode cX6_put 0 = .ok (.iload_n 1, 1) := by decide +kernel
theorem dX6_put_1 : decode cX6_put 1 = .ok (.iload_n 2, 1) := by decide +kernel
theorem dX6_put_2 : decode cX6_put 2 = .ok (.invokestatic 88, 3) := by decide +kernel
theorem dX6_put_5 : decode cX6_put 5 = .ok (.ifCond .ne 5, 3) := by decide +kernel
theorem dX6_put_8 : decode cX6_put 8 = .ok (.iconst (-1), 1) := by decide +kernel
theorem dX6_put_9 : decode cX6_put 9 = .ok (.ireturn, 1) := by decide +kernel
theorem dX6_put_10 : decode cX6_put 10 = .ok (.aload_n 0, 1) := by decide +kernel
theorem dX6_put_11 : decode cX6_put 11 = .ok (.getfield 7, 3) := by decide +kernel
theorem dX6_put_14 : decode cX6_put 14 = .ok (.iconst 0, 1) := by decide +kernel
theorem dX6_put_15 : decode cX6_put 15 = .ok (.iaload, 1) := by decide +kernel
theorem dX6_put_16 : decode cX6_put 16 = .ok (.bipush 20, 2) := by decide +kernel
theorem dX6_put_18 : decode cX6_put 18 = .ok (.if_icmp .ne 6, 3) := by decide +kernel
theorem dX6_put_21 : decode cX6_put 21 = .ok (.bipush (-3), 2) := by decide +kernel
theorem dX6_put_23 : decode cX6_put 23 = .ok (.ireturn, 1) := by decide +kernel
theorem dX6_put_24 : decode cX6_put 24 = .ok (.aload_n 0, 1) := by decide +kernel
theorem dX6_put_25 : decode cX6_put 25 = .ok (.invokevirtual 92, 3) := by decide +kernel
theorem dX6_put_28 : decode cX6_put 28 = .ok (.aload_n 0, 1) := by decide +kernel
theorem dX6_put_29 : decode cX6_put 29 = .ok (.iload_n 1, 1) := by decide +kernel
theorem dX6_put_30 : decode cX6_put 30 = .ok (.iload_n 2, 1) := by decide +kernel
theorem dX6_put_31 : decode cX6_put 31 = .ok (.invokevirtual 95, 3) := by decide +kernel
theorem dX6_put_34 : decode cX6_put 34 = .ok (.ireturn, 1) := by decide +kernel
set_option maxRecDepth 20000 in
theorem ggX6_takeOff_X6_isNote : GoodIn wsX6_takeOff wsX6_isNote := goodIn_r _ [6, 1, 7, 8, 5, 9, 47, 48, 49, 50, 51, 52, 53, 54, 55, 56, 57, 58, 59, 60, 61] (by decide +kernel) (by decide +kernel)
set_option maxRecDepth 20000 in
theorem gX6_takeOff_X6_isNote : GoodIn wsX6_takeOff (wsV RX6 98 RX6 yX6_isNote wsX6_isNote) := goodIn_app (goodIn_of _ (by decide +kernel)) ggX6_takeOff_X6_isNote
set_option maxRecDepth 20000 in
theorem ggX6_takeOff_X6_records : GoodIn wsX6_takeOff wsX6_records := goodIn_r _ [13, 14, 15, 1, 16, 17, 5, 18, 47, 48, 49, 50, 51, 52, 53, 54, 55, 56, 57, 58, 59, 60, 61] (by decide +kernel) (by decide +kernel)
set_option maxRecDepth 20000 in
theorem gX6_takeOff_X6_records : GoodIn wsX6_takeOff (wsV RX6 92 RX6 yX6_records wsX6_records) := goodIn_app (goodIn_of _ (by decide +kernel)) ggX6_takeOff_X6_records
set_option maxRecDepth 20000 in
theorem ggX6_takeOff_X6_dotsOf : GoodIn wsX6_takeOff wsX6_dotsOf := goodIn_r _ [22, 23, 24, 25, 5, 26, 1, 47, 48, 49, 50, 51, 52, 53, 54, 55, 56, 57, 58, 59, 60, 61] (by decide +kernel) (by decide +kernel)
set_option maxRecDepth 20000 in
theorem gX6_takeOff_X6_dotsOf : GoodIn wsX6_takeOff (wsV RX6 102 RX6 yX6_dotsOf wsX6_dotsOf) := goodIn_app (goodIn_of _ (by decide +kernel)) ggX6_takeOff_X6_dotsOf
set_option maxRecDepth 20000 in
theorem ggX6_takeOff_X6_themeOf : GoodIn wsX6_takeOff wsX6_themeOf := goodIn_r _ [30, 23, 24, 25, 5, 26, 1, 47, 48, 49, 50, 51, 52, 53, 54, 55, 56, 57, 58, 59, 60, 61] (by decide +kernel) (by decide +kernel)
set_option maxRecDepth 20000 in
theorem gX6_takeOff_X6_themeOf : GoodIn wsX6_takeOff (wsV RX6 68 RX6 yX6_themeOf wsX6_themeOf) := goodIn_app (goodIn_of _ (by decide +kernel)) ggX6_takeOff_X6_themeOf
set_option maxRecDepth 20000 in
theorem ggX6_takeOff_X6_dropsEmpty : GoodIn wsX6_takeOff wsX6_dropsEmpty := goodIn_r _ [34, 35, 36, 37, 5, 38, 1, 27, 28, 29, 30, 23, 24, 25, 26, 39, 40, 41, 42, 43, 44, 45, 46, 47, 48, 49, 50, 51, 52, 53, 54, 55, 56, 57, 58, 59, 60, 61] (by decide +kernel) (by decide +kernel)
set_option maxRecDepth 20000 in
theorem gX6_takeOff_X6_dropsEmpty : GoodIn wsX6_takeOff (wsV RX6 105 RX6 yX6_dropsEmpty wsX6_dropsEmpty) := goodIn_app (goodIn_of _ (by decide +kernel)) ggX6_takeOff_X6_dropsEmpty
theorem dX6_takeOff_0 : decode cX6_takeOff 0 = .ok (.aload_n 0, 1) := by decide +kernel
theorem dX6_takeOff_1 : decode cX6_takeOff 1 = .ok (.iload_n 1, 1) := by decide +kernel
theorem dX6_takeOff_2 : decode cX6_takeOff 2 = .ok (.invokevirtual 98, 3) := by decide +kernel
theorem dX6_takeOff_5 : decode cX6_takeOff 5 = .ok (.ifCond .ne 5, 3) := by decide +kernel
theorem dX6_takeOff_8 : decode cX6_takeOff 8 = .ok (.iconst (-1), 1) := by decide +kernel
theorem dX6_takeOff_9 : decode cX6_takeOff 9 = .ok (.ireturn, 1) := by decide +kernel
theorem dX6_takeOff_10 : decode cX6_takeOff 10 = .ok (.aload_n 0, 1) := by decide +kernel
theorem dX6_takeOff_11 : decode cX6_takeOff 11 = .ok (.invokevirtual 92, 3) := by decide +kernel
theorem dX6_takeOff_14 : decode cX6_takeOff 14 = .ok (.aload_n 0, 1) := by decide +kernel
theorem dX6_takeOff_15 : decode cX6_takeOff 15 = .ok (.iload_n 1, 1) := by decide +kernel
theorem dX6_takeOff_16 : decode cX6_takeOff 16 = .ok (.invokevirtual 102, 3) := by decide +kernel
theorem dX6_takeOff_19 : decode cX6_takeOff 19 = .ok (.istore_n 2, 1) := by decide +kernel
theorem dX6_takeOff_20 : decode cX6_takeOff 20 = .ok (.aload_n 0, 1) := by decide +kernel
theorem dX6_takeOff_21 : decode cX6_takeOff 21 = .ok (.iload_n 1, 1) := by decide +kernel
theorem dX6_takeOff_22 : decode cX6_takeOff 22 = .ok (.invokevirtual 68, 3) := by decide +kernel
theorem dX6_takeOff_25 : decode cX6_takeOff 25 = .ok (.istore_n 3, 1) := by decide +kernel
theorem dX6_takeOff_26 : decode cX6_takeOff 26 = .ok (.iconst 5, 1) := by decide +kernel
theorem dX6_takeOff_27 : decode cX6_takeOff 27 = .ok (.bipush 9, 2) := by decide +kernel
theorem dX6_takeOff_29 : decode cX6_takeOff 29 = .ok (.iload_n 1, 1) := by decide +kernel
theorem dX6_takeOff_30 : decode cX6_takeOff 30 = .ok (.imul, 1) := by decide +kernel
theorem dX6_takeOff_31 : decode cX6_takeOff 31 = .ok (.iadd, 1) := by decide +kernel
theorem dX6_takeOff_32 : decode cX6_takeOff 32 = .ok (.istore 4, 2) := by decide +kernel
theorem dX6_takeOff_34 : decode cX6_takeOff 34 = .ok (.iload 4, 2) := by decide +kernel
theorem dX6_takeOff_36 : decode cX6_takeOff 36 = .ok (.sipush 185, 3) := by decide +kernel
theorem dX6_takeOff_39 : decode cX6_takeOff 39 = .ok (.if_icmp .ge 41, 3) := by decide +kernel
theorem dX6_takeOff_42 : decode cX6_takeOff 42 = .ok (.aload_n 0, 1) := by decide +kernel
theorem dX6_takeOff_43 : decode cX6_takeOff 43 = .ok (.getfield 7, 3) := by decide +kernel
theorem dX6_takeOff_46 : decode cX6_takeOff 46 = .ok (.iload 4, 2) := by decide +kernel
theorem dX6_takeOff_48 : decode cX6_takeOff 48 = .ok (.iload 4, 2) := by decide +kernel
theorem dX6_takeOff_50 : decode cX6_takeOff 50 = .ok (.bipush 9, 2) := by decide +kernel
theorem dX6_takeOff_52 : decode cX6_takeOff 52 = .ok (.iadd, 1) := by decide +kernel
theorem dX6_takeOff_53 : decode cX6_takeOff 53 = .ok (.sipush 185, 3) := by decide +kernel
theorem dX6_takeOff_56 : decode cX6_takeOff 56 = .ok (.if_icmp .ge 16, 3) := by decide +kernel
theorem dX6_takeOff_59 : decode cX6_takeOff 59 = .ok (.aload_n 0, 1) := by decide +kernel
theorem dX6_takeOff_60 : decode cX6_takeOff 60 = .ok (.getfield 7, 3) := by decide +kernel
theorem dX6_takeOff_63 : decode cX6_takeOff 63 = .ok (.iload 4, 2) := by decide +kernel
theorem dX6_takeOff_65 : decode cX6_takeOff 65 = .ok (.bipush 9, 2) := by decide +kernel
theorem dX6_takeOff_67 : decode cX6_takeOff 67 = .ok (.iadd, 1) := by decide +kernel
theorem dX6_takeOff_68 : decode cX6_takeOff 68 = .ok (.iaload, 1) := by decide +kernel
theorem dX6_takeOff_69 : decode cX6_takeOff 69 = .ok (.goto 4, 3) := by decide +kernel
theorem dX6_takeOff_72 : decode cX6_takeOff 72 = .ok (.iconst 0, 1) := by decide +kernel
theorem dX6_takeOff_73 : decode cX6_takeOff 73 = .ok (.iastore, 1) := by decide +kernel
theorem dX6_takeOff_74 : decode cX6_takeOff 74 = .ok (.iinc 4 1, 3) := by decide +kernel
theorem dX6_takeOff_77 : decode cX6_takeOff 77 = .ok (.goto (-43), 3) := by decide +kernel
theorem dX6_takeOff_80 : decode cX6_takeOff 80 = .ok (.aload_n 0, 1) := by decide +kernel
theorem dX6_takeOff_81 : decode cX6_takeOff 81 = .ok (.getfield 7, 3) := by decide +kernel
theorem dX6_takeOff_84 : decode cX6_takeOff 84 = .ok (.iconst 0, 1) := by decide +kernel
theorem dX6_takeOff_85 : decode cX6_takeOff 85 = .ok (.dup2, 1) := by decide +kernel
theorem dX6_takeOff_86 : decode cX6_takeOff 86 = .ok (.iaload, 1) := by decide +kernel
theorem dX6_takeOff_87 : decode cX6_takeOff 87 = .ok (.iconst 1, 1) := by decide +kernel
theorem dX6_takeOff_88 : decode cX6_takeOff 88 = .ok (.isub, 1) := by decide +kernel
theorem dX6_takeOff_89 : decode cX6_takeOff 89 = .ok (.iastore, 1) := by decide +kernel
theorem dX6_takeOff_90 : decode cX6_takeOff 90 = .ok (.aload_n 0, 1) := by decide +kernel
theorem dX6_takeOff_91 : decode cX6_takeOff 91 = .ok (.iload_n 3, 1) := by decide +kernel
theorem dX6_takeOff_92 : decode cX6_takeOff 92 = .ok (.invokevirtual 105, 3) := by decide +kernel
theorem dX6_takeOff_95 : decode cX6_takeOff 95 = .ok (.iload_n 2, 1) := by decide +kernel
theorem dX6_takeOff_96 : decode cX6_takeOff 96 = .ok (.ireturn, 1) := by decide +kernel
set_option maxRecDepth 20000 in
theorem ggX6_comes_X6_lays : GoodIn wsX6_comes wsX6_lays := goodIn_r _ [5, 6, 7, 8, 9, 10, 11, 12, 13, 14, 15, 16, 17, 18, 19, 20, 21] (by decide +kernel) (by decide +kernel)
set_option maxRecDepth 20000 in
theorem gX6_comes_X6_lays : GoodIn wsX6_comes (wsV RX6 71 RX6 yX6_lays wsX6_lays) := goodIn_app (goodIn_of _ (by decide +kernel)) ggX6_comes_X6_lays
theorem dX6_comes_0 : decode cX6_comes 0 = .ok (.aload_n 0, 1) := by decide +kernel
theorem dX6_comes_1 : decode cX6_comes 1 = .ok (.iload_n 1, 1) := by decide +kernel
theorem dX6_comes_2 : decode cX6_comes 2 = .ok (.iconst 0, 1) := by decide +kernel
theorem dX6_comes_3 : decode cX6_comes 3 = .ok (.iload_n 2, 1) := by decide +kernel
theorem dX6_comes_4 : decode cX6_comes 4 = .ok (.invokevirtual 71, 3) := by decide +kernel
theorem dX6_comes_7 : decode cX6_comes 7 = .ok (.aload_n 0, 1) := by decide +kernel
theorem dX6_comes_8 : decode cX6_comes 8 = .ok (.iload_n 1, 1) := by decide +kernel
theorem dX6_comes_9 : decode cX6_comes 9 = .ok (.iconst 1, 1) := by decide +kernel
theorem dX6_comes_10 : decode cX6_comes 10 = .ok (.iload_n 3, 1) := by decide +kernel
theorem dX6_comes_11 : decode cX6_comes 11 = .ok (.invokevirtual 71, 3) := by decide +kernel
theorem dX6_comes_14 : decode cX6_comes 14 = .ok (.return_, 1) := by decide +kernel
set_option maxRecDepth 20000 in
theorem ggX6_drag_X6_isNote : GoodIn wsX6_drag wsX6_isNote := goodIn_r _ [5, 6, 7, 8, 4, 9, 56, 57, 58, 59, 60, 61, 62, 63, 64, 65, 66, 67, 68, 69, 70] (by decide +kernel) (by decide +kernel)
set_option maxRecDepth 20000 in
theorem gX6_drag_X6_isNote : GoodIn wsX6_drag (wsV RX6 98 RX6 yX6_isNote wsX6_isNote) := goodIn_app (goodIn_of _ (by decide +kernel)) ggX6_drag_X6_isNote
set_option maxRecDepth 20000 in
theorem ggX6_drag_X6_isPlace : GoodIn wsX6_drag wsX6_isPlace := goodIn_r _ [12, 7, 8, 4, 9] (by decide +kernel) (by decide +kernel)
set_option maxRecDepth 20000 in
theorem gX6_drag_X6_isPlace : GoodIn wsX6_drag (va_wsS RX6 88 yX6_isPlace wsX6_isPlace) := goodIn_app (goodIn_of _ (by decide +kernel)) ggX6_drag_X6_isPlace
set_option maxRecDepth 20000 in
theorem ggX6_drag_X6_of : GoodIn wsX6_drag wsX6_of := goodIn_r _ [16, 6, 56, 57, 58, 59, 60, 61, 62, 63, 64, 65, 66, 67, 68, 69, 70] (by decide +kernel) (by decide +kernel)
set_option maxRecDepth 20000 in
theorem gX6_drag_X6_of : GoodIn wsX6_drag (wsV RX6 47 RX6 yX6_of wsX6_of) := goodIn_app (goodIn_of _ (by decide +kernel)) ggX6_drag_X6_of
set_option maxRecDepth 20000 in
theorem ggX6_drag_X6_records : GoodIn wsX6_drag wsX6_records := goodIn_r _ [20, 21, 22, 6, 23, 24, 4, 25, 56, 57, 58, 59, 60, 61, 62, 63, 64, 65, 66, 67, 68, 69, 70] (by decide +kernel) (by decide +kernel)
set_option maxRecDepth 20000 in
theorem gX6_drag_X6_records : GoodIn wsX6_drag (wsV RX6 92 RX6 yX6_records wsX6_records) := goodIn_app (goodIn_of _ (by decide +kernel)) ggX6_drag_X6_records
set_option maxRecDepth 20000 in
theorem ggX6_drag_X6_comes : GoodIn wsX6_drag wsX6_comes := goodIn_r _ [29, 30, 31, 32, 4, 33, 6, 56, 57, 58, 59, 60, 61, 62, 63, 64, 65, 66, 67, 68, 69, 70] (by decide +kernel) (by decide +kernel)
set_option maxRecDepth 20000 in
theorem gX6_drag_X6_comes : GoodIn wsX6_drag (wsV RX6 108 RX6 yX6_comes wsX6_comes) := goodIn_app (goodIn_of _ (by decide +kernel)) ggX6_drag_X6_comes
set_option maxRecDepth 20000 in
theorem ggX6_drag_X6_laysNow : GoodIn wsX6_drag wsX6_laysNow := goodIn_r _ [37, 6, 38, 39, 40, 4, 41, 42, 43, 44, 45, 46, 47, 48, 49, 50, 51, 52, 13, 14, 15, 16, 53, 54, 55, 56, 57, 58, 59, 60, 61, 62, 63, 64, 65, 66, 67, 68, 69, 70] (by decide +kernel) (by decide +kernel)
set_option maxRecDepth 20000 in
theorem gX6_drag_X6_laysNow : GoodIn wsX6_drag (wsV RX6 111 RX6 yX6_laysNow wsX6_laysNow) := goodIn_app (goodIn_of _ (by decide +kernel)) ggX6_drag_X6_laysNow
theorem dX6_drag_0 : decode cX6_drag 0 = .ok (.aload_n 0, 1) := by decide +kernel
theorem dX6_drag_1 : decode cX6_drag 1 = .ok (.iload_n 1, 1) := by decide +kernel
theorem dX6_drag_2 : decode cX6_drag 2 = .ok (.invokevirtual 98, 3) := by decide +kernel
theorem dX6_drag_5 : decode cX6_drag 5 = .ok (.ifCond .eq 11, 3) := by decide +kernel
theorem dX6_drag_8 : decode cX6_drag 8 = .ok (.iload_n 2, 1) := by decide +kernel
theorem dX6_drag_9 : decode cX6_drag 9 = .ok (.iload_n 3, 1) := by decide +kernel
theorem dX6_drag_10 : decode cX6_drag 10 = .ok (.invokestatic 88, 3) := by decide +kernel
theorem dX6_drag_13 : decode cX6_drag 13 = .ok (.ifCond .ne 5, 3) := by decide +kernel
theorem dX6_drag_16 : decode cX6_drag 16 = .ok (.iconst (-1), 1) := by decide +kernel
theorem dX6_drag_17 : decode cX6_drag 17 = .ok (.ireturn, 1) := by decide +kernel
theorem dX6_drag_18 : decode cX6_drag 18 = .ok (.aload_n 0, 1) := by decide +kernel
theorem dX6_drag_19 : decode cX6_drag 19 = .ok (.iload_n 1, 1) := by decide +kernel
theorem dX6_drag_20 : decode cX6_drag 20 = .ok (.iconst 0, 1) := by decide +kernel
theorem dX6_drag_21 : decode cX6_drag 21 = .ok (.invokevirtual 47, 3) := by decide +kernel
theorem dX6_drag_24 : decode cX6_drag 24 = .ok (.iload_n 2, 1) := by decide +kernel
theorem dX6_drag_25 : decode cX6_drag 25 = .ok (.if_icmp .ne 16, 3) := by decide +kernel
theorem dX6_drag_28 : decode cX6_drag 28 = .ok (.aload_n 0, 1) := by decide +kernel
theorem dX6_drag_29 : decode cX6_drag 29 = .ok (.iload_n 1, 1) := by decide +kernel
theorem dX6_drag_30 : decode cX6_drag 30 = .ok (.iconst 1, 1) := by decide +kernel
theorem dX6_drag_31 : decode cX6_drag 31 = .ok (.invokevirtual 47, 3) := by decide +kernel
theorem dX6_drag_34 : decode cX6_drag 34 = .ok (.iload_n 3, 1) := by decide +kernel
theorem dX6_drag_35 : decode cX6_drag 35 = .ok (.if_icmp .ne 6, 3) := by decide +kernel
theorem dX6_drag_38 : decode cX6_drag 38 = .ok (.bipush (-5), 2) := by decide +kernel
theorem dX6_drag_40 : decode cX6_drag 40 = .ok (.ireturn, 1) := by decide +kernel
theorem dX6_drag_41 : decode cX6_drag 41 = .ok (.aload_n 0, 1) := by decide +kernel
theorem dX6_drag_42 : decode cX6_drag 42 = .ok (.invokevirtual 92, 3) := by decide +kernel
theorem dX6_drag_45 : decode cX6_drag 45 = .ok (.aload_n 0, 1) := by decide +kernel
theorem dX6_drag_46 : decode cX6_drag 46 = .ok (.iload_n 1, 1) := by decide +kernel
theorem dX6_drag_47 : decode cX6_drag 47 = .ok (.iload_n 2, 1) := by decide +kernel
theorem dX6_drag_48 : decode cX6_drag 48 = .ok (.iload_n 3, 1) := by decide +kernel
theorem dX6_drag_49 : decode cX6_drag 49 = .ok (.invokevirtual 108, 3) := by decide +kernel
theorem dX6_drag_52 : decode cX6_drag 52 = .ok (.aload_n 0, 1) := by decide +kernel
theorem dX6_drag_53 : decode cX6_drag 53 = .ok (.invokevirtual 111, 3) := by decide +kernel
theorem dX6_drag_56 : decode cX6_drag 56 = .ok (.ireturn, 1) := by decide +kernel
set_option maxRecDepth 20000 in
theorem ggX6_canDrag_X6_of : GoodIn wsX6_canDrag wsX6_of := goodIn_r _ [7, 1, 14, 15, 16, 17, 18, 19, 20, 21, 22, 23, 24, 25, 26, 27, 28] (by decide +kernel) (by decide +kernel)
set_option maxRecDepth 20000 in
theorem gX6_canDrag_X6_of : GoodIn wsX6_canDrag (wsV RX6 47 RX6 yX6_of wsX6_of) := goodIn_app (goodIn_of _ (by decide +kernel)) ggX6_canDrag_X6_of
set_option maxRecDepth 20000 in
theorem ggX6_canDrag_X6_isPlace : GoodIn wsX6_canDrag wsX6_isPlace := goodIn_r _ [10, 11, 12, 6, 13] (by decide +kernel) (by decide +kernel)
set_option maxRecDepth 20000 in
theorem gX6_canDrag_X6_isPlace : GoodIn wsX6_canDrag (va_wsS RX6 88 yX6_isPlace wsX6_isPlace) := goodIn_app (goodIn_of _ (by decide +kernel)) ggX6_canDrag_X6_isPlace
theorem dX6_canDrag_0 : decode cX6_canDrag 0 = .ok (.iconst 1, 1) := by decide +kernel
theorem dX6_canDrag_1 : decode cX6_canDrag 1 = .ok (.istore 4, 2) := by decide +kernel
theorem dX6_canDrag_3 : decode cX6_canDrag 3 = .ok (.iconst 0, 1) := by decide +kernel
theorem dX6_canDrag_4 : decode cX6_canDrag 4 = .ok (.istore 5, 2) := by decide +kernel
theorem dX6_canDrag_6 : decode cX6_canDrag 6 = .ok (.iload 5, 2) := by decide +kernel
theorem dX6_canDrag_8 : decode cX6_canDrag 8 = .ok (.aload_n 0, 1) := by decide +kernel
theorem dX6_canDrag_9 : decode cX6_canDrag 9 = .ok (.getfield 7, 3) := by decide +kernel
theorem dX6_canDrag_12 : decode cX6_canDrag 12 = .ok (.iconst 0, 1) := by decide +kernel
theorem dX6_canDrag_13 : decode cX6_canDrag 13 = .ok (.iaload, 1) := by decide +kernel
theorem dX6_canDrag_14 : decode cX6_canDrag 14 = .ok (.if_icmp .ge 56, 3) := by decide +kernel
theorem dX6_canDrag_17 : decode cX6_canDrag 17 = .ok (.iload 4, 2) := by decide +kernel
theorem dX6_canDrag_19 : decode cX6_canDrag 19 = .ok (.ifCond .eq 42, 3) := by decide +kernel
theorem dX6_canDrag_22 : decode cX6_canDrag 22 = .ok (.aload_n 0, 1) := by decide +kernel
theorem dX6_canDrag_23 : decode cX6_canDrag 23 = .ok (.getfield 23, 3) := by decide +kernel
theorem dX6_canDrag_26 : decode cX6_canDrag 26 = .ok (.iload 5, 2) := by decide +kernel
theorem dX6_canDrag_28 : decode cX6_canDrag 28 = .ok (.iaload, 1) := by decide +kernel
theorem dX6_canDrag_29 : decode cX6_canDrag 29 = .ok (.iload_n 1, 1) := by decide +kernel
theorem dX6_canDrag_30 : decode cX6_canDrag 30 = .ok (.if_icmp .ne 27, 3) := by decide +kernel
theorem dX6_canDrag_33 : decode cX6_canDrag 33 = .ok (.aload_n 0, 1) := by decide +kernel
theorem dX6_canDrag_34 : decode cX6_canDrag 34 = .ok (.iload 5, 2) := by decide +kernel
theorem dX6_canDrag_36 : decode cX6_canDrag 36 = .ok (.iconst 0, 1) := by decide +kernel
theorem dX6_canDrag_37 : decode cX6_canDrag 37 = .ok (.invokevirtual 47, 3) := by decide +kernel
theorem dX6_canDrag_40 : decode cX6_canDrag 40 = .ok (.iload_n 2, 1) := by decide +kernel
theorem dX6_canDrag_41 : decode cX6_canDrag 41 = .ok (.iadd, 1) := by decide +kernel
theorem dX6_canDrag_42 : decode cX6_canDrag 42 = .ok (.aload_n 0, 1) := by decide +kernel
theorem dX6_canDrag_43 : decode cX6_canDrag 43 = .ok (.iload 5, 2) := by decide +kernel
theorem dX6_canDrag_45 : decode cX6_canDrag 45 = .ok (.iconst 1, 1) := by decide +kernel
theorem dX6_canDrag_46 : decode cX6_canDrag 46 = .ok (.invokevirtual 47, 3) := by decide +kernel
theorem dX6_canDrag_49 : decode cX6_canDrag 49 = .ok (.iload_n 3, 1) := by decide +kernel
theorem dX6_canDrag_50 : decode cX6_canDrag 50 = .ok (.iadd, 1) := by decide +kernel
theorem dX6_canDrag_51 : decode cX6_canDrag 51 = .ok (.invokestatic 88, 3) := by decide +kernel
theorem dX6_canDrag_54 : decode cX6_canDrag 54 = .ok (.ifCond .eq 7, 3) := by decide +kernel
theorem dX6_canDrag_57 : decode cX6_canDrag 57 = .ok (.iconst 1, 1) := by decide +kernel
theorem dX6_canDrag_58 : decode cX6_canDrag 58 = .ok (.goto 4, 3) := by decide +kernel
theorem dX6_canDrag_61 : decode cX6_canDrag 61 = .ok (.iconst 0, 1) := by decide +kernel
theorem dX6_canDrag_62 : decode cX6_canDrag 62 = .ok (.istore 4, 2) := by decide +kernel
theorem dX6_canDrag_64 : decode cX6_canDrag 64 = .ok (.iinc 5 1, 3) := by decide +kernel
theorem dX6_canDrag_67 : decode cX6_canDrag 67 = .ok (.goto (-61), 3) := by decide +kernel
theorem dX6_canDrag_70 : decode cX6_canDrag 70 = .ok (.iload 4, 2) := by decide +kernel
theorem dX6_canDrag_72 : decode cX6_canDrag 72 = .ok (.ireturn, 1) := by decide +kernel
set_option maxRecDepth 20000 in
theorem ggX6_dragHeap_X6_laysNow : GoodIn wsX6_dragHeap wsX6_laysNow := goodIn_r _ [7, 1, 8, 9, 10, 6, 11, 12, 2, 13, 14, 15, 16, 17, 18, 19, 20, 21, 22, 23, 24, 25, 26, 27, 28, 56, 57, 58, 59, 60, 61, 62, 63, 64, 65, 66, 67, 68, 69, 70] (by decide +kernel) (by decide +kernel)
set_option maxRecDepth 20000 in
theorem gX6_dragHeap_X6_laysNow : GoodIn wsX6_dragHeap (wsV RX6 111 RX6 yX6_laysNow wsX6_laysNow) := goodIn_app (goodIn_of _ (by decide +kernel)) ggX6_dragHeap_X6_laysNow
set_option maxRecDepth 20000 in
theorem ggX6_dragHeap_X6_in : GoodIn wsX6_dragHeap wsX6_in := goodIn_r _ [31] (by decide +kernel) (by decide +kernel)
set_option maxRecDepth 20000 in
theorem gX6_dragHeap_X6_in : GoodIn wsX6_dragHeap (va_wsS RX6 43 yX6_in wsX6_in) := goodIn_app (goodIn_of _ (by decide +kernel)) ggX6_dragHeap_X6_in
set_option maxRecDepth 20000 in
theorem ggX6_dragHeap_X6_canDrag : GoodIn wsX6_dragHeap wsX6_canDrag := goodIn_r _ [35, 1, 2, 22, 23, 24, 6, 25, 36, 37, 38, 29, 30, 31, 56, 57, 58, 59, 60, 61, 62, 63, 64, 65, 66, 67, 68, 69, 70] (by decide +kernel) (by decide +kernel)
set_option maxRecDepth 20000 in
theorem gX6_dragHeap_X6_canDrag : GoodIn wsX6_dragHeap (wsV RX6 115 RX6 yX6_canDrag wsX6_canDrag) := goodIn_app (goodIn_of _ (by decide +kernel)) ggX6_dragHeap_X6_canDrag
set_option maxRecDepth 20000 in
theorem ggX6_dragHeap_X6_records : GoodIn wsX6_dragHeap wsX6_records := goodIn_r _ [42, 43, 44, 1, 45, 46, 6, 47, 56, 57, 58, 59, 60, 61, 62, 63, 64, 65, 66, 67, 68, 69, 70] (by decide +kernel) (by decide +kernel)
set_option maxRecDepth 20000 in
theorem gX6_dragHeap_X6_records : GoodIn wsX6_dragHeap (wsV RX6 92 RX6 yX6_records wsX6_records) := goodIn_app (goodIn_of _ (by decide +kernel)) ggX6_dragHeap_X6_records
set_option maxRecDepth 20000 in
theorem ggX6_dragHeap_X6_of : GoodIn wsX6_dragHeap wsX6_of := goodIn_r _ [25, 1, 56, 57, 58, 59, 60, 61, 62, 63, 64, 65, 66, 67, 68, 69, 70] (by decide +kernel) (by decide +kernel)
set_option maxRecDepth 20000 in
theorem gX6_dragHeap_X6_of : GoodIn wsX6_dragHeap (wsV RX6 47 RX6 yX6_of wsX6_of) := goodIn_app (goodIn_of _ (by decide +kernel)) ggX6_dragHeap_X6_of
set_option maxRecDepth 20000 in
theorem ggX6_dragHeap_X6_comes : GoodIn wsX6_dragHeap wsX6_comes := goodIn_r _ [51, 52, 53, 54, 6, 55, 1, 56, 57, 58, 59, 60, 61, 62, 63, 64, 65, 66, 67, 68, 69, 70] (by decide +kernel) (by decide +kernel)
set_option maxRecDepth 20000 in
theorem gX6_dragHeap_X6_comes : GoodIn wsX6_dragHeap (wsV RX6 108 RX6 yX6_comes wsX6_comes) := goodIn_app (goodIn_of _ (by decide +kernel)) ggX6_dragHeap_X6_comes
theorem dX6_dragHeap_0 : decode cX6_dragHeap 0 = .ok (.iload_n 1, 1) := by decide +kernel
theorem dX6_dragHeap_1 : decode cX6_dragHeap 1 = .ok (.iconst 0, 1) := by decide +kernel
theorem dX6_dragHeap_2 : decode cX6_dragHeap 2 = .ok (.aload_n 0, 1) := by decide +kernel
theorem dX6_dragHeap_3 : decode cX6_dragHeap 3 = .ok (.invokevirtual 111, 3) := by decide +kernel
theorem dX6_dragHeap_6 : decode cX6_dragHeap 6 = .ok (.iconst 1, 1) := by decide +kernel
theorem dX6_dragHeap_7 : decode cX6_dragHeap 7 = .ok (.isub, 1) := by decide +kernel
theorem dX6_dragHeap_8 : decode cX6_dragHeap 8 = .ok (.invokestatic 43, 3) := by decide +kernel
theorem dX6_dragHeap_11 : decode cX6_dragHeap 11 = .ok (.ifCond .ne 5, 3) := by decide +kernel
theorem dX6_dragHeap_14 : decode cX6_dragHeap 14 = .ok (.iconst (-1), 1) := by decide +kernel
theorem dX6_dragHeap_15 : decode cX6_dragHeap 15 = .ok (.ireturn, 1) := by decide +kernel
theorem dX6_dragHeap_16 : decode cX6_dragHeap 16 = .ok (.iload_n 2, 1) := by decide +kernel
theorem dX6_dragHeap_17 : decode cX6_dragHeap 17 = .ok (.bipush (-29), 2) := by decide +kernel
theorem dX6_dragHeap_19 : decode cX6_dragHeap 19 = .ok (.bipush 29, 2) := by decide +kernel
theorem dX6_dragHeap_21 : decode cX6_dragHeap 21 = .ok (.invokestatic 43, 3) := by decide +kernel
theorem dX6_dragHeap_24 : decode cX6_dragHeap 24 = .ok (.ifCond .eq 14, 3) := by decide +kernel
theorem dX6_dragHeap_27 : decode cX6_dragHeap 27 = .ok (.iload_n 3, 1) := by decide +kernel
theorem dX6_dragHeap_28 : decode cX6_dragHeap 28 = .ok (.bipush (-19), 2) := by decide +kernel
theorem dX6_dragHeap_30 : decode cX6_dragHeap 30 = .ok (.bipush 19, 2) := by decide +kernel
theorem dX6_dragHeap_32 : decode cX6_dragHeap 32 = .ok (.invokestatic 43, 3) := by decide +kernel
theorem dX6_dragHeap_35 : decode cX6_dragHeap 35 = .ok (.ifCond .ne 6, 3) := by decide +kernel
theorem dX6_dragHeap_38 : decode cX6_dragHeap 38 = .ok (.bipush (-2), 2) := by decide +kernel
theorem dX6_dragHeap_40 : decode cX6_dragHeap 40 = .ok (.ireturn, 1) := by decide +kernel
theorem dX6_dragHeap_41 : decode cX6_dragHeap 41 = .ok (.aload_n 0, 1) := by decide +kernel
theorem dX6_dragHeap_42 : decode cX6_dragHeap 42 = .ok (.iload_n 1, 1) := by decide +kernel
theorem dX6_dragHeap_43 : decode cX6_dragHeap 43 = .ok (.iload_n 2, 1) := by decide +kernel
theorem dX6_dragHeap_44 : decode cX6_dragHeap 44 = .ok (.iload_n 3, 1) := by decide +kernel
theorem dX6_dragHeap_45 : decode cX6_dragHeap 45 = .ok (.invokevirtual 115, 3) := by decide +kernel
theorem dX6_dragHeap_48 : decode cX6_dragHeap 48 = .ok (.ifCond .ne 6, 3) := by decide +kernel
theorem dX6_dragHeap_51 : decode cX6_dragHeap 51 = .ok (.bipush (-4), 2) := by decide +kernel
theorem dX6_dragHeap_53 : decode cX6_dragHeap 53 = .ok (.ireturn, 1) := by decide +kernel
theorem dX6_dragHeap_54 : decode cX6_dragHeap 54 = .ok (.iload_n 2, 1) := by decide +kernel
theorem dX6_dragHeap_55 : decode cX6_dragHeap 55 = .ok (.ifCond .ne 10, 3) := by decide +kernel
theorem dX6_dragHeap_58 : decode cX6_dragHeap 58 = .ok (.iload_n 3, 1) := by decide +kernel
theorem dX6_dragHeap_59 : decode cX6_dragHeap 59 = .ok (.ifCond .ne 6, 3) := by decide +kernel
theorem dX6_dragHeap_62 : decode cX6_dragHeap 62 = .ok (.bipush (-5), 2) := by decide +kernel
theorem dX6_dragHeap_64 : decode cX6_dragHeap 64 = .ok (.ireturn, 1) := by decide +kernel
theorem dX6_dragHeap_65 : decode cX6_dragHeap 65 = .ok (.aload_n 0, 1) := by decide +kernel
theorem dX6_dragHeap_66 : decode cX6_dragHeap 66 = .ok (.invokevirtual 92, 3) := by decide +kernel
theorem dX6_dragHeap_69 : decode cX6_dragHeap 69 = .ok (.iconst 0, 1) := by decide +kernel
theorem dX6_dragHeap_70 : decode cX6_dragHeap 70 = .ok (.istore 4, 2) := by decide +kernel
theorem dX6_dragHeap_72 : decode cX6_dragHeap 72 = .ok (.iload 4, 2) := by decide +kernel
theorem dX6_dragHeap_74 : decode cX6_dragHeap 74 = .ok (.aload_n 0, 1) := by decide +kernel
theorem dX6_dragHeap_75 : decode cX6_dragHeap 75 = .ok (.getfield 7, 3) := by decide +kernel
theorem dX6_dragHeap_78 : decode cX6_dragHeap 78 = .ok (.iconst 0, 1) := by decide +kernel
theorem dX6_dragHeap_79 : decode cX6_dragHeap 79 = .ok (.iaload, 1) := by decide +kernel
theorem dX6_dragHeap_80 : decode cX6_dragHeap 80 = .ok (.if_icmp .ge 44, 3) := by decide +kernel
theorem dX6_dragHeap_83 : decode cX6_dragHeap 83 = .ok (.aload_n 0, 1) := by decide +kernel
theorem dX6_dragHeap_84 : decode cX6_dragHeap 84 = .ok (.getfield 23, 3) := by decide +kernel
theorem dX6_dragHeap_87 : decode cX6_dragHeap 87 = .ok (.iload 4, 2) := by decide +kernel
theorem dX6_dragHeap_89 : decode cX6_dragHeap 89 = .ok (.iaload, 1) := by decide +kernel
theorem dX6_dragHeap_90 : decode cX6_dragHeap 90 = .ok (.iload_n 1, 1) := by decide +kernel
theorem dX6_dragHeap_91 : decode cX6_dragHeap 91 = .ok (.if_icmp .ne 27, 3) := by decide +kernel
theorem dX6_dragHeap_94 : decode cX6_dragHeap 94 = .ok (.aload_n 0, 1) := by decide +kernel
theorem dX6_dragHeap_95 : decode cX6_dragHeap 95 = .ok (.iload 4, 2) := by decide +kernel
theorem dX6_dragHeap_97 : decode cX6_dragHeap 97 = .ok (.aload_n 0, 1) := by decide +kernel
theorem dX6_dragHeap_98 : decode cX6_dragHeap 98 = .ok (.iload 4, 2) := by decide +kernel
theorem dX6_dragHeap_100 : decode cX6_dragHeap 100 = .ok (.iconst 0, 1) := by decide +kernel
theorem dX6_dragHeap_101 : decode cX6_dragHeap 101 = .ok (.invokevirtual 47, 3) := by decide +kernel
theorem dX6_dragHeap_104 : decode cX6_dragHeap 104 = .ok (.iload_n 2, 1) := by decide +kernel
theorem dX6_dragHeap_105 : decode cX6_dragHeap 105 = .ok (.iadd, 1) := by decide +kernel
theorem dX6_dragHeap_106 : decode cX6_dragHeap 106 = .ok (.aload_n 0, 1) := by decide +kernel
theorem dX6_dragHeap_107 : decode cX6_dragHeap 107 = .ok (.iload 4, 2) := by decide +kernel
theorem dX6_dragHeap_109 : decode cX6_dragHeap 109 = .ok (.iconst 1, 1) := by decide +kernel
theorem dX6_dragHeap_110 : decode cX6_dragHeap 110 = .ok (.invokevirtual 47, 3) := by decide +kernel
theorem dX6_dragHeap_113 : decode cX6_dragHeap 113 = .ok (.iload_n 3, 1) := by decide +kernel
theorem dX6_dragHeap_114 : decode cX6_dragHeap 114 = .ok (.iadd, 1) := by decide +kernel
theorem dX6_dragHeap_115 : decode cX6_dragHeap 115 = .ok (.invokevirtual 108, 3) := by decide +kernel
theorem dX6_dragHeap_118 : decode cX6_dragHeap 118 = .ok (.iinc 4 1, 3) := by decide +kernel
theorem dX6_dragHeap_121 : decode cX6_dragHeap 121 = .ok (.goto (-49), 3) := by decide +kernel
theorem dX6_dragHeap_124 : decode cX6_dragHeap 124 = .ok (.aload_n 0, 1) := by decide +kernel
theorem dX6_dragHeap_125 : decode cX6_dragHeap 125 = .ok (.invokevirtual 111, 3) := by decide +kernel
theorem dX6_dragHeap_128 : decode cX6_dragHeap 128 = .ok (.ireturn, 1) := by decide +kernel
set_option maxRecDepth 20000 in
theorem ggX6_stick_X6_isPerson : GoodIn wsX6_stick wsX6_isPerson := goodIn_r _ [5, 6, 7, 4, 8] (by decide +kernel) (by decide +kernel)
set_option maxRecDepth 20000 in
theorem gX6_stick_X6_isPerson : GoodIn wsX6_stick (va_wsS RX6 118 yX6_isPerson wsX6_isPerson) := goodIn_app (goodIn_of _ (by decide +kernel)) ggX6_stick_X6_isPerson
set_option maxRecDepth 20000 in
theorem ggX6_stick_X6_isNote : GoodIn wsX6_stick wsX6_isNote := goodIn_r _ [12, 1, 6, 7, 4, 8, 38, 39, 40, 41, 42, 43, 44, 45, 46, 47, 48, 49, 50, 51, 52] (by decide +kernel) (by decide +kernel)
set_option maxRecDepth 20000 in
theorem gX6_stick_X6_isNote : GoodIn wsX6_stick (wsV RX6 98 RX6 yX6_isNote wsX6_isNote) := goodIn_app (goodIn_of _ (by decide +kernel)) ggX6_stick_X6_isNote
set_option maxRecDepth 20000 in
theorem ggX6_stick_X6_stuckBy : GoodIn wsX6_stick wsX6_stuckBy := goodIn_r _ [16, 1, 17, 18, 19, 4, 20, 38, 39, 40, 41, 42, 43, 44, 45, 46, 47, 48, 49, 50, 51, 52] (by decide +kernel) (by decide +kernel)
set_option maxRecDepth 20000 in
theorem gX6_stick_X6_stuckBy : GoodIn wsX6_stick (wsV RX6 121 RX6 yX6_stuckBy wsX6_stuckBy) := goodIn_app (goodIn_of _ (by decide +kernel)) ggX6_stick_X6_stuckBy
set_option maxRecDepth 20000 in
theorem ggX6_stick_X6_of : GoodIn wsX6_stick wsX6_of := goodIn_r _ [20, 1, 38, 39, 40, 41, 42, 43, 44, 45, 46, 47, 48, 49, 50, 51, 52] (by decide +kernel) (by decide +kernel)
set_option maxRecDepth 20000 in
theorem gX6_stick_X6_of : GoodIn wsX6_stick (wsV RX6 47 RX6 yX6_of wsX6_of) := goodIn_app (goodIn_of _ (by decide +kernel)) ggX6_stick_X6_of
set_option maxRecDepth 20000 in
theorem ggX6_stick_X6_records : GoodIn wsX6_stick wsX6_records := goodIn_r _ [24, 25, 26, 1, 27, 28, 4, 29, 38, 39, 40, 41, 42, 43, 44, 45, 46, 47, 48, 49, 50, 51, 52] (by decide +kernel) (by decide +kernel)
set_option maxRecDepth 20000 in
theorem gX6_stick_X6_records : GoodIn wsX6_stick (wsV RX6 92 RX6 yX6_records wsX6_records) := goodIn_app (goodIn_of _ (by decide +kernel)) ggX6_stick_X6_records
set_option maxRecDepth 20000 in
theorem ggX6_stick_X6_lays : GoodIn wsX6_stick wsX6_lays := goodIn_r _ [33, 1, 38, 39, 40, 41, 42, 43, 44, 45, 46, 47, 48, 49, 50, 51, 52] (by decide +kernel) (by decide +kernel)
set_option maxRecDepth 20000 in
theorem gX6_stick_X6_lays : GoodIn wsX6_stick (wsV RX6 71 RX6 yX6_lays wsX6_lays) := goodIn_app (goodIn_of _ (by decide +kernel)) ggX6_stick_X6_lays
set_option maxRecDepth 20000 in
theorem ggX6_stick_X6_dotsOf : GoodIn wsX6_stick wsX6_dotsOf := goodIn_r _ [37, 17, 18, 19, 4, 20, 1, 38, 39, 40, 41, 42, 43, 44, 45, 46, 47, 48, 49, 50, 51, 52] (by decide +kernel) (by decide +kernel)
set_option maxRecDepth 20000 in
theorem gX6_stick_X6_dotsOf : GoodIn wsX6_stick (wsV RX6 102 RX6 yX6_dotsOf wsX6_dotsOf) := goodIn_app (goodIn_of _ (by decide +kernel)) ggX6_stick_X6_dotsOf
theorem dX6_stick_0 : decode cX6_stick 0 = .ok (.iload_n 1, 1) := by decide +kernel
theorem dX6_stick_1 : decode cX6_stick 1 = .ok (.invokestatic 118, 3) := by decide +kernel
theorem dX6_stick_4 : decode cX6_stick 4 = .ok (.ifCond .eq 11, 3) := by decide +kernel
theorem dX6_stick_7 : decode cX6_stick 7 = .ok (.aload_n 0, 1) := by decide +kernel
theorem dX6_stick_8 : decode cX6_stick 8 = .ok (.iload_n 2, 1) := by decide +kernel
theorem dX6_stick_9 : decode cX6_stick 9 = .ok (.invokevirtual 98, 3) := by decide +kernel
theorem dX6_stick_12 : decode cX6_stick 12 = .ok (.ifCond .ne 5, 3) := by decide +kernel
theorem dX6_stick_15 : decode cX6_stick 15 = .ok (.iconst (-1), 1) := by decide +kernel
theorem dX6_stick_16 : decode cX6_stick 16 = .ok (.ireturn, 1) := by decide +kernel
theorem dX6_stick_17 : decode cX6_stick 17 = .ok (.aload_n 0, 1) := by decide +kernel
theorem dX6_stick_18 : decode cX6_stick 18 = .ok (.iload_n 1, 1) := by decide +kernel
theorem dX6_stick_19 : decode cX6_stick 19 = .ok (.invokevirtual 121, 3) := by decide +kernel
theorem dX6_stick_22 : decode cX6_stick 22 = .ok (.aload_n 0, 1) := by decide +kernel
theorem dX6_stick_23 : decode cX6_stick 23 = .ok (.getfield 7, 3) := by decide +kernel
theorem dX6_stick_26 : decode cX6_stick 26 = .ok (.iconst 3, 1) := by decide +kernel
theorem dX6_stick_27 : decode cX6_stick 27 = .ok (.iaload, 1) := by decide +kernel
theorem dX6_stick_28 : decode cX6_stick 28 = .ok (.if_icmp .lt 6, 3) := by decide +kernel
theorem dX6_stick_31 : decode cX6_stick 31 = .ok (.bipush (-3), 2) := by decide +kernel
theorem dX6_stick_33 : decode cX6_stick 33 = .ok (.ireturn, 1) := by decide +kernel
theorem dX6_stick_34 : decode cX6_stick 34 = .ok (.aload_n 0, 1) := by decide +kernel
theorem dX6_stick_35 : decode cX6_stick 35 = .ok (.iload_n 2, 1) := by decide +kernel
theorem dX6_stick_36 : decode cX6_stick 36 = .ok (.iconst 3, 1) := by decide +kernel
theorem dX6_stick_37 : decode cX6_stick 37 = .ok (.iload_n 1, 1) := by decide +kernel
theorem dX6_stick_38 : decode cX6_stick 38 = .ok (.iadd, 1) := by decide +kernel
theorem dX6_stick_39 : decode cX6_stick 39 = .ok (.invokevirtual 47, 3) := by decide +kernel
theorem dX6_stick_42 : decode cX6_stick 42 = .ok (.aload_n 0, 1) := by decide +kernel
theorem dX6_stick_43 : decode cX6_stick 43 = .ok (.getfield 7, 3) := by decide +kernel
theorem dX6_stick_46 : decode cX6_stick 46 = .ok (.iconst 4, 1) := by decide +kernel
theorem dX6_stick_47 : decode cX6_stick 47 = .ok (.iaload, 1) := by decide +kernel
theorem dX6_stick_48 : decode cX6_stick 48 = .ok (.if_icmp .lt 6, 3) := by decide +kernel
theorem dX6_stick_51 : decode cX6_stick 51 = .ok (.bipush (-4), 2) := by decide +kernel
theorem dX6_stick_53 : decode cX6_stick 53 = .ok (.ireturn, 1) := by decide +kernel
theorem dX6_stick_54 : decode cX6_stick 54 = .ok (.aload_n 0, 1) := by decide +kernel
theorem dX6_stick_55 : decode cX6_stick 55 = .ok (.invokevirtual 92, 3) := by decide +kernel
theorem dX6_stick_58 : decode cX6_stick 58 = .ok (.aload_n 0, 1) := by decide +kernel
theorem dX6_stick_59 : decode cX6_stick 59 = .ok (.iload_n 2, 1) := by decide +kernel
theorem dX6_stick_60 : decode cX6_stick 60 = .ok (.iconst 3, 1) := by decide +kernel
theorem dX6_stick_61 : decode cX6_stick 61 = .ok (.iload_n 1, 1) := by decide +kernel
theorem dX6_stick_62 : decode cX6_stick 62 = .ok (.iadd, 1) := by decide +kernel
theorem dX6_stick_63 : decode cX6_stick 63 = .ok (.aload_n 0, 1) := by decide +kernel
theorem dX6_stick_64 : decode cX6_stick 64 = .ok (.iload_n 2, 1) := by decide +kernel
theorem dX6_stick_65 : decode cX6_stick 65 = .ok (.iconst 3, 1) := by decide +kernel
theorem dX6_stick_66 : decode cX6_stick 66 = .ok (.iload_n 1, 1) := by decide +kernel
theorem dX6_stick_67 : decode cX6_stick 67 = .ok (.iadd, 1) := by decide +kernel
theorem dX6_stick_68 : decode cX6_stick 68 = .ok (.invokevirtual 47, 3) := by decide +kernel
theorem dX6_stick_71 : decode cX6_stick 71 = .ok (.iconst 1, 1) := by decide +kernel
theorem dX6_stick_72 : decode cX6_stick 72 = .ok (.iadd, 1) := by decide +kernel
theorem dX6_stick_73 : decode cX6_stick 73 = .ok (.invokevirtual 71, 3) := by decide +kernel
theorem dX6_stick_76 : decode cX6_stick 76 = .ok (.aload_n 0, 1) := by decide +kernel
theorem dX6_stick_77 : decode cX6_stick 77 = .ok (.iload_n 2, 1) := by decide +kernel
theorem dX6_stick_78 : decode cX6_stick 78 = .ok (.invokevirtual 102, 3) := by decide +kernel
theorem dX6_stick_81 : decode cX6_stick 81 = .ok (.ireturn, 1) := by decide +kernel
set_option maxRecDepth 20000 in
theorem ggX6_unstick_X6_isPerson : GoodIn wsX6_unstick wsX6_isPerson := goodIn_r _ [4, 5, 6, 3, 7] (by decide +kernel) (by decide +kernel)
set_option maxRecDepth 20000 in
theorem gX6_unstick_X6_isPerson : GoodIn wsX6_unstick (va_wsS RX6 118 yX6_isPerson wsX6_isPerson) := goodIn_app (goodIn_of _ (by decide +kernel)) ggX6_unstick_X6_isPerson
set_option maxRecDepth 20000 in
theorem ggX6_unstick_X6_isNote : GoodIn wsX6_unstick wsX6_isNote := goodIn_r _ [11, 12, 5, 6, 3, 7, 34, 35, 36, 37, 38, 39, 40, 41, 42, 43, 44, 45, 46, 47, 48] (by decide +kernel) (by decide +kernel)
set_option maxRecDepth 20000 in
theorem gX6_unstick_X6_isNote : GoodIn wsX6_unstick (wsV RX6 98 RX6 yX6_isNote wsX6_isNote) := goodIn_app (goodIn_of _ (by decide +kernel)) ggX6_unstick_X6_isNote
set_option maxRecDepth 20000 in
theorem ggX6_unstick_X6_of : GoodIn wsX6_unstick wsX6_of := goodIn_r _ [16, 12, 34, 35, 36, 37, 38, 39, 40, 41, 42, 43, 44, 45, 46, 47, 48] (by decide +kernel) (by decide +kernel)
set_option maxRecDepth 20000 in
theorem gX6_unstick_X6_of : GoodIn wsX6_unstick (wsV RX6 47 RX6 yX6_of wsX6_of) := goodIn_app (goodIn_of _ (by decide +kernel)) ggX6_unstick_X6_of
set_option maxRecDepth 20000 in
theorem ggX6_unstick_X6_records : GoodIn wsX6_unstick wsX6_records := goodIn_r _ [20, 21, 22, 12, 23, 24, 3, 25, 34, 35, 36, 37, 38, 39, 40, 41, 42, 43, 44, 45, 46, 47, 48] (by decide +kernel) (by decide +kernel)
set_option maxRecDepth 20000 in
theorem gX6_unstick_X6_records : GoodIn wsX6_unstick (wsV RX6 92 RX6 yX6_records wsX6_records) := goodIn_app (goodIn_of _ (by decide +kernel)) ggX6_unstick_X6_records
set_option maxRecDepth 20000 in
theorem ggX6_unstick_X6_lays : GoodIn wsX6_unstick wsX6_lays := goodIn_r _ [29, 12, 34, 35, 36, 37, 38, 39, 40, 41, 42, 43, 44, 45, 46, 47, 48] (by decide +kernel) (by decide +kernel)
set_option maxRecDepth 20000 in
theorem gX6_unstick_X6_lays : GoodIn wsX6_unstick (wsV RX6 71 RX6 yX6_lays wsX6_lays) := goodIn_app (goodIn_of _ (by decide +kernel)) ggX6_unstick_X6_lays
set_option maxRecDepth 20000 in
theorem ggX6_unstick_X6_dotsOf : GoodIn wsX6_unstick wsX6_dotsOf := goodIn_r _ [33, 13, 14, 15, 3, 16, 12, 34, 35, 36, 37, 38, 39, 40, 41, 42, 43, 44, 45, 46, 47, 48] (by decide +kernel) (by decide +kernel)
set_option maxRecDepth 20000 in
theorem gX6_unstick_X6_dotsOf : GoodIn wsX6_unstick (wsV RX6 102 RX6 yX6_dotsOf wsX6_dotsOf) := goodIn_app (goodIn_of _ (by decide +kernel)) ggX6_unstick_X6_dotsOf
theorem dX6_unstick_0 : decode cX6_unstick 0 = .ok (.iload_n 1, 1) := by decide +kernel
theorem dX6_unstick_1 : decode cX6_unstick 1 = .ok (.invokestatic 118, 3) := by decide +kernel
theorem dX6_unstick_4 : decode cX6_unstick 4 = .ok (.ifCond .eq 11, 3) := by decide +kernel
theorem dX6_unstick_7 : decode cX6_unstick 7 = .ok (.aload_n 0, 1) := by decide +kernel
theorem dX6_unstick_8 : decode cX6_unstick 8 = .ok (.iload_n 2, 1) := by decide +kernel
theorem dX6_unstick_9 : decode cX6_unstick 9 = .ok (.invokevirtual 98, 3) := by decide +kernel
theorem dX6_unstick_12 : decode cX6_unstick 12 = .ok (.ifCond .ne 5, 3) := by decide +kernel
theorem dX6_unstick_15 : decode cX6_unstick 15 = .ok (.iconst (-1), 1) := by decide +kernel
theorem dX6_unstick_16 : decode cX6_unstick 16 = .ok (.ireturn, 1) := by decide +kernel
theorem dX6_unstick_17 : decode cX6_unstick 17 = .ok (.aload_n 0, 1) := by decide +kernel
theorem dX6_unstick_18 : decode cX6_unstick 18 = .ok (.iload_n 2, 1) := by decide +kernel
theorem dX6_unstick_19 : decode cX6_unstick 19 = .ok (.iconst 3, 1) := by decide +kernel
theorem dX6_unstick_20 : decode cX6_unstick 20 = .ok (.iload_n 1, 1) := by decide +kernel
theorem dX6_unstick_21 : decode cX6_unstick 21 = .ok (.iadd, 1) := by decide +kernel
theorem dX6_unstick_22 : decode cX6_unstick 22 = .ok (.invokevirtual 47, 3) := by decide +kernel
theorem dX6_unstick_25 : decode cX6_unstick 25 = .ok (.ifCond .ne 6, 3) := by decide +kernel
theorem dX6_unstick_28 : decode cX6_unstick 28 = .ok (.bipush (-4), 2) := by decide +kernel
theorem dX6_unstick_30 : decode cX6_unstick 30 = .ok (.ireturn, 1) := by decide +kernel
theorem dX6_unstick_31 : decode cX6_unstick 31 = .ok (.aload_n 0, 1) := by decide +kernel
theorem dX6_unstick_32 : decode cX6_unstick 32 = .ok (.invokevirtual 92, 3) := by decide +kernel
theorem dX6_unstick_35 : decode cX6_unstick 35 = .ok (.aload_n 0, 1) := by decide +kernel
theorem dX6_unstick_36 : decode cX6_unstick 36 = .ok (.iload_n 2, 1) := by decide +kernel
theorem dX6_unstick_37 : decode cX6_unstick 37 = .ok (.iconst 3, 1) := by decide +kernel
theorem dX6_unstick_38 : decode cX6_unstick 38 = .ok (.iload_n 1, 1) := by decide +kernel
theorem dX6_unstick_39 : decode cX6_unstick 39 = .ok (.iadd, 1) := by decide +kernel
theorem dX6_unstick_40 : decode cX6_unstick 40 = .ok (.aload_n 0, 1) := by decide +kernel
theorem dX6_unstick_41 : decode cX6_unstick 41 = .ok (.iload_n 2, 1) := by decide +kernel
theorem dX6_unstick_42 : decode cX6_unstick 42 = .ok (.iconst 3, 1) := by decide +kernel
theorem dX6_unstick_43 : decode cX6_unstick 43 = .ok (.iload_n 1, 1) := by decide +kernel
theorem dX6_unstick_44 : decode cX6_unstick 44 = .ok (.iadd, 1) := by decide +kernel
theorem dX6_unstick_45 : decode cX6_unstick 45 = .ok (.invokevirtual 47, 3) := by decide +kernel
theorem dX6_unstick_48 : decode cX6_unstick 48 = .ok (.iconst 1, 1) := by decide +kernel
theorem dX6_unstick_49 : decode cX6_unstick 49 = .ok (.isub, 1) := by decide +kernel
theorem dX6_unstick_50 : decode cX6_unstick 50 = .ok (.invokevirtual 71, 3) := by decide +kernel
theorem dX6_unstick_53 : decode cX6_unstick 53 = .ok (.aload_n 0, 1) := by decide +kernel
theorem dX6_unstick_54 : decode cX6_unstick 54 = .ok (.iload_n 2, 1) := by decide +kernel
theorem dX6_unstick_55 : decode cX6_unstick 55 = .ok (.invokevirtual 102, 3) := by decide +kernel
theorem dX6_unstick_58 : decode cX6_unstick 58 = .ok (.ireturn, 1) := by decide +kernel
set_option maxRecDepth 20000 in
theorem ggX6_without_X6_themeOf : GoodIn wsX6_without wsX6_themeOf := goodIn_r _ [7, 8, 9, 10, 6, 11, 1, 12, 13, 14, 15, 16, 17, 18, 19, 20, 21, 22, 23, 24, 25, 26] (by decide +kernel) (by decide +kernel)
set_option maxRecDepth 20000 in
theorem gX6_without_X6_themeOf : GoodIn wsX6_without (wsV RX6 68 RX6 yX6_themeOf wsX6_themeOf) := goodIn_app (goodIn_of _ (by decide +kernel)) ggX6_without_X6_themeOf
theorem dX6_without_0 : decode cX6_without 0 = .ok (.iconst 0, 1) := by decide +kernel
theorem dX6_without_1 : decode cX6_without 1 = .ok (.istore_n 2, 1) := by decide +kernel
theorem dX6_without_2 : decode cX6_without 2 = .ok (.iconst 0, 1) := by decide +kernel
theorem dX6_without_3 : decode cX6_without 3 = .ok (.istore_n 3, 1) := by decide +kernel
theorem dX6_without_4 : decode cX6_without 4 = .ok (.iload_n 3, 1) := by decide +kernel
theorem dX6_without_5 : decode cX6_without 5 = .ok (.aload_n 0, 1) := by decide +kernel
theorem dX6_without_6 : decode cX6_without 6 = .ok (.getfield 7, 3) := by decide +kernel
theorem dX6_without_9 : decode cX6_without 9 = .ok (.iconst 0, 1) := by decide +kernel
theorem dX6_without_10 : decode cX6_without 10 = .ok (.iaload, 1) := by decide +kernel
theorem dX6_without_11 : decode cX6_without 11 = .ok (.if_icmp .ge 35, 3) := by decide +kernel
theorem dX6_without_14 : decode cX6_without 14 = .ok (.iload_n 2, 1) := by decide +kernel
theorem dX6_without_15 : decode cX6_without 15 = .ok (.aload_n 0, 1) := by decide +kernel
theorem dX6_without_16 : decode cX6_without 16 = .ok (.getfield 23, 3) := by decide +kernel
theorem dX6_without_19 : decode cX6_without 19 = .ok (.iload_n 3, 1) := by decide +kernel
theorem dX6_without_20 : decode cX6_without 20 = .ok (.iaload, 1) := by decide +kernel
theorem dX6_without_21 : decode cX6_without 21 = .ok (.iload_n 1, 1) := by decide +kernel
theorem dX6_without_22 : decode cX6_without 22 = .ok (.if_icmp .ne 15, 3) := by decide +kernel
theorem dX6_without_25 : decode cX6_without 25 = .ok (.aload_n 0, 1) := by decide +kernel
theorem dX6_without_26 : decode cX6_without 26 = .ok (.iload_n 3, 1) := by decide +kernel
theorem dX6_without_27 : decode cX6_without 27 = .ok (.invokevirtual 68, 3) := by decide +kernel
theorem dX6_without_30 : decode cX6_without 30 = .ok (.ifCond .ge 7, 3) := by decide +kernel
theorem dX6_without_33 : decode cX6_without 33 = .ok (.iconst 1, 1) := by decide +kernel
theorem dX6_without_34 : decode cX6_without 34 = .ok (.goto 4, 3) := by decide +kernel
theorem dX6_without_37 : decode cX6_without 37 = .ok (.iconst 0, 1) := by decide +kernel
theorem dX6_without_38 : decode cX6_without 38 = .ok (.iadd, 1) := by decide +kernel
theorem dX6_without_39 : decode cX6_without 39 = .ok (.istore_n 2, 1) := by decide +kernel
theorem dX6_without_40 : decode cX6_without 40 = .ok (.iinc 3 1, 3) := by decide +kernel
theorem dX6_without_43 : decode cX6_without 43 = .ok (.goto (-39), 3) := by decide +kernel
theorem dX6_without_46 : decode cX6_without 46 = .ok (.iload_n 2, 1) := by decide +kernel
theorem dX6_without_47 : decode cX6_without 47 = .ok (.ireturn, 1) := by decide +kernel
set_option maxRecDepth 20000 in
theorem ggX6_make_X6_laysNow : GoodIn wsX6_make wsX6_laysNow := goodIn_r _ [7, 1, 8, 9, 10, 6, 11, 12, 2, 13, 14, 15, 16, 17, 18, 19, 20, 21, 22, 23, 24, 25, 26, 27, 28, 53, 54, 55, 56, 57, 58, 59, 60, 61, 62, 63, 64, 65, 66, 67] (by decide +kernel) (by decide +kernel)
set_option maxRecDepth 20000 in
theorem gX6_make_X6_laysNow : GoodIn wsX6_make (wsV RX6 111 RX6 yX6_laysNow wsX6_laysNow) := goodIn_app (goodIn_of _ (by decide +kernel)) ggX6_make_X6_laysNow
set_option maxRecDepth 20000 in
theorem ggX6_make_X6_in : GoodIn wsX6_make wsX6_in := goodIn_r _ [31] (by decide +kernel) (by decide +kernel)
set_option maxRecDepth 20000 in
theorem gX6_make_X6_in : GoodIn wsX6_make (va_wsS RX6 43 yX6_in wsX6_in) := goodIn_app (goodIn_of _ (by decide +kernel)) ggX6_make_X6_in
set_option maxRecDepth 20000 in
theorem ggX6_make_X6_without : GoodIn wsX6_make wsX6_without := goodIn_r _ [35, 1, 2, 36, 37, 38, 6, 39, 22, 23, 24, 25, 53, 54, 55, 56, 57, 58, 59, 60, 61, 62, 63, 64, 65, 66, 67] (by decide +kernel) (by decide +kernel)
set_option maxRecDepth 20000 in
theorem gX6_make_X6_without : GoodIn wsX6_make (wsV RX6 124 RX6 yX6_without wsX6_without) := goodIn_app (goodIn_of _ (by decide +kernel)) ggX6_make_X6_without
set_option maxRecDepth 20000 in
theorem ggX6_make_X6_records : GoodIn wsX6_make wsX6_records := goodIn_r _ [43, 44, 45, 1, 46, 47, 6, 48, 53, 54, 55, 56, 57, 58, 59, 60, 61, 62, 63, 64, 65, 66, 67] (by decide +kernel) (by decide +kernel)
set_option maxRecDepth 20000 in
theorem gX6_make_X6_records : GoodIn wsX6_make (wsV RX6 92 RX6 yX6_records wsX6_records) := goodIn_app (goodIn_of _ (by decide +kernel)) ggX6_make_X6_records
set_option maxRecDepth 20000 in
theorem ggX6_make_X6_themeOf : GoodIn wsX6_make wsX6_themeOf := goodIn_r _ [39, 22, 23, 24, 6, 25, 1, 53, 54, 55, 56, 57, 58, 59, 60, 61, 62, 63, 64, 65, 66, 67] (by decide +kernel) (by decide +kernel)
set_option maxRecDepth 20000 in
theorem gX6_make_X6_themeOf : GoodIn wsX6_make (wsV RX6 68 RX6 yX6_themeOf wsX6_themeOf) := goodIn_app (goodIn_of _ (by decide +kernel)) ggX6_make_X6_themeOf
set_option maxRecDepth 20000 in
theorem ggX6_make_X6_lays : GoodIn wsX6_make wsX6_lays := goodIn_r _ [52, 1, 53, 54, 55, 56, 57, 58, 59, 60, 61, 62, 63, 64, 65, 66, 67] (by decide +kernel) (by decide +kernel)
set_option maxRecDepth 20000 in
theorem gX6_make_X6_lays : GoodIn wsX6_make (wsV RX6 71 RX6 yX6_lays wsX6_lays) := goodIn_app (goodIn_of _ (by decide +kernel)) ggX6_make_X6_lays
theorem dX6_make_0 : decode cX6_make 0 = .ok (.iload_n 1, 1) := by decide +kernel
theorem dX6_make_1 : decode cX6_make 1 = .ok (.iconst 0, 1) := by decide +kernel
theorem dX6_make_2 : decode cX6_make 2 = .ok (.aload_n 0, 1) := by decide +kernel
theorem dX6_make_3 : decode cX6_make 3 = .ok (.invokevirtual 111, 3) := by decide +kernel
theorem dX6_make_6 : decode cX6_make 6 = .ok (.iconst 1, 1) := by decide +kernel
theorem dX6_make_7 : decode cX6_make 7 = .ok (.isub, 1) := by decide +kernel
theorem dX6_make_8 : decode cX6_make 8 = .ok (.invokestatic 43, 3) := by decide +kernel
theorem dX6_make_11 : decode cX6_make 11 = .ok (.ifCond .ne 5, 3) := by decide +kernel
theorem dX6_make_14 : decode cX6_make 14 = .ok (.iconst (-1), 1) := by decide +kernel
theorem dX6_make_15 : decode cX6_make 15 = .ok (.ireturn, 1) := by decide +kernel
theorem dX6_make_16 : decode cX6_make 16 = .ok (.aload_n 0, 1) := by decide +kernel
theorem dX6_make_17 : decode cX6_make 17 = .ok (.iload_n 1, 1) := by decide +kernel
theorem dX6_make_18 : decode cX6_make 18 = .ok (.invokevirtual 124, 3) := by decide +kernel
theorem dX6_make_21 : decode cX6_make 21 = .ok (.ifCond .ne 6, 3) := by decide +kernel
theorem dX6_make_24 : decode cX6_make 24 = .ok (.bipush (-4), 2) := by decide +kernel
theorem dX6_make_26 : decode cX6_make 26 = .ok (.ireturn, 1) := by decide +kernel
theorem dX6_make_27 : decode cX6_make 27 = .ok (.aload_n 0, 1) := by decide +kernel
theorem dX6_make_28 : decode cX6_make 28 = .ok (.getfield 7, 3) := by decide +kernel
theorem dX6_make_31 : decode cX6_make 31 = .ok (.iconst 1, 1) := by decide +kernel
theorem dX6_make_32 : decode cX6_make 32 = .ok (.iaload, 1) := by decide +kernel
theorem dX6_make_33 : decode cX6_make 33 = .ok (.bipush 8, 2) := by decide +kernel
theorem dX6_make_35 : decode cX6_make 35 = .ok (.if_icmp .ne 6, 3) := by decide +kernel
theorem dX6_make_38 : decode cX6_make 38 = .ok (.bipush (-3), 2) := by decide +kernel
theorem dX6_make_40 : decode cX6_make 40 = .ok (.ireturn, 1) := by decide +kernel
theorem dX6_make_41 : decode cX6_make 41 = .ok (.aload_n 0, 1) := by decide +kernel
theorem dX6_make_42 : decode cX6_make 42 = .ok (.invokevirtual 92, 3) := by decide +kernel
theorem dX6_make_45 : decode cX6_make 45 = .ok (.iconst 0, 1) := by decide +kernel
theorem dX6_make_46 : decode cX6_make 46 = .ok (.istore_n 2, 1) := by decide +kernel
theorem dX6_make_47 : decode cX6_make 47 = .ok (.iload_n 2, 1) := by decide +kernel
theorem dX6_make_48 : decode cX6_make 48 = .ok (.aload_n 0, 1) := by decide +kernel
theorem dX6_make_49 : decode cX6_make 49 = .ok (.getfield 7, 3) := by decide +kernel
theorem dX6_make_52 : decode cX6_make 52 = .ok (.iconst 0, 1) := by decide +kernel
theorem dX6_make_53 : decode cX6_make 53 = .ok (.iaload, 1) := by decide +kernel
theorem dX6_make_54 : decode cX6_make 54 = .ok (.if_icmp .ge 41, 3) := by decide +kernel
theorem dX6_make_57 : decode cX6_make 57 = .ok (.aload_n 0, 1) := by decide +kernel
theorem dX6_make_58 : decode cX6_make 58 = .ok (.getfield 23, 3) := by decide +kernel
theorem dX6_make_61 : decode cX6_make 61 = .ok (.iload_n 2, 1) := by decide +kernel
theorem dX6_make_62 : decode cX6_make 62 = .ok (.iaload, 1) := by decide +kernel
theorem dX6_make_63 : decode cX6_make 63 = .ok (.iload_n 1, 1) := by decide +kernel
theorem dX6_make_64 : decode cX6_make 64 = .ok (.if_icmp .ne 25, 3) := by decide +kernel
theorem dX6_make_67 : decode cX6_make 67 = .ok (.aload_n 0, 1) := by decide +kernel
theorem dX6_make_68 : decode cX6_make 68 = .ok (.iload_n 2, 1) := by decide +kernel
theorem dX6_make_69 : decode cX6_make 69 = .ok (.invokevirtual 68, 3) := by decide +kernel
theorem dX6_make_72 : decode cX6_make 72 = .ok (.ifCond .ge 17, 3) := by decide +kernel
theorem dX6_make_75 : decode cX6_make 75 = .ok (.aload_n 0, 1) := by decide +kernel
theorem dX6_make_76 : decode cX6_make 76 = .ok (.iload_n 2, 1) := by decide +kernel
theorem dX6_make_77 : decode cX6_make 77 = .ok (.iconst 2, 1) := by decide +kernel
theorem dX6_make_78 : decode cX6_make 78 = .ok (.aload_n 0, 1) := by decide +kernel
theorem dX6_make_79 : decode cX6_make 79 = .ok (.getfield 7, 3) := by decide +kernel
theorem dX6_make_82 : decode cX6_make 82 = .ok (.iconst 1, 1) := by decide +kernel
theorem dX6_make_83 : decode cX6_make 83 = .ok (.iaload, 1) := by decide +kernel
theorem dX6_make_84 : decode cX6_make 84 = .ok (.iconst 1, 1) := by decide +kernel
theorem dX6_make_85 : decode cX6_make 85 = .ok (.iadd, 1) := by decide +kernel
theorem dX6_make_86 : decode cX6_make 86 = .ok (.invokevirtual 71, 3) := by decide +kernel
theorem dX6_make_89 : decode cX6_make 89 = .ok (.iinc 2 1, 3) := by decide +kernel
theorem dX6_make_92 : decode cX6_make 92 = .ok (.goto (-45), 3) := by decide +kernel
theorem dX6_make_95 : decode cX6_make 95 = .ok (.iconst 0, 1) := by decide +kernel
theorem dX6_make_96 : decode cX6_make 96 = .ok (.istore_n 2, 1) := by decide +kernel
theorem dX6_make_97 : decode cX6_make 97 = .ok (.iload_n 2, 1) := by decide +kernel
theorem dX6_make_98 : decode cX6_make 98 = .ok (.bipush 6, 2) := by decide +kernel
theorem dX6_make_100 : decode cX6_make 100 = .ok (.if_icmp .ge 30, 3) := by decide +kernel
theorem dX6_make_103 : decode cX6_make 103 = .ok (.aload_n 0, 1) := by decide +kernel
theorem dX6_make_104 : decode cX6_make 104 = .ok (.getfield 7, 3) := by decide +kernel
theorem dX6_make_107 : decode cX6_make 107 = .ok (.sipush 185, 3) := by decide +kernel
theorem dX6_make_110 : decode cX6_make 110 = .ok (.bipush 6, 2) := by decide +kernel
theorem dX6_make_112 : decode cX6_make 112 = .ok (.aload_n 0, 1) := by decide +kernel
theorem dX6_make_113 : decode cX6_make 113 = .ok (.getfield 7, 3) := by decide +kernel
theorem dX6_make_116 : decode cX6_make 116 = .ok (.iconst 1, 1) := by decide +kernel
theorem dX6_make_117 : decode cX6_make 117 = .ok (.iaload, 1) := by decide +kernel
theorem dX6_make_118 : decode cX6_make 118 = .ok (.imul, 1) := by decide +kernel
theorem dX6_make_119 : decode cX6_make 119 = .ok (.iadd, 1) := by decide +kernel
theorem dX6_make_120 : decode cX6_make 120 = .ok (.iload_n 2, 1) := by decide +kernel
theorem dX6_make_121 : decode cX6_make 121 = .ok (.iadd, 1) := by decide +kernel
theorem dX6_make_122 : decode cX6_make 122 = .ok (.iconst 0, 1) := by decide +kernel
theorem dX6_make_123 : decode cX6_make 123 = .ok (.iastore, 1) := by decide +kernel
theorem dX6_make_124 : decode cX6_make 124 = .ok (.iinc 2 1, 3) := by decide +kernel
theorem dX6_make_127 : decode cX6_make 127 = .ok (.goto (-30), 3) := by decide +kernel
theorem dX6_make_130 : decode cX6_make 130 = .ok (.aload_n 0, 1) := by decide +kernel
theorem dX6_make_131 : decode cX6_make 131 = .ok (.getfield 7, 3) := by decide +kernel
theorem dX6_make_134 : decode cX6_make 134 = .ok (.iconst 1, 1) := by decide +kernel
theorem dX6_make_135 : decode cX6_make 135 = .ok (.dup2, 1) := by decide +kernel
theorem dX6_make_136 : decode cX6_make 136 = .ok (.iaload, 1) := by decide +kernel
theorem dX6_make_137 : decode cX6_make 137 = .ok (.iconst 1, 1) := by decide +kernel
theorem dX6_make_138 : decode cX6_make 138 = .ok (.iadd, 1) := by decide +kernel
theorem dX6_make_139 : decode cX6_make 139 = .ok (.iastore, 1) := by decide +kernel
theorem dX6_make_140 : decode cX6_make 140 = .ok (.aload_n 0, 1) := by decide +kernel
theorem dX6_make_141 : decode cX6_make 141 = .ok (.getfield 7, 3) := by decide +kernel
theorem dX6_make_144 : decode cX6_make 144 = .ok (.iconst 1, 1) := by decide +kernel
theorem dX6_make_145 : decode cX6_make 145 = .ok (.iaload, 1) := by decide +kernel
theorem dX6_make_146 : decode cX6_make 146 = .ok (.iconst 1, 1) := by decide +kernel
theorem dX6_make_147 : decode cX6_make 147 = .ok (.isub, 1) := by decide +kernel
theorem dX6_make_148 : decode cX6_make 148 = .ok (.ireturn, 1) := by decide +kernel
set_option maxRecDepth 20000 in
theorem ggX6_merge_X6_isTheme : GoodIn wsX6_merge wsX6_isTheme := goodIn_r _ [6, 1, 7, 8, 5, 9, 39, 40, 41, 42, 43, 44, 45, 46, 47, 48, 49, 50, 51, 52, 53] (by decide +kernel) (by decide +kernel)
set_option maxRecDepth 20000 in
theorem gX6_merge_X6_isTheme : GoodIn wsX6_merge (wsV RX6 127 RX6 yX6_isTheme wsX6_isTheme) := goodIn_app (goodIn_of _ (by decide +kernel)) ggX6_merge_X6_isTheme
set_option maxRecDepth 20000 in
theorem ggX6_merge_X6_records : GoodIn wsX6_merge wsX6_records := goodIn_r _ [13, 14, 15, 1, 16, 17, 5, 18, 39, 40, 41, 42, 43, 44, 45, 46, 47, 48, 49, 50, 51, 52, 53] (by decide +kernel) (by decide +kernel)
set_option maxRecDepth 20000 in
theorem gX6_merge_X6_records : GoodIn wsX6_merge (wsV RX6 92 RX6 yX6_records wsX6_records) := goodIn_app (goodIn_of _ (by decide +kernel)) ggX6_merge_X6_records
set_option maxRecDepth 20000 in
theorem ggX6_merge_X6_themeOf : GoodIn wsX6_merge wsX6_themeOf := goodIn_r _ [22, 23, 24, 25, 5, 26, 1, 39, 40, 41, 42, 43, 44, 45, 46, 47, 48, 49, 50, 51, 52, 53] (by decide +kernel) (by decide +kernel)
set_option maxRecDepth 20000 in
theorem gX6_merge_X6_themeOf : GoodIn wsX6_merge (wsV RX6 68 RX6 yX6_themeOf wsX6_themeOf) := goodIn_app (goodIn_of _ (by decide +kernel)) ggX6_merge_X6_themeOf
set_option maxRecDepth 20000 in
theorem ggX6_merge_X6_of : GoodIn wsX6_merge wsX6_of := goodIn_r _ [26, 1, 39, 40, 41, 42, 43, 44, 45, 46, 47, 48, 49, 50, 51, 52, 53] (by decide +kernel) (by decide +kernel)
set_option maxRecDepth 20000 in
theorem gX6_merge_X6_of : GoodIn wsX6_merge (wsV RX6 47 RX6 yX6_of wsX6_of) := goodIn_app (goodIn_of _ (by decide +kernel)) ggX6_merge_X6_of
set_option maxRecDepth 20000 in
theorem ggX6_merge_X6_lays : GoodIn wsX6_merge wsX6_lays := goodIn_r _ [30, 1, 39, 40, 41, 42, 43, 44, 45, 46, 47, 48, 49, 50, 51, 52, 53] (by decide +kernel) (by decide +kernel)
set_option maxRecDepth 20000 in
theorem gX6_merge_X6_lays : GoodIn wsX6_merge (wsV RX6 71 RX6 yX6_lays wsX6_lays) := goodIn_app (goodIn_of _ (by decide +kernel)) ggX6_merge_X6_lays
set_option maxRecDepth 20000 in
theorem ggX6_merge_X6_dropsTheme : GoodIn wsX6_merge wsX6_dropsTheme := goodIn_r _ [34, 1, 23, 24, 25, 5, 26, 19, 20, 21, 22, 27, 28, 29, 30, 39, 40, 41, 42, 43, 44, 45, 46, 47, 48, 49, 50, 51, 52, 53] (by decide +kernel) (by decide +kernel)
set_option maxRecDepth 20000 in
theorem gX6_merge_X6_dropsTheme : GoodIn wsX6_merge (wsV RX6 78 RX6 yX6_dropsTheme wsX6_dropsTheme) := goodIn_app (goodIn_of _ (by decide +kernel)) ggX6_merge_X6_dropsTheme
set_option maxRecDepth 20000 in
theorem ggX6_merge_X6_notesOf : GoodIn wsX6_merge wsX6_notesOf := goodIn_r _ [38, 1, 19, 20, 21, 5, 22, 23, 24, 25, 26, 39, 40, 41, 42, 43, 44, 45, 46, 47, 48, 49, 50, 51, 52, 53] (by decide +kernel) (by decide +kernel)
set_option maxRecDepth 20000 in
theorem gX6_merge_X6_notesOf : GoodIn wsX6_merge (wsV RX6 75 RX6 yX6_notesOf wsX6_notesOf) := goodIn_app (goodIn_of _ (by decide +kernel)) ggX6_merge_X6_notesOf
theorem dX6_merge_0 : decode cX6_merge 0 = .ok (.aload_n 0, 1) := by decide +kernel
theorem dX6_merge_1 : decode cX6_merge 1 = .ok (.iload_n 1, 1) := by decide +kernel
theorem dX6_merge_2 : decode cX6_merge 2 = .ok (.invokevirtual 127, 3) := by decide +kernel
theorem dX6_merge_5 : decode cX6_merge 5 = .ok (.ifCond .eq 11, 3) := by decide +kernel
theorem dX6_merge_8 : decode cX6_merge 8 = .ok (.aload_n 0, 1) := by decide +kernel
theorem dX6_merge_9 : decode cX6_merge 9 = .ok (.iload_n 2, 1) := by decide +kernel
theorem dX6_merge_10 : decode cX6_merge 10 = .ok (.invokevirtual 127, 3) := by decide +kernel
theorem dX6_merge_13 : decode cX6_merge 13 = .ok (.ifCond .ne 5, 3) := by decide +kernel
theorem dX6_merge_16 : decode cX6_merge 16 = .ok (.iconst (-1), 1) := by decide +kernel
theorem dX6_merge_17 : decode cX6_merge 17 = .ok (.ireturn, 1) := by decide +kernel
theorem dX6_merge_18 : decode cX6_merge 18 = .ok (.iload_n 1, 1) := by decide +kernel
theorem dX6_merge_19 : decode cX6_merge 19 = .ok (.iload_n 2, 1) := by decide +kernel
theorem dX6_merge_20 : decode cX6_merge 20 = .ok (.if_icmp .ne 6, 3) := by decide +kernel
theorem dX6_merge_23 : decode cX6_merge 23 = .ok (.bipush (-2), 2) := by decide +kernel
theorem dX6_merge_25 : decode cX6_merge 25 = .ok (.ireturn, 1) := by decide +kernel
theorem dX6_merge_26 : decode cX6_merge 26 = .ok (.aload_n 0, 1) := by decide +kernel
theorem dX6_merge_27 : decode cX6_merge 27 = .ok (.invokevirtual 92, 3) := by decide +kernel
theorem dX6_merge_30 : decode cX6_merge 30 = .ok (.iconst 0, 1) := by decide +kernel
theorem dX6_merge_31 : decode cX6_merge 31 = .ok (.istore_n 3, 1) := by decide +kernel
theorem dX6_merge_32 : decode cX6_merge 32 = .ok (.iload_n 3, 1) := by decide +kernel
theorem dX6_merge_33 : decode cX6_merge 33 = .ok (.aload_n 0, 1) := by decide +kernel
theorem dX6_merge_34 : decode cX6_merge 34 = .ok (.getfield 7, 3) := by decide +kernel
theorem dX6_merge_37 : decode cX6_merge 37 = .ok (.iconst 0, 1) := by decide +kernel
theorem dX6_merge_38 : decode cX6_merge 38 = .ok (.iaload, 1) := by decide +kernel
theorem dX6_merge_39 : decode cX6_merge 39 = .ok (.if_icmp .ge 36, 3) := by decide +kernel
theorem dX6_merge_42 : decode cX6_merge 42 = .ok (.aload_n 0, 1) := by decide +kernel
theorem dX6_merge_43 : decode cX6_merge 43 = .ok (.iload_n 3, 1) := by decide +kernel
theorem dX6_merge_44 : decode cX6_merge 44 = .ok (.iconst 2, 1) := by decide +kernel
theorem dX6_merge_45 : decode cX6_merge 45 = .ok (.aload_n 0, 1) := by decide +kernel
theorem dX6_merge_46 : decode cX6_merge 46 = .ok (.iload_n 3, 1) := by decide +kernel
theorem dX6_merge_47 : decode cX6_merge 47 = .ok (.invokevirtual 68, 3) := by decide +kernel
theorem dX6_merge_50 : decode cX6_merge 50 = .ok (.iload_n 2, 1) := by decide +kernel
theorem dX6_merge_51 : decode cX6_merge 51 = .ok (.if_icmp .ne 9, 3) := by decide +kernel
theorem dX6_merge_54 : decode cX6_merge 54 = .ok (.iload_n 1, 1) := by decide +kernel
theorem dX6_merge_55 : decode cX6_merge 55 = .ok (.iconst 1, 1) := by decide +kernel
theorem dX6_merge_56 : decode cX6_merge 56 = .ok (.iadd, 1) := by decide +kernel
theorem dX6_merge_57 : decode cX6_merge 57 = .ok (.goto 9, 3) := by decide +kernel
theorem dX6_merge_60 : decode cX6_merge 60 = .ok (.aload_n 0, 1) := by decide +kernel
theorem dX6_merge_61 : decode cX6_merge 61 = .ok (.iload_n 3, 1) := by decide +kernel
theorem dX6_merge_62 : decode cX6_merge 62 = .ok (.iconst 2, 1) := by decide +kernel
theorem dX6_merge_63 : decode cX6_merge 63 = .ok (.invokevirtual 47, 3) := by decide +kernel
theorem dX6_merge_66 : decode cX6_merge 66 = .ok (.invokevirtual 71, 3) := by decide +kernel
theorem dX6_merge_69 : decode cX6_merge 69 = .ok (.iinc 3 1, 3) := by decide +kernel
theorem dX6_merge_72 : decode cX6_merge 72 = .ok (.goto (-40), 3) := by decide +kernel
theorem dX6_merge_75 : decode cX6_merge 75 = .ok (.iconst 0, 1) := by decide +kernel
theorem dX6_merge_76 : decode cX6_merge 76 = .ok (.istore_n 3, 1) := by decide +kernel
theorem dX6_merge_77 : decode cX6_merge 77 = .ok (.iload_n 3, 1) := by decide +kernel
theorem dX6_merge_78 : decode cX6_merge 78 = .ok (.bipush 6, 2) := by decide +kernel
theorem dX6_merge_80 : decode cX6_merge 80 = .ok (.if_icmp .ge 63, 3) := by decide +kernel
theorem dX6_merge_83 : decode cX6_merge 83 = .ok (.sipush 185, 3) := by decide +kernel
theorem dX6_merge_86 : decode cX6_merge 86 = .ok (.bipush 6, 2) := by decide +kernel
theorem dX6_merge_88 : decode cX6_merge 88 = .ok (.iload_n 1, 1) := by decide +kernel
theorem dX6_merge_89 : decode cX6_merge 89 = .ok (.imul, 1) := by decide +kernel
theorem dX6_merge_90 : decode cX6_merge 90 = .ok (.iadd, 1) := by decide +kernel
theorem dX6_merge_91 : decode cX6_merge 91 = .ok (.iload_n 3, 1) := by decide +kernel
theorem dX6_merge_92 : decode cX6_merge 92 = .ok (.iadd, 1) := by decide +kernel
theorem dX6_merge_93 : decode cX6_merge 93 = .ok (.istore 4, 2) := by decide +kernel
theorem dX6_merge_95 : decode cX6_merge 95 = .ok (.aload_n 0, 1) := by decide +kernel
theorem dX6_merge_96 : decode cX6_merge 96 = .ok (.getfield 7, 3) := by decide +kernel
theorem dX6_merge_99 : decode cX6_merge 99 = .ok (.iload 4, 2) := by decide +kernel
theorem dX6_merge_101 : decode cX6_merge 101 = .ok (.aload_n 0, 1) := by decide +kernel
theorem dX6_merge_102 : decode cX6_merge 102 = .ok (.getfield 7, 3) := by decide +kernel
theorem dX6_merge_105 : decode cX6_merge 105 = .ok (.iload 4, 2) := by decide +kernel
theorem dX6_merge_107 : decode cX6_merge 107 = .ok (.iaload, 1) := by decide +kernel
theorem dX6_merge_108 : decode cX6_merge 108 = .ok (.ifCond .le 13, 3) := by decide +kernel
theorem dX6_merge_111 : decode cX6_merge 111 = .ok (.aload_n 0, 1) := by decide +kernel
theorem dX6_merge_112 : decode cX6_merge 112 = .ok (.getfield 7, 3) := by decide +kernel
theorem dX6_merge_115 : decode cX6_merge 115 = .ok (.iload 4, 2) := by decide +kernel
theorem dX6_merge_117 : decode cX6_merge 117 = .ok (.iaload, 1) := by decide +kernel
theorem dX6_merge_118 : decode cX6_merge 118 = .ok (.goto 18, 3) := by decide +kernel
theorem dX6_merge_121 : decode cX6_merge 121 = .ok (.aload_n 0, 1) := by decide +kernel
theorem dX6_merge_122 : decode cX6_merge 122 = .ok (.getfield 7, 3) := by decide +kernel
theorem dX6_merge_125 : decode cX6_merge 125 = .ok (.sipush 185, 3) := by decide +kernel
theorem dX6_merge_128 : decode cX6_merge 128 = .ok (.bipush 6, 2) := by decide +kernel
theorem dX6_merge_130 : decode cX6_merge 130 = .ok (.iload_n 2, 1) := by decide +kernel
theorem dX6_merge_131 : decode cX6_merge 131 = .ok (.imul, 1) := by decide +kernel
theorem dX6_merge_132 : decode cX6_merge 132 = .ok (.iadd, 1) := by decide +kernel
theorem dX6_merge_133 : decode cX6_merge 133 = .ok (.iload_n 3, 1) := by decide +kernel
theorem dX6_merge_134 : decode cX6_merge 134 = .ok (.iadd, 1) := by decide +kernel
theorem dX6_merge_135 : decode cX6_merge 135 = .ok (.iaload, 1) := by decide +kernel
theorem dX6_merge_136 : decode cX6_merge 136 = .ok (.iastore, 1) := by decide +kernel
theorem dX6_merge_137 : decode cX6_merge 137 = .ok (.iinc 3 1, 3) := by decide +kernel
theorem dX6_merge_140 : decode cX6_merge 140 = .ok (.goto (-63), 3) := by decide +kernel
theorem dX6_merge_143 : decode cX6_merge 143 = .ok (.aload_n 0, 1) := by decide +kernel
theorem dX6_merge_144 : decode cX6_merge 144 = .ok (.iload_n 2, 1) := by decide +kernel
theorem dX6_merge_145 : decode cX6_merge 145 = .ok (.invokevirtual 78, 3) := by decide +kernel
theorem dX6_merge_148 : decode cX6_merge 148 = .ok (.aload_n 0, 1) := by decide +kernel
theorem dX6_merge_149 : decode cX6_merge 149 = .ok (.iload_n 2, 1) := by decide +kernel
theorem dX6_merge_150 : decode cX6_merge 150 = .ok (.iload_n 1, 1) := by decide +kernel
theorem dX6_merge_151 : decode cX6_merge 151 = .ok (.if_icmp .ge 9, 3) := by decide +kernel
theorem dX6_merge_154 : decode cX6_merge 154 = .ok (.iload_n 1, 1) := by decide +kernel
theorem dX6_merge_155 : decode cX6_merge 155 = .ok (.iconst 1, 1) := by decide +kernel
theorem dX6_merge_156 : decode cX6_merge 156 = .ok (.isub, 1) := by decide +kernel
theorem dX6_merge_157 : decode cX6_merge 157 = .ok (.goto 4, 3) := by decide +kernel
theorem dX6_merge_160 : decode cX6_merge 160 = .ok (.iload_n 1, 1) := by decide +kernel
theorem dX6_merge_161 : decode cX6_merge 161 = .ok (.invokevirtual 75, 3) := by decide +kernel
theorem dX6_merge_164 : decode cX6_merge 164 = .ok (.ireturn, 1) := by decide +kernel
set_option maxRecDepth 20000 in
theorem ggX6_belong_X6_isNote : GoodIn wsX6_belong wsX6_isNote := goodIn_r _ [6, 1, 7, 8, 5, 9, 47, 48, 49, 50, 51, 52, 53, 54, 55, 56, 57, 58, 59, 60, 61] (by decide +kernel) (by decide +kernel)
set_option maxRecDepth 20000 in
theorem gX6_belong_X6_isNote : GoodIn wsX6_belong (wsV RX6 98 RX6 yX6_isNote wsX6_isNote) := goodIn_app (goodIn_of _ (by decide +kernel)) ggX6_belong_X6_isNote
set_option maxRecDepth 20000 in
theorem ggX6_belong_X6_isTheme : GoodIn wsX6_belong wsX6_isTheme := goodIn_r _ [13, 1, 7, 8, 5, 9, 47, 48, 49, 50, 51, 52, 53, 54, 55, 56, 57, 58, 59, 60, 61] (by decide +kernel) (by decide +kernel)
set_option maxRecDepth 20000 in
theorem gX6_belong_X6_isTheme : GoodIn wsX6_belong (wsV RX6 127 RX6 yX6_isTheme wsX6_isTheme) := goodIn_app (goodIn_of _ (by decide +kernel)) ggX6_belong_X6_isTheme
set_option maxRecDepth 20000 in
theorem ggX6_belong_X6_themeOf : GoodIn wsX6_belong wsX6_themeOf := goodIn_r _ [17, 18, 19, 20, 5, 21, 1, 47, 48, 49, 50, 51, 52, 53, 54, 55, 56, 57, 58, 59, 60, 61] (by decide +kernel) (by decide +kernel)
set_option maxRecDepth 20000 in
theorem gX6_belong_X6_themeOf : GoodIn wsX6_belong (wsV RX6 68 RX6 yX6_themeOf wsX6_themeOf) := goodIn_app (goodIn_of _ (by decide +kernel)) ggX6_belong_X6_themeOf
set_option maxRecDepth 20000 in
theorem ggX6_belong_X6_records : GoodIn wsX6_belong wsX6_records := goodIn_r _ [25, 26, 27, 1, 28, 29, 5, 30, 47, 48, 49, 50, 51, 52, 53, 54, 55, 56, 57, 58, 59, 60, 61] (by decide +kernel) (by decide +kernel)
set_option maxRecDepth 20000 in
theorem gX6_belong_X6_records : GoodIn wsX6_belong (wsV RX6 92 RX6 yX6_records wsX6_records) := goodIn_app (goodIn_of _ (by decide +kernel)) ggX6_belong_X6_records
set_option maxRecDepth 20000 in
theorem ggX6_belong_X6_lays : GoodIn wsX6_belong wsX6_lays := goodIn_r _ [34, 1, 47, 48, 49, 50, 51, 52, 53, 54, 55, 56, 57, 58, 59, 60, 61] (by decide +kernel) (by decide +kernel)
set_option maxRecDepth 20000 in
theorem gX6_belong_X6_lays : GoodIn wsX6_belong (wsV RX6 71 RX6 yX6_lays wsX6_lays) := goodIn_app (goodIn_of _ (by decide +kernel)) ggX6_belong_X6_lays
set_option maxRecDepth 20000 in
theorem ggX6_belong_X6_dropsEmpty : GoodIn wsX6_belong wsX6_dropsEmpty := goodIn_r _ [38, 39, 40, 41, 5, 42, 1, 14, 15, 16, 17, 18, 19, 20, 21, 43, 44, 45, 46, 31, 32, 33, 34, 47, 48, 49, 50, 51, 52, 53, 54, 55, 56, 57, 58, 59, 60, 61] (by decide +kernel) (by decide +kernel)
set_option maxRecDepth 20000 in
theorem gX6_belong_X6_dropsEmpty : GoodIn wsX6_belong (wsV RX6 105 RX6 yX6_dropsEmpty wsX6_dropsEmpty) := goodIn_app (goodIn_of _ (by decide +kernel)) ggX6_belong_X6_dropsEmpty
theorem dX6_belong_0 : decode cX6_belong 0 = .ok (.aload_n 0, 1) := by decide +kernel
theorem dX6_belong_1 : decode cX6_belong 1 = .ok (.iload_n 1, 1) := by decide +kernel
theorem dX6_belong_2 : decode cX6_belong 2 = .ok (.invokevirtual 98, 3) := by decide +kernel
theorem dX6_belong_5 : decode cX6_belong 5 = .ok (.ifCond .eq 17, 3) := by decide +kernel
theorem dX6_belong_8 : decode cX6_belong 8 = .ok (.iload_n 2, 1) := by decide +kernel
theorem dX6_belong_9 : decode cX6_belong 9 = .ok (.bipush (-5), 2) := by decide +kernel
theorem dX6_belong_11 : decode cX6_belong 11 = .ok (.if_icmp .eq 13, 3) := by decide +kernel
theorem dX6_belong_14 : decode cX6_belong 14 = .ok (.aload_n 0, 1) := by decide +kernel
theorem dX6_belong_15 : decode cX6_belong 15 = .ok (.iload_n 2, 1) := by decide +kernel
theorem dX6_belong_16 : decode cX6_belong 16 = .ok (.invokevirtual 127, 3) := by decide +kernel
theorem dX6_belong_19 : decode cX6_belong 19 = .ok (.ifCond .ne 5, 3) := by decide +kernel
theorem dX6_belong_22 : decode cX6_belong 22 = .ok (.iconst (-1), 1) := by decide +kernel
theorem dX6_belong_23 : decode cX6_belong 23 = .ok (.ireturn, 1) := by decide +kernel
theorem dX6_belong_24 : decode cX6_belong 24 = .ok (.iload_n 2, 1) := by decide +kernel
theorem dX6_belong_25 : decode cX6_belong 25 = .ok (.bipush (-5), 2) := by decide +kernel
theorem dX6_belong_27 : decode cX6_belong 27 = .ok (.if_icmp .ne 7, 3) := by decide +kernel
theorem dX6_belong_30 : decode cX6_belong 30 = .ok (.iconst (-1), 1) := by decide +kernel
theorem dX6_belong_31 : decode cX6_belong 31 = .ok (.goto 4, 3) := by decide +kernel
theorem dX6_belong_34 : decode cX6_belong 34 = .ok (.iload_n 2, 1) := by decide +kernel
theorem dX6_belong_35 : decode cX6_belong 35 = .ok (.istore_n 3, 1) := by decide +kernel
theorem dX6_belong_36 : decode cX6_belong 36 = .ok (.aload_n 0, 1) := by decide +kernel
theorem dX6_belong_37 : decode cX6_belong 37 = .ok (.iload_n 1, 1) := by decide +kernel
theorem dX6_belong_38 : decode cX6_belong 38 = .ok (.invokevirtual 68, 3) := by decide +kernel
theorem dX6_belong_41 : decode cX6_belong 41 = .ok (.istore 4, 2) := by decide +kernel
theorem dX6_belong_43 : decode cX6_belong 43 = .ok (.iload 4, 2) := by decide +kernel
theorem dX6_belong_45 : decode cX6_belong 45 = .ok (.iload_n 3, 1) := by decide +kernel
theorem dX6_belong_46 : decode cX6_belong 46 = .ok (.if_icmp .ne 6, 3) := by decide +kernel
theorem dX6_belong_49 : decode cX6_belong 49 = .ok (.bipush (-5), 2) := by decide +kernel
theorem dX6_belong_51 : decode cX6_belong 51 = .ok (.ireturn, 1) := by decide +kernel
theorem dX6_belong_52 : decode cX6_belong 52 = .ok (.aload_n 0, 1) := by decide +kernel
theorem dX6_belong_53 : decode cX6_belong 53 = .ok (.invokevirtual 92, 3) := by decide +kernel
theorem dX6_belong_56 : decode cX6_belong 56 = .ok (.aload_n 0, 1) := by decide +kernel
theorem dX6_belong_57 : decode cX6_belong 57 = .ok (.iload_n 1, 1) := by decide +kernel
theorem dX6_belong_58 : decode cX6_belong 58 = .ok (.iconst 2, 1) := by decide +kernel
theorem dX6_belong_59 : decode cX6_belong 59 = .ok (.iload_n 3, 1) := by decide +kernel
theorem dX6_belong_60 : decode cX6_belong 60 = .ok (.iconst 1, 1) := by decide +kernel
theorem dX6_belong_61 : decode cX6_belong 61 = .ok (.iadd, 1) := by decide +kernel
theorem dX6_belong_62 : decode cX6_belong 62 = .ok (.invokevirtual 71, 3) := by decide +kernel
theorem dX6_belong_65 : decode cX6_belong 65 = .ok (.aload_n 0, 1) := by decide +kernel
theorem dX6_belong_66 : decode cX6_belong 66 = .ok (.iload 4, 2) := by decide +kernel
theorem dX6_belong_68 : decode cX6_belong 68 = .ok (.invokevirtual 105, 3) := by decide +kernel
theorem dX6_belong_71 : decode cX6_belong 71 = .ok (.aload_n 0, 1) := by decide +kernel
theorem dX6_belong_72 : decode cX6_belong 72 = .ok (.getfield 7, 3) := by decide +kernel
theorem dX6_belong_75 : decode cX6_belong 75 = .ok (.iconst 1, 1) := by decide +kernel
theorem dX6_belong_76 : decode cX6_belong 76 = .ok (.iaload, 1) := by decide +kernel
theorem dX6_belong_77 : decode cX6_belong 77 = .ok (.ireturn, 1) := by decide +kernel
set_option maxRecDepth 20000 in
theorem ggX6_vote_X6_isPerson : GoodIn wsX6_vote wsX6_isPerson := goodIn_r _ [5, 6, 7, 4, 8] (by decide +kernel) (by decide +kernel)
set_option maxRecDepth 20000 in
theorem gX6_vote_X6_isPerson : GoodIn wsX6_vote (va_wsS RX6 118 yX6_isPerson wsX6_isPerson) := goodIn_app (goodIn_of _ (by decide +kernel)) ggX6_vote_X6_isPerson
set_option maxRecDepth 20000 in
theorem ggX6_vote_X6_isTheme : GoodIn wsX6_vote wsX6_isTheme := goodIn_r _ [12, 1, 6, 7, 4, 8, 34, 35, 36, 37, 38, 39, 40, 41, 42, 43, 44, 45, 46, 47, 48] (by decide +kernel) (by decide +kernel)
set_option maxRecDepth 20000 in
theorem gX6_vote_X6_isTheme : GoodIn wsX6_vote (wsV RX6 127 RX6 yX6_isTheme wsX6_isTheme) := goodIn_app (goodIn_of _ (by decide +kernel)) ggX6_vote_X6_isTheme
set_option maxRecDepth 20000 in
theorem ggX6_vote_X6_in : GoodIn wsX6_vote wsX6_in := goodIn_r _ [8] (by decide +kernel) (by decide +kernel)
set_option maxRecDepth 20000 in
theorem gX6_vote_X6_in : GoodIn wsX6_vote (va_wsS RX6 43 yX6_in wsX6_in) := goodIn_app (goodIn_of _ (by decide +kernel)) ggX6_vote_X6_in
set_option maxRecDepth 20000 in
theorem ggX6_vote_X6_voteOf : GoodIn wsX6_vote wsX6_voteOf := goodIn_r _ [16, 1, 34, 35, 36, 37, 38, 39, 40, 41, 42, 43, 44, 45, 46, 47, 48] (by decide +kernel) (by decide +kernel)
set_option maxRecDepth 20000 in
theorem gX6_vote_X6_voteOf : GoodIn wsX6_vote (wsV RX6 82 RX6 yX6_voteOf wsX6_voteOf) := goodIn_app (goodIn_of _ (by decide +kernel)) ggX6_vote_X6_voteOf
set_option maxRecDepth 20000 in
theorem ggX6_vote_X6_records : GoodIn wsX6_vote wsX6_records := goodIn_r _ [20, 21, 22, 1, 23, 24, 4, 25, 34, 35, 36, 37, 38, 39, 40, 41, 42, 43, 44, 45, 46, 47, 48] (by decide +kernel) (by decide +kernel)
set_option maxRecDepth 20000 in
theorem gX6_vote_X6_records : GoodIn wsX6_vote (wsV RX6 92 RX6 yX6_records wsX6_records) := goodIn_app (goodIn_of _ (by decide +kernel)) ggX6_vote_X6_records
set_option maxRecDepth 20000 in
theorem ggX6_vote_X6_nameOf : GoodIn wsX6_vote wsX6_nameOf := goodIn_r _ [29, 30, 31, 32, 4, 33, 13, 14, 15, 16, 1, 34, 35, 36, 37, 38, 39, 40, 41, 42, 43, 44, 45, 46, 47, 48] (by decide +kernel) (by decide +kernel)
set_option maxRecDepth 20000 in
theorem gX6_vote_X6_nameOf : GoodIn wsX6_vote (wsV RX6 130 RX6 yX6_nameOf wsX6_nameOf) := goodIn_app (goodIn_of _ (by decide +kernel)) ggX6_vote_X6_nameOf
theorem dX6_vote_0 : decode cX6_vote 0 = .ok (.iload_n 1, 1) := by decide +kernel
theorem dX6_vote_1 : decode cX6_vote 1 = .ok (.invokestatic 118, 3) := by decide +kernel
theorem dX6_vote_4 : decode cX6_vote 4 = .ok (.ifCond .eq 11, 3) := by decide +kernel
theorem dX6_vote_7 : decode cX6_vote 7 = .ok (.aload_n 0, 1) := by decide +kernel
theorem dX6_vote_8 : decode cX6_vote 8 = .ok (.iload_n 2, 1) := by decide +kernel
theorem dX6_vote_9 : decode cX6_vote 9 = .ok (.invokevirtual 127, 3) := by decide +kernel
theorem dX6_vote_12 : decode cX6_vote 12 = .ok (.ifCond .ne 5, 3) := by decide +kernel
theorem dX6_vote_15 : decode cX6_vote 15 = .ok (.iconst (-1), 1) := by decide +kernel
theorem dX6_vote_16 : decode cX6_vote 16 = .ok (.ireturn, 1) := by decide +kernel
theorem dX6_vote_17 : decode cX6_vote 17 = .ok (.iload_n 3, 1) := by decide +kernel
theorem dX6_vote_18 : decode cX6_vote 18 = .ok (.bipush (-5), 2) := by decide +kernel
theorem dX6_vote_20 : decode cX6_vote 20 = .ok (.if_icmp .eq 16, 3) := by decide +kernel
theorem dX6_vote_23 : decode cX6_vote 23 = .ok (.iload_n 3, 1) := by decide +kernel
theorem dX6_vote_24 : decode cX6_vote 24 = .ok (.iconst 0, 1) := by decide +kernel
theorem dX6_vote_25 : decode cX6_vote 25 = .ok (.bipush 9, 2) := by decide +kernel
theorem dX6_vote_27 : decode cX6_vote 27 = .ok (.invokestatic 43, 3) := by decide +kernel
theorem dX6_vote_30 : decode cX6_vote 30 = .ok (.ifCond .ne 6, 3) := by decide +kernel
theorem dX6_vote_33 : decode cX6_vote 33 = .ok (.bipush (-2), 2) := by decide +kernel
theorem dX6_vote_35 : decode cX6_vote 35 = .ok (.ireturn, 1) := by decide +kernel
theorem dX6_vote_36 : decode cX6_vote 36 = .ok (.iload_n 3, 1) := by decide +kernel
theorem dX6_vote_37 : decode cX6_vote 37 = .ok (.bipush (-5), 2) := by decide +kernel
theorem dX6_vote_39 : decode cX6_vote 39 = .ok (.if_icmp .ne 7, 3) := by decide +kernel
theorem dX6_vote_42 : decode cX6_vote 42 = .ok (.iconst (-1), 1) := by decide +kernel
theorem dX6_vote_43 : decode cX6_vote 43 = .ok (.goto 4, 3) := by decide +kernel
theorem dX6_vote_46 : decode cX6_vote 46 = .ok (.iload_n 3, 1) := by decide +kernel
theorem dX6_vote_47 : decode cX6_vote 47 = .ok (.istore 4, 2) := by decide +kernel
theorem dX6_vote_49 : decode cX6_vote 49 = .ok (.aload_n 0, 1) := by decide +kernel
theorem dX6_vote_50 : decode cX6_vote 50 = .ok (.iload_n 2, 1) := by decide +kernel
theorem dX6_vote_51 : decode cX6_vote 51 = .ok (.iload_n 1, 1) := by decide +kernel
theorem dX6_vote_52 : decode cX6_vote 52 = .ok (.invokevirtual 82, 3) := by decide +kernel
theorem dX6_vote_55 : decode cX6_vote 55 = .ok (.iload 4, 2) := by decide +kernel
theorem dX6_vote_57 : decode cX6_vote 57 = .ok (.if_icmp .ne 6, 3) := by decide +kernel
theorem dX6_vote_60 : decode cX6_vote 60 = .ok (.bipush (-5), 2) := by decide +kernel
theorem dX6_vote_62 : decode cX6_vote 62 = .ok (.ireturn, 1) := by decide +kernel
theorem dX6_vote_63 : decode cX6_vote 63 = .ok (.aload_n 0, 1) := by decide +kernel
theorem dX6_vote_64 : decode cX6_vote 64 = .ok (.invokevirtual 92, 3) := by decide +kernel
theorem dX6_vote_67 : decode cX6_vote 67 = .ok (.aload_n 0, 1) := by decide +kernel
theorem dX6_vote_68 : decode cX6_vote 68 = .ok (.getfield 7, 3) := by decide +kernel
theorem dX6_vote_71 : decode cX6_vote 71 = .ok (.sipush 185, 3) := by decide +kernel
theorem dX6_vote_74 : decode cX6_vote 74 = .ok (.bipush 6, 2) := by decide +kernel
theorem dX6_vote_76 : decode cX6_vote 76 = .ok (.iload_n 2, 1) := by decide +kernel
theorem dX6_vote_77 : decode cX6_vote 77 = .ok (.imul, 1) := by decide +kernel
theorem dX6_vote_78 : decode cX6_vote 78 = .ok (.iadd, 1) := by decide +kernel
theorem dX6_vote_79 : decode cX6_vote 79 = .ok (.iload_n 1, 1) := by decide +kernel
theorem dX6_vote_80 : decode cX6_vote 80 = .ok (.iadd, 1) := by decide +kernel
theorem dX6_vote_81 : decode cX6_vote 81 = .ok (.iload 4, 2) := by decide +kernel
theorem dX6_vote_83 : decode cX6_vote 83 = .ok (.iconst 1, 1) := by decide +kernel
theorem dX6_vote_84 : decode cX6_vote 84 = .ok (.iadd, 1) := by decide +kernel
theorem dX6_vote_85 : decode cX6_vote 85 = .ok (.iastore, 1) := by decide +kernel
theorem dX6_vote_86 : decode cX6_vote 86 = .ok (.aload_n 0, 1) := by decide +kernel
theorem dX6_vote_87 : decode cX6_vote 87 = .ok (.iload_n 2, 1) := by decide +kernel
theorem dX6_vote_88 : decode cX6_vote 88 = .ok (.invokevirtual 130, 3) := by decide +kernel
theorem dX6_vote_91 : decode cX6_vote 91 = .ok (.istore 5, 2) := by decide +kernel
theorem dX6_vote_93 : decode cX6_vote 93 = .ok (.iload 5, 2) := by decide +kernel
theorem dX6_vote_95 : decode cX6_vote 95 = .ok (.bipush (-5), 2) := by decide +kernel
theorem dX6_vote_97 : decode cX6_vote 97 = .ok (.if_icmp .ne 8, 3) := by decide +kernel
theorem dX6_vote_100 : decode cX6_vote 100 = .ok (.bipush 10, 2) := by decide +kernel
theorem dX6_vote_102 : decode cX6_vote 102 = .ok (.goto 5, 3) := by decide +kernel
theorem dX6_vote_105 : decode cX6_vote 105 = .ok (.iload 5, 2) := by decide +kernel
theorem dX6_vote_107 : decode cX6_vote 107 = .ok (.ireturn, 1) := by decide +kernel
set_option maxRecDepth 20000 in
theorem ggX6_set_X6_in : GoodIn wsX6_set wsX6_in := goodIn_r _ [5] (by decide +kernel) (by decide +kernel)
set_option maxRecDepth 20000 in
theorem gX6_set_X6_in : GoodIn wsX6_set (va_wsS RX6 43 yX6_in wsX6_in) := goodIn_app (goodIn_of _ (by decide +kernel)) ggX6_set_X6_in
set_option maxRecDepth 20000 in
theorem ggX6_set_X6_records : GoodIn wsX6_set wsX6_records := goodIn_r _ [9, 10, 11, 1, 12, 13, 4, 14, 15, 16, 17, 18, 19, 20, 21, 22, 23, 24, 25, 26, 27, 28, 29] (by decide +kernel) (by decide +kernel)
set_option maxRecDepth 20000 in
theorem gX6_set_X6_records : GoodIn wsX6_set (wsV RX6 92 RX6 yX6_records wsX6_records) := goodIn_app (goodIn_of _ (by decide +kernel)) ggX6_set_X6_records
theorem dX6_set_0 : decode cX6_set 0 = .ok (.iload_n 1, 1) := by decide +kernel
theorem dX6_set_1 : decode cX6_set 1 = .ok (.iconst 0, 1) := by decide +kernel
theorem dX6_set_2 : decode cX6_set 2 = .ok (.iconst 2, 1) := by decide +kernel
theorem dX6_set_3 : decode cX6_set 3 = .ok (.invokestatic 43, 3) := by decide +kernel
theorem dX6_set_6 : decode cX6_set 6 = .ok (.ifCond .ne 5, 3) := by decide +kernel
theorem dX6_set_9 : decode cX6_set 9 = .ok (.iconst (-1), 1) := by decide +kernel
theorem dX6_set_10 : decode cX6_set 10 = .ok (.ireturn, 1) := by decide +kernel
theorem dX6_set_11 : decode cX6_set 11 = .ok (.iload_n 2, 1) := by decide +kernel
theorem dX6_set_12 : decode cX6_set 12 = .ok (.iload_n 1, 1) := by decide +kernel
theorem dX6_set_13 : decode cX6_set 13 = .ok (.ifCond .ne 7, 3) := by decide +kernel
theorem dX6_set_16 : decode cX6_set 16 = .ok (.iconst 0, 1) := by decide +kernel
theorem dX6_set_17 : decode cX6_set 17 = .ok (.goto 4, 3) := by decide +kernel
theorem dX6_set_20 : decode cX6_set 20 = .ok (.iconst 1, 1) := by decide +kernel
theorem dX6_set_21 : decode cX6_set 21 = .ok (.iload_n 1, 1) := by decide +kernel
theorem dX6_set_22 : decode cX6_set 22 = .ok (.ifCond .ne 8, 3) := by decide +kernel
theorem dX6_set_25 : decode cX6_set 25 = .ok (.bipush 20, 2) := by decide +kernel
