theorem dX0_init_0 : decode cX0_init 0 = .ok (.aload_n 0, 1) := by decide +kernel
theorem dX0_init_1 : decode cX0_init 1 = .ok (.invokespecial 3, 3) := by decide +kernel
theorem dX0_init_4 : decode cX0_init 4 = .ok (.aload_n 0, 1) := by decide +kernel
theorem dX0_init_5 : decode cX0_init 5 = .ok (.iconst 0, 1) := by decide +kernel
theorem dX0_init_6 : decode cX0_init 6 = .ok (.putfield 9, 3) := by decide +kernel
theorem dX0_init_9 : decode cX0_init 9 = .ok (.aload_n 0, 1) := by decide +kernel
theorem dX0_init_10 : decode cX0_init 10 = .ok (.bipush 20, 2) := by decide +kernel
theorem dX0_init_12 : decode cX0_init 12 = .ok (.newarray .int, 2) := by decide +kernel
theorem dX0_init_14 : decode cX0_init 14 = .ok (.putfield 15, 3) := by decide +kernel
theorem dX0_init_17 : decode cX0_init 17 = .ok (.aload_n 0, 1) := by decide +kernel
theorem dX0_init_18 : decode cX0_init 18 = .ok (.bipush 20, 2) := by decide +kernel
theorem dX0_init_20 : decode cX0_init 20 = .ok (.newarray .int, 2) := by decide +kernel
theorem dX0_init_22 : decode cX0_init 22 = .ok (.putfield 19, 3) := by decide +kernel
theorem dX0_init_25 : decode cX0_init 25 = .ok (.aload_n 0, 1) := by decide +kernel
theorem dX0_init_26 : decode cX0_init 26 = .ok (.bipush 20, 2) := by decide +kernel
theorem dX0_init_28 : decode cX0_init 28 = .ok (.newarray .int, 2) := by decide +kernel
theorem dX0_init_30 : decode cX0_init 30 = .ok (.putfield 22, 3) := by decide +kernel
theorem dX0_init_33 : decode cX0_init 33 = .ok (.aload_n 0, 1) := by decide +kernel
theorem dX0_init_34 : decode cX0_init 34 = .ok (.bipush 120, 2) := by decide +kernel
theorem dX0_init_36 : decode cX0_init 36 = .ok (.newarray .int, 2) := by decide +kernel
theorem dX0_init_38 : decode cX0_init 38 = .ok (.putfield 25, 3) := by decide +kernel
theorem dX0_init_41 : decode cX0_init 41 = .ok (.aload_n 0, 1) := by decide +kernel
theorem dX0_init_42 : decode cX0_init 42 = .ok (.iconst 0, 1) := by decide +kernel
theorem dX0_init_43 : decode cX0_init 43 = .ok (.putfield 28, 3) := by decide +kernel
theorem dX0_init_46 : decode cX0_init 46 = .ok (.aload_n 0, 1) := by decide +kernel
theorem dX0_init_47 : decode cX0_init 47 = .ok (.bipush 48, 2) := by decide +kernel
theorem dX0_init_49 : decode cX0_init 49 = .ok (.newarray .int, 2) := by decide +kernel
theorem dX0_init_51 : decode cX0_init 51 = .ok (.putfield 31, 3) := by decide +kernel
theorem dX0_init_54 : decode cX0_init 54 = .ok (.aload_n 0, 1) := by decide +kernel
theorem dX0_init_55 : decode cX0_init 55 = .ok (.iconst 3, 1) := by decide +kernel
theorem dX0_init_56 : decode cX0_init 56 = .ok (.newarray .int, 2) := by decide +kernel
theorem dX0_init_58 : decode cX0_init 58 = .ok (.putfield 34, 3) := by decide +kernel
theorem dX0_init_61 : decode cX0_init 61 = .ok (.getstatic 37, 3) := by decide +kernel
theorem dX0_init_64 : decode cX0_init 64 = .ok (.iconst 0, 1) := by decide +kernel
theorem dX0_init_65 : decode cX0_init 65 = .ok (.aload_n 0, 1) := by decide +kernel
theorem dX0_init_66 : decode cX0_init 66 = .ok (.getfield 34, 3) := by decide +kernel
theorem dX0_init_69 : decode cX0_init 69 = .ok (.iconst 0, 1) := by decide +kernel
theorem dX0_init_70 : decode cX0_init 70 = .ok (.iconst 3, 1) := by decide +kernel
theorem dX0_init_71 : decode cX0_init 71 = .ok (.invokestatic 40, 3) := by decide +kernel
theorem dX0_init_74 : decode cX0_init 74 = .ok (.return_, 1) := by decide +kernel
theorem dX0_copyFrom_0 : decode cX0_copyFrom 0 = .ok (.aload_n 0, 1) := by decide +kernel
theorem dX0_copyFrom_1 : decode cX0_copyFrom 1 = .ok (.aload_n 1, 1) := by decide +kernel
theorem dX0_copyFrom_2 : decode cX0_copyFrom 2 = .ok (.getfield 9, 3) := by decide +kernel
theorem dX0_copyFrom_5 : decode cX0_copyFrom 5 = .ok (.putfield 9, 3) := by decide +kernel
theorem dX0_copyFrom_8 : decode cX0_copyFrom 8 = .ok (.aload_n 1, 1) := by decide +kernel
theorem dX0_copyFrom_9 : decode cX0_copyFrom 9 = .ok (.getfield 15, 3) := by decide +kernel
theorem dX0_copyFrom_12 : decode cX0_copyFrom 12 = .ok (.iconst 0, 1) := by decide +kernel
theorem dX0_copyFrom_13 : decode cX0_copyFrom 13 = .ok (.aload_n 0, 1) := by decide +kernel
theorem dX0_copyFrom_14 : decode cX0_copyFrom 14 = .ok (.getfield 15, 3) := by decide +kernel
theorem dX0_copyFrom_17 : decode cX0_copyFrom 17 = .ok (.iconst 0, 1) := by decide +kernel
theorem dX0_copyFrom_18 : decode cX0_copyFrom 18 = .ok (.bipush 20, 2) := by decide +kernel
theorem dX0_copyFrom_20 : decode cX0_copyFrom 20 = .ok (.invokestatic 40, 3) := by decide +kernel
theorem dX0_copyFrom_23 : decode cX0_copyFrom 23 = .ok (.aload_n 1, 1) := by decide +kernel
theorem dX0_copyFrom_24 : decode cX0_copyFrom 24 = .ok (.getfield 19, 3) := by decide +kernel
theorem dX0_copyFrom_27 : decode cX0_copyFrom 27 = .ok (.iconst 0, 1) := by decide +kernel
theorem dX0_copyFrom_28 : decode cX0_copyFrom 28 = .ok (.aload_n 0, 1) := by decide +kernel
theorem dX0_copyFrom_29 : decode cX0_copyFrom 29 = .ok (.getfield 19, 3) := by decide +kernel
theorem dX0_copyFrom_32 : decode cX0_copyFrom 32 = .ok (.iconst 0, 1) := by decide +kernel
theorem dX0_copyFrom_33 : decode cX0_copyFrom 33 = .ok (.bipush 20, 2) := by decide +kernel
theorem dX0_copyFrom_35 : decode cX0_copyFrom 35 = .ok (.invokestatic 40, 3) := by decide +kernel
theorem dX0_copyFrom_38 : decode cX0_copyFrom 38 = .ok (.aload_n 1, 1) := by decide +kernel
theorem dX0_copyFrom_39 : decode cX0_copyFrom 39 = .ok (.getfield 22, 3) := by decide +kernel
theorem dX0_copyFrom_42 : decode cX0_copyFrom 42 = .ok (.iconst 0, 1) := by decide +kernel
theorem dX0_copyFrom_43 : decode cX0_copyFrom 43 = .ok (.aload_n 0, 1) := by decide +kernel
theorem dX0_copyFrom_44 : decode cX0_copyFrom 44 = .ok (.getfield 22, 3) := by decide +kernel
theorem dX0_copyFrom_47 : decode cX0_copyFrom 47 = .ok (.iconst 0, 1) := by decide +kernel
theorem dX0_copyFrom_48 : decode cX0_copyFrom 48 = .ok (.bipush 20, 2) := by decide +kernel
theorem dX0_copyFrom_50 : decode cX0_copyFrom 50 = .ok (.invokestatic 40, 3) := by decide +kernel
theorem dX0_copyFrom_53 : decode cX0_copyFrom 53 = .ok (.aload_n 1, 1) := by decide +kernel
theorem dX0_copyFrom_54 : decode cX0_copyFrom 54 = .ok (.getfield 25, 3) := by decide +kernel
theorem dX0_copyFrom_57 : decode cX0_copyFrom 57 = .ok (.iconst 0, 1) := by decide +kernel
theorem dX0_copyFrom_58 : decode cX0_copyFrom 58 = .ok (.aload_n 0, 1) := by decide +kernel
theorem dX0_copyFrom_59 : decode cX0_copyFrom 59 = .ok (.getfield 25, 3) := by decide +kernel
theorem dX0_copyFrom_62 : decode cX0_copyFrom 62 = .ok (.iconst 0, 1) := by decide +kernel
theorem dX0_copyFrom_63 : decode cX0_copyFrom 63 = .ok (.bipush 120, 2) := by decide +kernel
theorem dX0_copyFrom_65 : decode cX0_copyFrom 65 = .ok (.invokestatic 40, 3) := by decide +kernel
theorem dX0_copyFrom_68 : decode cX0_copyFrom 68 = .ok (.aload_n 0, 1) := by decide +kernel
theorem dX0_copyFrom_69 : decode cX0_copyFrom 69 = .ok (.aload_n 1, 1) := by decide +kernel
theorem dX0_copyFrom_70 : decode cX0_copyFrom 70 = .ok (.getfield 28, 3) := by decide +kernel
theorem dX0_copyFrom_73 : decode cX0_copyFrom 73 = .ok (.putfield 28, 3) := by decide +kernel
theorem dX0_copyFrom_76 : decode cX0_copyFrom 76 = .ok (.aload_n 1, 1) := by decide +kernel
theorem dX0_copyFrom_77 : decode cX0_copyFrom 77 = .ok (.getfield 31, 3) := by decide +kernel
theorem dX0_copyFrom_80 : decode cX0_copyFrom 80 = .ok (.iconst 0, 1) := by decide +kernel
theorem dX0_copyFrom_81 : decode cX0_copyFrom 81 = .ok (.aload_n 0, 1) := by decide +kernel
theorem dX0_copyFrom_82 : decode cX0_copyFrom 82 = .ok (.getfield 31, 3) := by decide +kernel
theorem dX0_copyFrom_85 : decode cX0_copyFrom 85 = .ok (.iconst 0, 1) := by decide +kernel
theorem dX0_copyFrom_86 : decode cX0_copyFrom 86 = .ok (.bipush 48, 2) := by decide +kernel
theorem dX0_copyFrom_88 : decode cX0_copyFrom 88 = .ok (.invokestatic 40, 3) := by decide +kernel
theorem dX0_copyFrom_91 : decode cX0_copyFrom 91 = .ok (.aload_n 1, 1) := by decide +kernel
theorem dX0_copyFrom_92 : decode cX0_copyFrom 92 = .ok (.getfield 34, 3) := by decide +kernel
theorem dX0_copyFrom_95 : decode cX0_copyFrom 95 = .ok (.iconst 0, 1) := by decide +kernel
theorem dX0_copyFrom_96 : decode cX0_copyFrom 96 = .ok (.aload_n 0, 1) := by decide +kernel
theorem dX0_copyFrom_97 : decode cX0_copyFrom 97 = .ok (.getfield 34, 3) := by decide +kernel
theorem dX0_copyFrom_100 : decode cX0_copyFrom 100 = .ok (.iconst 0, 1) := by decide +kernel
theorem dX0_copyFrom_101 : decode cX0_copyFrom 101 = .ok (.iconst 3, 1) := by decide +kernel
theorem dX0_copyFrom_102 : decode cX0_copyFrom 102 = .ok (.invokestatic 40, 3) := by decide +kernel
theorem dX0_copyFrom_105 : decode cX0_copyFrom 105 = .ok (.return_, 1) := by decide +kernel
theorem dX0_removeAll_0 : decode cX0_removeAll 0 = .ok (.aload_n 0, 1) := by decide +kernel
theorem dX0_removeAll_1 : decode cX0_removeAll 1 = .ok (.iconst 0, 1) := by decide +kernel
theorem dX0_removeAll_2 : decode cX0_removeAll 2 = .ok (.putfield 9, 3) := by decide +kernel
theorem dX0_removeAll_5 : decode cX0_removeAll 5 = .ok (.aload_n 0, 1) := by decide +kernel
theorem dX0_removeAll_6 : decode cX0_removeAll 6 = .ok (.iconst 0, 1) := by decide +kernel
theorem dX0_removeAll_7 : decode cX0_removeAll 7 = .ok (.putfield 28, 3) := by decide +kernel
theorem dX0_removeAll_10 : decode cX0_removeAll 10 = .ok (.return_, 1) := by decide +kernel
theorem dX0_hasNote_0 : decode cX0_hasNote 0 = .ok (.iload_n 1, 1) := by decide +kernel
theorem dX0_hasNote_1 : decode cX0_hasNote 1 = .ok (.ifCond .lt 15, 3) := by decide +kernel
theorem dX0_hasNote_4 : decode cX0_hasNote 4 = .ok (.iload_n 1, 1) := by decide +kernel
theorem dX0_hasNote_5 : decode cX0_hasNote 5 = .ok (.aload_n 0, 1) := by decide +kernel
theorem dX0_hasNote_6 : decode cX0_hasNote 6 = .ok (.getfield 9, 3) := by decide +kernel
theorem dX0_hasNote_9 : decode cX0_hasNote 9 = .ok (.if_icmp .ge 7, 3) := by decide +kernel
theorem dX0_hasNote_12 : decode cX0_hasNote 12 = .ok (.iconst 1, 1) := by decide +kernel
theorem dX0_hasNote_13 : decode cX0_hasNote 13 = .ok (.goto 4, 3) := by decide +kernel
theorem dX0_hasNote_16 : decode cX0_hasNote 16 = .ok (.iconst 0, 1) := by decide +kernel
theorem dX0_hasNote_17 : decode cX0_hasNote 17 = .ok (.ireturn, 1) := by decide +kernel
theorem dX0_hasTheme_0 : decode cX0_hasTheme 0 = .ok (.iload_n 1, 1) := by decide +kernel
theorem dX0_hasTheme_1 : decode cX0_hasTheme 1 = .ok (.ifCond .lt 15, 3) := by decide +kernel
theorem dX0_hasTheme_4 : decode cX0_hasTheme 4 = .ok (.iload_n 1, 1) := by decide +kernel
theorem dX0_hasTheme_5 : decode cX0_hasTheme 5 = .ok (.aload_n 0, 1) := by decide +kernel
theorem dX0_hasTheme_6 : decode cX0_hasTheme 6 = .ok (.getfield 28, 3) := by decide +kernel
theorem dX0_hasTheme_9 : decode cX0_hasTheme 9 = .ok (.if_icmp .ge 7, 3) := by decide +kernel
theorem dX0_hasTheme_12 : decode cX0_hasTheme 12 = .ok (.iconst 1, 1) := by decide +kernel
theorem dX0_hasTheme_13 : decode cX0_hasTheme 13 = .ok (.goto 4, 3) := by decide +kernel
theorem dX0_hasTheme_16 : decode cX0_hasTheme 16 = .ok (.iconst 0, 1) := by decide +kernel
theorem dX0_hasTheme_17 : decode cX0_hasTheme 17 = .ok (.ireturn, 1) := by decide +kernel
set_option maxRecDepth 20000 in
theorem ggX0_addNote_X0_moveNote : GoodIn wsX0_addNote wsX0_moveNote := goodIn_r _ [8, 9, 10, 11, 12, 13, 14, 15, 16, 17, 18] (by decide +kernel) (by decide +kernel)
set_option maxRecDepth 20000 in
theorem gX0_addNote_X0_moveNote : GoodIn wsX0_addNote (wsV RX0 46 RX0 yX0_moveNote wsX0_moveNote) := goodIn_app (goodIn_of _ (by decide +kernel)) ggX0_addNote_X0_moveNote
theorem dX0_addNote_0 : decode cX0_addNote 0 = .ok (.aload_n 0, 1) := by decide +kernel
theorem dX0_addNote_1 : decode cX0_addNote 1 = .ok (.getfield 9, 3) := by decide +kernel
theorem dX0_addNote_4 : decode cX0_addNote 4 = .ok (.istore_n 3, 1) := by decide +kernel
theorem dX0_addNote_5 : decode cX0_addNote 5 = .ok (.aload_n 0, 1) := by decide +kernel
theorem dX0_addNote_6 : decode cX0_addNote 6 = .ok (.dup, 1) := by decide +kernel
theorem dX0_addNote_7 : decode cX0_addNote 7 = .ok (.getfield 9, 3) := by decide +kernel
theorem dX0_addNote_10 : decode cX0_addNote 10 = .ok (.iconst 1, 1) := by decide +kernel
theorem dX0_addNote_11 : decode cX0_addNote 11 = .ok (.iadd, 1) := by decide +kernel
theorem dX0_addNote_12 : decode cX0_addNote 12 = .ok (.putfield 9, 3) := by decide +kernel
theorem dX0_addNote_15 : decode cX0_addNote 15 = .ok (.aload_n 0, 1) := by decide +kernel
theorem dX0_addNote_16 : decode cX0_addNote 16 = .ok (.iload_n 3, 1) := by decide +kernel
theorem dX0_addNote_17 : decode cX0_addNote 17 = .ok (.iload_n 1, 1) := by decide +kernel
theorem dX0_addNote_18 : decode cX0_addNote 18 = .ok (.iload_n 2, 1) := by decide +kernel
theorem dX0_addNote_19 : decode cX0_addNote 19 = .ok (.invokevirtual 46, 3) := by decide +kernel
theorem dX0_addNote_22 : decode cX0_addNote 22 = .ok (.aload_n 0, 1) := by decide +kernel
theorem dX0_addNote_23 : decode cX0_addNote 23 = .ok (.getfield 22, 3) := by decide +kernel
theorem dX0_addNote_26 : decode cX0_addNote 26 = .ok (.iload_n 3, 1) := by decide +kernel
theorem dX0_addNote_27 : decode cX0_addNote 27 = .ok (.bipush (-5), 2) := by decide +kernel
theorem dX0_addNote_29 : decode cX0_addNote 29 = .ok (.iastore, 1) := by decide +kernel
theorem dX0_addNote_30 : decode cX0_addNote 30 = .ok (.iconst 0, 1) := by decide +kernel
theorem dX0_addNote_31 : decode cX0_addNote 31 = .ok (.istore 4, 2) := by decide +kernel
theorem dX0_addNote_33 : decode cX0_addNote 33 = .ok (.iload 4, 2) := by decide +kernel
theorem dX0_addNote_35 : decode cX0_addNote 35 = .ok (.bipush 6, 2) := by decide +kernel
theorem dX0_addNote_37 : decode cX0_addNote 37 = .ok (.if_icmp .ge 22, 3) := by decide +kernel
theorem dX0_addNote_40 : decode cX0_addNote 40 = .ok (.aload_n 0, 1) := by decide +kernel
theorem dX0_addNote_41 : decode cX0_addNote 41 = .ok (.getfield 25, 3) := by decide +kernel
theorem dX0_addNote_44 : decode cX0_addNote 44 = .ok (.iload_n 3, 1) := by decide +kernel
theorem dX0_addNote_45 : decode cX0_addNote 45 = .ok (.bipush 6, 2) := by decide +kernel
theorem dX0_addNote_47 : decode cX0_addNote 47 = .ok (.imul, 1) := by decide +kernel
theorem dX0_addNote_48 : decode cX0_addNote 48 = .ok (.iload 4, 2) := by decide +kernel
theorem dX0_addNote_50 : decode cX0_addNote 50 = .ok (.iadd, 1) := by decide +kernel
theorem dX0_addNote_51 : decode cX0_addNote 51 = .ok (.iconst 0, 1) := by decide +kernel
theorem dX0_addNote_52 : decode cX0_addNote 52 = .ok (.iastore, 1) := by decide +kernel
theorem dX0_addNote_53 : decode cX0_addNote 53 = .ok (.iinc 4 1, 3) := by decide +kernel
theorem dX0_addNote_56 : decode cX0_addNote 56 = .ok (.goto (-23), 3) := by decide +kernel
theorem dX0_addNote_59 : decode cX0_addNote 59 = .ok (.return_, 1) := by decide +kernel
theorem dX0_moveNote_0 : decode cX0_moveNote 0 = .ok (.aload_n 0, 1) := by decide +kernel
theorem dX0_moveNote_1 : decode cX0_moveNote 1 = .ok (.getfield 15, 3) := by decide +kernel
theorem dX0_moveNote_4 : decode cX0_moveNote 4 = .ok (.iload_n 1, 1) := by decide +kernel
theorem dX0_moveNote_5 : decode cX0_moveNote 5 = .ok (.iload_n 2, 1) := by decide +kernel
theorem dX0_moveNote_6 : decode cX0_moveNote 6 = .ok (.iastore, 1) := by decide +kernel
theorem dX0_moveNote_7 : decode cX0_moveNote 7 = .ok (.aload_n 0, 1) := by decide +kernel
theorem dX0_moveNote_8 : decode cX0_moveNote 8 = .ok (.getfield 19, 3) := by decide +kernel
theorem dX0_moveNote_11 : decode cX0_moveNote 11 = .ok (.iload_n 1, 1) := by decide +kernel
theorem dX0_moveNote_12 : decode cX0_moveNote 12 = .ok (.iload_n 3, 1) := by decide +kernel
theorem dX0_moveNote_13 : decode cX0_moveNote 13 = .ok (.iastore, 1) := by decide +kernel
theorem dX0_moveNote_14 : decode cX0_moveNote 14 = .ok (.return_, 1) := by decide +kernel
set_option maxRecDepth 20000 in
theorem ggX0_removeNote_X0_copyNote : GoodIn wsX0_removeNote wsX0_copyNote := goodIn_r _ [7, 8, 9, 1, 10, 11, 12, 13, 6, 14, 33, 34, 35, 36, 37, 38, 39, 40] (by decide +kernel) (by decide +kernel)
set_option maxRecDepth 20000 in
theorem gX0_removeNote_X0_copyNote : GoodIn wsX0_removeNote (wsV RX0 50 RX0 yX0_copyNote wsX0_copyNote) := goodIn_app (goodIn_of _ (by decide +kernel)) ggX0_removeNote_X0_copyNote
set_option maxRecDepth 20000 in
theorem ggX0_removeNote_X0_removeThemeIfEmpty : GoodIn wsX0_removeNote wsX0_removeThemeIfEmpty := goodIn_r _ [18, 2, 1, 19, 20, 21, 22, 6, 23, 24, 25, 26, 27, 28, 29, 30, 31, 32, 33, 34, 35, 36, 37, 38, 39, 40] (by decide +kernel) (by decide +kernel)
set_option maxRecDepth 20000 in
theorem gX0_removeNote_X0_removeThemeIfEmpty : GoodIn wsX0_removeNote (wsV RX0 54 RX0 yX0_removeThemeIfEmpty wsX0_removeThemeIfEmpty) := goodIn_app (goodIn_of _ (by decide +kernel)) ggX0_removeNote_X0_removeThemeIfEmpty
theorem dX0_removeNote_0 : decode cX0_removeNote 0 = .ok (.aload_n 0, 1) := by decide +kernel
theorem dX0_removeNote_1 : decode cX0_removeNote 1 = .ok (.getfield 22, 3) := by decide +kernel
theorem dX0_removeNote_4 : decode cX0_removeNote 4 = .ok (.iload_n 1, 1) := by decide +kernel
theorem dX0_removeNote_5 : decode cX0_removeNote 5 = .ok (.iaload, 1) := by decide +kernel
theorem dX0_removeNote_6 : decode cX0_removeNote 6 = .ok (.istore_n 2, 1) := by decide +kernel
theorem dX0_removeNote_7 : decode cX0_removeNote 7 = .ok (.iload_n 1, 1) := by decide +kernel
theorem dX0_removeNote_8 : decode cX0_removeNote 8 = .ok (.istore_n 3, 1) := by decide +kernel
theorem dX0_removeNote_9 : decode cX0_removeNote 9 = .ok (.iload_n 3, 1) := by decide +kernel
theorem dX0_removeNote_10 : decode cX0_removeNote 10 = .ok (.aload_n 0, 1) := by decide +kernel
theorem dX0_removeNote_11 : decode cX0_removeNote 11 = .ok (.getfield 9, 3) := by decide +kernel
theorem dX0_removeNote_14 : decode cX0_removeNote 14 = .ok (.iconst 1, 1) := by decide +kernel
theorem dX0_removeNote_15 : decode cX0_removeNote 15 = .ok (.isub, 1) := by decide +kernel
theorem dX0_removeNote_16 : decode cX0_removeNote 16 = .ok (.if_icmp .ge 17, 3) := by decide +kernel
theorem dX0_removeNote_19 : decode cX0_removeNote 19 = .ok (.aload_n 0, 1) := by decide +kernel
theorem dX0_removeNote_20 : decode cX0_removeNote 20 = .ok (.iload_n 3, 1) := by decide +kernel
theorem dX0_removeNote_21 : decode cX0_removeNote 21 = .ok (.iconst 1, 1) := by decide +kernel
theorem dX0_removeNote_22 : decode cX0_removeNote 22 = .ok (.iadd, 1) := by decide +kernel
theorem dX0_removeNote_23 : decode cX0_removeNote 23 = .ok (.iload_n 3, 1) := by decide +kernel
theorem dX0_removeNote_24 : decode cX0_removeNote 24 = .ok (.invokevirtual 50, 3) := by decide +kernel
theorem dX0_removeNote_27 : decode cX0_removeNote 27 = .ok (.iinc 3 1, 3) := by decide +kernel
theorem dX0_removeNote_30 : decode cX0_removeNote 30 = .ok (.goto (-21), 3) := by decide +kernel
theorem dX0_removeNote_33 : decode cX0_removeNote 33 = .ok (.aload_n 0, 1) := by decide +kernel
theorem dX0_removeNote_34 : decode cX0_removeNote 34 = .ok (.dup, 1) := by decide +kernel
theorem dX0_removeNote_35 : decode cX0_removeNote 35 = .ok (.getfield 9, 3) := by decide +kernel
theorem dX0_removeNote_38 : decode cX0_removeNote 38 = .ok (.iconst 1, 1) := by decide +kernel
theorem dX0_removeNote_39 : decode cX0_removeNote 39 = .ok (.isub, 1) := by decide +kernel
theorem dX0_removeNote_40 : decode cX0_removeNote 40 = .ok (.putfield 9, 3) := by decide +kernel
theorem dX0_removeNote_43 : decode cX0_removeNote 43 = .ok (.aload_n 0, 1) := by decide +kernel
theorem dX0_removeNote_44 : decode cX0_removeNote 44 = .ok (.iload_n 2, 1) := by decide +kernel
theorem dX0_removeNote_45 : decode cX0_removeNote 45 = .ok (.invokevirtual 54, 3) := by decide +kernel
theorem dX0_removeNote_48 : decode cX0_removeNote 48 = .ok (.return_, 1) := by decide +kernel
set_option maxRecDepth 20000 in
theorem ggX0_copyNote_X0_moveNote : GoodIn wsX0_copyNote wsX0_moveNote := goodIn_r _ [9, 1, 2, 10, 11, 12, 13, 14, 15, 16, 17] (by decide +kernel) (by decide +kernel)
set_option maxRecDepth 20000 in
theorem gX0_copyNote_X0_moveNote : GoodIn wsX0_copyNote (wsV RX0 46 RX0 yX0_moveNote wsX0_moveNote) := goodIn_app (goodIn_of _ (by decide +kernel)) ggX0_copyNote_X0_moveNote
theorem dX0_copyNote_0 : decode cX0_copyNote 0 = .ok (.aload_n 0, 1) := by decide +kernel
theorem dX0_copyNote_1 : decode cX0_copyNote 1 = .ok (.iload_n 2, 1) := by decide +kernel
theorem dX0_copyNote_2 : decode cX0_copyNote 2 = .ok (.aload_n 0, 1) := by decide +kernel
theorem dX0_copyNote_3 : decode cX0_copyNote 3 = .ok (.getfield 15, 3) := by decide +kernel
theorem dX0_copyNote_6 : decode cX0_copyNote 6 = .ok (.iload_n 1, 1) := by decide +kernel
theorem dX0_copyNote_7 : decode cX0_copyNote 7 = .ok (.iaload, 1) := by decide +kernel
theorem dX0_copyNote_8 : decode cX0_copyNote 8 = .ok (.aload_n 0, 1) := by decide +kernel
theorem dX0_copyNote_9 : decode cX0_copyNote 9 = .ok (.getfield 19, 3) := by decide +kernel
theorem dX0_copyNote_12 : decode cX0_copyNote 12 = .ok (.iload_n 1, 1) := by decide +kernel
theorem dX0_copyNote_13 : decode cX0_copyNote 13 = .ok (.iaload, 1) := by decide +kernel
theorem dX0_copyNote_14 : decode cX0_copyNote 14 = .ok (.invokevirtual 46, 3) := by decide +kernel
theorem dX0_copyNote_17 : decode cX0_copyNote 17 = .ok (.aload_n 0, 1) := by decide +kernel
theorem dX0_copyNote_18 : decode cX0_copyNote 18 = .ok (.getfield 22, 3) := by decide +kernel
theorem dX0_copyNote_21 : decode cX0_copyNote 21 = .ok (.iload_n 2, 1) := by decide +kernel
theorem dX0_copyNote_22 : decode cX0_copyNote 22 = .ok (.aload_n 0, 1) := by decide +kernel
theorem dX0_copyNote_23 : decode cX0_copyNote 23 = .ok (.getfield 22, 3) := by decide +kernel
theorem dX0_copyNote_26 : decode cX0_copyNote 26 = .ok (.iload_n 1, 1) := by decide +kernel
theorem dX0_copyNote_27 : decode cX0_copyNote 27 = .ok (.iaload, 1) := by decide +kernel
theorem dX0_copyNote_28 : decode cX0_copyNote 28 = .ok (.iastore, 1) := by decide +kernel
theorem dX0_copyNote_29 : decode cX0_copyNote 29 = .ok (.iconst 0, 1) := by decide +kernel
theorem dX0_copyNote_30 : decode cX0_copyNote 30 = .ok (.istore_n 3, 1) := by decide +kernel
theorem dX0_copyNote_31 : decode cX0_copyNote 31 = .ok (.iload_n 3, 1) := by decide +kernel
theorem dX0_copyNote_32 : decode cX0_copyNote 32 = .ok (.bipush 6, 2) := by decide +kernel
theorem dX0_copyNote_34 : decode cX0_copyNote 34 = .ok (.if_icmp .ge 31, 3) := by decide +kernel
theorem dX0_copyNote_37 : decode cX0_copyNote 37 = .ok (.aload_n 0, 1) := by decide +kernel
theorem dX0_copyNote_38 : decode cX0_copyNote 38 = .ok (.getfield 25, 3) := by decide +kernel
theorem dX0_copyNote_41 : decode cX0_copyNote 41 = .ok (.iload_n 2, 1) := by decide +kernel
theorem dX0_copyNote_42 : decode cX0_copyNote 42 = .ok (.bipush 6, 2) := by decide +kernel
theorem dX0_copyNote_44 : decode cX0_copyNote 44 = .ok (.imul, 1) := by decide +kernel
theorem dX0_copyNote_45 : decode cX0_copyNote 45 = .ok (.iload_n 3, 1) := by decide +kernel
theorem dX0_copyNote_46 : decode cX0_copyNote 46 = .ok (.iadd, 1) := by decide +kernel
theorem dX0_copyNote_47 : decode cX0_copyNote 47 = .ok (.aload_n 0, 1) := by decide +kernel
theorem dX0_copyNote_48 : decode cX0_copyNote 48 = .ok (.getfield 25, 3) := by decide +kernel
theorem dX0_copyNote_51 : decode cX0_copyNote 51 = .ok (.iload_n 1, 1) := by decide +kernel
theorem dX0_copyNote_52 : decode cX0_copyNote 52 = .ok (.bipush 6, 2) := by decide +kernel
theorem dX0_copyNote_54 : decode cX0_copyNote 54 = .ok (.imul, 1) := by decide +kernel
theorem dX0_copyNote_55 : decode cX0_copyNote 55 = .ok (.iload_n 3, 1) := by decide +kernel
theorem dX0_copyNote_56 : decode cX0_copyNote 56 = .ok (.iadd, 1) := by decide +kernel
theorem dX0_copyNote_57 : decode cX0_copyNote 57 = .ok (.iaload, 1) := by decide +kernel
theorem dX0_copyNote_58 : decode cX0_copyNote 58 = .ok (.iastore, 1) := by decide +kernel
theorem dX0_copyNote_59 : decode cX0_copyNote 59 = .ok (.iinc 3 1, 3) := by decide +kernel
theorem dX0_copyNote_62 : decode cX0_copyNote 62 = .ok (.goto (-31), 3) := by decide +kernel
theorem dX0_copyNote_65 : decode cX0_copyNote 65 = .ok (.return_, 1) := by decide +kernel
theorem dX0_distance_0 : decode cX0_distance 0 = .ok (.aload_n 0, 1) := by decide +kernel
theorem dX0_distance_1 : decode cX0_distance 1 = .ok (.getfield 15, 3) := by decide +kernel
theorem dX0_distance_4 : decode cX0_distance 4 = .ok (.iload_n 1, 1) := by decide +kernel
theorem dX0_distance_5 : decode cX0_distance 5 = .ok (.iaload, 1) := by decide +kernel
theorem dX0_distance_6 : decode cX0_distance 6 = .ok (.aload_n 0, 1) := by decide +kernel
theorem dX0_distance_7 : decode cX0_distance 7 = .ok (.getfield 15, 3) := by decide +kernel
theorem dX0_distance_10 : decode cX0_distance 10 = .ok (.iload_n 2, 1) := by decide +kernel
theorem dX0_distance_11 : decode cX0_distance 11 = .ok (.iaload, 1) := by decide +kernel
theorem dX0_distance_12 : decode cX0_distance 12 = .ok (.isub, 1) := by decide +kernel
theorem dX0_distance_13 : decode cX0_distance 13 = .ok (.invokestatic 58, 3) := by decide +kernel
theorem dX0_distance_16 : decode cX0_distance 16 = .ok (.aload_n 0, 1) := by decide +kernel
theorem dX0_distance_17 : decode cX0_distance 17 = .ok (.getfield 19, 3) := by decide +kernel
theorem dX0_distance_20 : decode cX0_distance 20 = .ok (.iload_n 1, 1) := by decide +kernel
theorem dX0_distance_21 : decode cX0_distance 21 = .ok (.iaload, 1) := by decide +kernel
theorem dX0_distance_22 : decode cX0_distance 22 = .ok (.aload_n 0, 1) := by decide +kernel
theorem dX0_distance_23 : decode cX0_distance 23 = .ok (.getfield 19, 3) := by decide +kernel
theorem dX0_distance_26 : decode cX0_distance 26 = .ok (.iload_n 2, 1) := by decide +kernel
theorem dX0_distance_27 : decode cX0_distance 27 = .ok (.iaload, 1) := by decide +kernel
theorem dX0_distance_28 : decode cX0_distance 28 = .ok (.isub, 1) := by decide +kernel
theorem dX0_distance_29 : decode cX0_distance 29 = .ok (.invokestatic 58, 3) := by decide +kernel
theorem dX0_distance_32 : decode cX0_distance 32 = .ok (.iadd, 1) := by decide +kernel
theorem dX0_distance_33 : decode cX0_distance 33 = .ok (.ireturn, 1) := by decide +kernel
set_option maxRecDepth 20000 in
theorem ggX0_notesNear_X0_distance : GoodIn wsX0_notesNear wsX0_distance := goodIn_r _ [7, 8, 9, 10, 11, 12, 13, 14, 15, 16, 17, 18, 19, 20, 21] (by decide +kernel) (by decide +kernel)
set_option maxRecDepth 20000 in
theorem gX0_notesNear_X0_distance : GoodIn wsX0_notesNear (wsV RX0 64 RX0 yX0_distance wsX0_distance) := goodIn_app (goodIn_of _ (by decide +kernel)) ggX0_notesNear_X0_distance
theorem dX0_notesNear_0 : decode cX0_notesNear 0 = .ok (.iconst 0, 1) := by decide +kernel
theorem dX0_notesNear_1 : decode cX0_notesNear 1 = .ok (.istore_n 2, 1) := by decide +kernel
theorem dX0_notesNear_2 : decode cX0_notesNear 2 = .ok (.iconst 0, 1) := by decide +kernel
theorem dX0_notesNear_3 : decode cX0_notesNear 3 = .ok (.istore_n 3, 1) := by decide +kernel
theorem dX0_notesNear_4 : decode cX0_notesNear 4 = .ok (.iload_n 3, 1) := by decide +kernel
theorem dX0_notesNear_5 : decode cX0_notesNear 5 = .ok (.aload_n 0, 1) := by decide +kernel
theorem dX0_notesNear_6 : decode cX0_notesNear 6 = .ok (.getfield 9, 3) := by decide +kernel
theorem dX0_notesNear_9 : decode cX0_notesNear 9 = .ok (.if_icmp .ge 32, 3) := by decide +kernel
theorem dX0_notesNear_12 : decode cX0_notesNear 12 = .ok (.iload_n 3, 1) := by decide +kernel
theorem dX0_notesNear_13 : decode cX0_notesNear 13 = .ok (.iload_n 1, 1) := by decide +kernel
theorem dX0_notesNear_14 : decode cX0_notesNear 14 = .ok (.if_icmp .eq 21, 3) := by decide +kernel
theorem dX0_notesNear_17 : decode cX0_notesNear 17 = .ok (.aload_n 0, 1) := by decide +kernel
theorem dX0_notesNear_18 : decode cX0_notesNear 18 = .ok (.iload_n 1, 1) := by decide +kernel
theorem dX0_notesNear_19 : decode cX0_notesNear 19 = .ok (.iload_n 3, 1) := by decide +kernel
theorem dX0_notesNear_20 : decode cX0_notesNear 20 = .ok (.invokevirtual 64, 3) := by decide +kernel
theorem dX0_notesNear_23 : decode cX0_notesNear 23 = .ok (.aload_n 0, 1) := by decide +kernel
theorem dX0_notesNear_24 : decode cX0_notesNear 24 = .ok (.getfield 34, 3) := by decide +kernel
theorem dX0_notesNear_27 : decode cX0_notesNear 27 = .ok (.iconst 0, 1) := by decide +kernel
theorem dX0_notesNear_28 : decode cX0_notesNear 28 = .ok (.iaload, 1) := by decide +kernel
theorem dX0_notesNear_29 : decode cX0_notesNear 29 = .ok (.if_icmp .gt 6, 3) := by decide +kernel
theorem dX0_notesNear_32 : decode cX0_notesNear 32 = .ok (.iinc 2 1, 3) := by decide +kernel
theorem dX0_notesNear_35 : decode cX0_notesNear 35 = .ok (.iinc 3 1, 3) := by decide +kernel
theorem dX0_notesNear_38 : decode cX0_notesNear 38 = .ok (.goto (-34), 3) := by decide +kernel
theorem dX0_notesNear_41 : decode cX0_notesNear 41 = .ok (.iload_n 2, 1) := by decide +kernel
theorem dX0_notesNear_42 : decode cX0_notesNear 42 = .ok (.ireturn, 1) := by decide +kernel
theorem dX0_dotsOfPerson_0 : decode cX0_dotsOfPerson 0 = .ok (.aload_n 0, 1) := by decide +kernel
theorem dX0_dotsOfPerson_1 : decode cX0_dotsOfPerson 1 = .ok (.getfield 25, 3) := by decide +kernel
theorem dX0_dotsOfPerson_4 : decode cX0_dotsOfPerson 4 = .ok (.iload_n 2, 1) := by decide +kernel
theorem dX0_dotsOfPerson_5 : decode cX0_dotsOfPerson 5 = .ok (.bipush 6, 2) := by decide +kernel
theorem dX0_dotsOfPerson_7 : decode cX0_dotsOfPerson 7 = .ok (.imul, 1) := by decide +kernel
theorem dX0_dotsOfPerson_8 : decode cX0_dotsOfPerson 8 = .ok (.iload_n 1, 1) := by decide +kernel
theorem dX0_dotsOfPerson_9 : decode cX0_dotsOfPerson 9 = .ok (.iadd, 1) := by decide +kernel
theorem dX0_dotsOfPerson_10 : decode cX0_dotsOfPerson 10 = .ok (.iaload, 1) := by decide +kernel
theorem dX0_dotsOfPerson_11 : decode cX0_dotsOfPerson 11 = .ok (.ireturn, 1) := by decide +kernel
theorem dX0_addDots_0 : decode cX0_addDots 0 = .ok (.aload_n 0, 1) := by decide +kernel
theorem dX0_addDots_1 : decode cX0_addDots 1 = .ok (.getfield 25, 3) := by decide +kernel
theorem dX0_addDots_4 : decode cX0_addDots 4 = .ok (.iload_n 2, 1) := by decide +kernel
theorem dX0_addDots_5 : decode cX0_addDots 5 = .ok (.bipush 6, 2) := by decide +kernel
theorem dX0_addDots_7 : decode cX0_addDots 7 = .ok (.imul, 1) := by decide +kernel
theorem dX0_addDots_8 : decode cX0_addDots 8 = .ok (.iload_n 1, 1) := by decide +kernel
theorem dX0_addDots_9 : decode cX0_addDots 9 = .ok (.iadd, 1) := by decide +kernel
theorem dX0_addDots_10 : decode cX0_addDots 10 = .ok (.dup2, 1) := by decide +kernel
theorem dX0_addDots_11 : decode cX0_addDots 11 = .ok (.iaload, 1) := by decide +kernel
theorem dX0_addDots_12 : decode cX0_addDots 12 = .ok (.iload_n 3, 1) := by decide +kernel
theorem dX0_addDots_13 : decode cX0_addDots 13 = .ok (.iadd, 1) := by decide +kernel
theorem dX0_addDots_14 : decode cX0_addDots 14 = .ok (.iastore, 1) := by decide +kernel
theorem dX0_addDots_15 : decode cX0_addDots 15 = .ok (.return_, 1) := by decide +kernel
set_option maxRecDepth 20000 in
theorem ggX0_dotsOn_X0_dotsOfPerson : GoodIn wsX0_dotsOn wsX0_dotsOfPerson := goodIn_r _ [5, 6, 7, 8, 9, 10, 11, 12, 13, 14] (by decide +kernel) (by decide +kernel)
set_option maxRecDepth 20000 in
theorem gX0_dotsOn_X0_dotsOfPerson : GoodIn wsX0_dotsOn (wsV RX0 68 RX0 yX0_dotsOfPerson wsX0_dotsOfPerson) := goodIn_app (goodIn_of _ (by decide +kernel)) ggX0_dotsOn_X0_dotsOfPerson
theorem dX0_dotsOn_0 : decode cX0_dotsOn 0 = .ok (.iconst 0, 1) := by decide +kernel
theorem dX0_dotsOn_1 : decode cX0_dotsOn 1 = .ok (.istore_n 2, 1) := by decide +kernel
theorem dX0_dotsOn_2 : decode cX0_dotsOn 2 = .ok (.iconst 0, 1) := by decide +kernel
theorem dX0_dotsOn_3 : decode cX0_dotsOn 3 = .ok (.istore_n 3, 1) := by decide +kernel
theorem dX0_dotsOn_4 : decode cX0_dotsOn 4 = .ok (.iload_n 3, 1) := by decide +kernel
theorem dX0_dotsOn_5 : decode cX0_dotsOn 5 = .ok (.bipush 6, 2) := by decide +kernel
theorem dX0_dotsOn_7 : decode cX0_dotsOn 7 = .ok (.if_icmp .ge 18, 3) := by decide +kernel
theorem dX0_dotsOn_10 : decode cX0_dotsOn 10 = .ok (.iload_n 2, 1) := by decide +kernel
theorem dX0_dotsOn_11 : decode cX0_dotsOn 11 = .ok (.aload_n 0, 1) := by decide +kernel
theorem dX0_dotsOn_12 : decode cX0_dotsOn 12 = .ok (.iload_n 3, 1) := by decide +kernel
theorem dX0_dotsOn_13 : decode cX0_dotsOn 13 = .ok (.iload_n 1, 1) := by decide +kernel
theorem dX0_dotsOn_14 : decode cX0_dotsOn 14 = .ok (.invokevirtual 68, 3) := by decide +kernel
theorem dX0_dotsOn_17 : decode cX0_dotsOn 17 = .ok (.iadd, 1) := by decide +kernel
theorem dX0_dotsOn_18 : decode cX0_dotsOn 18 = .ok (.istore_n 2, 1) := by decide +kernel
theorem dX0_dotsOn_19 : decode cX0_dotsOn 19 = .ok (.iinc 3 1, 3) := by decide +kernel
theorem dX0_dotsOn_22 : decode cX0_dotsOn 22 = .ok (.goto (-18), 3) := by decide +kernel
theorem dX0_dotsOn_25 : decode cX0_dotsOn 25 = .ok (.iload_n 2, 1) := by decide +kernel
theorem dX0_dotsOn_26 : decode cX0_dotsOn 26 = .ok (.ireturn, 1) := by decide +kernel
set_option maxRecDepth 20000 in
theorem ggX0_dotsLeft_X0_dotsOfPerson : GoodIn wsX0_dotsLeft wsX0_dotsOfPerson := goodIn_r _ [11, 12, 13, 14, 15, 16, 17, 18, 19, 20] (by decide +kernel) (by decide +kernel)
set_option maxRecDepth 20000 in
theorem gX0_dotsLeft_X0_dotsOfPerson : GoodIn wsX0_dotsLeft (wsV RX0 68 RX0 yX0_dotsOfPerson wsX0_dotsOfPerson) := goodIn_app (goodIn_of _ (by decide +kernel)) ggX0_dotsLeft_X0_dotsOfPerson
theorem dX0_dotsLeft_0 : decode cX0_dotsLeft 0 = .ok (.aload_n 0, 1) := by decide +kernel
theorem dX0_dotsLeft_1 : decode cX0_dotsLeft 1 = .ok (.getfield 34, 3) := by decide +kernel
theorem dX0_dotsLeft_4 : decode cX0_dotsLeft 4 = .ok (.iconst 1, 1) := by decide +kernel
theorem dX0_dotsLeft_5 : decode cX0_dotsLeft 5 = .ok (.iaload, 1) := by decide +kernel
theorem dX0_dotsLeft_6 : decode cX0_dotsLeft 6 = .ok (.istore_n 2, 1) := by decide +kernel
theorem dX0_dotsLeft_7 : decode cX0_dotsLeft 7 = .ok (.iconst 0, 1) := by decide +kernel
theorem dX0_dotsLeft_8 : decode cX0_dotsLeft 8 = .ok (.istore_n 3, 1) := by decide +kernel
theorem dX0_dotsLeft_9 : decode cX0_dotsLeft 9 = .ok (.iload_n 3, 1) := by decide +kernel
theorem dX0_dotsLeft_10 : decode cX0_dotsLeft 10 = .ok (.aload_n 0, 1) := by decide +kernel
theorem dX0_dotsLeft_11 : decode cX0_dotsLeft 11 = .ok (.getfield 9, 3) := by decide +kernel
theorem dX0_dotsLeft_14 : decode cX0_dotsLeft 14 = .ok (.if_icmp .ge 18, 3) := by decide +kernel
theorem dX0_dotsLeft_17 : decode cX0_dotsLeft 17 = .ok (.iload_n 2, 1) := by decide +kernel
theorem dX0_dotsLeft_18 : decode cX0_dotsLeft 18 = .ok (.aload_n 0, 1) := by decide +kernel
theorem dX0_dotsLeft_19 : decode cX0_dotsLeft 19 = .ok (.iload_n 1, 1) := by decide +kernel
theorem dX0_dotsLeft_20 : decode cX0_dotsLeft 20 = .ok (.iload_n 3, 1) := by decide +kernel
theorem dX0_dotsLeft_21 : decode cX0_dotsLeft 21 = .ok (.invokevirtual 68, 3) := by decide +kernel
theorem dX0_dotsLeft_24 : decode cX0_dotsLeft 24 = .ok (.isub, 1) := by decide +kernel
theorem dX0_dotsLeft_25 : decode cX0_dotsLeft 25 = .ok (.istore_n 2, 1) := by decide +kernel
theorem dX0_dotsLeft_26 : decode cX0_dotsLeft 26 = .ok (.iinc 3 1, 3) := by decide +kernel
theorem dX0_dotsLeft_29 : decode cX0_dotsLeft 29 = .ok (.goto (-20), 3) := by decide +kernel
theorem dX0_dotsLeft_32 : decode cX0_dotsLeft 32 = .ok (.iload_n 2, 1) := by decide +kernel
theorem dX0_dotsLeft_33 : decode cX0_dotsLeft 33 = .ok (.iconst 0, 1) := by decide +kernel
theorem dX0_dotsLeft_34 : decode cX0_dotsLeft 34 = .ok (.invokestatic 71, 3) := by decide +kernel
theorem dX0_dotsLeft_37 : decode cX0_dotsLeft 37 = .ok (.ireturn, 1) := by decide +kernel
set_option maxRecDepth 20000 in
theorem ggX0_hasMostDots_X0_dotsOfPerson : GoodIn wsX0_hasMostDots wsX0_dotsOfPerson := goodIn_r _ [6, 7, 8, 9, 10, 11, 12, 13, 14, 15] (by decide +kernel) (by decide +kernel)
set_option maxRecDepth 20000 in
theorem gX0_hasMostDots_X0_dotsOfPerson : GoodIn wsX0_hasMostDots (wsV RX0 68 RX0 yX0_dotsOfPerson wsX0_dotsOfPerson) := goodIn_app (goodIn_of _ (by decide +kernel)) ggX0_hasMostDots_X0_dotsOfPerson
theorem dX0_hasMostDots_0 : decode cX0_hasMostDots 0 = .ok (.aload_n 0, 1) := by decide +kernel
theorem dX0_hasMostDots_1 : decode cX0_hasMostDots 1 = .ok (.iload_n 1, 1) := by decide +kernel
theorem dX0_hasMostDots_2 : decode cX0_hasMostDots 2 = .ok (.iload_n 2, 1) := by decide +kernel
theorem dX0_hasMostDots_3 : decode cX0_hasMostDots 3 = .ok (.invokevirtual 68, 3) := by decide +kernel
theorem dX0_hasMostDots_6 : decode cX0_hasMostDots 6 = .ok (.aload_n 0, 1) := by decide +kernel
theorem dX0_hasMostDots_7 : decode cX0_hasMostDots 7 = .ok (.getfield 34, 3) := by decide +kernel
theorem dX0_hasMostDots_10 : decode cX0_hasMostDots 10 = .ok (.iconst 2, 1) := by decide +kernel
theorem dX0_hasMostDots_11 : decode cX0_hasMostDots 11 = .ok (.iaload, 1) := by decide +kernel
theorem dX0_hasMostDots_12 : decode cX0_hasMostDots 12 = .ok (.if_icmp .lt 7, 3) := by decide +kernel
theorem dX0_hasMostDots_15 : decode cX0_hasMostDots 15 = .ok (.iconst 1, 1) := by decide +kernel
theorem dX0_hasMostDots_16 : decode cX0_hasMostDots 16 = .ok (.goto 4, 3) := by decide +kernel
theorem dX0_hasMostDots_19 : decode cX0_hasMostDots 19 = .ok (.iconst 0, 1) := by decide +kernel
theorem dX0_hasMostDots_20 : decode cX0_hasMostDots 20 = .ok (.ireturn, 1) := by decide +kernel
set_option maxRecDepth 20000 in
theorem ggX0_allDotsStuck_X0_dotsOn : GoodIn wsX0_allDotsStuck wsX0_dotsOn := goodIn_r _ [6, 7, 8, 9, 5, 10, 11, 12, 13, 14, 15, 16, 17, 18, 19] (by decide +kernel) (by decide +kernel)
set_option maxRecDepth 20000 in
theorem gX0_allDotsStuck_X0_dotsOn : GoodIn wsX0_allDotsStuck (wsV RX0 74 RX0 yX0_dotsOn wsX0_dotsOn) := goodIn_app (goodIn_of _ (by decide +kernel)) ggX0_allDotsStuck_X0_dotsOn
theorem dX0_allDotsStuck_0 : decode cX0_allDotsStuck 0 = .ok (.iconst 0, 1) := by decide +kernel
theorem dX0_allDotsStuck_1 : decode cX0_allDotsStuck 1 = .ok (.istore_n 1, 1) := by decide +kernel
theorem dX0_allDotsStuck_2 : decode cX0_allDotsStuck 2 = .ok (.iconst 0, 1) := by decide +kernel
theorem dX0_allDotsStuck_3 : decode cX0_allDotsStuck 3 = .ok (.istore_n 2, 1) := by decide +kernel
theorem dX0_allDotsStuck_4 : decode cX0_allDotsStuck 4 = .ok (.iload_n 2, 1) := by decide +kernel
theorem dX0_allDotsStuck_5 : decode cX0_allDotsStuck 5 = .ok (.aload_n 0, 1) := by decide +kernel
theorem dX0_allDotsStuck_6 : decode cX0_allDotsStuck 6 = .ok (.getfield 9, 3) := by decide +kernel
theorem dX0_allDotsStuck_9 : decode cX0_allDotsStuck 9 = .ok (.if_icmp .ge 17, 3) := by decide +kernel
theorem dX0_allDotsStuck_12 : decode cX0_allDotsStuck 12 = .ok (.iload_n 1, 1) := by decide +kernel
theorem dX0_allDotsStuck_13 : decode cX0_allDotsStuck 13 = .ok (.aload_n 0, 1) := by decide +kernel
theorem dX0_allDotsStuck_14 : decode cX0_allDotsStuck 14 = .ok (.iload_n 2, 1) := by decide +kernel
theorem dX0_allDotsStuck_15 : decode cX0_allDotsStuck 15 = .ok (.invokevirtual 74, 3) := by decide +kernel
theorem dX0_allDotsStuck_18 : decode cX0_allDotsStuck 18 = .ok (.iadd, 1) := by decide +kernel
theorem dX0_allDotsStuck_19 : decode cX0_allDotsStuck 19 = .ok (.istore_n 1, 1) := by decide +kernel
theorem dX0_allDotsStuck_20 : decode cX0_allDotsStuck 20 = .ok (.iinc 2 1, 3) := by decide +kernel
theorem dX0_allDotsStuck_23 : decode cX0_allDotsStuck 23 = .ok (.goto (-19), 3) := by decide +kernel
theorem dX0_allDotsStuck_26 : decode cX0_allDotsStuck 26 = .ok (.iload_n 1, 1) := by decide +kernel
theorem dX0_allDotsStuck_27 : decode cX0_allDotsStuck 27 = .ok (.ireturn, 1) := by decide +kernel
set_option maxRecDepth 20000 in
theorem ggX0_allDotsLeft_X0_dotsLeft : GoodIn wsX0_allDotsLeft wsX0_dotsLeft := goodIn_r _ [5, 6, 7, 8, 9, 10, 11, 12, 13, 14, 4, 15, 16, 17, 18, 19, 20, 21, 22, 23, 24] (by decide +kernel) (by decide +kernel)
set_option maxRecDepth 20000 in
theorem gX0_allDotsLeft_X0_dotsLeft : GoodIn wsX0_allDotsLeft (wsV RX0 77 RX0 yX0_dotsLeft wsX0_dotsLeft) := goodIn_app (goodIn_of _ (by decide +kernel)) ggX0_allDotsLeft_X0_dotsLeft
theorem dX0_allDotsLeft_0 : decode cX0_allDotsLeft 0 = .ok (.iconst 0, 1) := by decide +kernel
theorem dX0_allDotsLeft_1 : decode cX0_allDotsLeft 1 = .ok (.istore_n 1, 1) := by decide +kernel
theorem dX0_allDotsLeft_2 : decode cX0_allDotsLeft 2 = .ok (.iconst 0, 1) := by decide +kernel
theorem dX0_allDotsLeft_3 : decode cX0_allDotsLeft 3 = .ok (.istore_n 2, 1) := by decide +kernel
theorem dX0_allDotsLeft_4 : decode cX0_allDotsLeft 4 = .ok (.iload_n 2, 1) := by decide +kernel
theorem dX0_allDotsLeft_5 : decode cX0_allDotsLeft 5 = .ok (.bipush 6, 2) := by decide +kernel
theorem dX0_allDotsLeft_7 : decode cX0_allDotsLeft 7 = .ok (.if_icmp .ge 17, 3) := by decide +kernel
theorem dX0_allDotsLeft_10 : decode cX0_allDotsLeft 10 = .ok (.iload_n 1, 1) := by decide +kernel
theorem dX0_allDotsLeft_11 : decode cX0_allDotsLeft 11 = .ok (.aload_n 0, 1) := by decide +kernel
theorem dX0_allDotsLeft_12 : decode cX0_allDotsLeft 12 = .ok (.iload_n 2, 1) := by decide +kernel
theorem dX0_allDotsLeft_13 : decode cX0_allDotsLeft 13 = .ok (.invokevirtual 77, 3) := by decide +kernel
theorem dX0_allDotsLeft_16 : decode cX0_allDotsLeft 16 = .ok (.iadd, 1) := by decide +kernel
theorem dX0_allDotsLeft_17 : decode cX0_allDotsLeft 17 = .ok (.istore_n 1, 1) := by decide +kernel
theorem dX0_allDotsLeft_18 : decode cX0_allDotsLeft 18 = .ok (.iinc 2 1, 3) := by decide +kernel
theorem dX0_allDotsLeft_21 : decode cX0_allDotsLeft 21 = .ok (.goto (-17), 3) := by decide +kernel
theorem dX0_allDotsLeft_24 : decode cX0_allDotsLeft 24 = .ok (.iload_n 1, 1) := by decide +kernel
theorem dX0_allDotsLeft_25 : decode cX0_allDotsLeft 25 = .ok (.ireturn, 1) := by decide +kernel
set_option maxRecDepth 20000 in
theorem ggX0_addTheme_X0_setVote : GoodIn wsX0_addTheme wsX0_setVote := goodIn_r _ [6, 7, 8, 9, 10, 11, 12, 13, 14, 15] (by decide +kernel) (by decide +kernel)
set_option maxRecDepth 20000 in
theorem gX0_addTheme_X0_setVote : GoodIn wsX0_addTheme (wsV RX0 80 RX0 yX0_setVote wsX0_setVote) := goodIn_app (goodIn_of _ (by decide +kernel)) ggX0_addTheme_X0_setVote
theorem dX0_addTheme_0 : decode cX0_addTheme 0 = .ok (.aload_n 0, 1) := by decide +kernel
theorem dX0_addTheme_1 : decode cX0_addTheme 1 = .ok (.getfield 28, 3) := by decide +kernel
theorem dX0_addTheme_4 : decode cX0_addTheme 4 = .ok (.istore_n 1, 1) := by decide +kernel
theorem dX0_addTheme_5 : decode cX0_addTheme 5 = .ok (.aload_n 0, 1) := by decide +kernel
theorem dX0_addTheme_6 : decode cX0_addTheme 6 = .ok (.dup, 1) := by decide +kernel
theorem dX0_addTheme_7 : decode cX0_addTheme 7 = .ok (.getfield 28, 3) := by decide +kernel
theorem dX0_addTheme_10 : decode cX0_addTheme 10 = .ok (.iconst 1, 1) := by decide +kernel
theorem dX0_addTheme_11 : decode cX0_addTheme 11 = .ok (.iadd, 1) := by decide +kernel
theorem dX0_addTheme_12 : decode cX0_addTheme 12 = .ok (.putfield 28, 3) := by decide +kernel
theorem dX0_addTheme_15 : decode cX0_addTheme 15 = .ok (.iconst 0, 1) := by decide +kernel
theorem dX0_addTheme_16 : decode cX0_addTheme 16 = .ok (.istore_n 2, 1) := by decide +kernel
theorem dX0_addTheme_17 : decode cX0_addTheme 17 = .ok (.iload_n 2, 1) := by decide +kernel
theorem dX0_addTheme_18 : decode cX0_addTheme 18 = .ok (.bipush 6, 2) := by decide +kernel
theorem dX0_addTheme_20 : decode cX0_addTheme 20 = .ok (.if_icmp .ge 17, 3) := by decide +kernel
theorem dX0_addTheme_23 : decode cX0_addTheme 23 = .ok (.aload_n 0, 1) := by decide +kernel
theorem dX0_addTheme_24 : decode cX0_addTheme 24 = .ok (.iload_n 2, 1) := by decide +kernel
theorem dX0_addTheme_25 : decode cX0_addTheme 25 = .ok (.iload_n 1, 1) := by decide +kernel
theorem dX0_addTheme_26 : decode cX0_addTheme 26 = .ok (.bipush (-5), 2) := by decide +kernel
theorem dX0_addTheme_28 : decode cX0_addTheme 28 = .ok (.invokevirtual 80, 3) := by decide +kernel
theorem dX0_addTheme_31 : decode cX0_addTheme 31 = .ok (.iinc 2 1, 3) := by decide +kernel
theorem dX0_addTheme_34 : decode cX0_addTheme 34 = .ok (.goto (-17), 3) := by decide +kernel
theorem dX0_addTheme_37 : decode cX0_addTheme 37 = .ok (.iload_n 1, 1) := by decide +kernel
theorem dX0_addTheme_38 : decode cX0_addTheme 38 = .ok (.ireturn, 1) := by decide +kernel
set_option maxRecDepth 20000 in
theorem ggX0_mergeThemes_X0_voteOf : GoodIn wsX0_mergeThemes wsX0_voteOf := goodIn_r _ [7, 8, 22, 23, 24, 25, 26, 27, 28, 29] (by decide +kernel) (by decide +kernel)
set_option maxRecDepth 20000 in
theorem gX0_mergeThemes_X0_voteOf : GoodIn wsX0_mergeThemes (wsV RX0 83 RX0 yX0_voteOf wsX0_voteOf) := goodIn_app (goodIn_of _ (by decide +kernel)) ggX0_mergeThemes_X0_voteOf
set_option maxRecDepth 20000 in
theorem ggX0_mergeThemes_X0_setVote : GoodIn wsX0_mergeThemes wsX0_setVote := goodIn_r _ [12, 8, 22, 23, 24, 25, 26, 27, 28, 29] (by decide +kernel) (by decide +kernel)
set_option maxRecDepth 20000 in
theorem gX0_mergeThemes_X0_setVote : GoodIn wsX0_mergeThemes (wsV RX0 80 RX0 yX0_setVote wsX0_setVote) := goodIn_app (goodIn_of _ (by decide +kernel)) ggX0_mergeThemes_X0_setVote
set_option maxRecDepth 20000 in
theorem ggX0_mergeThemes_X0_removeThemeIfEmpty : GoodIn wsX0_mergeThemes wsX0_removeThemeIfEmpty := goodIn_r _ [16, 1, 2, 17, 18, 19, 20, 6, 21, 3, 4, 5, 7, 8, 9, 10, 11, 12, 22, 23, 24, 25, 26, 27, 28, 29] (by decide +kernel) (by decide +kernel)
set_option maxRecDepth 20000 in
theorem gX0_mergeThemes_X0_removeThemeIfEmpty : GoodIn wsX0_mergeThemes (wsV RX0 54 RX0 yX0_removeThemeIfEmpty wsX0_removeThemeIfEmpty) := goodIn_app (goodIn_of _ (by decide +kernel)) ggX0_mergeThemes_X0_removeThemeIfEmpty
theorem dX0_mergeThemes_0 : decode cX0_mergeThemes 0 = .ok (.iconst 0, 1) := by decide +kernel
theorem dX0_mergeThemes_1 : decode cX0_mergeThemes 1 = .ok (.istore_n 3, 1) := by decide +kernel
theorem dX0_mergeThemes_2 : decode cX0_mergeThemes 2 = .ok (.iload_n 3, 1) := by decide +kernel
theorem dX0_mergeThemes_3 : decode cX0_mergeThemes 3 = .ok (.aload_n 0, 1) := by decide +kernel
theorem dX0_mergeThemes_4 : decode cX0_mergeThemes 4 = .ok (.getfield 9, 3) := by decide +kernel
theorem dX0_mergeThemes_7 : decode cX0_mergeThemes 7 = .ok (.if_icmp .ge 26, 3) := by decide +kernel
theorem dX0_mergeThemes_10 : decode cX0_mergeThemes 10 = .ok (.aload_n 0, 1) := by decide +kernel
theorem dX0_mergeThemes_11 : decode cX0_mergeThemes 11 = .ok (.getfield 22, 3) := by decide +kernel
theorem dX0_mergeThemes_14 : decode cX0_mergeThemes 14 = .ok (.iload_n 3, 1) := by decide +kernel
theorem dX0_mergeThemes_15 : decode cX0_mergeThemes 15 = .ok (.iaload, 1) := by decide +kernel
theorem dX0_mergeThemes_16 : decode cX0_mergeThemes 16 = .ok (.iload_n 2, 1) := by decide +kernel
theorem dX0_mergeThemes_17 : decode cX0_mergeThemes 17 = .ok (.if_icmp .ne 10, 3) := by decide +kernel
theorem dX0_mergeThemes_20 : decode cX0_mergeThemes 20 = .ok (.aload_n 0, 1) := by decide +kernel
theorem dX0_mergeThemes_21 : decode cX0_mergeThemes 21 = .ok (.getfield 22, 3) := by decide +kernel
theorem dX0_mergeThemes_24 : decode cX0_mergeThemes 24 = .ok (.iload_n 3, 1) := by decide +kernel
theorem dX0_mergeThemes_25 : decode cX0_mergeThemes 25 = .ok (.iload_n 1, 1) := by decide +kernel
theorem dX0_mergeThemes_26 : decode cX0_mergeThemes 26 = .ok (.iastore, 1) := by decide +kernel
theorem dX0_mergeThemes_27 : decode cX0_mergeThemes 27 = .ok (.iinc 3 1, 3) := by decide +kernel
theorem dX0_mergeThemes_30 : decode cX0_mergeThemes 30 = .ok (.goto (-28), 3) := by decide +kernel
theorem dX0_mergeThemes_33 : decode cX0_mergeThemes 33 = .ok (.iconst 0, 1) := by decide +kernel
theorem dX0_mergeThemes_34 : decode cX0_mergeThemes 34 = .ok (.istore_n 3, 1) := by decide +kernel
theorem dX0_mergeThemes_35 : decode cX0_mergeThemes 35 = .ok (.iload_n 3, 1) := by decide +kernel
theorem dX0_mergeThemes_36 : decode cX0_mergeThemes 36 = .ok (.bipush 6, 2) := by decide +kernel
theorem dX0_mergeThemes_38 : decode cX0_mergeThemes 38 = .ok (.if_icmp .ge 32, 3) := by decide +kernel
theorem dX0_mergeThemes_41 : decode cX0_mergeThemes 41 = .ok (.aload_n 0, 1) := by decide +kernel
theorem dX0_mergeThemes_42 : decode cX0_mergeThemes 42 = .ok (.iload_n 3, 1) := by decide +kernel
theorem dX0_mergeThemes_43 : decode cX0_mergeThemes 43 = .ok (.iload_n 1, 1) := by decide +kernel
theorem dX0_mergeThemes_44 : decode cX0_mergeThemes 44 = .ok (.invokevirtual 83, 3) := by decide +kernel
theorem dX0_mergeThemes_47 : decode cX0_mergeThemes 47 = .ok (.bipush (-5), 2) := by decide +kernel
theorem dX0_mergeThemes_49 : decode cX0_mergeThemes 49 = .ok (.if_icmp .ne 15, 3) := by decide +kernel
theorem dX0_mergeThemes_52 : decode cX0_mergeThemes 52 = .ok (.aload_n 0, 1) := by decide +kernel
theorem dX0_mergeThemes_53 : decode cX0_mergeThemes 53 = .ok (.iload_n 3, 1) := by decide +kernel
theorem dX0_mergeThemes_54 : decode cX0_mergeThemes 54 = .ok (.iload_n 1, 1) := by decide +kernel
theorem dX0_mergeThemes_55 : decode cX0_mergeThemes 55 = .ok (.aload_n 0, 1) := by decide +kernel
theorem dX0_mergeThemes_56 : decode cX0_mergeThemes 56 = .ok (.iload_n 3, 1) := by decide +kernel
theorem dX0_mergeThemes_57 : decode cX0_mergeThemes 57 = .ok (.iload_n 2, 1) := by decide +kernel
theorem dX0_mergeThemes_58 : decode cX0_mergeThemes 58 = .ok (.invokevirtual 83, 3) := by decide +kernel
theorem dX0_mergeThemes_61 : decode cX0_mergeThemes 61 = .ok (.invokevirtual 80, 3) := by decide +kernel
theorem dX0_mergeThemes_64 : decode cX0_mergeThemes 64 = .ok (.iinc 3 1, 3) := by decide +kernel
theorem dX0_mergeThemes_67 : decode cX0_mergeThemes 67 = .ok (.goto (-32), 3) := by decide +kernel
theorem dX0_mergeThemes_70 : decode cX0_mergeThemes 70 = .ok (.aload_n 0, 1) := by decide +kernel
theorem dX0_mergeThemes_71 : decode cX0_mergeThemes 71 = .ok (.iload_n 2, 1) := by decide +kernel
theorem dX0_mergeThemes_72 : decode cX0_mergeThemes 72 = .ok (.invokevirtual 54, 3) := by decide +kernel
theorem dX0_mergeThemes_75 : decode cX0_mergeThemes 75 = .ok (.return_, 1) := by decide +kernel
set_option maxRecDepth 20000 in
theorem ggX0_removeThemeIfEmpty_X0_notesOfTheme : GoodIn wsX0_removeThemeIfEmpty wsX0_notesOfTheme := goodIn_r _ [8, 1, 2, 18, 19, 20, 21, 22, 23, 24, 25] (by decide +kernel) (by decide +kernel)
set_option maxRecDepth 20000 in
theorem gX0_removeThemeIfEmpty_X0_notesOfTheme : GoodIn wsX0_removeThemeIfEmpty (wsV RX0 86 RX0 yX0_notesOfTheme wsX0_notesOfTheme) := goodIn_app (goodIn_of _ (by decide +kernel)) ggX0_removeThemeIfEmpty_X0_notesOfTheme
set_option maxRecDepth 20000 in
theorem ggX0_removeThemeIfEmpty_X0_voteOf : GoodIn wsX0_removeThemeIfEmpty wsX0_voteOf := goodIn_r _ [12, 13, 18, 19, 20, 21, 22, 23, 24, 25] (by decide +kernel) (by decide +kernel)
set_option maxRecDepth 20000 in
theorem gX0_removeThemeIfEmpty_X0_voteOf : GoodIn wsX0_removeThemeIfEmpty (wsV RX0 83 RX0 yX0_voteOf wsX0_voteOf) := goodIn_app (goodIn_of _ (by decide +kernel)) ggX0_removeThemeIfEmpty_X0_voteOf
set_option maxRecDepth 20000 in
theorem ggX0_removeThemeIfEmpty_X0_setVote : GoodIn wsX0_removeThemeIfEmpty wsX0_setVote := goodIn_r _ [17, 13, 18, 19, 20, 21, 22, 23, 24, 25] (by decide +kernel) (by decide +kernel)
set_option maxRecDepth 20000 in
theorem gX0_removeThemeIfEmpty_X0_setVote : GoodIn wsX0_removeThemeIfEmpty (wsV RX0 80 RX0 yX0_setVote wsX0_setVote) := goodIn_app (goodIn_of _ (by decide +kernel)) ggX0_removeThemeIfEmpty_X0_setVote
theorem dX0_removeThemeIfEmpty_0 : decode cX0_removeThemeIfEmpty 0 = .ok (.iload_n 1, 1) := by decide +kernel
theorem dX0_removeThemeIfEmpty_1 : decode cX0_removeThemeIfEmpty 1 = .ok (.bipush (-5), 2) := by decide +kernel
theorem dX0_removeThemeIfEmpty_3 : decode cX0_removeThemeIfEmpty 3 = .ok (.if_icmp .eq 11, 3) := by decide +kernel
theorem dX0_removeThemeIfEmpty_6 : decode cX0_removeThemeIfEmpty 6 = .ok (.aload_n 0, 1) := by decide +kernel
theorem dX0_removeThemeIfEmpty_7 : decode cX0_removeThemeIfEmpty 7 = .ok (.iload_n 1, 1) := by decide +kernel
theorem dX0_removeThemeIfEmpty_8 : decode cX0_removeThemeIfEmpty 8 = .ok (.invokevirtual 86, 3) := by decide +kernel
theorem dX0_removeThemeIfEmpty_11 : decode cX0_removeThemeIfEmpty 11 = .ok (.ifCond .le 4, 3) := by decide +kernel
theorem dX0_removeThemeIfEmpty_14 : decode cX0_removeThemeIfEmpty 14 = .ok (.return_, 1) := by decide +kernel
theorem dX0_removeThemeIfEmpty_15 : decode cX0_removeThemeIfEmpty 15 = .ok (.iconst 0, 1) := by decide +kernel
theorem dX0_removeThemeIfEmpty_16 : decode cX0_removeThemeIfEmpty 16 = .ok (.istore_n 2, 1) := by decide +kernel
theorem dX0_removeThemeIfEmpty_17 : decode cX0_removeThemeIfEmpty 17 = .ok (.iload_n 2, 1) := by decide +kernel
theorem dX0_removeThemeIfEmpty_18 : decode cX0_removeThemeIfEmpty 18 = .ok (.aload_n 0, 1) := by decide +kernel
theorem dX0_removeThemeIfEmpty_19 : decode cX0_removeThemeIfEmpty 19 = .ok (.getfield 9, 3) := by decide +kernel
theorem dX0_removeThemeIfEmpty_22 : decode cX0_removeThemeIfEmpty 22 = .ok (.if_icmp .ge 29, 3) := by decide +kernel
theorem dX0_removeThemeIfEmpty_25 : decode cX0_removeThemeIfEmpty 25 = .ok (.aload_n 0, 1) := by decide +kernel
theorem dX0_removeThemeIfEmpty_26 : decode cX0_removeThemeIfEmpty 26 = .ok (.getfield 22, 3) := by decide +kernel
theorem dX0_removeThemeIfEmpty_29 : decode cX0_removeThemeIfEmpty 29 = .ok (.iload_n 2, 1) := by decide +kernel
theorem dX0_removeThemeIfEmpty_30 : decode cX0_removeThemeIfEmpty 30 = .ok (.iaload, 1) := by decide +kernel
theorem dX0_removeThemeIfEmpty_31 : decode cX0_removeThemeIfEmpty 31 = .ok (.iload_n 1, 1) := by decide +kernel
theorem dX0_removeThemeIfEmpty_32 : decode cX0_removeThemeIfEmpty 32 = .ok (.if_icmp .le 13, 3) := by decide +kernel
theorem dX0_removeThemeIfEmpty_35 : decode cX0_removeThemeIfEmpty 35 = .ok (.aload_n 0, 1) := by decide +kernel
theorem dX0_removeThemeIfEmpty_36 : decode cX0_removeThemeIfEmpty 36 = .ok (.getfield 22, 3) := by decide +kernel
theorem dX0_removeThemeIfEmpty_39 : decode cX0_removeThemeIfEmpty 39 = .ok (.iload_n 2, 1) := by decide +kernel
theorem dX0_removeThemeIfEmpty_40 : decode cX0_removeThemeIfEmpty 40 = .ok (.dup2, 1) := by decide +kernel
theorem dX0_removeThemeIfEmpty_41 : decode cX0_removeThemeIfEmpty 41 = .ok (.iaload, 1) := by decide +kernel
theorem dX0_removeThemeIfEmpty_42 : decode cX0_removeThemeIfEmpty 42 = .ok (.iconst 1, 1) := by decide +kernel
theorem dX0_removeThemeIfEmpty_43 : decode cX0_removeThemeIfEmpty 43 = .ok (.isub, 1) := by decide +kernel
theorem dX0_removeThemeIfEmpty_44 : decode cX0_removeThemeIfEmpty 44 = .ok (.iastore, 1) := by decide +kernel
theorem dX0_removeThemeIfEmpty_45 : decode cX0_removeThemeIfEmpty 45 = .ok (.iinc 2 1, 3) := by decide +kernel
theorem dX0_removeThemeIfEmpty_48 : decode cX0_removeThemeIfEmpty 48 = .ok (.goto (-31), 3) := by decide +kernel
theorem dX0_removeThemeIfEmpty_51 : decode cX0_removeThemeIfEmpty 51 = .ok (.iload_n 1, 1) := by decide +kernel
theorem dX0_removeThemeIfEmpty_52 : decode cX0_removeThemeIfEmpty 52 = .ok (.istore_n 2, 1) := by decide +kernel
theorem dX0_removeThemeIfEmpty_53 : decode cX0_removeThemeIfEmpty 53 = .ok (.iload_n 2, 1) := by decide +kernel
theorem dX0_removeThemeIfEmpty_54 : decode cX0_removeThemeIfEmpty 54 = .ok (.aload_n 0, 1) := by decide +kernel
theorem dX0_removeThemeIfEmpty_55 : decode cX0_removeThemeIfEmpty 55 = .ok (.getfield 28, 3) := by decide +kernel
theorem dX0_removeThemeIfEmpty_58 : decode cX0_removeThemeIfEmpty 58 = .ok (.iconst 1, 1) := by decide +kernel
theorem dX0_removeThemeIfEmpty_59 : decode cX0_removeThemeIfEmpty 59 = .ok (.isub, 1) := by decide +kernel
theorem dX0_removeThemeIfEmpty_60 : decode cX0_removeThemeIfEmpty 60 = .ok (.if_icmp .ge 37, 3) := by decide +kernel
theorem dX0_removeThemeIfEmpty_63 : decode cX0_removeThemeIfEmpty 63 = .ok (.iconst 0, 1) := by decide +kernel
theorem dX0_removeThemeIfEmpty_64 : decode cX0_removeThemeIfEmpty 64 = .ok (.istore_n 3, 1) := by decide +kernel
theorem dX0_removeThemeIfEmpty_65 : decode cX0_removeThemeIfEmpty 65 = .ok (.iload_n 3, 1) := by decide +kernel
theorem dX0_removeThemeIfEmpty_66 : decode cX0_removeThemeIfEmpty 66 = .ok (.bipush 6, 2) := by decide +kernel
theorem dX0_removeThemeIfEmpty_68 : decode cX0_removeThemeIfEmpty 68 = .ok (.if_icmp .ge 23, 3) := by decide +kernel
theorem dX0_removeThemeIfEmpty_71 : decode cX0_removeThemeIfEmpty 71 = .ok (.aload_n 0, 1) := by decide +kernel
theorem dX0_removeThemeIfEmpty_72 : decode cX0_removeThemeIfEmpty 72 = .ok (.iload_n 3, 1) := by decide +kernel
theorem dX0_removeThemeIfEmpty_73 : decode cX0_removeThemeIfEmpty 73 = .ok (.iload_n 2, 1) := by decide +kernel
theorem dX0_removeThemeIfEmpty_74 : decode cX0_removeThemeIfEmpty 74 = .ok (.aload_n 0, 1) := by decide +kernel
theorem dX0_removeThemeIfEmpty_75 : decode cX0_removeThemeIfEmpty 75 = .ok (.iload_n 3, 1) := by decide +kernel
theorem dX0_removeThemeIfEmpty_76 : decode cX0_removeThemeIfEmpty 76 = .ok (.iload_n 2, 1) := by decide +kernel
theorem dX0_removeThemeIfEmpty_77 : decode cX0_removeThemeIfEmpty 77 = .ok (.iconst 1, 1) := by decide +kernel
theorem dX0_removeThemeIfEmpty_78 : decode cX0_removeThemeIfEmpty 78 = .ok (.iadd, 1) := by decide +kernel
theorem dX0_removeThemeIfEmpty_79 : decode cX0_removeThemeIfEmpty 79 = .ok (.invokevirtual 83, 3) := by decide +kernel
theorem dX0_removeThemeIfEmpty_82 : decode cX0_removeThemeIfEmpty 82 = .ok (.invokevirtual 80, 3) := by decide +kernel
theorem dX0_removeThemeIfEmpty_85 : decode cX0_removeThemeIfEmpty 85 = .ok (.iinc 3 1, 3) := by decide +kernel
theorem dX0_removeThemeIfEmpty_88 : decode cX0_removeThemeIfEmpty 88 = .ok (.goto (-23), 3) := by decide +kernel
theorem dX0_removeThemeIfEmpty_91 : decode cX0_removeThemeIfEmpty 91 = .ok (.iinc 2 1, 3) := by decide +kernel
theorem dX0_removeThemeIfEmpty_94 : decode cX0_removeThemeIfEmpty 94 = .ok (.goto (-41), 3) := by decide +kernel
theorem dX0_removeThemeIfEmpty_97 : decode cX0_removeThemeIfEmpty 97 = .ok (.aload_n 0, 1) := by decide +kernel
theorem dX0_removeThemeIfEmpty_98 : decode cX0_removeThemeIfEmpty 98 = .ok (.dup, 1) := by decide +kernel
theorem dX0_removeThemeIfEmpty_99 : decode cX0_removeThemeIfEmpty 99 = .ok (.getfield 28, 3) := by decide +kernel
theorem dX0_removeThemeIfEmpty_102 : decode cX0_removeThemeIfEmpty 102 = .ok (.iconst 1, 1) := by decide +kernel
theorem dX0_removeThemeIfEmpty_103 : decode cX0_removeThemeIfEmpty 103 = .ok (.isub, 1) := by decide +kernel
theorem dX0_removeThemeIfEmpty_104 : decode cX0_removeThemeIfEmpty 104 = .ok (.putfield 28, 3) := by decide +kernel
theorem dX0_removeThemeIfEmpty_107 : decode cX0_removeThemeIfEmpty 107 = .ok (.return_, 1) := by decide +kernel
theorem dX0_notesOfTheme_0 : decode cX0_notesOfTheme 0 = .ok (.iconst 0, 1) := by decide +kernel
theorem dX0_notesOfTheme_1 : decode cX0_notesOfTheme 1 = .ok (.istore_n 2, 1) := by decide +kernel
theorem dX0_notesOfTheme_2 : decode cX0_notesOfTheme 2 = .ok (.iconst 0, 1) := by decide +kernel
theorem dX0_notesOfTheme_3 : decode cX0_notesOfTheme 3 = .ok (.istore_n 3, 1) := by decide +kernel
theorem dX0_notesOfTheme_4 : decode cX0_notesOfTheme 4 = .ok (.iload_n 3, 1) := by decide +kernel
theorem dX0_notesOfTheme_5 : decode cX0_notesOfTheme 5 = .ok (.aload_n 0, 1) := by decide +kernel
theorem dX0_notesOfTheme_6 : decode cX0_notesOfTheme 6 = .ok (.getfield 9, 3) := by decide +kernel
theorem dX0_notesOfTheme_9 : decode cX0_notesOfTheme 9 = .ok (.if_icmp .ge 22, 3) := by decide +kernel
theorem dX0_notesOfTheme_12 : decode cX0_notesOfTheme 12 = .ok (.aload_n 0, 1) := by decide +kernel
theorem dX0_notesOfTheme_13 : decode cX0_notesOfTheme 13 = .ok (.getfield 22, 3) := by decide +kernel
theorem dX0_notesOfTheme_16 : decode cX0_notesOfTheme 16 = .ok (.iload_n 3, 1) := by decide +kernel
theorem dX0_notesOfTheme_17 : decode cX0_notesOfTheme 17 = .ok (.iaload, 1) := by decide +kernel
theorem dX0_notesOfTheme_18 : decode cX0_notesOfTheme 18 = .ok (.iload_n 1, 1) := by decide +kernel
theorem dX0_notesOfTheme_19 : decode cX0_notesOfTheme 19 = .ok (.if_icmp .ne 6, 3) := by decide +kernel
theorem dX0_notesOfTheme_22 : decode cX0_notesOfTheme 22 = .ok (.iinc 2 1, 3) := by decide +kernel
theorem dX0_notesOfTheme_25 : decode cX0_notesOfTheme 25 = .ok (.iinc 3 1, 3) := by decide +kernel
theorem dX0_notesOfTheme_28 : decode cX0_notesOfTheme 28 = .ok (.goto (-24), 3) := by decide +kernel
theorem dX0_notesOfTheme_31 : decode cX0_notesOfTheme 31 = .ok (.iload_n 2, 1) := by decide +kernel
theorem dX0_notesOfTheme_32 : decode cX0_notesOfTheme 32 = .ok (.ireturn, 1) := by decide +kernel
set_option maxRecDepth 20000 in
theorem ggX0_dotsOfTheme_X0_dotsOn : GoodIn wsX0_dotsOfTheme wsX0_dotsOn := goodIn_r _ [7, 8, 9, 10, 6, 11, 12, 13, 14, 15, 16, 17, 18, 19, 20] (by decide +kernel) (by decide +kernel)
set_option maxRecDepth 20000 in
theorem gX0_dotsOfTheme_X0_dotsOn : GoodIn wsX0_dotsOfTheme (wsV RX0 74 RX0 yX0_dotsOn wsX0_dotsOn) := goodIn_app (goodIn_of _ (by decide +kernel)) ggX0_dotsOfTheme_X0_dotsOn
theorem dX0_dotsOfTheme_0 : decode cX0_dotsOfTheme 0 = .ok (.iconst 0, 1) := by decide +kernel
theorem dX0_dotsOfTheme_1 : decode cX0_dotsOfTheme 1 = .ok (.istore_n 2, 1) := by decide +kernel
theorem dX0_dotsOfTheme_2 : decode cX0_dotsOfTheme 2 = .ok (.iconst 0, 1) := by decide +kernel
theorem dX0_dotsOfTheme_3 : decode cX0_dotsOfTheme 3 = .ok (.istore_n 3, 1) := by decide +kernel
theorem dX0_dotsOfTheme_4 : decode cX0_dotsOfTheme 4 = .ok (.iload_n 3, 1) := by decide +kernel
theorem dX0_dotsOfTheme_5 : decode cX0_dotsOfTheme 5 = .ok (.aload_n 0, 1) := by decide +kernel
theorem dX0_dotsOfTheme_6 : decode cX0_dotsOfTheme 6 = .ok (.getfield 9, 3) := by decide +kernel
theorem dX0_dotsOfTheme_9 : decode cX0_dotsOfTheme 9 = .ok (.if_icmp .ge 27, 3) := by decide +kernel
theorem dX0_dotsOfTheme_12 : decode cX0_dotsOfTheme 12 = .ok (.aload_n 0, 1) := by decide +kernel
theorem dX0_dotsOfTheme_13 : decode cX0_dotsOfTheme 13 = .ok (.getfield 22, 3) := by decide +kernel
theorem dX0_dotsOfTheme_16 : decode cX0_dotsOfTheme 16 = .ok (.iload_n 3, 1) := by decide +kernel
theorem dX0_dotsOfTheme_17 : decode cX0_dotsOfTheme 17 = .ok (.iaload, 1) := by decide +kernel
theorem dX0_dotsOfTheme_18 : decode cX0_dotsOfTheme 18 = .ok (.iload_n 1, 1) := by decide +kernel
theorem dX0_dotsOfTheme_19 : decode cX0_dotsOfTheme 19 = .ok (.if_icmp .ne 11, 3) := by decide +kernel
theorem dX0_dotsOfTheme_22 : decode cX0_dotsOfTheme 22 = .ok (.iload_n 2, 1) := by decide +kernel
theorem dX0_dotsOfTheme_23 : decode cX0_dotsOfTheme 23 = .ok (.aload_n 0, 1) := by decide +kernel
theorem dX0_dotsOfTheme_24 : decode cX0_dotsOfTheme 24 = .ok (.iload_n 3, 1) := by decide +kernel
theorem dX0_dotsOfTheme_25 : decode cX0_dotsOfTheme 25 = .ok (.invokevirtual 74, 3) := by decide +kernel
theorem dX0_dotsOfTheme_28 : decode cX0_dotsOfTheme 28 = .ok (.iadd, 1) := by decide +kernel
theorem dX0_dotsOfTheme_29 : decode cX0_dotsOfTheme 29 = .ok (.istore_n 2, 1) := by decide +kernel
theorem dX0_dotsOfTheme_30 : decode cX0_dotsOfTheme 30 = .ok (.iinc 3 1, 3) := by decide +kernel
theorem dX0_dotsOfTheme_33 : decode cX0_dotsOfTheme 33 = .ok (.goto (-29), 3) := by decide +kernel
theorem dX0_dotsOfTheme_36 : decode cX0_dotsOfTheme 36 = .ok (.iload_n 2, 1) := by decide +kernel
theorem dX0_dotsOfTheme_37 : decode cX0_dotsOfTheme 37 = .ok (.ireturn, 1) := by decide +kernel
theorem dX0_voteOf_0 : decode cX0_voteOf 0 = .ok (.aload_n 0, 1) := by decide +kernel
theorem dX0_voteOf_1 : decode cX0_voteOf 1 = .ok (.getfield 31, 3) := by decide +kernel
theorem dX0_voteOf_4 : decode cX0_voteOf 4 = .ok (.iload_n 2, 1) := by decide +kernel
theorem dX0_voteOf_5 : decode cX0_voteOf 5 = .ok (.bipush 6, 2) := by decide +kernel
theorem dX0_voteOf_7 : decode cX0_voteOf 7 = .ok (.imul, 1) := by decide +kernel
theorem dX0_voteOf_8 : decode cX0_voteOf 8 = .ok (.iload_n 1, 1) := by decide +kernel
theorem dX0_voteOf_9 : decode cX0_voteOf 9 = .ok (.iadd, 1) := by decide +kernel
theorem dX0_voteOf_10 : decode cX0_voteOf 10 = .ok (.iaload, 1) := by decide +kernel
theorem dX0_voteOf_11 : decode cX0_voteOf 11 = .ok (.ireturn, 1) := by decide +kernel
theorem dX0_setVote_0 : decode cX0_setVote 0 = .ok (.aload_n 0, 1) := by decide +kernel
theorem dX0_setVote_1 : decode cX0_setVote 1 = .ok (.getfield 31, 3) := by decide +kernel
theorem dX0_setVote_4 : decode cX0_setVote 4 = .ok (.iload_n 2, 1) := by decide +kernel
theorem dX0_setVote_5 : decode cX0_setVote 5 = .ok (.bipush 6, 2) := by decide +kernel
theorem dX0_setVote_7 : decode cX0_setVote 7 = .ok (.imul, 1) := by decide +kernel
theorem dX0_setVote_8 : decode cX0_setVote 8 = .ok (.iload_n 1, 1) := by decide +kernel
theorem dX0_setVote_9 : decode cX0_setVote 9 = .ok (.iadd, 1) := by decide +kernel
theorem dX0_setVote_10 : decode cX0_setVote 10 = .ok (.iload_n 3, 1) := by decide +kernel
theorem dX0_setVote_11 : decode cX0_setVote 11 = .ok (.iastore, 1) := by decide +kernel
theorem dX0_setVote_12 : decode cX0_setVote 12 = .ok (.return_, 1) := by decide +kernel
set_option maxRecDepth 20000 in
theorem ggX0_votesFor_X0_voteOf : GoodIn wsX0_votesFor wsX0_voteOf := goodIn_r _ [5, 6, 7, 8, 9, 10, 11, 12, 13, 14] (by decide +kernel) (by decide +kernel)
set_option maxRecDepth 20000 in
theorem gX0_votesFor_X0_voteOf : GoodIn wsX0_votesFor (wsV RX0 83 RX0 yX0_voteOf wsX0_voteOf) := goodIn_app (goodIn_of _ (by decide +kernel)) ggX0_votesFor_X0_voteOf
theorem dX0_votesFor_0 : decode cX0_votesFor 0 = .ok (.iconst 0, 1) := by decide +kernel
theorem dX0_votesFor_1 : decode cX0_votesFor 1 = .ok (.istore_n 3, 1) := by decide +kernel
theorem dX0_votesFor_2 : decode cX0_votesFor 2 = .ok (.iconst 0, 1) := by decide +kernel
theorem dX0_votesFor_3 : decode cX0_votesFor 3 = .ok (.istore 4, 2) := by decide +kernel
theorem dX0_votesFor_5 : decode cX0_votesFor 5 = .ok (.iload 4, 2) := by decide +kernel
theorem dX0_votesFor_7 : decode cX0_votesFor 7 = .ok (.bipush 6, 2) := by decide +kernel
theorem dX0_votesFor_9 : decode cX0_votesFor 9 = .ok (.if_icmp .ge 23, 3) := by decide +kernel
theorem dX0_votesFor_12 : decode cX0_votesFor 12 = .ok (.aload_n 0, 1) := by decide +kernel
theorem dX0_votesFor_13 : decode cX0_votesFor 13 = .ok (.iload 4, 2) := by decide +kernel
theorem dX0_votesFor_15 : decode cX0_votesFor 15 = .ok (.iload_n 1, 1) := by decide +kernel
theorem dX0_votesFor_16 : decode cX0_votesFor 16 = .ok (.invokevirtual 83, 3) := by decide +kernel
theorem dX0_votesFor_19 : decode cX0_votesFor 19 = .ok (.iload_n 2, 1) := by decide +kernel
theorem dX0_votesFor_20 : decode cX0_votesFor 20 = .ok (.if_icmp .ne 6, 3) := by decide +kernel
theorem dX0_votesFor_23 : decode cX0_votesFor 23 = .ok (.iinc 3 1, 3) := by decide +kernel
theorem dX0_votesFor_26 : decode cX0_votesFor 26 = .ok (.iinc 4 1, 3) := by decide +kernel
theorem dX0_votesFor_29 : decode cX0_votesFor 29 = .ok (.goto (-24), 3) := by decide +kernel
theorem dX0_votesFor_32 : decode cX0_votesFor 32 = .ok (.iload_n 3, 1) := by decide +kernel
theorem dX0_votesFor_33 : decode cX0_votesFor 33 = .ok (.ireturn, 1) := by decide +kernel
set_option maxRecDepth 20000 in
theorem ggX0_votersOf_X0_votesFor : GoodIn wsX0_votersOf wsX0_votesFor := goodIn_r _ [5, 6, 7, 8, 4, 9, 10, 11, 12, 13, 14, 15, 16, 17, 18] (by decide +kernel) (by decide +kernel)
set_option maxRecDepth 20000 in
theorem gX0_votersOf_X0_votesFor : GoodIn wsX0_votersOf (wsV RX0 89 RX0 yX0_votesFor wsX0_votesFor) := goodIn_app (goodIn_of _ (by decide +kernel)) ggX0_votersOf_X0_votesFor
theorem dX0_votersOf_0 : decode cX0_votersOf 0 = .ok (.bipush 6, 2) := by decide +kernel
theorem dX0_votersOf_2 : decode cX0_votersOf 2 = .ok (.aload_n 0, 1) := by decide +kernel
theorem dX0_votersOf_3 : decode cX0_votersOf 3 = .ok (.iload_n 1, 1) := by decide +kernel
theorem dX0_votersOf_4 : decode cX0_votersOf 4 = .ok (.bipush (-5), 2) := by decide +kernel
theorem dX0_votersOf_6 : decode cX0_votersOf 6 = .ok (.invokevirtual 89, 3) := by decide +kernel
theorem dX0_votersOf_9 : decode cX0_votersOf 9 = .ok (.isub, 1) := by decide +kernel
theorem dX0_votersOf_10 : decode cX0_votersOf 10 = .ok (.ireturn, 1) := by decide +kernel
