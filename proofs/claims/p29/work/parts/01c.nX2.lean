theorem dX2_init_0 : decode cX2_init 0 = .ok (.aload_n 0, 1) := by decide +kernel
theorem dX2_init_1 : decode cX2_init 1 = .ok (.invokespecial 3, 3) := by decide +kernel
theorem dX2_init_4 : decode cX2_init 4 = .ok (.aload_n 0, 1) := by decide +kernel
theorem dX2_init_5 : decode cX2_init 5 = .ok (.iconst 0, 1) := by decide +kernel
theorem dX2_init_6 : decode cX2_init 6 = .ok (.putfield 9, 3) := by decide +kernel
theorem dX2_init_9 : decode cX2_init 9 = .ok (.aload_n 0, 1) := by decide +kernel
theorem dX2_init_10 : decode cX2_init 10 = .ok (.iconst 0, 1) := by decide +kernel
theorem dX2_init_11 : decode cX2_init 11 = .ok (.putfield 15, 3) := by decide +kernel
theorem dX2_init_14 : decode cX2_init 14 = .ok (.aload_n 0, 1) := by decide +kernel
theorem dX2_init_15 : decode cX2_init 15 = .ok (.bipush 20, 2) := by decide +kernel
theorem dX2_init_17 : decode cX2_init 17 = .ok (.newarray .int, 2) := by decide +kernel
theorem dX2_init_19 : decode cX2_init 19 = .ok (.putfield 18, 3) := by decide +kernel
theorem dX2_init_22 : decode cX2_init 22 = .ok (.aload_n 0, 1) := by decide +kernel
theorem dX2_init_23 : decode cX2_init 23 = .ok (.bipush 20, 2) := by decide +kernel
theorem dX2_init_25 : decode cX2_init 25 = .ok (.newarray .int, 2) := by decide +kernel
theorem dX2_init_27 : decode cX2_init 27 = .ok (.putfield 22, 3) := by decide +kernel
theorem dX2_init_30 : decode cX2_init 30 = .ok (.return_, 1) := by decide +kernel
set_option maxRecDepth 20000 in
theorem ggX2_find_X0_distance : GoodIn wsX2_find wsX0_distance := goodIn_r _ [9, 10, 11, 12, 13, 14, 15, 32, 33, 34, 35, 36, 37, 38, 39] (by decide +kernel) (by decide +kernel)
set_option maxRecDepth 20000 in
theorem gX2_find_X0_distance : GoodIn wsX2_find (wsV RX2 28 RX0 yX0_distance wsX0_distance) := goodIn_app (goodIn_of _ (by decide +kernel)) ggX2_find_X0_distance
set_option maxRecDepth 20000 in
theorem ggX2_find_X2_join : GoodIn wsX2_find wsX2_join := goodIn_r _ [20, 21, 22, 13, 23, 24, 25, 26, 2, 3, 40, 41, 42, 43] (by decide +kernel) (by decide +kernel)
set_option maxRecDepth 20000 in
theorem gX2_find_X2_join : GoodIn wsX2_find (wsV RX2 32 RX2 yX2_join wsX2_join) := goodIn_app (goodIn_of _ (by decide +kernel)) ggX2_find_X2_join
set_option maxRecDepth 20000 in
theorem ggX2_find_X2_numberThem : GoodIn wsX2_find wsX2_numberThem := goodIn_r _ [30, 4, 2, 3, 31, 40, 41, 42, 43] (by decide +kernel) (by decide +kernel)
set_option maxRecDepth 20000 in
theorem gX2_find_X2_numberThem : GoodIn wsX2_find (wsV RX2 36 RX2 yX2_numberThem wsX2_numberThem) := goodIn_app (goodIn_of _ (by decide +kernel)) ggX2_find_X2_numberThem
theorem dX2_find_0 : decode cX2_find 0 = .ok (.aload_n 0, 1) := by decide +kernel
theorem dX2_find_1 : decode cX2_find 1 = .ok (.aload_n 1, 1) := by decide +kernel
theorem dX2_find_2 : decode cX2_find 2 = .ok (.getfield 25, 3) := by decide +kernel
theorem dX2_find_5 : decode cX2_find 5 = .ok (.putfield 15, 3) := by decide +kernel
theorem dX2_find_8 : decode cX2_find 8 = .ok (.iconst 0, 1) := by decide +kernel
theorem dX2_find_9 : decode cX2_find 9 = .ok (.istore_n 3, 1) := by decide +kernel
theorem dX2_find_10 : decode cX2_find 10 = .ok (.iload_n 3, 1) := by decide +kernel
theorem dX2_find_11 : decode cX2_find 11 = .ok (.aload_n 0, 1) := by decide +kernel
theorem dX2_find_12 : decode cX2_find 12 = .ok (.getfield 15, 3) := by decide +kernel
theorem dX2_find_15 : decode cX2_find 15 = .ok (.if_icmp .ge 16, 3) := by decide +kernel
theorem dX2_find_18 : decode cX2_find 18 = .ok (.aload_n 0, 1) := by decide +kernel
theorem dX2_find_19 : decode cX2_find 19 = .ok (.getfield 22, 3) := by decide +kernel
theorem dX2_find_22 : decode cX2_find 22 = .ok (.iload_n 3, 1) := by decide +kernel
theorem dX2_find_23 : decode cX2_find 23 = .ok (.iload_n 3, 1) := by decide +kernel
theorem dX2_find_24 : decode cX2_find 24 = .ok (.iastore, 1) := by decide +kernel
theorem dX2_find_25 : decode cX2_find 25 = .ok (.iinc 3 1, 3) := by decide +kernel
theorem dX2_find_28 : decode cX2_find 28 = .ok (.goto (-18), 3) := by decide +kernel
theorem dX2_find_31 : decode cX2_find 31 = .ok (.iconst 0, 1) := by decide +kernel
theorem dX2_find_32 : decode cX2_find 32 = .ok (.istore_n 3, 1) := by decide +kernel
theorem dX2_find_33 : decode cX2_find 33 = .ok (.iload_n 3, 1) := by decide +kernel
theorem dX2_find_34 : decode cX2_find 34 = .ok (.aload_n 0, 1) := by decide +kernel
theorem dX2_find_35 : decode cX2_find 35 = .ok (.getfield 15, 3) := by decide +kernel
theorem dX2_find_38 : decode cX2_find 38 = .ok (.if_icmp .ge 68, 3) := by decide +kernel
theorem dX2_find_41 : decode cX2_find 41 = .ok (.iconst 0, 1) := by decide +kernel
theorem dX2_find_42 : decode cX2_find 42 = .ok (.istore 4, 2) := by decide +kernel
theorem dX2_find_44 : decode cX2_find 44 = .ok (.iload 4, 2) := by decide +kernel
theorem dX2_find_46 : decode cX2_find 46 = .ok (.iload_n 3, 1) := by decide +kernel
theorem dX2_find_47 : decode cX2_find 47 = .ok (.if_icmp .ge 53, 3) := by decide +kernel
theorem dX2_find_50 : decode cX2_find 50 = .ok (.aload_n 0, 1) := by decide +kernel
theorem dX2_find_51 : decode cX2_find 51 = .ok (.getfield 22, 3) := by decide +kernel
theorem dX2_find_54 : decode cX2_find 54 = .ok (.iload 4, 2) := by decide +kernel
theorem dX2_find_56 : decode cX2_find 56 = .ok (.iaload, 1) := by decide +kernel
theorem dX2_find_57 : decode cX2_find 57 = .ok (.aload_n 0, 1) := by decide +kernel
theorem dX2_find_58 : decode cX2_find 58 = .ok (.getfield 22, 3) := by decide +kernel
theorem dX2_find_61 : decode cX2_find 61 = .ok (.iload_n 3, 1) := by decide +kernel
theorem dX2_find_62 : decode cX2_find 62 = .ok (.iaload, 1) := by decide +kernel
theorem dX2_find_63 : decode cX2_find 63 = .ok (.if_icmp .eq 31, 3) := by decide +kernel
theorem dX2_find_66 : decode cX2_find 66 = .ok (.aload_n 1, 1) := by decide +kernel
theorem dX2_find_67 : decode cX2_find 67 = .ok (.iload 4, 2) := by decide +kernel
theorem dX2_find_69 : decode cX2_find 69 = .ok (.iload_n 3, 1) := by decide +kernel
theorem dX2_find_70 : decode cX2_find 70 = .ok (.invokevirtual 28, 3) := by decide +kernel
theorem dX2_find_73 : decode cX2_find 73 = .ok (.iload_n 2, 1) := by decide +kernel
theorem dX2_find_74 : decode cX2_find 74 = .ok (.if_icmp .gt 20, 3) := by decide +kernel
theorem dX2_find_77 : decode cX2_find 77 = .ok (.aload_n 0, 1) := by decide +kernel
theorem dX2_find_78 : decode cX2_find 78 = .ok (.aload_n 0, 1) := by decide +kernel
theorem dX2_find_79 : decode cX2_find 79 = .ok (.getfield 22, 3) := by decide +kernel
theorem dX2_find_82 : decode cX2_find 82 = .ok (.iload 4, 2) := by decide +kernel
theorem dX2_find_84 : decode cX2_find 84 = .ok (.iaload, 1) := by decide +kernel
theorem dX2_find_85 : decode cX2_find 85 = .ok (.aload_n 0, 1) := by decide +kernel
theorem dX2_find_86 : decode cX2_find 86 = .ok (.getfield 22, 3) := by decide +kernel
theorem dX2_find_89 : decode cX2_find 89 = .ok (.iload_n 3, 1) := by decide +kernel
theorem dX2_find_90 : decode cX2_find 90 = .ok (.iaload, 1) := by decide +kernel
theorem dX2_find_91 : decode cX2_find 91 = .ok (.invokevirtual 32, 3) := by decide +kernel
theorem dX2_find_94 : decode cX2_find 94 = .ok (.iinc 4 1, 3) := by decide +kernel
theorem dX2_find_97 : decode cX2_find 97 = .ok (.goto (-53), 3) := by decide +kernel
theorem dX2_find_100 : decode cX2_find 100 = .ok (.iinc 3 1, 3) := by decide +kernel
theorem dX2_find_103 : decode cX2_find 103 = .ok (.goto (-70), 3) := by decide +kernel
theorem dX2_find_106 : decode cX2_find 106 = .ok (.aload_n 0, 1) := by decide +kernel
theorem dX2_find_107 : decode cX2_find 107 = .ok (.invokevirtual 36, 3) := by decide +kernel
theorem dX2_find_110 : decode cX2_find 110 = .ok (.aload_n 0, 1) := by decide +kernel
theorem dX2_find_111 : decode cX2_find 111 = .ok (.getfield 9, 3) := by decide +kernel
theorem dX2_find_114 : decode cX2_find 114 = .ok (.ireturn, 1) := by decide +kernel
theorem dX2_join_0 : decode cX2_join 0 = .ok (.iload_n 1, 1) := by decide +kernel
theorem dX2_join_1 : decode cX2_join 1 = .ok (.iload_n 2, 1) := by decide +kernel
theorem dX2_join_2 : decode cX2_join 2 = .ok (.invokestatic 39, 3) := by decide +kernel
theorem dX2_join_5 : decode cX2_join 5 = .ok (.istore_n 3, 1) := by decide +kernel
theorem dX2_join_6 : decode cX2_join 6 = .ok (.iload_n 1, 1) := by decide +kernel
theorem dX2_join_7 : decode cX2_join 7 = .ok (.iload_n 2, 1) := by decide +kernel
theorem dX2_join_8 : decode cX2_join 8 = .ok (.invokestatic 44, 3) := by decide +kernel
theorem dX2_join_11 : decode cX2_join 11 = .ok (.istore 4, 2) := by decide +kernel
theorem dX2_join_13 : decode cX2_join 13 = .ok (.iconst 0, 1) := by decide +kernel
theorem dX2_join_14 : decode cX2_join 14 = .ok (.istore 5, 2) := by decide +kernel
theorem dX2_join_16 : decode cX2_join 16 = .ok (.iload 5, 2) := by decide +kernel
theorem dX2_join_18 : decode cX2_join 18 = .ok (.aload_n 0, 1) := by decide +kernel
theorem dX2_join_19 : decode cX2_join 19 = .ok (.getfield 15, 3) := by decide +kernel
theorem dX2_join_22 : decode cX2_join 22 = .ok (.if_icmp .ge 29, 3) := by decide +kernel
theorem dX2_join_25 : decode cX2_join 25 = .ok (.aload_n 0, 1) := by decide +kernel
theorem dX2_join_26 : decode cX2_join 26 = .ok (.getfield 22, 3) := by decide +kernel
theorem dX2_join_29 : decode cX2_join 29 = .ok (.iload 5, 2) := by decide +kernel
theorem dX2_join_31 : decode cX2_join 31 = .ok (.iaload, 1) := by decide +kernel
theorem dX2_join_32 : decode cX2_join 32 = .ok (.iload 4, 2) := by decide +kernel
theorem dX2_join_34 : decode cX2_join 34 = .ok (.if_icmp .ne 11, 3) := by decide +kernel
theorem dX2_join_37 : decode cX2_join 37 = .ok (.aload_n 0, 1) := by decide +kernel
theorem dX2_join_38 : decode cX2_join 38 = .ok (.getfield 22, 3) := by decide +kernel
theorem dX2_join_41 : decode cX2_join 41 = .ok (.iload 5, 2) := by decide +kernel
theorem dX2_join_43 : decode cX2_join 43 = .ok (.iload_n 3, 1) := by decide +kernel
theorem dX2_join_44 : decode cX2_join 44 = .ok (.iastore, 1) := by decide +kernel
theorem dX2_join_45 : decode cX2_join 45 = .ok (.iinc 5 1, 3) := by decide +kernel
theorem dX2_join_48 : decode cX2_join 48 = .ok (.goto (-32), 3) := by decide +kernel
theorem dX2_join_51 : decode cX2_join 51 = .ok (.return_, 1) := by decide +kernel
theorem dX2_numberThem_0 : decode cX2_numberThem 0 = .ok (.aload_n 0, 1) := by decide +kernel
theorem dX2_numberThem_1 : decode cX2_numberThem 1 = .ok (.iconst 0, 1) := by decide +kernel
theorem dX2_numberThem_2 : decode cX2_numberThem 2 = .ok (.putfield 9, 3) := by decide +kernel
theorem dX2_numberThem_5 : decode cX2_numberThem 5 = .ok (.iconst 0, 1) := by decide +kernel
theorem dX2_numberThem_6 : decode cX2_numberThem 6 = .ok (.istore_n 1, 1) := by decide +kernel
theorem dX2_numberThem_7 : decode cX2_numberThem 7 = .ok (.iload_n 1, 1) := by decide +kernel
theorem dX2_numberThem_8 : decode cX2_numberThem 8 = .ok (.aload_n 0, 1) := by decide +kernel
theorem dX2_numberThem_9 : decode cX2_numberThem 9 = .ok (.getfield 15, 3) := by decide +kernel
theorem dX2_numberThem_12 : decode cX2_numberThem 12 = .ok (.if_icmp .ge 59, 3) := by decide +kernel
theorem dX2_numberThem_15 : decode cX2_numberThem 15 = .ok (.aload_n 0, 1) := by decide +kernel
theorem dX2_numberThem_16 : decode cX2_numberThem 16 = .ok (.getfield 22, 3) := by decide +kernel
theorem dX2_numberThem_19 : decode cX2_numberThem 19 = .ok (.iload_n 1, 1) := by decide +kernel
theorem dX2_numberThem_20 : decode cX2_numberThem 20 = .ok (.iaload, 1) := by decide +kernel
theorem dX2_numberThem_21 : decode cX2_numberThem 21 = .ok (.iload_n 1, 1) := by decide +kernel
theorem dX2_numberThem_22 : decode cX2_numberThem 22 = .ok (.if_icmp .ne 26, 3) := by decide +kernel
theorem dX2_numberThem_25 : decode cX2_numberThem 25 = .ok (.aload_n 0, 1) := by decide +kernel
theorem dX2_numberThem_26 : decode cX2_numberThem 26 = .ok (.getfield 18, 3) := by decide +kernel
theorem dX2_numberThem_29 : decode cX2_numberThem 29 = .ok (.iload_n 1, 1) := by decide +kernel
theorem dX2_numberThem_30 : decode cX2_numberThem 30 = .ok (.aload_n 0, 1) := by decide +kernel
theorem dX2_numberThem_31 : decode cX2_numberThem 31 = .ok (.getfield 9, 3) := by decide +kernel
theorem dX2_numberThem_34 : decode cX2_numberThem 34 = .ok (.iastore, 1) := by decide +kernel
theorem dX2_numberThem_35 : decode cX2_numberThem 35 = .ok (.aload_n 0, 1) := by decide +kernel
theorem dX2_numberThem_36 : decode cX2_numberThem 36 = .ok (.dup, 1) := by decide +kernel
theorem dX2_numberThem_37 : decode cX2_numberThem 37 = .ok (.getfield 9, 3) := by decide +kernel
theorem dX2_numberThem_40 : decode cX2_numberThem 40 = .ok (.iconst 1, 1) := by decide +kernel
theorem dX2_numberThem_41 : decode cX2_numberThem 41 = .ok (.iadd, 1) := by decide +kernel
theorem dX2_numberThem_42 : decode cX2_numberThem 42 = .ok (.putfield 9, 3) := by decide +kernel
theorem dX2_numberThem_45 : decode cX2_numberThem 45 = .ok (.goto 20, 3) := by decide +kernel
theorem dX2_numberThem_48 : decode cX2_numberThem 48 = .ok (.aload_n 0, 1) := by decide +kernel
theorem dX2_numberThem_49 : decode cX2_numberThem 49 = .ok (.getfield 18, 3) := by decide +kernel
theorem dX2_numberThem_52 : decode cX2_numberThem 52 = .ok (.iload_n 1, 1) := by decide +kernel
theorem dX2_numberThem_53 : decode cX2_numberThem 53 = .ok (.aload_n 0, 1) := by decide +kernel
theorem dX2_numberThem_54 : decode cX2_numberThem 54 = .ok (.getfield 18, 3) := by decide +kernel
theorem dX2_numberThem_57 : decode cX2_numberThem 57 = .ok (.aload_n 0, 1) := by decide +kernel
theorem dX2_numberThem_58 : decode cX2_numberThem 58 = .ok (.getfield 22, 3) := by decide +kernel
theorem dX2_numberThem_61 : decode cX2_numberThem 61 = .ok (.iload_n 1, 1) := by decide +kernel
theorem dX2_numberThem_62 : decode cX2_numberThem 62 = .ok (.iaload, 1) := by decide +kernel
theorem dX2_numberThem_63 : decode cX2_numberThem 63 = .ok (.iaload, 1) := by decide +kernel
theorem dX2_numberThem_64 : decode cX2_numberThem 64 = .ok (.iastore, 1) := by decide +kernel
theorem dX2_numberThem_65 : decode cX2_numberThem 65 = .ok (.iinc 1 1, 3) := by decide +kernel
theorem dX2_numberThem_68 : decode cX2_numberThem 68 = .ok (.goto (-61), 3) := by decide +kernel
theorem dX2_numberThem_71 : decode cX2_numberThem 71 = .ok (.return_, 1) := by decide +kernel
theorem dX2_has_0 : decode cX2_has 0 = .ok (.iload_n 1, 1) := by decide +kernel
theorem dX2_has_1 : decode cX2_has 1 = .ok (.ifCond .lt 15, 3) := by decide +kernel
theorem dX2_has_4 : decode cX2_has 4 = .ok (.iload_n 1, 1) := by decide +kernel
theorem dX2_has_5 : decode cX2_has 5 = .ok (.aload_n 0, 1) := by decide +kernel
theorem dX2_has_6 : decode cX2_has 6 = .ok (.getfield 9, 3) := by decide +kernel
theorem dX2_has_9 : decode cX2_has 9 = .ok (.if_icmp .ge 7, 3) := by decide +kernel
theorem dX2_has_12 : decode cX2_has 12 = .ok (.iconst 1, 1) := by decide +kernel
theorem dX2_has_13 : decode cX2_has 13 = .ok (.goto 4, 3) := by decide +kernel
theorem dX2_has_16 : decode cX2_has 16 = .ok (.iconst 0, 1) := by decide +kernel
theorem dX2_has_17 : decode cX2_has 17 = .ok (.ireturn, 1) := by decide +kernel
theorem dX2_notesIn_0 : decode cX2_notesIn 0 = .ok (.iconst 0, 1) := by decide +kernel
theorem dX2_notesIn_1 : decode cX2_notesIn 1 = .ok (.istore_n 2, 1) := by decide +kernel
theorem dX2_notesIn_2 : decode cX2_notesIn 2 = .ok (.iconst 0, 1) := by decide +kernel
theorem dX2_notesIn_3 : decode cX2_notesIn 3 = .ok (.istore_n 3, 1) := by decide +kernel
theorem dX2_notesIn_4 : decode cX2_notesIn 4 = .ok (.iload_n 3, 1) := by decide +kernel
theorem dX2_notesIn_5 : decode cX2_notesIn 5 = .ok (.aload_n 0, 1) := by decide +kernel
theorem dX2_notesIn_6 : decode cX2_notesIn 6 = .ok (.getfield 15, 3) := by decide +kernel
theorem dX2_notesIn_9 : decode cX2_notesIn 9 = .ok (.if_icmp .ge 22, 3) := by decide +kernel
theorem dX2_notesIn_12 : decode cX2_notesIn 12 = .ok (.aload_n 0, 1) := by decide +kernel
theorem dX2_notesIn_13 : decode cX2_notesIn 13 = .ok (.getfield 18, 3) := by decide +kernel
theorem dX2_notesIn_16 : decode cX2_notesIn 16 = .ok (.iload_n 3, 1) := by decide +kernel
theorem dX2_notesIn_17 : decode cX2_notesIn 17 = .ok (.iaload, 1) := by decide +kernel
theorem dX2_notesIn_18 : decode cX2_notesIn 18 = .ok (.iload_n 1, 1) := by decide +kernel
theorem dX2_notesIn_19 : decode cX2_notesIn 19 = .ok (.if_icmp .ne 6, 3) := by decide +kernel
theorem dX2_notesIn_22 : decode cX2_notesIn 22 = .ok (.iinc 2 1, 3) := by decide +kernel
theorem dX2_notesIn_25 : decode cX2_notesIn 25 = .ok (.iinc 3 1, 3) := by decide +kernel
theorem dX2_notesIn_28 : decode cX2_notesIn 28 = .ok (.goto (-24), 3) := by decide +kernel
theorem dX2_notesIn_31 : decode cX2_notesIn 31 = .ok (.iload_n 2, 1) := by decide +kernel
theorem dX2_notesIn_32 : decode cX2_notesIn 32 = .ok (.ireturn, 1) := by decide +kernel
theorem dX2_lowestNoteIn_0 : decode cX2_lowestNoteIn 0 = .ok (.iconst 0, 1) := by decide +kernel
theorem dX2_lowestNoteIn_1 : decode cX2_lowestNoteIn 1 = .ok (.istore_n 2, 1) := by decide +kernel
theorem dX2_lowestNoteIn_2 : decode cX2_lowestNoteIn 2 = .ok (.iload_n 2, 1) := by decide +kernel
theorem dX2_lowestNoteIn_3 : decode cX2_lowestNoteIn 3 = .ok (.aload_n 0, 1) := by decide +kernel
theorem dX2_lowestNoteIn_4 : decode cX2_lowestNoteIn 4 = .ok (.getfield 15, 3) := by decide +kernel
theorem dX2_lowestNoteIn_7 : decode cX2_lowestNoteIn 7 = .ok (.if_icmp .ge 21, 3) := by decide +kernel
theorem dX2_lowestNoteIn_10 : decode cX2_lowestNoteIn 10 = .ok (.aload_n 0, 1) := by decide +kernel
theorem dX2_lowestNoteIn_11 : decode cX2_lowestNoteIn 11 = .ok (.getfield 18, 3) := by decide +kernel
theorem dX2_lowestNoteIn_14 : decode cX2_lowestNoteIn 14 = .ok (.iload_n 2, 1) := by decide +kernel
theorem dX2_lowestNoteIn_15 : decode cX2_lowestNoteIn 15 = .ok (.iaload, 1) := by decide +kernel
theorem dX2_lowestNoteIn_16 : decode cX2_lowestNoteIn 16 = .ok (.iload_n 1, 1) := by decide +kernel
theorem dX2_lowestNoteIn_17 : decode cX2_lowestNoteIn 17 = .ok (.if_icmp .ne 5, 3) := by decide +kernel
theorem dX2_lowestNoteIn_20 : decode cX2_lowestNoteIn 20 = .ok (.iload_n 2, 1) := by decide +kernel
theorem dX2_lowestNoteIn_21 : decode cX2_lowestNoteIn 21 = .ok (.ireturn, 1) := by decide +kernel
theorem dX2_lowestNoteIn_22 : decode cX2_lowestNoteIn 22 = .ok (.iinc 2 1, 3) := by decide +kernel
theorem dX2_lowestNoteIn_25 : decode cX2_lowestNoteIn 25 = .ok (.goto (-23), 3) := by decide +kernel
theorem dX2_lowestNoteIn_28 : decode cX2_lowestNoteIn 28 = .ok (.bipush (-5), 2) := by decide +kernel
theorem dX2_lowestNoteIn_30 : decode cX2_lowestNoteIn 30 = .ok (.ireturn, 1) := by decide +kernel
set_option maxRecDepth 20000 in
theorem ggX2_dotsIn_X0_dotsOn : GoodIn wsX2_dotsIn wsX0_dotsOn := goodIn_r _ [7, 8, 9, 10, 6, 11, 12, 17, 18, 19, 20, 21, 22, 23, 24] (by decide +kernel) (by decide +kernel)
set_option maxRecDepth 20000 in
theorem gX2_dotsIn_X0_dotsOn : GoodIn wsX2_dotsIn (wsV RX2 47 RX0 yX0_dotsOn wsX0_dotsOn) := goodIn_app (goodIn_of _ (by decide +kernel)) ggX2_dotsIn_X0_dotsOn
theorem dX2_dotsIn_0 : decode cX2_dotsIn 0 = .ok (.iconst 0, 1) := by decide +kernel
theorem dX2_dotsIn_1 : decode cX2_dotsIn 1 = .ok (.istore_n 3, 1) := by decide +kernel
theorem dX2_dotsIn_2 : decode cX2_dotsIn 2 = .ok (.iconst 0, 1) := by decide +kernel
theorem dX2_dotsIn_3 : decode cX2_dotsIn 3 = .ok (.istore 4, 2) := by decide +kernel
theorem dX2_dotsIn_5 : decode cX2_dotsIn 5 = .ok (.iload 4, 2) := by decide +kernel
theorem dX2_dotsIn_7 : decode cX2_dotsIn 7 = .ok (.aload_n 0, 1) := by decide +kernel
theorem dX2_dotsIn_8 : decode cX2_dotsIn 8 = .ok (.getfield 15, 3) := by decide +kernel
theorem dX2_dotsIn_11 : decode cX2_dotsIn 11 = .ok (.if_icmp .ge 29, 3) := by decide +kernel
theorem dX2_dotsIn_14 : decode cX2_dotsIn 14 = .ok (.aload_n 0, 1) := by decide +kernel
theorem dX2_dotsIn_15 : decode cX2_dotsIn 15 = .ok (.getfield 18, 3) := by decide +kernel
theorem dX2_dotsIn_18 : decode cX2_dotsIn 18 = .ok (.iload 4, 2) := by decide +kernel
theorem dX2_dotsIn_20 : decode cX2_dotsIn 20 = .ok (.iaload, 1) := by decide +kernel
theorem dX2_dotsIn_21 : decode cX2_dotsIn 21 = .ok (.iload_n 1, 1) := by decide +kernel
theorem dX2_dotsIn_22 : decode cX2_dotsIn 22 = .ok (.if_icmp .ne 12, 3) := by decide +kernel
theorem dX2_dotsIn_25 : decode cX2_dotsIn 25 = .ok (.iload_n 3, 1) := by decide +kernel
theorem dX2_dotsIn_26 : decode cX2_dotsIn 26 = .ok (.aload_n 2, 1) := by decide +kernel
theorem dX2_dotsIn_27 : decode cX2_dotsIn 27 = .ok (.iload 4, 2) := by decide +kernel
theorem dX2_dotsIn_29 : decode cX2_dotsIn 29 = .ok (.invokevirtual 47, 3) := by decide +kernel
theorem dX2_dotsIn_32 : decode cX2_dotsIn 32 = .ok (.iadd, 1) := by decide +kernel
theorem dX2_dotsIn_33 : decode cX2_dotsIn 33 = .ok (.istore_n 3, 1) := by decide +kernel
theorem dX2_dotsIn_34 : decode cX2_dotsIn 34 = .ok (.iinc 4 1, 3) := by decide +kernel
theorem dX2_dotsIn_37 : decode cX2_dotsIn 37 = .ok (.goto (-32), 3) := by decide +kernel
theorem dX2_dotsIn_40 : decode cX2_dotsIn 40 = .ok (.iload_n 3, 1) := by decide +kernel
theorem dX2_dotsIn_41 : decode cX2_dotsIn 41 = .ok (.ireturn, 1) := by decide +kernel
theorem dX2_freeNotesIn_0 : decode cX2_freeNotesIn 0 = .ok (.iconst 0, 1) := by decide +kernel
theorem dX2_freeNotesIn_1 : decode cX2_freeNotesIn 1 = .ok (.istore_n 3, 1) := by decide +kernel
theorem dX2_freeNotesIn_2 : decode cX2_freeNotesIn 2 = .ok (.iconst 0, 1) := by decide +kernel
theorem dX2_freeNotesIn_3 : decode cX2_freeNotesIn 3 = .ok (.istore 4, 2) := by decide +kernel
theorem dX2_freeNotesIn_5 : decode cX2_freeNotesIn 5 = .ok (.iload 4, 2) := by decide +kernel
theorem dX2_freeNotesIn_7 : decode cX2_freeNotesIn 7 = .ok (.aload_n 0, 1) := by decide +kernel
theorem dX2_freeNotesIn_8 : decode cX2_freeNotesIn 8 = .ok (.getfield 15, 3) := by decide +kernel
theorem dX2_freeNotesIn_11 : decode cX2_freeNotesIn 11 = .ok (.if_icmp .ge 35, 3) := by decide +kernel
theorem dX2_freeNotesIn_14 : decode cX2_freeNotesIn 14 = .ok (.aload_n 0, 1) := by decide +kernel
theorem dX2_freeNotesIn_15 : decode cX2_freeNotesIn 15 = .ok (.getfield 18, 3) := by decide +kernel
theorem dX2_freeNotesIn_18 : decode cX2_freeNotesIn 18 = .ok (.iload 4, 2) := by decide +kernel
theorem dX2_freeNotesIn_20 : decode cX2_freeNotesIn 20 = .ok (.iaload, 1) := by decide +kernel
theorem dX2_freeNotesIn_21 : decode cX2_freeNotesIn 21 = .ok (.iload_n 1, 1) := by decide +kernel
theorem dX2_freeNotesIn_22 : decode cX2_freeNotesIn 22 = .ok (.if_icmp .ne 18, 3) := by decide +kernel
theorem dX2_freeNotesIn_25 : decode cX2_freeNotesIn 25 = .ok (.aload_n 2, 1) := by decide +kernel
theorem dX2_freeNotesIn_26 : decode cX2_freeNotesIn 26 = .ok (.getfield 51, 3) := by decide +kernel
theorem dX2_freeNotesIn_29 : decode cX2_freeNotesIn 29 = .ok (.iload 4, 2) := by decide +kernel
theorem dX2_freeNotesIn_31 : decode cX2_freeNotesIn 31 = .ok (.iaload, 1) := by decide +kernel
theorem dX2_freeNotesIn_32 : decode cX2_freeNotesIn 32 = .ok (.bipush (-5), 2) := by decide +kernel
theorem dX2_freeNotesIn_34 : decode cX2_freeNotesIn 34 = .ok (.if_icmp .ne 6, 3) := by decide +kernel
theorem dX2_freeNotesIn_37 : decode cX2_freeNotesIn 37 = .ok (.iinc 3 1, 3) := by decide +kernel
theorem dX2_freeNotesIn_40 : decode cX2_freeNotesIn 40 = .ok (.iinc 4 1, 3) := by decide +kernel
theorem dX2_freeNotesIn_43 : decode cX2_freeNotesIn 43 = .ok (.goto (-38), 3) := by decide +kernel
theorem dX2_freeNotesIn_46 : decode cX2_freeNotesIn 46 = .ok (.iload_n 3, 1) := by decide +kernel
theorem dX2_freeNotesIn_47 : decode cX2_freeNotesIn 47 = .ok (.ireturn, 1) := by decide +kernel
set_option maxRecDepth 20000 in
theorem ggX2_middleOf_X2_distancesTo : GoodIn wsX2_middleOf wsX2_distancesTo := goodIn_r _ [7, 1, 2, 8, 9, 10, 11, 12, 13, 14, 15, 16, 17, 18, 19, 20, 21, 22, 23, 24, 25, 26, 27, 28, 29, 30] (by decide +kernel) (by decide +kernel)
set_option maxRecDepth 20000 in
theorem gX2_middleOf_X2_distancesTo : GoodIn wsX2_middleOf (wsV RX2 54 RX2 yX2_distancesTo wsX2_distancesTo) := goodIn_app (goodIn_of _ (by decide +kernel)) ggX2_middleOf_X2_distancesTo
theorem dX2_middleOf_0 : decode cX2_middleOf 0 = .ok (.bipush (-5), 2) := by decide +kernel
theorem dX2_middleOf_2 : decode cX2_middleOf 2 = .ok (.istore_n 3, 1) := by decide +kernel
theorem dX2_middleOf_3 : decode cX2_middleOf 3 = .ok (.sipush 1000, 3) := by decide +kernel
theorem dX2_middleOf_6 : decode cX2_middleOf 6 = .ok (.istore 4, 2) := by decide +kernel
theorem dX2_middleOf_8 : decode cX2_middleOf 8 = .ok (.iconst 0, 1) := by decide +kernel
theorem dX2_middleOf_9 : decode cX2_middleOf 9 = .ok (.istore 5, 2) := by decide +kernel
theorem dX2_middleOf_11 : decode cX2_middleOf 11 = .ok (.iload 5, 2) := by decide +kernel
theorem dX2_middleOf_13 : decode cX2_middleOf 13 = .ok (.aload_n 0, 1) := by decide +kernel
theorem dX2_middleOf_14 : decode cX2_middleOf 14 = .ok (.getfield 15, 3) := by decide +kernel
theorem dX2_middleOf_17 : decode cX2_middleOf 17 = .ok (.if_icmp .ge 43, 3) := by decide +kernel
theorem dX2_middleOf_20 : decode cX2_middleOf 20 = .ok (.aload_n 0, 1) := by decide +kernel
theorem dX2_middleOf_21 : decode cX2_middleOf 21 = .ok (.getfield 18, 3) := by decide +kernel
theorem dX2_middleOf_24 : decode cX2_middleOf 24 = .ok (.iload 5, 2) := by decide +kernel
theorem dX2_middleOf_26 : decode cX2_middleOf 26 = .ok (.iaload, 1) := by decide +kernel
theorem dX2_middleOf_27 : decode cX2_middleOf 27 = .ok (.iload_n 1, 1) := by decide +kernel
theorem dX2_middleOf_28 : decode cX2_middleOf 28 = .ok (.if_icmp .ne 26, 3) := by decide +kernel
theorem dX2_middleOf_31 : decode cX2_middleOf 31 = .ok (.aload_n 0, 1) := by decide +kernel
theorem dX2_middleOf_32 : decode cX2_middleOf 32 = .ok (.iload 5, 2) := by decide +kernel
theorem dX2_middleOf_34 : decode cX2_middleOf 34 = .ok (.aload_n 2, 1) := by decide +kernel
theorem dX2_middleOf_35 : decode cX2_middleOf 35 = .ok (.invokevirtual 54, 3) := by decide +kernel
theorem dX2_middleOf_38 : decode cX2_middleOf 38 = .ok (.istore 6, 2) := by decide +kernel
theorem dX2_middleOf_40 : decode cX2_middleOf 40 = .ok (.iload 6, 2) := by decide +kernel
theorem dX2_middleOf_42 : decode cX2_middleOf 42 = .ok (.iload 4, 2) := by decide +kernel
theorem dX2_middleOf_44 : decode cX2_middleOf 44 = .ok (.if_icmp .ge 10, 3) := by decide +kernel
theorem dX2_middleOf_47 : decode cX2_middleOf 47 = .ok (.iload 5, 2) := by decide +kernel
theorem dX2_middleOf_49 : decode cX2_middleOf 49 = .ok (.istore_n 3, 1) := by decide +kernel
theorem dX2_middleOf_50 : decode cX2_middleOf 50 = .ok (.iload 6, 2) := by decide +kernel
theorem dX2_middleOf_52 : decode cX2_middleOf 52 = .ok (.istore 4, 2) := by decide +kernel
theorem dX2_middleOf_54 : decode cX2_middleOf 54 = .ok (.iinc 5 1, 3) := by decide +kernel
theorem dX2_middleOf_57 : decode cX2_middleOf 57 = .ok (.goto (-46), 3) := by decide +kernel
theorem dX2_middleOf_60 : decode cX2_middleOf 60 = .ok (.iload_n 3, 1) := by decide +kernel
theorem dX2_middleOf_61 : decode cX2_middleOf 61 = .ok (.ireturn, 1) := by decide +kernel
set_option maxRecDepth 20000 in
theorem ggX2_distancesTo_X0_distance : GoodIn wsX2_distancesTo wsX0_distance := goodIn_r _ [7, 8, 9, 10, 11, 12, 13, 18, 19, 20, 21, 22, 23, 24, 25] (by decide +kernel) (by decide +kernel)
set_option maxRecDepth 20000 in
theorem gX2_distancesTo_X0_distance : GoodIn wsX2_distancesTo (wsV RX2 28 RX0 yX0_distance wsX0_distance) := goodIn_app (goodIn_of _ (by decide +kernel)) ggX2_distancesTo_X0_distance
theorem dX2_distancesTo_0 : decode cX2_distancesTo 0 = .ok (.iconst 0, 1) := by decide +kernel
theorem dX2_distancesTo_1 : decode cX2_distancesTo 1 = .ok (.istore_n 3, 1) := by decide +kernel
theorem dX2_distancesTo_2 : decode cX2_distancesTo 2 = .ok (.iconst 0, 1) := by decide +kernel
theorem dX2_distancesTo_3 : decode cX2_distancesTo 3 = .ok (.istore 4, 2) := by decide +kernel
theorem dX2_distancesTo_5 : decode cX2_distancesTo 5 = .ok (.iload 4, 2) := by decide +kernel
theorem dX2_distancesTo_7 : decode cX2_distancesTo 7 = .ok (.aload_n 0, 1) := by decide +kernel
theorem dX2_distancesTo_8 : decode cX2_distancesTo 8 = .ok (.getfield 15, 3) := by decide +kernel
theorem dX2_distancesTo_11 : decode cX2_distancesTo 11 = .ok (.if_icmp .ge 35, 3) := by decide +kernel
theorem dX2_distancesTo_14 : decode cX2_distancesTo 14 = .ok (.aload_n 0, 1) := by decide +kernel
theorem dX2_distancesTo_15 : decode cX2_distancesTo 15 = .ok (.getfield 18, 3) := by decide +kernel
theorem dX2_distancesTo_18 : decode cX2_distancesTo 18 = .ok (.iload 4, 2) := by decide +kernel
theorem dX2_distancesTo_20 : decode cX2_distancesTo 20 = .ok (.iaload, 1) := by decide +kernel
theorem dX2_distancesTo_21 : decode cX2_distancesTo 21 = .ok (.aload_n 0, 1) := by decide +kernel
theorem dX2_distancesTo_22 : decode cX2_distancesTo 22 = .ok (.getfield 18, 3) := by decide +kernel
theorem dX2_distancesTo_25 : decode cX2_distancesTo 25 = .ok (.iload_n 1, 1) := by decide +kernel
theorem dX2_distancesTo_26 : decode cX2_distancesTo 26 = .ok (.iaload, 1) := by decide +kernel
theorem dX2_distancesTo_27 : decode cX2_distancesTo 27 = .ok (.if_icmp .ne 13, 3) := by decide +kernel
theorem dX2_distancesTo_30 : decode cX2_distancesTo 30 = .ok (.iload_n 3, 1) := by decide +kernel
theorem dX2_distancesTo_31 : decode cX2_distancesTo 31 = .ok (.aload_n 2, 1) := by decide +kernel
theorem dX2_distancesTo_32 : decode cX2_distancesTo 32 = .ok (.iload_n 1, 1) := by decide +kernel
theorem dX2_distancesTo_33 : decode cX2_distancesTo 33 = .ok (.iload 4, 2) := by decide +kernel
theorem dX2_distancesTo_35 : decode cX2_distancesTo 35 = .ok (.invokevirtual 28, 3) := by decide +kernel
theorem dX2_distancesTo_38 : decode cX2_distancesTo 38 = .ok (.iadd, 1) := by decide +kernel
theorem dX2_distancesTo_39 : decode cX2_distancesTo 39 = .ok (.istore_n 3, 1) := by decide +kernel
theorem dX2_distancesTo_40 : decode cX2_distancesTo 40 = .ok (.iinc 4 1, 3) := by decide +kernel
theorem dX2_distancesTo_43 : decode cX2_distancesTo 43 = .ok (.goto (-38), 3) := by decide +kernel
theorem dX2_distancesTo_46 : decode cX2_distancesTo 46 = .ok (.iload_n 3, 1) := by decide +kernel
theorem dX2_distancesTo_47 : decode cX2_distancesTo 47 = .ok (.ireturn, 1) := by decide +kernel
set_option maxRecDepth 20000 in
theorem ggX2_widthOf_X0_distance : GoodIn wsX2_widthOf wsX0_distance := goodIn_r _ [11, 12, 13, 14, 5, 15, 16, 21, 22, 23, 24, 25, 26, 27, 28] (by decide +kernel) (by decide +kernel)
set_option maxRecDepth 20000 in
theorem gX2_widthOf_X0_distance : GoodIn wsX2_widthOf (wsV RX2 28 RX0 yX0_distance wsX0_distance) := goodIn_app (goodIn_of _ (by decide +kernel)) ggX2_widthOf_X0_distance
theorem dX2_widthOf_0 : decode cX2_widthOf 0 = .ok (.iconst 0, 1) := by decide +kernel
theorem dX2_widthOf_1 : decode cX2_widthOf 1 = .ok (.istore_n 3, 1) := by decide +kernel
theorem dX2_widthOf_2 : decode cX2_widthOf 2 = .ok (.iconst 0, 1) := by decide +kernel
theorem dX2_widthOf_3 : decode cX2_widthOf 3 = .ok (.istore 4, 2) := by decide +kernel
theorem dX2_widthOf_5 : decode cX2_widthOf 5 = .ok (.iload 4, 2) := by decide +kernel
theorem dX2_widthOf_7 : decode cX2_widthOf 7 = .ok (.aload_n 0, 1) := by decide +kernel
theorem dX2_widthOf_8 : decode cX2_widthOf 8 = .ok (.getfield 15, 3) := by decide +kernel
theorem dX2_widthOf_11 : decode cX2_widthOf 11 = .ok (.if_icmp .ge 60, 3) := by decide +kernel
theorem dX2_widthOf_14 : decode cX2_widthOf 14 = .ok (.iconst 0, 1) := by decide +kernel
theorem dX2_widthOf_15 : decode cX2_widthOf 15 = .ok (.istore 5, 2) := by decide +kernel
theorem dX2_widthOf_17 : decode cX2_widthOf 17 = .ok (.iload 5, 2) := by decide +kernel
theorem dX2_widthOf_19 : decode cX2_widthOf 19 = .ok (.iload 4, 2) := by decide +kernel
theorem dX2_widthOf_21 : decode cX2_widthOf 21 = .ok (.if_icmp .ge 44, 3) := by decide +kernel
theorem dX2_widthOf_24 : decode cX2_widthOf 24 = .ok (.aload_n 0, 1) := by decide +kernel
theorem dX2_widthOf_25 : decode cX2_widthOf 25 = .ok (.getfield 18, 3) := by decide +kernel
theorem dX2_widthOf_28 : decode cX2_widthOf 28 = .ok (.iload 4, 2) := by decide +kernel
theorem dX2_widthOf_30 : decode cX2_widthOf 30 = .ok (.iaload, 1) := by decide +kernel
theorem dX2_widthOf_31 : decode cX2_widthOf 31 = .ok (.iload_n 1, 1) := by decide +kernel
theorem dX2_widthOf_32 : decode cX2_widthOf 32 = .ok (.if_icmp .ne 27, 3) := by decide +kernel
theorem dX2_widthOf_35 : decode cX2_widthOf 35 = .ok (.aload_n 0, 1) := by decide +kernel
theorem dX2_widthOf_36 : decode cX2_widthOf 36 = .ok (.getfield 18, 3) := by decide +kernel
theorem dX2_widthOf_39 : decode cX2_widthOf 39 = .ok (.iload 5, 2) := by decide +kernel
theorem dX2_widthOf_41 : decode cX2_widthOf 41 = .ok (.iaload, 1) := by decide +kernel
theorem dX2_widthOf_42 : decode cX2_widthOf 42 = .ok (.iload_n 1, 1) := by decide +kernel
theorem dX2_widthOf_43 : decode cX2_widthOf 43 = .ok (.if_icmp .ne 16, 3) := by decide +kernel
theorem dX2_widthOf_46 : decode cX2_widthOf 46 = .ok (.iload_n 3, 1) := by decide +kernel
theorem dX2_widthOf_47 : decode cX2_widthOf 47 = .ok (.aload_n 2, 1) := by decide +kernel
theorem dX2_widthOf_48 : decode cX2_widthOf 48 = .ok (.iload 4, 2) := by decide +kernel
theorem dX2_widthOf_50 : decode cX2_widthOf 50 = .ok (.iload 5, 2) := by decide +kernel
theorem dX2_widthOf_52 : decode cX2_widthOf 52 = .ok (.invokevirtual 28, 3) := by decide +kernel
theorem dX2_widthOf_55 : decode cX2_widthOf 55 = .ok (.invokestatic 44, 3) := by decide +kernel
theorem dX2_widthOf_58 : decode cX2_widthOf 58 = .ok (.istore_n 3, 1) := by decide +kernel
theorem dX2_widthOf_59 : decode cX2_widthOf 59 = .ok (.iinc 5 1, 3) := by decide +kernel
theorem dX2_widthOf_62 : decode cX2_widthOf 62 = .ok (.goto (-45), 3) := by decide +kernel
theorem dX2_widthOf_65 : decode cX2_widthOf 65 = .ok (.iinc 4 1, 3) := by decide +kernel
theorem dX2_widthOf_68 : decode cX2_widthOf 68 = .ok (.goto (-63), 3) := by decide +kernel
theorem dX2_widthOf_71 : decode cX2_widthOf 71 = .ok (.iload_n 3, 1) := by decide +kernel
theorem dX2_widthOf_72 : decode cX2_widthOf 72 = .ok (.ireturn, 1) := by decide +kernel
